/-! Our own rows over the kit's: a value at the top in another form, a loop by a measure, a call and an end in one row. -/
theorem pick_of {α : Type} {f : Nat → Option α} {is : List Nat} {ws : List α} (h : is.map f = ws.map some) : is.filterMap f = ws := by
  have h2 := congrArg (List.filterMap id) h
  rw [List.filterMap_map, List.filterMap_map] at h2
  simpa using h2
theorem ii_add {c : Int} {k : Nat} (a : Nat) (h : Int32.ofInt c = nI k) : nI a + Int32.ofInt c = nI (a + k) := by rw [h, nI_add]
theorem ii_sub {c : Int} {k a : Nat} (h : Int32.ofInt c = -(nI k)) (hk : k ≤ a) : nI a + Int32.ofInt c = nI (a - k) := by
  rw [h, ← pk_sub hk, Int32.sub_eq_add_neg]
theorem z_eq {a : Nat} (h : a < 2 ^ 31) : nI a = 0 ↔ a = 0 := nI_eq (b := 0) h (by decide)
/-- the links between nest mates -/
def kN (U : State) : Prop := va_Nw (.methodLinkNest RX4 20 yX3_init RX4) U ∧ va_Nw (.fieldLinkNest RX4 32 "RunRows$Writer" "to" "LRunRows$Bytes;" RX4) U ∧ va_Nw (.methodLinkNest RX4 27 yX1_init RX4) U ∧ va_Nw (.fieldLinkNest RX4 38 "RunRows$Reader" "from" "LRunRows$Bytes;" RX4) U ∧ va_Nw (.methodLinkNest RX4 46 yX2_init RX4) U ∧ va_Nw (.methodLinkNest RX3 48 yX4_numberBytes RX4) U ∧ va_Nw (.methodLinkNest RX1 45 yX4_numberBytes RX4) U
theorem kN.warm {s U : State} (hW : s.WarmedH U.vm) (h : kN s) : kN U := ⟨va_Nw.warmM hW h.1, va_Nw.warmF hW h.2.1, va_Nw.warmM hW h.2.2.1, va_Nw.warmF hW h.2.2.2.1, va_Nw.warmM hW h.2.2.2.2.1, va_Nw.warmM hW h.2.2.2.2.2.1, va_Nw.warmM hW h.2.2.2.2.2.2⟩
theorem kN.same {u U : State} (hv : u.vm = U.vm) (h : kN u) : kN U := ⟨va_Nw.same rfl hv h.1, va_Nw.same rfl hv h.2.1, va_Nw.same rfl hv h.2.2.1, va_Nw.same rfl hv h.2.2.2.1, va_Nw.same rfl hv h.2.2.2.2.1, va_Nw.same rfl hv h.2.2.2.2.2.1, va_Nw.same rfl hv h.2.2.2.2.2.2⟩
abbrev kB (D : va_G) (cl : List vw_C) (tys : List (ClassId × FieldType)) (ws : va_W) (sz : Nat) : State → Prop := fun U => U.heap.size = sz ∧ va_P D cl ws U.heap ∧ va_K D cl tys U ∧ va_D (fun _ => True) ws ∧ kN U
abbrev kE {S : Type} (D : va_G) (cl : List vw_C) (A : Nat → Prop) (tf : S → List (ClassId × FieldType)) (wf : S → va_W) : S → State → Prop := fun u t => va_P D cl (wf u) t.heap ∧ va_K D cl (tf u) t ∧ va_D A (wf u)
section KROWS
variable {p : Program} {l : Launch} {e : Env} {R : Room} {s : State} {m : MethodId} {args : Array Value} {below : List Frame} {meth : Method} {c : Code} {H : Heap} {locs : List Loc} {cells slots : Nat} {Q : State → Prop}
theorem tI_ {pc : Nat} {ls : Array Slot} {rest : List Value} {x y : Int32} (h : x = y) (k : W p l e R s m args below meth c H locs cells slots Q (F0 m pc ls (.int y :: rest))) : W p l e R s m args below meth c H locs cells slots Q (F0 m pc ls (.int x :: rest)) := h ▸ k
theorem tL_ {pc : Nat} {ls : Array Slot} {rest : List Value} {x y : Int64} (h : x = y) (k : W p l e R s m args below meth c H locs cells slots Q (F0 m pc ls (.long y :: rest))) : W p l e R s m args below meth c H locs cells slots Q (F0 m pc ls (.long x :: rest)) := h ▸ k
theorem k_loop {pc : Nat} {st : List Value} {σ : Type} (I : σ → Heap → List Loc → Array Slot → Prop) (μ : σ → Nat)
    (step : ∀ (a : σ) (H : Heap) (locs : List Loc) (ls : Array Slot), I a H locs ls → (∀ (a' : σ) (H' : Heap) (locs' : List Loc) (ls' : Array Slot), I a' H' locs' ls' → μ a' < μ a → W p l e R s m args below meth c H' locs' cells slots Q (F0 m pc ls' st)) → W p l e R s m args below meth c H locs cells slots Q (F0 m pc ls st)) :
    ∀ (a : σ) (H : Heap) (locs : List Loc) (ls : Array Slot), I a H locs ls → W p l e R s m args below meth c H locs cells slots Q (F0 m pc ls st) := by
  suffices h : ∀ (n : Nat) (a : σ), μ a < n → ∀ (H : Heap) (locs : List Loc) (ls : Array Slot), I a H locs ls → W p l e R s m args below meth c H locs cells slots Q (F0 m pc ls st) from fun a => h (μ a + 1) a (Nat.lt_succ_self _)
  intro n
  induction n with
  | zero => intro a h; exact absurd h (Nat.not_lt_zero _)
  | succ n ih => intro a h H locs ls hI; exact step a H locs ls hI (fun a' H' locs' ls' hI' hlt => ih a' (by omega) H' locs' ls' hI')
theorem kblind {D : va_G} {cl : List vw_C} {tys : List (ClassId × FieldType)} {ws : va_W} {sz : Nat} {av : List Value} : FrameBlind (va_Pc av (kB D cl tys ws sz)) := fun a U g mk q => by
  obtain ⟨q0, q1, qP, qK, qD, qN⟩ := q
  exact ⟨q0, q1, qP, va_K.moved (u := U) (U := U.calling g mk a) (Vm.Alike.refl U.vm) qK, qD, kN.same (u := U) (U := U.calling g mk a) rfl qN⟩
theorem kpS {D : va_G} {cl : List vw_C} {A : Nat → Prop} {tys tc : List (ClassId × FieldType)} {ws wc : va_W} {As : List Value} (hNs : kN s) (hK : va_K D cl tys s) (hP : va_P D cl ws H) (hD : va_D A ws) (isC isT : List Nat) (hC : isC.map (fun i => ws[i]?) = wc.map some) (hT : isT.filterMap (fun i => tys[i]?) = tc) (hnd : va_nd isC = true) :
    PreS s H (va_Pc As (kB D cl tc wc H.size)) As :=
  ⟨kblind, fun U hU hW => ⟨rfl, by rw [hU], by rw [hU]; exact hP.sub isC (pick_of hC), va_K.moved hW.alike (hK.sub isT hT), (hD.sub isC hnd hC).weaken (fun _ _ _ _ => trivial), hNs.warm hW⟩⟩
theorem kpV {D : va_G} {cl : List vw_C} {A : Nat → Prop} {tys tc : List (ClassId × FieldType)} {ws wc : va_W} {As : List Value} {b ci : Nat} {q : vw_C} {fs : List Value} (hNs : kN s) (hK : va_K D cl tys s) (hP : va_P D cl ws H) (hD : va_D A ws) (isC isT : List Nat) (hC : isC.map (fun i => ws[i]?) = wc.map some) (hT : isT.filterMap (fun i => tys[i]?) = tc) (hnd : va_nd isC = true) (hc : cl[ci]? = some q) (h0 : wc[0]? = some (b, .inr (ci, fs))) :
    PreV s H q.1 b (va_Pc (.ref b :: As) (kB D cl tc wc H.size)) As :=
  ⟨kblind, va_recv hK (hP.sub isC (pick_of hC)) hc h0, (kpS hNs hK hP hD isC isT hC hT hnd).2⟩
section RET
variable {S : Type} {D : va_G} {cl : List vw_C} {A : Nat → Prop} {ws wc wr : va_W} {tf : S → List (ClassId × FieldType)} {wf : S → va_W} {a : Array Value} {mc ms pc : Nat} {ls : Array Slot} {st0 rest : List Value}
theorem kret_i {post : Int32 → S → Prop} (hr : va_Run p l e R s m args below meth c H locs cells slots mc ms (F0 m pc ls st0) rest (va_Qi post (kE D cl (va_A wc H.size) tf wf) (va_A wc H.size) a) (va_A wc H.size))
    (hP : va_P D cl ws H) (hD : va_D A ws) (hS : va_S A s.heap H locs) (hA : ∀ q : Nat, s.heap.size ≤ q → A q) (isC isR : List Nat) (hC : isC.map (fun i => ws[i]?) = wc.map some) (hR : isR.map (fun i => ws[i]?) = wr.map some) (hn : va_nd isR = true) (hdis : ∀ i ∈ isR, i ∉ isC)
    (kk : ∀ (r : Int32) (u : S) (H1 : Heap) (locs1 : List Loc), post r u → va_K D cl (tf u) s → va_P D cl (wr ++ wf u) H1 → va_D A (wr ++ wf u) → va_S A s.heap H1 locs1 → W p l e R s m args below meth c H1 locs1 (cells + mc) (slots + ms) Q (F0 m (pc + 3) ls (.int r :: rest))) :
    W p l e R s m args below meth c H locs cells slots Q (F0 m pc ls st0) := by
  have hFc := va_free (wc := wc) hD hS hA isC hC
  refine va_calli hr hS (fun q _ h => hFc q h) hFc (fun r u t H1 locs ht hvm hw hB hz1 hk1 hS => ?_)
  obtain ⟨hP1, hK1, hD1⟩ := hB
  rw [ht] at hP1
  obtain ⟨hP, hD⟩ := va_join (wr := wr) hP hD isC isR hC hR hn hdis hk1 hFc hP1 hD1
  exact kk r u H1 locs hw (va_K.moved hvm.symm hK1) hP hD hS
theorem kret_l {post : Int64 → S → Prop} (hr : va_Run p l e R s m args below meth c H locs cells slots mc ms (F0 m pc ls st0) rest (va_Ql post (kE D cl (va_A wc H.size) tf wf) (va_A wc H.size) a) (va_A wc H.size))
    (hP : va_P D cl ws H) (hD : va_D A ws) (hS : va_S A s.heap H locs) (hA : ∀ q : Nat, s.heap.size ≤ q → A q) (isC isR : List Nat) (hC : isC.map (fun i => ws[i]?) = wc.map some) (hR : isR.map (fun i => ws[i]?) = wr.map some) (hn : va_nd isR = true) (hdis : ∀ i ∈ isR, i ∉ isC)
    (kk : ∀ (r : Int64) (u : S) (H1 : Heap) (locs1 : List Loc), post r u → va_K D cl (tf u) s → va_P D cl (wr ++ wf u) H1 → va_D A (wr ++ wf u) → va_S A s.heap H1 locs1 → W p l e R s m args below meth c H1 locs1 (cells + mc) (slots + ms) Q (F0 m (pc + 3) ls (.long r :: rest))) :
    W p l e R s m args below meth c H locs cells slots Q (F0 m pc ls st0) := by
  have hFc := va_free (wc := wc) hD hS hA isC hC
  refine va_calll hr hS (fun q _ h => hFc q h) hFc (fun r u t H1 locs ht hvm hw hB hz1 hk1 hS => ?_)
  obtain ⟨hP1, hK1, hD1⟩ := hB
  rw [ht] at hP1
  obtain ⟨hP, hD⟩ := va_join (wr := wr) hP hD isC isR hC hR hn hdis hk1 hFc hP1 hD1
  exact kk r u H1 locs hw (va_K.moved hvm.symm hK1) hP hD hS
theorem kret_v {post : S → Prop} (hr : va_Run p l e R s m args below meth c H locs cells slots mc ms (F0 m pc ls st0) rest (va_Qv post (kE D cl (va_A wc H.size) tf wf) (va_A wc H.size) a) (va_A wc H.size))
    (hP : va_P D cl ws H) (hD : va_D A ws) (hS : va_S A s.heap H locs) (hA : ∀ q : Nat, s.heap.size ≤ q → A q) (isC isR : List Nat) (hC : isC.map (fun i => ws[i]?) = wc.map some) (hR : isR.map (fun i => ws[i]?) = wr.map some) (hn : va_nd isR = true) (hdis : ∀ i ∈ isR, i ∉ isC)
    (kk : ∀ (u : S) (H1 : Heap) (locs1 : List Loc), post u → va_K D cl (tf u) s → va_P D cl (wr ++ wf u) H1 → va_D A (wr ++ wf u) → va_S A s.heap H1 locs1 → W p l e R s m args below meth c H1 locs1 (cells + mc) (slots + ms) Q (F0 m (pc + 3) ls rest)) :
    W p l e R s m args below meth c H locs cells slots Q (F0 m pc ls st0) := by
  have hFc := va_free (wc := wc) hD hS hA isC hC
  refine va_callv hr hS (fun q _ h => hFc q h) hFc (fun u t H1 locs ht hvm hw hB hz1 hk1 hS => ?_)
  obtain ⟨hP1, hK1, hD1⟩ := hB
  rw [ht] at hP1
  obtain ⟨hP, hD⟩ := va_join (wr := wr) hP hD isC isR hC hR hn hdis hk1 hFc hP1 hD1
  exact kk u H1 locs hw (va_K.moved hvm.symm hK1) hP hD hS
variable {tys : List (ClassId × FieldType)} {cc : ByteArray}
theorem kend_i {post : Int32 → S → Prop} {v : Int32} {ty : FieldType} (hx : p.tables.exec = Jvm.exec) (hb : c.code = cc) (hr : meth.sig.returnType = some ty) (hlocks : meth.locks = false) (hdg : decode cc pc = .ok (.ireturn, 1)) (hn : narrow ty (.int v) = .int v)
    (hK : va_K D cl tys s) (hP : va_P D cl ws H) (hD : va_D A ws) (hS : va_S A s.heap H locs) (u : S) (hp : post v u) (is isT : List Nat) (hC : is.map (fun i => ws[i]?) = (wf u).map some) (hnd : va_nd is = true) (hT : isT.filterMap (fun i => tys[i]?) = tf u) :
    W p l e R s m args below meth c H locs cells slots (MQ below (va_Qi post (kE D cl A tf wf) A) args s cells slots A) (F0 m pc ls [.int v]) :=
  W.zret hx hb hr hn (fun _ ht hW => ⟨⟨v, u, rfl, hp, by rw [ht]; exact hP.sub is (pick_of hC), va_K.moved hW.alike (hK.sub isT hT), hD.sub is hnd hC⟩, hS.F ht⟩) hS.2.2 hdg hlocks
theorem kend_l {post : Int64 → S → Prop} {v : Int64} (hx : p.tables.exec = Jvm.exec) (hb : c.code = cc) (hr : meth.sig.returnType = some .long) (hlocks : meth.locks = false) (hdg : decode cc pc = .ok (.lreturn, 1))
    (hK : va_K D cl tys s) (hP : va_P D cl ws H) (hD : va_D A ws) (hS : va_S A s.heap H locs) (u : S) (hp : post v u) (is isT : List Nat) (hC : is.map (fun i => ws[i]?) = (wf u).map some) (hnd : va_nd is = true) (hT : isT.filterMap (fun i => tys[i]?) = tf u) :
    W p l e R s m args below meth c H locs cells slots (MQ below (va_Ql post (kE D cl A tf wf) A) args s cells slots A) (F0 m pc ls [.long v]) :=
  W.lret hx hb hr (fun _ ht hW => ⟨⟨v, u, rfl, hp, by rw [ht]; exact hP.sub is (pick_of hC), va_K.moved hW.alike (hK.sub isT hT), hD.sub is hnd hC⟩, hS.F ht⟩) hS.2.2 hdg hlocks
theorem kend_v {post : S → Prop} (hx : p.tables.exec = Jvm.exec) (hb : c.code = cc) (hr : meth.sig.returnType = none) (hlocks : meth.locks = false) (hdg : decode cc pc = .ok (.return_, 1))
    (hK : va_K D cl tys s) (hP : va_P D cl ws H) (hD : va_D A ws) (hS : va_S A s.heap H locs) (u : S) (hp : post u) (is isT : List Nat) (hC : is.map (fun i => ws[i]?) = (wf u).map some) (hnd : va_nd is = true) (hT : isT.filterMap (fun i => tys[i]?) = tf u) :
    W p l e R s m args below meth c H locs cells slots (MQ below (va_Qv post (kE D cl A tf wf) A) args s cells slots A) (F0 m pc ls []) :=
  W.vret hx hb hr (fun _ ht hW => ⟨⟨u, rfl, hp, by rw [ht]; exact hP.sub is (pick_of hC), va_K.moved hW.alike (hK.sub isT hT), hD.sub is hnd hC⟩, hS.F ht⟩) hS.2.2 hdg hlocks
end RET
end KROWS

