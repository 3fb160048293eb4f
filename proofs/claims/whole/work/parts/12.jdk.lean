set_option maxHeartbeats 4000000 in
set_option maxRecDepth 100000 in
/-- Arrays.rangeCheck -/
theorem c_Arr_range (l : Launch) (dC : Nat → ClassId) (dI : Nat → Nat → Nat) (sz : Nat) (n i j : Nat) (h1 : i ≤ j) (h2 : j ≤ n) (hN : n < 2 ^ 31) : Met l yJ7_rangeCheck wsJ7_rangeCheck ({ frames := 0, cells := 0, slots := 0, locals := 0 }) (va_Pc [.int (nI n), .int (nI i), .int (nI j)] (kB (dC, dI) vwCl [] [] sz)) (va_Qv (fun (_ : Unit) => True) (kE (dC, dI) vwCl (va_A [] sz) (fun _ => []) (fun _ => [])) (va_A [] sz)) 0 0 (va_A [] sz) := by
  refine Met.ofW (cc := cJ7_rangeCheck) (maxL := 3) (ret := none) (by decide) rfl ?_
  intro p e s m args below meth c s₁ B hml hv
  obtain ⟨rfl, hsz, hP, hK, hD0, hNs⟩ := hv
  have hx := B.exec
  have hb := B.bytes
  have hr := B.returns
  have hts := fun w (h : w ∈ lw_g) => atoms_spec (ws := wsJ7_rangeCheck) B.pre w (List.mem_cons_of_mem _ h)
  have hown : s.vm.findClass RJ7 = some m.cls := findClass_of_methodNamed B.named
  have hlocks := B.notSynchronized
  subst hsz
  have hD := hD0.self (sz := s.heap.size)
  generalize hAe : va_A [] s.heap.size = A at hD ⊢
  have hA : ∀ q : Nat, s.heap.size ≤ q → A q := fun q h => by rw [← hAe]; exact Or.inr h
  have hS : va_S A s.heap s.heap [] := va_S.rf
  have hP : va_P (dC, dI) vwCl [] s.heap := hP
  have hl := lv_entry ([.int (nI n), .int (nI i), .int (nI j)]) (n := 3) (Nat.le_of_ble_eq_true rfl)
  rw [lg_entry_eq]
  generalize (lg_sl ([.int (nI n), .int (nI i), .int (nI j)]) ++ List.replicate (3 - (lg_sl ([.int (nI n), .int (nI i), .int (nI j)])).length) Slot.unset).toArray = ls at hl ⊢
  have hl : lv_has ls 3 [(0, .int (nI n)), (1, .int (nI i)), (2, .int (nI j))] := hl
  refine lv_iload_n hx hb dJ7_rangeCheck_0 rfl (lv_at hl 1 rfl) ?_
  refine lv_iload_n hx hb dJ7_rangeCheck_1 rfl (lv_at hl 2 rfl) ?_
  refine lv_icmp_le (tgt := 46) hx hb dJ7_rangeCheck_2 (by decide) (fun _ => ?_) (fun c_9 => absurd (nI_le (by omega) (by omega)) c_9)
  refine lv_iload_n hx hb dJ7_rangeCheck_46 rfl (lv_at hl 1 rfl) ?_
  refine lv_if_ge (tgt := 59) hx hb dJ7_rangeCheck_47 (by decide) (fun _ => ?_) (fun c_9 => absurd (nI_pos' (by omega)) c_9)
  refine lv_iload_n hx hb dJ7_rangeCheck_59 rfl (lv_at hl 2 rfl) ?_
  refine lv_iload_n hx hb dJ7_rangeCheck_60 rfl (lv_at hl 0 rfl) ?_
  refine lv_icmp_le (tgt := 73) hx hb dJ7_rangeCheck_61 (by decide) (fun _ => ?_) (fun c_9 => absurd (nI_le (by omega) (by omega)) c_9)
  exact kend_v hx hb hr hlocks dJ7_rangeCheck_73 hK hP hD hS (()) (trivial) [] [] rfl (by decide) rfl

set_option maxHeartbeats 4000000 in
set_option maxRecDepth 100000 in
/-- Arrays.fill(int[], from, to, v) -/
theorem c_Arr_fill (l : Launch) (dC : Nat → ClassId) (dI : Nat → Nat → Nat) (sz : Nat) (a : Nat) (cA : ClassId) (n : Nat) (f : Nat → Int32) (i j : Nat) (v : Int32) (h1 : i ≤ j) (h2 : j ≤ n) (hN : n < 2 ^ 31) : Met l yJ7_fill wsJ7_fill ({ frames := 1, cells := 0, slots := 0, locals := 22 }) (va_Pc [.ref a, .int (nI i), .int (nI j), .int v] (kB (dC, dI) vwCl [(cA, .int)] [(a, .inl (cA, n, .inl f))] sz)) (va_Qv (fun (u : Nat → Int32) => (∀ q, (q < i ∨ j ≤ q) → u q = f q) ∧ ∀ q, i ≤ q → q < j → u q = v) (kE (dC, dI) vwCl (va_A [(a, .inl (cA, n, .inl f))] sz) (fun _ => [(cA, .int)]) (fun u => [(a, .inl (cA, n, .inl u))])) (va_A [(a, .inl (cA, n, .inl f))] sz)) 0 0 (va_A [(a, .inl (cA, n, .inl f))] sz) := by
  refine Met.ofW (cc := cJ7_fill) (maxL := 5) (ret := none) (by decide) rfl ?_
  intro p e s m args below meth c s₁ B hml hv
  obtain ⟨rfl, hsz, hP, hK, hD0, hNs⟩ := hv
  have hx := B.exec
  have hb := B.bytes
  have hr := B.returns
  have hts := fun w (h : w ∈ lw_g) => atoms_spec (ws := wsJ7_fill) B.pre w (List.mem_cons_of_mem _ h)
  have hown : s.vm.findClass RJ7 = some m.cls := findClass_of_methodNamed B.named
  have hlocks := B.notSynchronized
  subst hsz
  have hD := hD0.self (sz := s.heap.size)
  generalize hAe : va_A [(a, .inl (cA, n, .inl f))] s.heap.size = A at hD ⊢
  have hA : ∀ q : Nat, s.heap.size ≤ q → A q := fun q h => by rw [← hAe]; exact Or.inr h
  have hS : va_S A s.heap s.heap [] := va_S.rf
  have hP : va_P (dC, dI) vwCl [(a, .inl (cA, n, .inl f))] s.heap := hP
  have hl := lv_entry ([.ref a, .int (nI i), .int (nI j), .int v]) (n := 5) (Nat.le_of_ble_eq_true rfl)
  rw [lg_entry_eq]
  generalize (lg_sl ([.ref a, .int (nI i), .int (nI j), .int v]) ++ List.replicate (5 - (lg_sl ([.ref a, .int (nI i), .int (nI j), .int v])).length) Slot.unset).toArray = ls at hl ⊢
  have hl : lv_has ls 5 [(0, .ref a), (1, .int (nI i)), (2, .int (nI j)), (3, .int v)] := hl
  refine lv_aload_n hx hb dJ7_fill_0 rfl (lv_at hl 0 rfl) ?_
  refine va_alen (v := nI n) hx hb hK hP 0 0 rfl rfl rfl dJ7_fill_1 ?_
  refine lv_iload_n hx hb dJ7_fill_2 rfl (lv_at hl 1 rfl) ?_
  refine lv_iload_n hx hb dJ7_fill_3 rfl (lv_at hl 2 rfl) ?_
  refine kret_v (wc := []) (wr := [(a, .inl (cA, n, .inl f))]) (va_runS (As := [.int (nI n), .int (nI i), .int (nI j)]) (rest := []) ⟨hx, hb, hml, hown, hts⟩ (c_Arr_range l dC dI _ n i j h1 h2 hN) (va_cwS 3 hts (gdS m_152 m_153 m_9 m_154) rfl rfl rfl (by decide +kernel) ⟨Nat.le_of_ble_eq_true rfl, Nat.le_of_ble_eq_true rfl⟩) (kpS hNs hK hP hD [] [] rfl rfl (by decide)) rfl rfl hl.1 rfl (lv_room (Nat.le_of_ble_eq_true rfl)) dJ7_fill_4 ⟨Nat.le_of_ble_eq_true rfl, Nat.le_of_ble_eq_true rfl⟩) hP hD hS hA [] [0] rfl rfl (by decide) (by decide) (fun _ H locs hpo hK1 hP hD hS => ?_)
  have hP : va_P (dC, dI) vwCl [(a, .inl (cA, n, .inl f))] H := hP
  have hD : va_D A [(a, .inl (cA, n, .inl f))] := hD
  refine lv_iload_n hx hb dJ7_fill_7 rfl (lv_at hl 1 rfl) ?_
  refine lv_istore (lv' := [(4, .int (nI i)), (0, .ref a), (1, .int (nI i)), (2, .int (nI j)), (3, .int v)]) hx hb dJ7_fill_8 hl (by decide) rfl (fun ls hl => ?_)
  refine k_loop (σ := Nat × (Nat → Int32)) (fun (z : Nat × (Nat → Int32)) H locs ls => match z with
        | (k, u) => i ≤ k ∧ k ≤ j ∧ (∀ q, (q < i ∨ k ≤ q) → u q = f q) ∧ (∀ q, i ≤ q → q < k → u q = v) ∧ va_P (dC, dI) vwCl [(a, .inl (cA, n, .inl u))] H ∧ va_D A [(a, .inl (cA, n, .inl u))] ∧ va_S A s.heap H locs ∧ lv_has ls 5 [(0, .ref a), (2, .int (nI j)), (3, .int v), (4, .int (nI k))]) (fun z => match z with
        | (k, u) => j - k) ?_ ((i, f)) _ _ _ ⟨Nat.le_refl i, h1, fun _ _ => rfl, fun q hq1 hq2 => absurd hq1 (by omega), hP.sub [0] rfl, hD.sub [0] (by decide) rfl, hS, lv_sub hl [1, 3, 4, 0] rfl⟩
  intro z H locs ls hI ih
  obtain ⟨k, u⟩ := z
  obtain ⟨hik, hkj, hu1, hu2, hP, hD, hS, hl⟩ := hI
  refine lv_iload hx hb dJ7_fill_10 (lv_at hl 3 rfl) ?_
  refine lv_iload_n hx hb dJ7_fill_12 rfl (lv_at hl 1 rfl) ?_
  refine lv_icmp_ge (tgt := 27) hx hb dJ7_fill_13 (by decide) (fun c_13 => ?_) (fun c_13 => ?_)
  · rw [nI_leI (a := j) (b := k) (by omega) (by omega)] at c_13
    obtain rfl : k = j := by omega
    exact kend_v hx hb hr hlocks dJ7_fill_27 hK hP hD hS (u) (⟨hu1, hu2⟩) [0] [0] rfl (by decide) rfl
  · rw [nI_leI (a := j) (b := k) (by omega) (by omega)] at c_13
    refine lv_aload_n hx hb dJ7_fill_16 rfl (lv_at hl 0 rfl) ?_
    refine lv_iload hx hb dJ7_fill_17 (lv_at hl 3 rfl) ?_
    refine lv_iload_n hx hb dJ7_fill_19 rfl (lv_at hl 2 rfl) ?_
    refine va_iast hx hb hK hP hD hS 0 0 rfl rfl (vp_in_nI (by omega) (by omega)) dJ7_fill_20 (fun H locs hP hD hS => ?_)
    rw [nI_clamp (n := k) (by omega)] at hP hD
    have hP : va_P (dC, dI) vwCl [(a, .inl (cA, n, .inl (upd u k v)))] H := hP
    have hD : va_D A [(a, .inl (cA, n, .inl (upd u k v)))] := hD
    refine lv_iinc (v := nI (k + 1)) (lv' := [(4, .int (nI (k + 1))), (0, .ref a), (2, .int (nI j)), (3, .int v)]) hx hb dJ7_fill_21 hl (k := 3) rfl (ii_add (c := 1) (k := 1) k (by decide)) (by decide) rfl (fun ls hl => ?_)
    refine lv_goto (tgt := 10) hx hb dJ7_fill_24 (by decide) ?_
    exact ih ((k + 1, upd u k v)) _ _ _ ⟨by omega, by omega, fun q hq => by rw [pk_un (by omega)]; exact hu1 q (by omega), fun q hq1 hq2 => by
      by_cases hqk : q = k
      · subst hqk; exact pk_us
      · rw [pk_un hqk]; exact hu2 q hq1 (by omega), hP.sub [0] rfl, hD.sub [0] (by decide) rfl, hS, lv_sub hl [1, 2, 3, 0] rfl⟩ (by show j - (k + 1) < j - k; omega)

