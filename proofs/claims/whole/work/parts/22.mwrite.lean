set_option maxHeartbeats 4000000 in
set_option maxRecDepth 100000 in
/-- put -/
theorem m_put (l : Launch) (dC : Nat → ClassId) (dI : Nat → Nat → Nat) (sz : Nat) (mo q1 q2 q3 q4 q5 : Nat) (cd z3 z4 z5 z6 z8 z9 : Int32) (c5 : ClassId) (f5 : Nat → Int32) (xs : List Nat) (x : Int32) (hf : mB f5 xs) (hn : xs.length < 24000) : Met l yX5_put wsX5_put ({ frames := 0, cells := 0, slots := 0, locals := 0 }) (va_Pc [.ref mo, .int x] (kB (dC, dI) vwCl [(c5, .int)] [(mo, .inr (5, [.int cd, .ref q1, .ref q2, .int z3, .int z4, .int z5, .int z6, .int (nI (List.length xs)), .int z8, .int z9, .ref q3, .ref q4, .ref q5])), (q5, .inl (c5, 24000, .inl f5))] sz)) (va_Qv (fun (u : Nat → Int32) => mB u (xs ++ [uv x % 256])) (kE (dC, dI) vwCl (va_A [(mo, .inr (5, [.int cd, .ref q1, .ref q2, .int z3, .int z4, .int z5, .int z6, .int (nI (List.length xs)), .int z8, .int z9, .ref q3, .ref q4, .ref q5])), (q5, .inl (c5, 24000, .inl f5))] sz) (fun _ => [(c5, .int)]) (fun u => [(mo, .inr (5, [.int cd, .ref q1, .ref q2, .int z3, .int z4, .int z5, .int z6, .int (nI (List.length (xs ++ [uv x % 256]))), .int z8, .int z9, .ref q3, .ref q4, .ref q5])), (q5, .inl (c5, 24000, .inl u))])) (va_A [(mo, .inr (5, [.int cd, .ref q1, .ref q2, .int z3, .int z4, .int z5, .int z6, .int (nI (List.length xs)), .int z8, .int z9, .ref q3, .ref q4, .ref q5])), (q5, .inl (c5, 24000, .inl f5))] sz)) 0 0 (va_A [(mo, .inr (5, [.int cd, .ref q1, .ref q2, .int z3, .int z4, .int z5, .int z6, .int (nI (List.length xs)), .int z8, .int z9, .ref q3, .ref q4, .ref q5])), (q5, .inl (c5, 24000, .inl f5))] sz) := by
  refine Met.ofW (cc := cX5_put) (maxL := 2) (ret := none) (by decide) rfl ?_
  intro p e s m args below meth c s₁ B hml hv
  obtain ⟨rfl, hsz, hP, hK, hD0, hNs⟩ := hv
  have hx := B.exec
  have hb := B.bytes
  have hr := B.returns
  have hts := fun w (h : w ∈ lw_g) => atoms_spec (ws := wsX5_put) B.pre w (List.mem_cons_of_mem _ h)
  have hown : s.vm.findClass RX5 = some m.cls := findClass_of_methodNamed B.named
  have hlocks := B.notSynchronized
  subst hsz
  have hD := hD0.self (sz := s.heap.size)
  generalize hAe : va_A [(mo, .inr (5, [.int cd, .ref q1, .ref q2, .int z3, .int z4, .int z5, .int z6, .int (nI (List.length xs)), .int z8, .int z9, .ref q3, .ref q4, .ref q5])), (q5, .inl (c5, 24000, .inl f5))] s.heap.size = A at hD ⊢
  have hA : ∀ q : Nat, s.heap.size ≤ q → A q := fun q h => by rw [← hAe]; exact Or.inr h
  have hS : va_S A s.heap s.heap [] := va_S.rf
  have hP : va_P (dC, dI) vwCl [(mo, .inr (5, [.int cd, .ref q1, .ref q2, .int z3, .int z4, .int z5, .int z6, .int (nI (List.length xs)), .int z8, .int z9, .ref q3, .ref q4, .ref q5])), (q5, .inl (c5, 24000, .inl f5))] s.heap := hP
  have hl := lv_entry ([.ref mo, .int x]) (n := 2) (Nat.le_of_ble_eq_true rfl)
  rw [lg_entry_eq]
  generalize (lg_sl ([.ref mo, .int x]) ++ List.replicate (2 - (lg_sl ([.ref mo, .int x])).length) Slot.unset).toArray = ls at hl ⊢
  have hl : lv_has ls 2 [(0, .ref mo), (1, .int x)] := hl
  refine lv_aload_n hx hb dX5_put_0 rfl (lv_at hl 0 rfl) ?_
  refine va_get (D := (dC, dI)) (ci := 5) (v := .ref q5) (C := RX5) (T := TX5) (N := 13) hx hb hts iX5 hown hK hP 0 rfl rfl 12 (by decide) (hts _ m_296) (fun _ h9 => h9) rfl dX5_put_1 ?_
  refine lv_aload_n hx hb dX5_put_4 rfl (lv_at hl 0 rfl) ?_
  refine va_get (D := (dC, dI)) (ci := 5) (v := .int (nI (List.length xs))) (C := RX5) (T := TX5) (N := 13) hx hb hts iX5 hown hK hP 0 rfl rfl 7 (by decide) (hts _ m_291) (fun _ h9 => h9) rfl dX5_put_5 ?_
  refine lv_iload_n hx hb dX5_put_8 rfl (lv_at hl 1 rfl) ?_
  refine lv_sipush (v := nI 255) hx hb dX5_put_9 (by decide) ?_
  refine lv_iand hx hb dX5_put_12 ?_
  refine tI_ (y := nI (uv x % 256)) (and255 x) ?_
  refine va_iast hx hb hK hP hD hS 1 0 rfl rfl (vp_in_nI (by omega) (by omega)) dX5_put_13 (fun H locs hP hD hS => ?_)
  rw [nI_clamp (n := (List.length xs)) (by omega)] at hP hD
  have hP : va_P (dC, dI) vwCl [(mo, .inr (5, [.int cd, .ref q1, .ref q2, .int z3, .int z4, .int z5, .int z6, .int (nI (List.length xs)), .int z8, .int z9, .ref q3, .ref q4, .ref q5])), (q5, .inl (c5, 24000, .inl (upd f5 (List.length xs) (nI (uv x % 256)))))] H := hP
  have hD : va_D A [(mo, .inr (5, [.int cd, .ref q1, .ref q2, .int z3, .int z4, .int z5, .int z6, .int (nI (List.length xs)), .int z8, .int z9, .ref q3, .ref q4, .ref q5])), (q5, .inl (c5, 24000, .inl (upd f5 (List.length xs) (nI (uv x % 256)))))] := hD
  refine lv_aload_n hx hb dX5_put_14 rfl (lv_at hl 0 rfl) ?_
  refine lv_dup hx hb dX5_put_15 rfl ?_
  refine va_get (D := (dC, dI)) (ci := 5) (v := .int (nI (List.length xs))) (C := RX5) (T := TX5) (N := 13) hx hb hts iX5 hown hK hP 0 rfl rfl 7 (by decide) (hts _ m_291) (fun _ h9 => h9) rfl dX5_put_16 ?_
  refine lv_iconst (v := nI 1) hx hb dX5_put_19 (by decide) ?_
  refine lv_iadd hx hb dX5_put_20 ?_
  refine tI_ (y := nI ((List.length xs) + 1)) (nI_add _ _) ?_
  refine tI_ (y := nI (List.length (xs ++ [uv x % 256]))) (by simp) ?_
  refine va_put (D := (dC, dI)) (ci := 5) (v := .int (nI (List.length (xs ++ [uv x % 256])))) (ty := .int) (C := RX5) (T := TX5) (N := 13) hx hb hts iX5 tyX5 tyX5_ok nmX5 hown hK hP hD hS 0 rfl rfl 7 (by decide) (hts _ m_291) (fun _ h9 => h9) rfl (by decide +kernel) rfl rfl (Nat.le_of_ble_eq_true rfl) dX5_put_21 (fun H locs hP hD hS => ?_)
  have hP : va_P (dC, dI) vwCl [(mo, .inr (5, [.int cd, .ref q1, .ref q2, .int z3, .int z4, .int z5, .int z6, .int (nI (List.length (xs ++ [uv x % 256]))), .int z8, .int z9, .ref q3, .ref q4, .ref q5])), (q5, .inl (c5, 24000, .inl (upd f5 (List.length xs) (nI (uv x % 256)))))] H := hP
  have hD : va_D A [(mo, .inr (5, [.int cd, .ref q1, .ref q2, .int z3, .int z4, .int z5, .int z6, .int (nI (List.length (xs ++ [uv x % 256]))), .int z8, .int z9, .ref q3, .ref q4, .ref q5])), (q5, .inl (c5, 24000, .inl (upd f5 (List.length xs) (nI (uv x % 256)))))] := hD
  exact kend_v hx hb hr hlocks dX5_put_24 hK hP hD hS (upd f5 xs.length (nI (uv x % 256))) (mB_push hf (by omega)) [0, 1] [0] rfl (by decide) rfl

set_option maxHeartbeats 4000000 in
set_option maxRecDepth 100000 in
/-- putVarint -/
theorem m_putVarint (l : Launch) (dC : Nat → ClassId) (dI : Nat → Nat → Nat) (sz : Nat) (mo q1 q2 q3 q4 q5 : Nat) (cd z3 z4 z5 z6 z8 z9 : Int32) (c5 : ClassId) (f5 : Nat → Int32) (xs : List Nat) (nn : Nat) (hf : mB f5 xs) (hnn : nn < 2 ^ 31) (hxl : xs.length + 10 ≤ 24000) : Met l yX5_putVarint wsX5_putVarint ({ frames := 1, cells := 0, slots := 0, locals := 21 }) (va_Pc [.ref mo, .long (lN nn)] (kB (dC, dI) vwCl [(c5, .int)] [(mo, .inr (5, [.int cd, .ref q1, .ref q2, .int z3, .int z4, .int z5, .int z6, .int (nI (List.length xs)), .int z8, .int z9, .ref q3, .ref q4, .ref q5])), (q5, .inl (c5, 24000, .inl f5))] sz)) (va_Qv (fun (u : Nat → Int32) => mB u (xs ++ vint 9 nn)) (kE (dC, dI) vwCl (va_A [(mo, .inr (5, [.int cd, .ref q1, .ref q2, .int z3, .int z4, .int z5, .int z6, .int (nI (List.length xs)), .int z8, .int z9, .ref q3, .ref q4, .ref q5])), (q5, .inl (c5, 24000, .inl f5))] sz) (fun _ => [(c5, .int)]) (fun u => [(mo, .inr (5, [.int cd, .ref q1, .ref q2, .int z3, .int z4, .int z5, .int z6, .int (nI (List.length (xs ++ vint 9 nn))), .int z8, .int z9, .ref q3, .ref q4, .ref q5])), (q5, .inl (c5, 24000, .inl u))])) (va_A [(mo, .inr (5, [.int cd, .ref q1, .ref q2, .int z3, .int z4, .int z5, .int z6, .int (nI (List.length xs)), .int z8, .int z9, .ref q3, .ref q4, .ref q5])), (q5, .inl (c5, 24000, .inl f5))] sz)) 0 0 (va_A [(mo, .inr (5, [.int cd, .ref q1, .ref q2, .int z3, .int z4, .int z5, .int z6, .int (nI (List.length xs)), .int z8, .int z9, .ref q3, .ref q4, .ref q5])), (q5, .inl (c5, 24000, .inl f5))] sz) := by
  refine Met.ofW (cc := cX5_putVarint) (maxL := 5) (ret := none) (by decide) rfl ?_
  intro p e s m args below meth c s₁ B hml hv
  obtain ⟨rfl, hsz, hP, hK, hD0, hNs⟩ := hv
  have hx := B.exec
  have hb := B.bytes
  have hr := B.returns
  have hts := fun w (h : w ∈ lw_g) => atoms_spec (ws := wsX5_putVarint) B.pre w (List.mem_cons_of_mem _ h)
  have hown : s.vm.findClass RX5 = some m.cls := findClass_of_methodNamed B.named
  have hlocks := B.notSynchronized
  subst hsz
  have hD := hD0.self (sz := s.heap.size)
  generalize hAe : va_A [(mo, .inr (5, [.int cd, .ref q1, .ref q2, .int z3, .int z4, .int z5, .int z6, .int (nI (List.length xs)), .int z8, .int z9, .ref q3, .ref q4, .ref q5])), (q5, .inl (c5, 24000, .inl f5))] s.heap.size = A at hD ⊢
  have hA : ∀ q : Nat, s.heap.size ≤ q → A q := fun q h => by rw [← hAe]; exact Or.inr h
  have hS : va_S A s.heap s.heap [] := va_S.rf
  have hP : va_P (dC, dI) vwCl [(mo, .inr (5, [.int cd, .ref q1, .ref q2, .int z3, .int z4, .int z5, .int z6, .int (nI (List.length xs)), .int z8, .int z9, .ref q3, .ref q4, .ref q5])), (q5, .inl (c5, 24000, .inl f5))] s.heap := hP
  have hl := lv_entry ([.ref mo, .long (lN nn)]) (n := 5) (Nat.le_of_ble_eq_true rfl)
  rw [lg_entry_eq]
  generalize (lg_sl ([.ref mo, .long (lN nn)]) ++ List.replicate (5 - (lg_sl ([.ref mo, .long (lN nn)])).length) Slot.unset).toArray = ls at hl ⊢
  have hl : lv_has ls 5 [(0, .ref mo), (1, .long (lN nn))] := hl
  refine lv_lload_n hx hb dX5_putVarint_0 rfl (lv_at hl 1 rfl) ?_
  refine lv_lstore_n (lv' := [(3, .long (lN nn)), (0, .ref mo), (1, .long (lN nn))]) hx hb dX5_putVarint_1 rfl hl (by decide) rfl (fun ls hl => ?_)
  refine k_loop (σ := Nat × Nat × (Nat → Int32) × List Nat) (fun (z : Nat × Nat × (Nat → Int32) × List Nat) H locs ls => match z with
        | (k, rs, u, ys) => rs < 2 ^ 31 ∧ rs < 128 ^ (k + 1) ∧ ys.length + (k + 1) ≤ xs.length + 10 ∧ mB u ys ∧ xs ++ vint 9 nn = ys ++ vint k rs ∧ va_P (dC, dI) vwCl [(mo, .inr (5, [.int cd, .ref q1, .ref q2, .int z3, .int z4, .int z5, .int z6, .int (nI (List.length ys)), .int z8, .int z9, .ref q3, .ref q4, .ref q5])), (q5, .inl (c5, 24000, .inl u))] H ∧ va_D A [(mo, .inr (5, [.int cd, .ref q1, .ref q2, .int z3, .int z4, .int z5, .int z6, .int (nI (List.length ys)), .int z8, .int z9, .ref q3, .ref q4, .ref q5])), (q5, .inl (c5, 24000, .inl u))] ∧ va_S A s.heap H locs ∧ lv_has ls 5 [(0, .ref mo), (3, .long (lN rs))]) (fun z => match z with
        | (k, rs, u, ys) => rs) ?_ ((9, nn, f5, xs)) _ _ _ ⟨hnn, Nat.lt_of_lt_of_le hnn (by decide), Nat.le_refl _, hf, rfl, hP.sub [0, 1] rfl, hD.sub [0, 1] (by decide) rfl, hS, lv_sub hl [1, 0] rfl⟩
  intro z H locs ls hI ih
  obtain ⟨k, rs, u, ys⟩ := z
  obtain ⟨hr31, hrs, hlen, hu, hinv, hP, hD, hS, hl⟩ := hI
  refine lv_lload_n hx hb dX5_putVarint_2 rfl (lv_at hl 1 rfl) ?_
  refine lv_lconst (v := lN 0) hx hb dX5_putVarint_3 (by decide) ?_
  refine W.lcmp hx hb dX5_putVarint_4 ?_
  refine lv_if_lt (tgt := 16) hx hb dX5_putVarint_5 (by decide) (fun c_9 => absurd c_9 (by rw [lg_cmp_lt, pk_lLT (by omega) (by decide)]; omega)) (fun _ => ?_)
  refine lv_lload_n hx hb dX5_putVarint_8 rfl (lv_at hl 1 rfl) ?_
  refine lv_ldc2 (v := lN 127) hx hb hown (hts _ m_360) dX5_putVarint_9 ?_
  refine W.lcmp hx hb dX5_putVarint_12 ?_
  refine lv_if_le (tgt := 38) hx hb dX5_putVarint_13 (by decide) (fun c_13 => ?_) (fun c_13 => ?_)
  · rw [lg_cmp_le, pk_lLE (by omega) (by decide)] at c_13
    refine lv_aload_n hx hb dX5_putVarint_38 rfl (lv_at hl 0 rfl) ?_
    refine lv_lload_n hx hb dX5_putVarint_39 rfl (lv_at hl 1 rfl) ?_
    refine lv_l2i (v := nI rs) hx hb dX5_putVarint_40 (lN_i _) ?_
    refine kret_v (wc := [(mo, .inr (5, [.int cd, .ref q1, .ref q2, .int z3, .int z4, .int z5, .int z6, .int (nI (List.length ys)), .int z8, .int z9, .ref q3, .ref q4, .ref q5])), (q5, .inl (c5, 24000, .inl u))]) (wr := []) (va_runV (As := [.int (nI rs)]) (rest := []) ⟨hx, hb, hml, hown, hts⟩ (m_put l dC dI _ mo q1 q2 q3 q4 q5 cd z3 z4 z5 z6 z8 z9 c5 u ys (nI rs) hu (by omega)) (cwV 1 hts (gdV m_361 m_363 mp_13 m_7 m_364) rfl rfl rfl (by decide +kernel) ⟨Nat.le_of_ble_eq_true rfl, Nat.le_of_ble_eq_true rfl⟩) (kpV hNs hK hP hD [0, 1] [0] rfl rfl (by decide) (ci := 5) rfl rfl) rfl rfl hl.1 rfl (lv_room (Nat.le_of_ble_eq_true rfl)) dX5_putVarint_41 ⟨Nat.le_of_ble_eq_true rfl, Nat.le_of_ble_eq_true rfl⟩) hP hD hS hA [0, 1] [] rfl rfl (by decide) (by decide) (fun u2 H locs hpo hK1 hP hD hS => ?_)
    have hu2 := hpo
    have hP : va_P (dC, dI) vwCl [(mo, .inr (5, [.int cd, .ref q1, .ref q2, .int z3, .int z4, .int z5, .int z6, .int (nI (List.length (ys ++ [uv (nI rs) % 256]))), .int z8, .int z9, .ref q3, .ref q4, .ref q5])), (q5, .inl (c5, 24000, .inl u2))] H := hP
    have hD : va_D A [(mo, .inr (5, [.int cd, .ref q1, .ref q2, .int z3, .int z4, .int z5, .int z6, .int (nI (List.length (ys ++ [uv (nI rs) % 256]))), .int z8, .int z9, .ref q3, .ref q4, .ref q5])), (q5, .inl (c5, 24000, .inl u2))] := hD
    have hz : ys ++ [uv (nI rs) % 256] = xs ++ vint 9 nn := by rw [hinv, uv_nI (by omega), vint_small (by omega)]
    rw [hz] at hP hD hu2
    exact kend_v hx hb hr hlocks dX5_putVarint_44 hK hP hD hS (u2) (hu2) [0, 1] [0] rfl (by decide) rfl
  · rw [lg_cmp_le, pk_lLE (by omega) (by decide)] at c_13
    obtain ⟨k1, rfl⟩ : ∃ k1, k = k1 + 1 := ⟨k - 1, by
      rcases Nat.eq_zero_or_pos k with h0 | h0
      · rw [h0] at hrs; have h1 : (128 : Nat) ^ (0 + 1) = 128 := rfl; omega
      · omega⟩
    refine lv_aload_n hx hb dX5_putVarint_16 rfl (lv_at hl 0 rfl) ?_
    refine lv_lload_n hx hb dX5_putVarint_17 rfl (lv_at hl 1 rfl) ?_
    refine lv_ldc2 (v := lN 127) hx hb hown (hts _ m_360) dX5_putVarint_18 ?_
    refine lv_land hx hb dX5_putVarint_21 ?_
    refine tL_ (y := lN (rs % 128)) (wb_mask (k := 7) (by omega) (by decide)) ?_
    refine lv_l2i (v := nI (rs % 128)) hx hb dX5_putVarint_22 (lN_i _) ?_
    refine lv_sipush (v := nI 128) hx hb dX5_putVarint_23 (by decide) ?_
    refine lv_iadd hx hb dX5_putVarint_26 ?_
    refine tI_ (y := nI ((rs % 128) + 128)) (nI_add _ _) ?_
    refine kret_v (wc := [(mo, .inr (5, [.int cd, .ref q1, .ref q2, .int z3, .int z4, .int z5, .int z6, .int (nI (List.length ys)), .int z8, .int z9, .ref q3, .ref q4, .ref q5])), (q5, .inl (c5, 24000, .inl u))]) (wr := []) (va_runV (As := [.int (nI ((rs % 128) + 128))]) (rest := []) ⟨hx, hb, hml, hown, hts⟩ (m_put l dC dI _ mo q1 q2 q3 q4 q5 cd z3 z4 z5 z6 z8 z9 c5 u ys (nI ((rs % 128) + 128)) hu (by omega)) (cwV 1 hts (gdV m_361 m_363 mp_13 m_7 m_364) rfl rfl rfl (by decide +kernel) ⟨Nat.le_of_ble_eq_true rfl, Nat.le_of_ble_eq_true rfl⟩) (kpV hNs hK hP hD [0, 1] [0] rfl rfl (by decide) (ci := 5) rfl rfl) rfl rfl hl.1 rfl (lv_room (Nat.le_of_ble_eq_true rfl)) dX5_putVarint_27 ⟨Nat.le_of_ble_eq_true rfl, Nat.le_of_ble_eq_true rfl⟩) hP hD hS hA [0, 1] [] rfl rfl (by decide) (by decide) (fun u2 H locs hpo hK1 hP hD hS => ?_)
    have hu2 := hpo
    have hP : va_P (dC, dI) vwCl [(mo, .inr (5, [.int cd, .ref q1, .ref q2, .int z3, .int z4, .int z5, .int z6, .int (nI (List.length (ys ++ [uv (nI ((rs % 128) + 128)) % 256]))), .int z8, .int z9, .ref q3, .ref q4, .ref q5])), (q5, .inl (c5, 24000, .inl u2))] H := hP
    have hD : va_D A [(mo, .inr (5, [.int cd, .ref q1, .ref q2, .int z3, .int z4, .int z5, .int z6, .int (nI (List.length (ys ++ [uv (nI ((rs % 128) + 128)) % 256]))), .int z8, .int z9, .ref q3, .ref q4, .ref q5])), (q5, .inl (c5, 24000, .inl u2))] := hD
    have hz : ys ++ [uv (nI ((rs % 128) + 128)) % 256] = ys ++ [rs % 128 + 128] := by rw [uv_nI (by omega), Nat.mod_eq_of_lt (by omega)]
    rw [hz] at hP hD hu2
    refine lv_lload_n hx hb dX5_putVarint_30 rfl (lv_at hl 1 rfl) ?_
    refine lv_bipush (v := nI 7) hx hb dX5_putVarint_31 (by decide) ?_
    refine lv_lushr (v := lN (rs / 128)) hx hb dX5_putVarint_33 (wb_shr (k := 7) (by omega) (by decide)) ?_
    refine lv_lstore_n (lv' := [(3, .long (lN (rs / 128))), (0, .ref mo)]) hx hb dX5_putVarint_34 rfl hl (by decide) rfl (fun ls hl => ?_)
    refine lv_goto (tgt := 2) hx hb dX5_putVarint_35 (by decide) ?_
    exact ih ((k1, rs / 128, u2, ys ++ [rs % 128 + 128])) _ _ _ ⟨by omega, Nat.div_lt_of_lt_mul (by rw [← Nat.pow_succ']; exact hrs), by rw [List.length_append]; simp; omega, hu2, by rw [hinv, vint_step (by omega), List.append_assoc]; rfl, hP.sub [0, 1] rfl, hD.sub [0, 1] (by decide) rfl, hS, lv_sub hl [1, 0] rfl⟩ (by show rs / 128 < rs; omega)

set_option maxHeartbeats 4000000 in
set_option maxRecDepth 100000 in
/-- alike -/
theorem m_alike (l : Launch) (dC : Nat → ClassId) (dI : Nat → Nat → Nat) (sz : Nat) (q1 : Nat) (c1 : ClassId) (f1 : Nat → Int32) (r : List Int32) (i : Nat) (hf : rHas f1 r) (hn : r.length ≤ 4096) (hi : i < r.length) : Met l yX5_alike wsX5_alike ({ frames := 0, cells := 0, slots := 0, locals := 0 }) (va_Pc [.ref q1, .int (nI i), .int (nI (List.length r))] (kB (dC, dI) vwCl [(c1, .int)] [(q1, .inl (c1, 4096, .inl f1))] sz)) (va_Qi (fun r0 (_ : Unit) => r0 = nI (same r i)) (kE (dC, dI) vwCl (va_A [(q1, .inl (c1, 4096, .inl f1))] sz) (fun _ => [(c1, .int)]) (fun _ => [(q1, .inl (c1, 4096, .inl f1))])) (va_A [(q1, .inl (c1, 4096, .inl f1))] sz)) 0 0 (va_A [(q1, .inl (c1, 4096, .inl f1))] sz) := by
  refine Met.ofW (cc := cX5_alike) (maxL := 4) (ret := (some .int)) (by decide) rfl ?_
  intro p e s m args below meth c s₁ B hml hv
  obtain ⟨rfl, hsz, hP, hK, hD0, hNs⟩ := hv
  have hx := B.exec
  have hb := B.bytes
  have hr := B.returns
  have hts := fun w (h : w ∈ lw_g) => atoms_spec (ws := wsX5_alike) B.pre w (List.mem_cons_of_mem _ h)
  have hown : s.vm.findClass RX5 = some m.cls := findClass_of_methodNamed B.named
  have hlocks := B.notSynchronized
  subst hsz
  have hD := hD0.self (sz := s.heap.size)
  generalize hAe : va_A [(q1, .inl (c1, 4096, .inl f1))] s.heap.size = A at hD ⊢
  have hA : ∀ q : Nat, s.heap.size ≤ q → A q := fun q h => by rw [← hAe]; exact Or.inr h
  have hS : va_S A s.heap s.heap [] := va_S.rf
  have hP : va_P (dC, dI) vwCl [(q1, .inl (c1, 4096, .inl f1))] s.heap := hP
  have hl := lv_entry ([.ref q1, .int (nI i), .int (nI (List.length r))]) (n := 4) (Nat.le_of_ble_eq_true rfl)
  rw [lg_entry_eq]
  generalize (lg_sl ([.ref q1, .int (nI i), .int (nI (List.length r))]) ++ List.replicate (4 - (lg_sl ([.ref q1, .int (nI i), .int (nI (List.length r))])).length) Slot.unset).toArray = ls at hl ⊢
  have hl : lv_has ls 4 [(0, .ref q1), (1, .int (nI i)), (2, .int (nI (List.length r)))] := hl
  refine lv_iload_n hx hb dX5_alike_0 rfl (lv_at hl 1 rfl) ?_
  refine lv_istore_n (lv' := [(3, .int (nI i)), (0, .ref q1), (1, .int (nI i)), (2, .int (nI (List.length r)))]) hx hb dX5_alike_1 rfl hl (by decide) rfl (fun ls hl => ?_)
  refine k_loop (σ := Nat) (fun (z : Nat) H locs ls => match z with
        | k => i ≤ k ∧ k ≤ r.length ∧ (∀ j, j < k - i → r.getD (i + j) 0 = r.getD i 0) ∧ va_P (dC, dI) vwCl [(q1, .inl (c1, 4096, .inl f1))] H ∧ va_D A [(q1, .inl (c1, 4096, .inl f1))] ∧ va_S A s.heap H locs ∧ lv_has ls 4 [(0, .ref q1), (1, .int (nI i)), (2, .int (nI (List.length r))), (3, .int (nI k))]) (fun z => match z with
        | k => r.length - k) ?_ (i) _ _ _ ⟨Nat.le_refl i, by omega, fun j hj => absurd hj (by omega), hP.sub [0] rfl, hD.sub [0] (by decide) rfl, hS, lv_sub hl [1, 2, 3, 0] rfl⟩
  intro z H locs ls hI ih
  obtain ⟨k, rfl⟩ : ∃ y, y = z := ⟨_, rfl⟩
  obtain ⟨hik, hk, hks, hP, hD, hS, hl⟩ := hI
  refine lv_iload_n hx hb dX5_alike_2 rfl (lv_at hl 3 rfl) ?_
  refine lv_iload_n hx hb dX5_alike_3 rfl (lv_at hl 2 rfl) ?_
  refine lv_icmp_ge (tgt := 22) hx hb dX5_alike_4 (by decide) (fun c_4 => ?_) (fun c_4 => ?_)
  · rw [nI_leI (a := (List.length r)) (b := k) (by omega) (by omega)] at c_4
    refine lv_iload_n hx hb dX5_alike_22 rfl (lv_at hl 3 rfl) ?_
    refine lv_iload_n hx hb dX5_alike_23 rfl (lv_at hl 1 rfl) ?_
    refine lv_isub hx hb dX5_alike_24 ?_
    refine tI_ (y := nI (k - i)) (pk_sub (by omega)) ?_
    exact kend_i hx hb hr hlocks dX5_alike_25 (rfl) hK hP hD hS (()) ((congrArg nI (same_of (d := k - i) (by omega) hks (fun h9 => absurd h9 (by omega)))).symm) [0] [0] rfl (by decide) rfl
  · rw [nI_leI (a := (List.length r)) (b := k) (by omega) (by omega)] at c_4
    refine lv_aload_n hx hb dX5_alike_7 rfl (lv_at hl 0 rfl) ?_
    refine lv_iload_n hx hb dX5_alike_8 rfl (lv_at hl 3 rfl) ?_
    refine va_iald hx hb hK hP 0 0 rfl rfl (vp_in_nI (by omega) (by omega)) dX5_alike_9 ?_
    refine tI_ (y := f1 k) (congrArg f1 (nI_clamp (by omega))) ?_
    refine lv_aload_n hx hb dX5_alike_10 rfl (lv_at hl 0 rfl) ?_
    refine lv_iload_n hx hb dX5_alike_11 rfl (lv_at hl 1 rfl) ?_
    refine va_iald hx hb hK hP 0 0 rfl rfl (vp_in_nI (by omega) (by omega)) dX5_alike_12 ?_
    refine tI_ (y := f1 i) (congrArg f1 (nI_clamp (by omega))) ?_
    refine lv_icmp_ne (tgt := 22) hx hb dX5_alike_13 (by decide) (fun c_13 => ?_) (fun c_13 => ?_)
    · rw [hf k (by omega), hf i hi] at c_13
      refine lv_iload_n hx hb dX5_alike_22 rfl (lv_at hl 3 rfl) ?_
      refine lv_iload_n hx hb dX5_alike_23 rfl (lv_at hl 1 rfl) ?_
      refine lv_isub hx hb dX5_alike_24 ?_
      refine tI_ (y := nI (k - i)) (pk_sub (by omega)) ?_
      exact kend_i hx hb hr hlocks dX5_alike_25 (rfl) hK hP hD hS (()) ((congrArg nI (same_of (d := k - i) (by omega) hks (fun _ => by rw [show i + (k - i) = k by omega]; exact c_13))).symm) [0] [0] rfl (by decide) rfl
    · rw [hf k (by omega), hf i hi] at c_13
      refine lv_iinc (v := nI (k + 1)) (lv' := [(3, .int (nI (k + 1))), (0, .ref q1), (1, .int (nI i)), (2, .int (nI (List.length r)))]) hx hb dX5_alike_16 hl (k := 3) rfl (ii_add (c := 1) (k := 1) k (by decide)) (by decide) rfl (fun ls hl => ?_)
      refine lv_goto (tgt := 2) hx hb dX5_alike_19 (by decide) ?_
      exact ih (k + 1) _ _ _ ⟨by omega, by omega, fun j hj => by
        by_cases hjk : j = k - i
        · rw [hjk, show i + (k - i) = k by omega]; exact c_13
        · exact hks j (by omega), hP.sub [0] rfl, hD.sub [0] (by decide) rfl, hS, lv_sub hl [1, 2, 3, 0] rfl⟩ (by show r.length - (k + 1) < r.length - k; omega)

set_option maxHeartbeats 4000000 in
set_option maxRecDepth 100000 in
/-- writeRuns -/
theorem m_writeRuns (l : Launch) (dC : Nat → ClassId) (dI : Nat → Nat → Nat) (sz : Nat) (mo q1 q2 q3 q4 q5 : Nat) (cd z3 z4 z5 z6 z8 z9 : Int32) (c1 : ClassId) (f1 : Nat → Int32) (r : List Int32) (c5 : ClassId) (f5 : Nat → Int32) (w : Nat) (hf : rHas f1 r) (hn : r.length ≤ 4096) (hw32 : w ≤ 32) (hfit : fitsW r w) : Met l yX5_writeRuns wsX5_writeRuns ({ frames := 2, cells := 0, slots := 0, locals := 45 }) (va_Pc [.ref mo, .ref q1, .int (nI (List.length r)), .int (nI w)] (kB (dC, dI) vwCl [(c1, .int), (c5, .int)] [(mo, .inr (5, [.int cd, .ref q1, .ref q2, .int z3, .int z4, .int z5, .int z6, .int (nI 0), .int z8, .int z9, .ref q3, .ref q4, .ref q5])), (q1, .inl (c1, 4096, .inl f1)), (q5, .inl (c5, 24000, .inl f5))] sz)) (va_Qv (fun (u : Nat → Int32) => mB u (wrF r w 4096 0)) (kE (dC, dI) vwCl (va_A [(mo, .inr (5, [.int cd, .ref q1, .ref q2, .int z3, .int z4, .int z5, .int z6, .int (nI 0), .int z8, .int z9, .ref q3, .ref q4, .ref q5])), (q1, .inl (c1, 4096, .inl f1)), (q5, .inl (c5, 24000, .inl f5))] sz) (fun _ => [(c1, .int), (c5, .int)]) (fun u => [(mo, .inr (5, [.int cd, .ref q1, .ref q2, .int z3, .int z4, .int z5, .int z6, .int (nI (List.length (wrF r w 4096 0))), .int z8, .int z9, .ref q3, .ref q4, .ref q5])), (q1, .inl (c1, 4096, .inl f1)), (q5, .inl (c5, 24000, .inl u))])) (va_A [(mo, .inr (5, [.int cd, .ref q1, .ref q2, .int z3, .int z4, .int z5, .int z6, .int (nI 0), .int z8, .int z9, .ref q3, .ref q4, .ref q5])), (q1, .inl (c1, 4096, .inl f1)), (q5, .inl (c5, 24000, .inl f5))] sz)) 0 0 (va_A [(mo, .inr (5, [.int cd, .ref q1, .ref q2, .int z3, .int z4, .int z5, .int z6, .int (nI 0), .int z8, .int z9, .ref q3, .ref q4, .ref q5])), (q1, .inl (c1, 4096, .inl f1)), (q5, .inl (c5, 24000, .inl f5))] sz) := by
  refine Met.ofW (cc := cX5_writeRuns) (maxL := 11) (ret := none) (by decide) rfl ?_
  intro p e s m args below meth c s₁ B hml hv
  obtain ⟨rfl, hsz, hP, hK, hD0, hNs⟩ := hv
  have hx := B.exec
  have hb := B.bytes
  have hr := B.returns
  have hts := fun w (h : w ∈ lw_g) => atoms_spec (ws := wsX5_writeRuns) B.pre w (List.mem_cons_of_mem _ h)
  have hown : s.vm.findClass RX5 = some m.cls := findClass_of_methodNamed B.named
  have hlocks := B.notSynchronized
  subst hsz
  have hD := hD0.self (sz := s.heap.size)
  generalize hAe : va_A [(mo, .inr (5, [.int cd, .ref q1, .ref q2, .int z3, .int z4, .int z5, .int z6, .int (nI 0), .int z8, .int z9, .ref q3, .ref q4, .ref q5])), (q1, .inl (c1, 4096, .inl f1)), (q5, .inl (c5, 24000, .inl f5))] s.heap.size = A at hD ⊢
  have hA : ∀ q : Nat, s.heap.size ≤ q → A q := fun q h => by rw [← hAe]; exact Or.inr h
  have hS : va_S A s.heap s.heap [] := va_S.rf
  have hP : va_P (dC, dI) vwCl [(mo, .inr (5, [.int cd, .ref q1, .ref q2, .int z3, .int z4, .int z5, .int z6, .int (nI 0), .int z8, .int z9, .ref q3, .ref q4, .ref q5])), (q1, .inl (c1, 4096, .inl f1)), (q5, .inl (c5, 24000, .inl f5))] s.heap := hP
  have hl := lv_entry ([.ref mo, .ref q1, .int (nI (List.length r)), .int (nI w)]) (n := 11) (Nat.le_of_ble_eq_true rfl)
  rw [lg_entry_eq]
  generalize (lg_sl ([.ref mo, .ref q1, .int (nI (List.length r)), .int (nI w)]) ++ List.replicate (11 - (lg_sl ([.ref mo, .ref q1, .int (nI (List.length r)), .int (nI w)])).length) Slot.unset).toArray = ls at hl ⊢
  have hl : lv_has ls 11 [(0, .ref mo), (1, .ref q1), (2, .int (nI (List.length r))), (3, .int (nI w))] := hl
  refine lv_iconst (v := nI 0) hx hb dX5_writeRuns_0 (by decide) ?_
  refine lv_istore (lv' := [(4, .int (nI 0)), (0, .ref mo), (1, .ref q1), (2, .int (nI (List.length r))), (3, .int (nI w))]) hx hb dX5_writeRuns_1 hl (by decide) rfl (fun ls hl => ?_)
  have htot := wr_len r hw32 hn
  refine k_loop (σ := Nat × Nat × (Nat → Int32) × List Nat) (fun (z : Nat × Nat × (Nat → Int32) × List Nat) H locs ls => match z with
        | (i, m9, u, ys) => i < r.length + 8 ∧ r.length ≤ i + 8 * m9 ∧ mB u ys ∧ wrF r w 4096 0 = ys ++ wrF r w m9 i ∧ va_P (dC, dI) vwCl [(mo, .inr (5, [.int cd, .ref q1, .ref q2, .int z3, .int z4, .int z5, .int z6, .int (nI (List.length ys)), .int z8, .int z9, .ref q3, .ref q4, .ref q5])), (q1, .inl (c1, 4096, .inl f1)), (q5, .inl (c5, 24000, .inl u))] H ∧ va_D A [(mo, .inr (5, [.int cd, .ref q1, .ref q2, .int z3, .int z4, .int z5, .int z6, .int (nI (List.length ys)), .int z8, .int z9, .ref q3, .ref q4, .ref q5])), (q1, .inl (c1, 4096, .inl f1)), (q5, .inl (c5, 24000, .inl u))] ∧ va_S A s.heap H locs ∧ lv_has ls 11 [(0, .ref mo), (1, .ref q1), (2, .int (nI (List.length r))), (3, .int (nI w)), (4, .int (nI i))]) (fun z => match z with
        | (i, m9, u, ys) => r.length + 8 - i) ?_ ((0, 4096, f5, [])) _ _ _ ⟨by omega, by omega, mB_nil _, rfl, hP.sub [0, 1, 2] rfl, hD.sub [0, 1, 2] (by decide) rfl, hS, lv_sub hl [1, 2, 3, 4, 0] rfl⟩
  intro z H locs ls hI ih
  obtain ⟨i, m9, u, ys⟩ := z
  obtain ⟨hi, hm9, hu, hinv, hP, hD, hS, hl⟩ := hI
  refine lv_iload hx hb dX5_writeRuns_3 (lv_at hl 4 rfl) ?_
  refine lv_iload_n hx hb dX5_writeRuns_5 rfl (lv_at hl 2 rfl) ?_
  refine lv_icmp_ge (tgt := 223) hx hb dX5_writeRuns_6 (by decide) (fun c_6 => ?_) (fun c_6 => ?_)
  · rw [nI_leI (a := (List.length r)) (b := i) (by omega) (by omega)] at c_6
    have hz : ys = wrF r w 4096 0 := by rw [hinv, wrF_end (by omega), List.append_nil]
    rw [hz] at hP hD hu
    exact kend_v hx hb hr hlocks dX5_writeRuns_223 hK hP hD hS (u) (hu) [0, 1, 2] [0, 1] rfl (by decide) rfl
  · rw [nI_leI (a := (List.length r)) (b := i) (by omega) (by omega)] at c_6
    have hlt : i < r.length := by omega
    obtain ⟨m1, rfl⟩ : ∃ m1, m9 = m1 + 1 := ⟨m9 - 1, by omega⟩
    have ihk := ih
    clear ih
    refine lv_aload_n hx hb dX5_writeRuns_9 rfl (lv_at hl 1 rfl) ?_
    refine lv_iload hx hb dX5_writeRuns_10 (lv_at hl 4 rfl) ?_
    refine lv_iload_n hx hb dX5_writeRuns_12 rfl (lv_at hl 2 rfl) ?_
    refine kret_i (wc := [(q1, .inl (c1, 4096, .inl f1))]) (wr := [(mo, .inr (5, [.int cd, .ref q1, .ref q2, .int z3, .int z4, .int z5, .int z6, .int (nI (List.length ys)), .int z8, .int z9, .ref q3, .ref q4, .ref q5])), (q5, .inl (c5, 24000, .inl u))]) (va_runS (As := [.ref q1, .int (nI i), .int (nI (List.length r))]) (rest := []) ⟨hx, hb, hml, hown, hts⟩ (m_alike l dC dI _ q1 c1 f1 r i hf hn hlt) (va_cwS 3 hts (gdS m_352 m_353 m_7 m_354) rfl rfl rfl (by decide +kernel) ⟨Nat.le_of_ble_eq_true rfl, Nat.le_of_ble_eq_true rfl⟩) (kpS hNs hK hP hD [1] [0] rfl rfl (by decide)) rfl rfl hl.1 rfl (lv_room (Nat.le_of_ble_eq_true rfl)) dX5_writeRuns_13 ⟨Nat.le_of_ble_eq_true rfl, Nat.le_of_ble_eq_true rfl⟩) hP hD hS hA [1] [0, 2] rfl rfl (by decide) (by decide) (fun y _ H locs hpo hK1 hP hD hS => ?_)
    have hy := hpo
    have hP : va_P (dC, dI) vwCl [(mo, .inr (5, [.int cd, .ref q1, .ref q2, .int z3, .int z4, .int z5, .int z6, .int (nI (List.length ys)), .int z8, .int z9, .ref q3, .ref q4, .ref q5])), (q5, .inl (c5, 24000, .inl u)), (q1, .inl (c1, 4096, .inl f1))] H := hP
    have hD : va_D A [(mo, .inr (5, [.int cd, .ref q1, .ref q2, .int z3, .int z4, .int z5, .int z6, .int (nI (List.length ys)), .int z8, .int z9, .ref q3, .ref q4, .ref q5])), (q5, .inl (c5, 24000, .inl u)), (q1, .inl (c1, 4096, .inl f1))] := hD
    subst hy
    have hsl := same_le r (i := i) (by omega)
    have hsp := same_pos hlt
    refine lv_istore (lv' := [(5, .int (nI (same r i))), (0, .ref mo), (1, .ref q1), (2, .int (nI (List.length r))), (3, .int (nI w)), (4, .int (nI i))]) hx hb dX5_writeRuns_16 hl (by decide) rfl (fun ls hl => ?_)
    refine lv_iload hx hb dX5_writeRuns_18 (lv_at hl 0 rfl) ?_
    refine lv_bipush (v := nI 8) hx hb dX5_writeRuns_20 (by decide) ?_
    refine lv_icmp_lt (tgt := 72) hx hb dX5_writeRuns_22 (by decide) (fun c_22 => ?_) (fun c_22 => ?_)
    · rw [nI_ltI (a := (same r i)) (b := 8) (by omega) (by omega)] at c_22
      refine lv_iconst (v := nI 1) hx hb dX5_writeRuns_72 (by decide) ?_
      refine lv_istore (lv' := [(6, .int (nI 1)), (5, .int (nI (same r i))), (0, .ref mo), (1, .ref q1), (2, .int (nI (List.length r))), (3, .int (nI w)), (4, .int (nI i))]) hx hb dX5_writeRuns_73 hl (by decide) rfl (fun ls hl => ?_)
      refine k_loop (σ := Nat) (fun (z : Nat) H locs ls => match z with
            | gq => 1 ≤ gq ∧ i + 8 * gq < r.length + 8 ∧ (∀ q, q < gq → i + 8 * q < r.length ∧ same r (i + 8 * q) < 8) ∧ va_P (dC, dI) vwCl [(mo, .inr (5, [.int cd, .ref q1, .ref q2, .int z3, .int z4, .int z5, .int z6, .int (nI (List.length ys)), .int z8, .int z9, .ref q3, .ref q4, .ref q5])), (q1, .inl (c1, 4096, .inl f1)), (q5, .inl (c5, 24000, .inl u))] H ∧ va_D A [(mo, .inr (5, [.int cd, .ref q1, .ref q2, .int z3, .int z4, .int z5, .int z6, .int (nI (List.length ys)), .int z8, .int z9, .ref q3, .ref q4, .ref q5])), (q1, .inl (c1, 4096, .inl f1)), (q5, .inl (c5, 24000, .inl u))] ∧ va_S A s.heap H locs ∧ lv_has ls 11 [(0, .ref mo), (1, .ref q1), (2, .int (nI (List.length r))), (3, .int (nI w)), (4, .int (nI i)), (6, .int (nI gq))]) (fun z => match z with
            | gq => r.length + 8 - (i + 8 * gq)) ?_ (1) _ _ _ ⟨Nat.le_refl 1, by omega, fun q hq => by
        obtain rfl : q = 0 := by omega
        exact ⟨by omega, by rw [Nat.mul_zero, Nat.add_zero]; omega⟩, hP.sub [0, 2, 1] rfl, hD.sub [0, 2, 1] (by decide) rfl, hS, lv_sub hl [2, 3, 4, 5, 6, 0] rfl⟩
      intro z H locs ls hI ih
      obtain ⟨gq, rfl⟩ : ∃ y, y = z := ⟨_, rfl⟩
      obtain ⟨hg1, hgl, hgq, hP, hD, hS, hl⟩ := hI
      refine lv_iload hx hb dX5_writeRuns_75 (lv_at hl 4 rfl) ?_
      refine lv_bipush (v := nI 8) hx hb dX5_writeRuns_77 (by decide) ?_
      refine lv_iload hx hb dX5_writeRuns_79 (lv_at hl 5 rfl) ?_
      refine lv_imul hx hb dX5_writeRuns_81 ?_
      refine tI_ (y := nI (8 * gq)) (pk_mul _ _) ?_
      refine lv_iadd hx hb dX5_writeRuns_82 ?_
      refine tI_ (y := nI (i + (8 * gq))) (nI_add _ _) ?_
      refine lv_iload_n hx hb dX5_writeRuns_83 rfl (lv_at hl 2 rfl) ?_
      refine lv_icmp_ge (tgt := 111) hx hb dX5_writeRuns_84 (by decide) (fun c_84 => ?_) (fun c_84 => ?_)
      · rw [nI_leI (a := (List.length r)) (b := (i + (8 * gq))) (by omega) (by omega)] at c_84
        have hg : gf r i = gq := gf_of hgq (Or.inl (by omega))
        rw [wrF_grp hlt (by omega), ← List.append_assoc, hg] at hinv
        have hyl : (ys ++ wGrp r w i gq).length ≤ 16386 := by have h9 := congrArg List.length hinv; rw [List.length_append] at h9; omega
        rw [List.length_append] at hyl
        have hol : (wGrp r w i gq).length = (vint 9 (gq * 2 + 1)).length + gq * w := by unfold wGrp; rw [List.length_append, wgs_len]
        refine lv_aload_n hx hb dX5_writeRuns_111 rfl (lv_at hl 0 rfl) ?_
        refine lv_ldc2 (v := lN 2) hx hb hown (hts _ m_355) dX5_writeRuns_112 ?_
        refine lv_iload hx hb dX5_writeRuns_115 (lv_at hl 5 rfl) ?_
        refine lv_i2l (v := lN gq) hx hb dX5_writeRuns_117 (nI_l (by omega)) ?_
        refine lv_lmul hx hb dX5_writeRuns_118 ?_
        refine lv_lconst (v := lN 1) hx hb dX5_writeRuns_119 (by decide) ?_
        refine lv_ladd hx hb dX5_writeRuns_120 ?_
        refine tL_ (y := lN (gq * 2 + 1)) (by rw [lN_mul, lN_add, Nat.mul_comm]) ?_
        refine kret_v (wc := [(mo, .inr (5, [.int cd, .ref q1, .ref q2, .int z3, .int z4, .int z5, .int z6, .int (nI (List.length ys)), .int z8, .int z9, .ref q3, .ref q4, .ref q5])), (q5, .inl (c5, 24000, .inl u))]) (wr := [(q1, .inl (c1, 4096, .inl f1))]) (va_runV (As := [.long (lN (gq * 2 + 1))]) (rest := []) ⟨hx, hb, hml, hown, hts⟩ (m_putVarint l dC dI _ mo q1 q2 q3 q4 q5 cd z3 z4 z5 z6 z8 z9 c5 u ys (gq * 2 + 1) hu (by omega) (by omega)) (cwV 1 hts (gdV m_356 m_358 mp_12 m_7 m_359) rfl rfl rfl (by decide +kernel) ⟨Nat.le_of_ble_eq_true rfl, Nat.le_of_ble_eq_true rfl⟩) (kpV hNs hK hP hD [0, 2] [1] rfl rfl (by decide) (ci := 5) rfl rfl) rfl rfl hl.1 rfl (lv_room (Nat.le_of_ble_eq_true rfl)) dX5_writeRuns_121 ⟨Nat.le_of_ble_eq_true rfl, Nat.le_of_ble_eq_true rfl⟩) hP hD hS hA [0, 2] [1] rfl rfl (by decide) (by decide) (fun u1 H locs hpo hK1 hP hD hS => ?_)
        have hu1 := hpo
        have hP : va_P (dC, dI) vwCl [(q1, .inl (c1, 4096, .inl f1)), (mo, .inr (5, [.int cd, .ref q1, .ref q2, .int z3, .int z4, .int z5, .int z6, .int (nI (List.length (ys ++ vint 9 (gq * 2 + 1)))), .int z8, .int z9, .ref q3, .ref q4, .ref q5])), (q5, .inl (c5, 24000, .inl u1))] H := hP
        have hD : va_D A [(q1, .inl (c1, 4096, .inl f1)), (mo, .inr (5, [.int cd, .ref q1, .ref q2, .int z3, .int z4, .int z5, .int z6, .int (nI (List.length (ys ++ vint 9 (gq * 2 + 1)))), .int z8, .int z9, .ref q3, .ref q4, .ref q5])), (q5, .inl (c5, 24000, .inl u1))] := hD
        refine lv_iconst (v := nI 0) hx hb dX5_writeRuns_124 (by decide) ?_
        refine lv_istore (lv' := [(7, .int (nI 0)), (0, .ref mo), (1, .ref q1), (2, .int (nI (List.length r))), (3, .int (nI w)), (4, .int (nI i)), (6, .int (nI gq))]) hx hb dX5_writeRuns_125 hl (by decide) rfl (fun ls hl => ?_)
        have hz0 : ys ++ vint 9 (gq * 2 + 1) = ys ++ vint 9 (gq * 2 + 1) ++ (List.range 0).map (Gb r w i) := by simp
        rw [hz0] at hP hD hu1
        have hl := (show lv_has ls 11 [(7, .int (nI (8 * 0))), (0, .ref mo), (1, .ref q1), (2, .int (nI (List.length r))), (3, .int (nI w)), (4, .int (nI i)), (6, .int (nI gq))] from hl)
        have hwg : w * gq ≤ 32 * 513 := Nat.mul_le_mul hw32 (by omega)
        have hA8 : 8 * w * gq = 8 * (w * gq) := Nat.mul_assoc 8 w gq
        have hwg2 : gq * w = w * gq := Nat.mul_comm gq w
        refine k_loop (σ := Nat × (Nat → Int32)) (fun (z : Nat × (Nat → Int32)) H locs ls => match z with
              | (j, u2) => j ≤ w * gq ∧ mB u2 (ys ++ vint 9 (gq * 2 + 1) ++ (List.range j).map (Gb r w i)) ∧ va_P (dC, dI) vwCl [(mo, .inr (5, [.int cd, .ref q1, .ref q2, .int z3, .int z4, .int z5, .int z6, .int (nI (List.length (ys ++ vint 9 (gq * 2 + 1) ++ (List.range j).map (Gb r w i)))), .int z8, .int z9, .ref q3, .ref q4, .ref q5])), (q1, .inl (c1, 4096, .inl f1)), (q5, .inl (c5, 24000, .inl u2))] H ∧ va_D A [(mo, .inr (5, [.int cd, .ref q1, .ref q2, .int z3, .int z4, .int z5, .int z6, .int (nI (List.length (ys ++ vint 9 (gq * 2 + 1) ++ (List.range j).map (Gb r w i)))), .int z8, .int z9, .ref q3, .ref q4, .ref q5])), (q1, .inl (c1, 4096, .inl f1)), (q5, .inl (c5, 24000, .inl u2))] ∧ va_S A s.heap H locs ∧ lv_has ls 11 [(0, .ref mo), (1, .ref q1), (2, .int (nI (List.length r))), (3, .int (nI w)), (4, .int (nI i)), (6, .int (nI gq)), (7, .int (nI (8 * j)))]) (fun z => match z with
              | (j, u2) => w * gq - j) ?_ ((0, u1)) _ _ _ ⟨Nat.zero_le _, hu1, hP.sub [1, 0, 2] rfl, hD.sub [1, 0, 2] (by decide) rfl, hS, lv_sub hl [1, 2, 3, 4, 5, 6, 0] rfl⟩
        intro z H locs ls hI ih
        obtain ⟨j, u2⟩ := z
        obtain ⟨hj, hu2, hP, hD, hS, hl⟩ := hI
        refine lv_iload hx hb dX5_writeRuns_127 (lv_at hl 6 rfl) ?_
        refine lv_bipush (v := nI 8) hx hb dX5_writeRuns_129 (by decide) ?_
        refine lv_iload_n hx hb dX5_writeRuns_131 rfl (lv_at hl 3 rfl) ?_
        refine lv_imul hx hb dX5_writeRuns_132 ?_
        refine tI_ (y := nI (8 * w)) (pk_mul _ _) ?_
        refine lv_iload hx hb dX5_writeRuns_133 (lv_at hl 5 rfl) ?_
        refine lv_imul hx hb dX5_writeRuns_135 ?_
        refine tI_ (y := nI ((8 * w) * gq)) (pk_mul _ _) ?_
        refine lv_icmp_ge (tgt := 210) hx hb dX5_writeRuns_136 (by decide) (fun c_136 => ?_) (fun c_136 => ?_)
        · rw [nI_leI (a := ((8 * w) * gq)) (b := (8 * j)) (by omega) (by omega)] at c_136
          obtain rfl : j = w * gq := by omega
          have hz : ys ++ vint 9 (gq * 2 + 1) ++ (List.range (w * gq)).map (Gb r w i) = ys ++ wGrp r w i gq := by unfold wGrp; rw [wgs_Gb, List.append_assoc]
          rw [hz] at hP hD hu2
          refine lv_iload hx hb dX5_writeRuns_210 (lv_at hl 4 rfl) ?_
          refine lv_bipush (v := nI 8) hx hb dX5_writeRuns_212 (by decide) ?_
          refine lv_iload hx hb dX5_writeRuns_214 (lv_at hl 5 rfl) ?_
          refine lv_imul hx hb dX5_writeRuns_216 ?_
          refine tI_ (y := nI (8 * gq)) (pk_mul _ _) ?_
          refine lv_iadd hx hb dX5_writeRuns_217 ?_
          refine tI_ (y := nI (i + (8 * gq))) (nI_add _ _) ?_
          refine lv_istore (lv' := [(4, .int (nI (i + (8 * gq)))), (0, .ref mo), (1, .ref q1), (2, .int (nI (List.length r))), (3, .int (nI w)), (6, .int (nI gq)), (7, .int (nI (8 * (w * gq))))]) hx hb dX5_writeRuns_218 hl (by decide) rfl (fun ls hl => ?_)
          refine lv_goto (tgt := 3) hx hb dX5_writeRuns_220 (by decide) ?_
          exact ihk (i + 8 * gq, m1, u2, ys ++ wGrp r w i gq) _ _ _ ⟨by omega, by omega, hu2, by rw [hinv, Nat.mul_comm gq 8], hP.sub [0, 1, 2] rfl, hD.sub [0, 1, 2] (by decide) rfl, hS, lv_sub hl [1, 2, 3, 4, 0] rfl⟩ (by show r.length + 8 - (i + 8 * gq) < r.length + 8 - i; omega)
        · rw [nI_leI (a := ((8 * w) * gq)) (b := (8 * j)) (by omega) (by omega)] at c_136
          have hjl : j < w * gq := by omega
          have hw0 : 0 < w := by
            rcases Nat.eq_zero_or_pos w with h0 | h0
            · rw [h0, Nat.zero_mul] at hjl; exact absurd hjl (Nat.not_lt_zero _)
            · exact h0
          have ihj := ih
          clear ih
          refine lv_iconst (v := nI 0) hx hb dX5_writeRuns_139 (by decide) ?_
          refine lv_istore (lv' := [(8, .int (nI 0)), (0, .ref mo), (1, .ref q1), (2, .int (nI (List.length r))), (3, .int (nI w)), (4, .int (nI i)), (6, .int (nI gq)), (7, .int (nI (8 * j)))]) hx hb dX5_writeRuns_140 hl (by decide) rfl (fun ls hl => ?_)
          refine lv_iconst (v := nI 0) hx hb dX5_writeRuns_142 (by decide) ?_
          refine lv_istore (lv' := [(9, .int (nI 0)), (8, .int (nI 0)), (0, .ref mo), (1, .ref q1), (2, .int (nI (List.length r))), (3, .int (nI w)), (4, .int (nI i)), (6, .int (nI gq)), (7, .int (nI (8 * j)))]) hx hb dX5_writeRuns_143 hl (by decide) rfl (fun ls hl => ?_)
          have hl := (show lv_has ls 11 [(9, .int (nI 0)), (8, .int (nI (Gb r w i j % 2 ^ 0))), (0, .ref mo), (1, .ref q1), (2, .int (nI (List.length r))), (3, .int (nI w)), (4, .int (nI i)), (6, .int (nI gq)), (7, .int (nI (8 * j)))] from (by rw [show Gb r w i j % 2 ^ 0 = 0 from Nat.mod_one _]; exact hl))
          refine k_loop (σ := Nat) (fun (z : Nat) H locs ls => match z with
                | t => t ≤ 8 ∧ va_P (dC, dI) vwCl [(mo, .inr (5, [.int cd, .ref q1, .ref q2, .int z3, .int z4, .int z5, .int z6, .int (nI (List.length (ys ++ vint 9 (gq * 2 + 1) ++ (List.range j).map (Gb r w i)))), .int z8, .int z9, .ref q3, .ref q4, .ref q5])), (q1, .inl (c1, 4096, .inl f1)), (q5, .inl (c5, 24000, .inl u2))] H ∧ va_D A [(mo, .inr (5, [.int cd, .ref q1, .ref q2, .int z3, .int z4, .int z5, .int z6, .int (nI (List.length (ys ++ vint 9 (gq * 2 + 1) ++ (List.range j).map (Gb r w i)))), .int z8, .int z9, .ref q3, .ref q4, .ref q5])), (q1, .inl (c1, 4096, .inl f1)), (q5, .inl (c5, 24000, .inl u2))] ∧ va_S A s.heap H locs ∧ lv_has ls 11 [(0, .ref mo), (1, .ref q1), (2, .int (nI (List.length r))), (3, .int (nI w)), (4, .int (nI i)), (6, .int (nI gq)), (7, .int (nI (8 * j))), (8, .int (nI (Gb r w i j % 2 ^ t))), (9, .int (nI t))]) (fun z => match z with
                | t => 8 - t) ?_ (0) _ _ _ ⟨Nat.zero_le _, hP.sub [0, 1, 2] rfl, hD.sub [0, 1, 2] (by decide) rfl, hS, lv_sub hl [2, 3, 4, 5, 6, 7, 8, 1, 0] rfl⟩
          intro z H locs ls hI ih
          obtain ⟨t, rfl⟩ : ∃ y, y = z := ⟨_, rfl⟩
          obtain ⟨ht8, hP, hD, hS, hl⟩ := hI
          refine lv_iload hx hb dX5_writeRuns_145 (lv_at hl 8 rfl) ?_
          refine lv_bipush (v := nI 8) hx hb dX5_writeRuns_147 (by decide) ?_
          refine lv_icmp_ge (tgt := 198) hx hb dX5_writeRuns_149 (by decide) (fun c_149 => ?_) (fun c_149 => ?_)
          · rw [nI_leI (a := 8) (b := t) (by omega) (by omega)] at c_149
            obtain rfl : t = 8 := by omega
            refine lv_aload_n hx hb dX5_writeRuns_198 rfl (lv_at hl 0 rfl) ?_
            refine lv_iload hx hb dX5_writeRuns_199 (lv_at hl 7 rfl) ?_
            have hll : (ys ++ vint 9 (gq * 2 + 1) ++ (List.range j).map (Gb r w i)).length = ys.length + (vint 9 (gq * 2 + 1)).length + j := by rw [List.length_append, List.length_append, List.length_map, List.length_range]
            refine kret_v (wc := [(mo, .inr (5, [.int cd, .ref q1, .ref q2, .int z3, .int z4, .int z5, .int z6, .int (nI (List.length (ys ++ vint 9 (gq * 2 + 1) ++ (List.range j).map (Gb r w i)))), .int z8, .int z9, .ref q3, .ref q4, .ref q5])), (q5, .inl (c5, 24000, .inl u2))]) (wr := [(q1, .inl (c1, 4096, .inl f1))]) (va_runV (As := [.int (nI (Gb r w i j % 2 ^ 8))]) (rest := []) ⟨hx, hb, hml, hown, hts⟩ (m_put l dC dI _ mo q1 q2 q3 q4 q5 cd z3 z4 z5 z6 z8 z9 c5 u2 (ys ++ vint 9 (gq * 2 + 1) ++ (List.range j).map (Gb r w i)) (nI (Gb r w i j % 2 ^ 8)) hu2 (by omega)) (cwV 1 hts (gdV m_361 m_363 mp_13 m_7 m_364) rfl rfl rfl (by decide +kernel) ⟨Nat.le_of_ble_eq_true rfl, Nat.le_of_ble_eq_true rfl⟩) (kpV hNs hK hP hD [0, 2] [1] rfl rfl (by decide) (ci := 5) rfl rfl) rfl rfl hl.1 rfl (lv_room (Nat.le_of_ble_eq_true rfl)) dX5_writeRuns_201 ⟨Nat.le_of_ble_eq_true rfl, Nat.le_of_ble_eq_true rfl⟩) hP hD hS hA [0, 2] [1] rfl rfl (by decide) (by decide) (fun u3 H locs hpo hK1 hP hD hS => ?_)
            have hu3 := hpo
            have hP : va_P (dC, dI) vwCl [(q1, .inl (c1, 4096, .inl f1)), (mo, .inr (5, [.int cd, .ref q1, .ref q2, .int z3, .int z4, .int z5, .int z6, .int (nI (List.length (ys ++ vint 9 (gq * 2 + 1) ++ (List.range j).map (Gb r w i) ++ [uv (nI (Gb r w i j % 2 ^ 8)) % 256]))), .int z8, .int z9, .ref q3, .ref q4, .ref q5])), (q5, .inl (c5, 24000, .inl u3))] H := hP
            have hD : va_D A [(q1, .inl (c1, 4096, .inl f1)), (mo, .inr (5, [.int cd, .ref q1, .ref q2, .int z3, .int z4, .int z5, .int z6, .int (nI (List.length (ys ++ vint 9 (gq * 2 + 1) ++ (List.range j).map (Gb r w i) ++ [uv (nI (Gb r w i j % 2 ^ 8)) % 256]))), .int z8, .int z9, .ref q3, .ref q4, .ref q5])), (q5, .inl (c5, 24000, .inl u3))] := hD
            have hz : ys ++ vint 9 (gq * 2 + 1) ++ (List.range j).map (Gb r w i) ++ [uv (nI (Gb r w i j % 2 ^ 8)) % 256] = ys ++ vint 9 (gq * 2 + 1) ++ (List.range (j + 1)).map (Gb r w i) := by rw [Nat.mod_eq_of_lt (Gb_lt r w i j), uv_nI (Nat.lt_of_lt_of_le (Gb_lt r w i j) (by decide)), Nat.mod_eq_of_lt (Gb_lt r w i j), List.range_succ, List.map_append, List.append_assoc, List.append_assoc, List.append_assoc]; rfl
            rw [hz] at hP hD hu3
            refine lv_iinc (v := nI ((8 * j) + 8)) (lv' := [(7, .int (nI ((8 * j) + 8))), (0, .ref mo), (1, .ref q1), (2, .int (nI (List.length r))), (3, .int (nI w)), (4, .int (nI i)), (6, .int (nI gq)), (8, .int (nI (Gb r w i j % 2 ^ 8))), (9, .int (nI 8))]) hx hb dX5_writeRuns_204 hl (k := 6) rfl (ii_add (c := 8) (k := 8) (8 * j) (by decide)) (by decide) rfl (fun ls hl => ?_)
            refine lv_goto (tgt := 127) hx hb dX5_writeRuns_207 (by decide) ?_
            have hl := (show lv_has ls 11 [(7, .int (nI (8 * (j + 1)))), (0, .ref mo), (1, .ref q1), (2, .int (nI (List.length r))), (3, .int (nI w)), (4, .int (nI i)), (6, .int (nI gq)), (8, .int (nI (Gb r w i j % 2 ^ 8))), (9, .int (nI 8))] from hl)
            exact ihj (j + 1, u3) _ _ _ ⟨by omega, hu3, hP.sub [1, 0, 2] rfl, hD.sub [1, 0, 2] (by decide) rfl, hS, lv_sub hl [1, 2, 3, 4, 5, 6, 0] rfl⟩ (by show w * gq - (j + 1) < w * gq - j; omega)
          · rw [nI_leI (a := 8) (b := t) (by omega) (by omega)] at c_149
            have hdw : (8 * j + t) / w ≤ 8 * j + t := Nat.div_le_self _ _
            have hbit := Gb_bit hfit hw0 i j (t := t) (by omega)
            refine lv_iload hx hb dX5_writeRuns_152 (lv_at hl 4 rfl) ?_
            refine lv_iload hx hb dX5_writeRuns_154 (lv_at hl 6 rfl) ?_
            refine lv_iload hx hb dX5_writeRuns_156 (lv_at hl 8 rfl) ?_
            refine lv_iadd hx hb dX5_writeRuns_158 ?_
            refine tI_ (y := nI ((8 * j) + t)) (nI_add _ _) ?_
            refine lv_iload_n hx hb dX5_writeRuns_159 rfl (lv_at hl 3 rfl) ?_
            refine lv_idiv hx hb dX5_writeRuns_160 (nI_ne0 (by omega) (by omega)) ?_
            refine tI_ (y := nI (((8 * j) + t) / w)) (pk_div (by omega) (by omega) (by omega)) ?_
            refine lv_iadd hx hb dX5_writeRuns_161 ?_
            refine tI_ (y := nI (i + (((8 * j) + t) / w))) (nI_add _ _) ?_
            refine lv_istore (lv' := [(10, .int (nI (i + (((8 * j) + t) / w)))), (0, .ref mo), (1, .ref q1), (2, .int (nI (List.length r))), (3, .int (nI w)), (4, .int (nI i)), (6, .int (nI gq)), (7, .int (nI (8 * j))), (8, .int (nI (Gb r w i j % 2 ^ t))), (9, .int (nI t))]) hx hb dX5_writeRuns_162 hl (by decide) rfl (fun ls hl => ?_)
            refine lv_iload hx hb dX5_writeRuns_164 (lv_at hl 0 rfl) ?_
            refine lv_iload_n hx hb dX5_writeRuns_166 rfl (lv_at hl 3 rfl) ?_
            refine lv_icmp_ge (tgt := 192) hx hb dX5_writeRuns_167 (by decide) (fun c_167 => ?_) (fun c_167 => ?_)
            · rw [nI_leI (a := (List.length r)) (b := (i + (((8 * j) + t) / w))) (by omega) (by omega)] at c_167
              rw [gd_out (by omega)] at hbit
              have hst : Gb r w i j % 2 ^ t = Gb r w i j % 2 ^ (t + 1) := by rw [mod_step, hbit]; show _ = _ + 0 / _ % 2 * _; rw [Nat.zero_div]; show _ = _ + 0 * _; rw [Nat.zero_mul, Nat.add_zero]
              refine lv_iinc (v := nI (t + 1)) (lv' := [(9, .int (nI (t + 1))), (10, .int (nI (i + (((8 * j) + t) / w)))), (0, .ref mo), (1, .ref q1), (2, .int (nI (List.length r))), (3, .int (nI w)), (4, .int (nI i)), (6, .int (nI gq)), (7, .int (nI (8 * j))), (8, .int (nI (Gb r w i j % 2 ^ t)))]) hx hb dX5_writeRuns_192 hl (k := 9) rfl (ii_add (c := 1) (k := 1) t (by decide)) (by decide) rfl (fun ls hl => ?_)
              refine lv_goto (tgt := 145) hx hb dX5_writeRuns_195 (by decide) ?_
              rw [hst] at hl
              exact ih (t + 1) _ _ _ ⟨by omega, hP.sub [0, 1, 2] rfl, hD.sub [0, 1, 2] (by decide) rfl, hS, lv_sub hl [2, 3, 4, 5, 6, 7, 8, 9, 0] rfl⟩ (by show 8 - (t + 1) < 8 - t; omega)
            · rw [nI_leI (a := (List.length r)) (b := (i + (((8 * j) + t) / w))) (by omega) (by omega)] at c_167
              have hsm : (8 * j + t) % w < w := Nat.mod_lt _ hw0
              refine lv_iload hx hb dX5_writeRuns_170 (lv_at hl 8 rfl) ?_
              refine lv_aload_n hx hb dX5_writeRuns_172 rfl (lv_at hl 2 rfl) ?_
              refine lv_iload hx hb dX5_writeRuns_173 (lv_at hl 0 rfl) ?_
              refine va_iald hx hb hK hP 1 0 rfl rfl (vp_in_nI (by omega) (by omega)) dX5_writeRuns_175 ?_
              refine tI_ (y := f1 (i + (((8 * j) + t) / w))) (congrArg f1 (nI_clamp (by omega))) ?_
              refine lv_iload hx hb dX5_writeRuns_176 (lv_at hl 7 rfl) ?_
              refine lv_iload hx hb dX5_writeRuns_178 (lv_at hl 9 rfl) ?_
              refine lv_iadd hx hb dX5_writeRuns_180 ?_
              refine tI_ (y := nI ((8 * j) + t)) (nI_add _ _) ?_
              refine lv_iload_n hx hb dX5_writeRuns_181 rfl (lv_at hl 4 rfl) ?_
              refine lv_irem hx hb dX5_writeRuns_182 (nI_ne0 (by omega) (by omega)) ?_
              refine tI_ (y := nI (((8 * j) + t) % w)) (pk_rem (by omega) (by omega) (by omega)) ?_
              refine lv_iushr (v := sh (f1 (i + (((8 * j) + t) / w))) ((8 * j + t) % w)) hx hb dX5_writeRuns_183 (rfl) ?_
              refine lv_iconst (v := nI 1) hx hb dX5_writeRuns_184 (by decide) ?_
              refine lv_iand hx hb dX5_writeRuns_185 ?_
              refine tI_ (y := nI (Gb r w i j / 2 ^ t % 2)) (by rw [and1, uv_sh _ (by omega), hf _ (by omega), hbit]) ?_
              refine lv_iload hx hb dX5_writeRuns_186 (lv_at hl 9 rfl) ?_
              refine lv_ishl hx hb dX5_writeRuns_188 ?_
              refine tI_ (y := nI (Gb r w i j / 2 ^ t % 2 * 2 ^ t)) (shlN (by omega) (by have hb2 : Gb r w i j / 2 ^ t % 2 * 2 ^ t ≤ 1 * 2 ^ 8 := Nat.mul_le_mul (by omega) (Nat.pow_le_pow_right (by decide) (by omega)); omega)) ?_
              refine lv_ior hx hb dX5_writeRuns_189 ?_
              refine tI_ (y := nI (Gb r w i j % 2 ^ (t + 1))) (by rw [mod_step]; exact nI_orS (Nat.mod_lt _ (Nat.pow_pos (by decide)))) ?_
              refine lv_istore (lv' := [(8, .int (nI (Gb r w i j % 2 ^ (t + 1)))), (10, .int (nI (i + (((8 * j) + t) / w)))), (0, .ref mo), (1, .ref q1), (2, .int (nI (List.length r))), (3, .int (nI w)), (4, .int (nI i)), (6, .int (nI gq)), (7, .int (nI (8 * j))), (9, .int (nI t))]) hx hb dX5_writeRuns_190 hl (by decide) rfl (fun ls hl => ?_)
              refine lv_iinc (v := nI (t + 1)) (lv' := [(9, .int (nI (t + 1))), (8, .int (nI (Gb r w i j % 2 ^ (t + 1)))), (10, .int (nI (i + (((8 * j) + t) / w)))), (0, .ref mo), (1, .ref q1), (2, .int (nI (List.length r))), (3, .int (nI w)), (4, .int (nI i)), (6, .int (nI gq)), (7, .int (nI (8 * j)))]) hx hb dX5_writeRuns_192 hl (k := 9) rfl (ii_add (c := 1) (k := 1) t (by decide)) (by decide) rfl (fun ls hl => ?_)
              refine lv_goto (tgt := 145) hx hb dX5_writeRuns_195 (by decide) ?_
              exact ih (t + 1) _ _ _ ⟨by omega, hP.sub [0, 1, 2] rfl, hD.sub [0, 1, 2] (by decide) rfl, hS, lv_sub hl [3, 4, 5, 6, 7, 8, 9, 1, 0] rfl⟩ (by show 8 - (t + 1) < 8 - t; omega)
      · rw [nI_leI (a := (List.length r)) (b := (i + (8 * gq))) (by omega) (by omega)] at c_84
        refine lv_aload_n hx hb dX5_writeRuns_87 rfl (lv_at hl 1 rfl) ?_
        refine lv_iload hx hb dX5_writeRuns_88 (lv_at hl 4 rfl) ?_
        refine lv_bipush (v := nI 8) hx hb dX5_writeRuns_90 (by decide) ?_
        refine lv_iload hx hb dX5_writeRuns_92 (lv_at hl 5 rfl) ?_
        refine lv_imul hx hb dX5_writeRuns_94 ?_
        refine tI_ (y := nI (8 * gq)) (pk_mul _ _) ?_
        refine lv_iadd hx hb dX5_writeRuns_95 ?_
        refine tI_ (y := nI (i + (8 * gq))) (nI_add _ _) ?_
        refine lv_iload_n hx hb dX5_writeRuns_96 rfl (lv_at hl 2 rfl) ?_
        refine kret_i (wc := [(q1, .inl (c1, 4096, .inl f1))]) (wr := [(mo, .inr (5, [.int cd, .ref q1, .ref q2, .int z3, .int z4, .int z5, .int z6, .int (nI (List.length ys)), .int z8, .int z9, .ref q3, .ref q4, .ref q5])), (q5, .inl (c5, 24000, .inl u))]) (va_runS (As := [.ref q1, .int (nI (i + (8 * gq))), .int (nI (List.length r))]) (rest := []) ⟨hx, hb, hml, hown, hts⟩ (m_alike l dC dI _ q1 c1 f1 r (i + 8 * gq) hf hn (by omega)) (va_cwS 3 hts (gdS m_352 m_353 m_7 m_354) rfl rfl rfl (by decide +kernel) ⟨Nat.le_of_ble_eq_true rfl, Nat.le_of_ble_eq_true rfl⟩) (kpS hNs hK hP hD [1] [0] rfl rfl (by decide)) rfl rfl hl.1 rfl (lv_room (Nat.le_of_ble_eq_true rfl)) dX5_writeRuns_97 ⟨Nat.le_of_ble_eq_true rfl, Nat.le_of_ble_eq_true rfl⟩) hP hD hS hA [1] [0, 2] rfl rfl (by decide) (by decide) (fun y _ H locs hpo hK1 hP hD hS => ?_)
        have hy := hpo
        have hP : va_P (dC, dI) vwCl [(mo, .inr (5, [.int cd, .ref q1, .ref q2, .int z3, .int z4, .int z5, .int z6, .int (nI (List.length ys)), .int z8, .int z9, .ref q3, .ref q4, .ref q5])), (q5, .inl (c5, 24000, .inl u)), (q1, .inl (c1, 4096, .inl f1))] H := hP
        have hD : va_D A [(mo, .inr (5, [.int cd, .ref q1, .ref q2, .int z3, .int z4, .int z5, .int z6, .int (nI (List.length ys)), .int z8, .int z9, .ref q3, .ref q4, .ref q5])), (q5, .inl (c5, 24000, .inl u)), (q1, .inl (c1, 4096, .inl f1))] := hD
        subst hy
        have hsl2 := same_le r (i := i + 8 * gq) (by omega)
        refine lv_bipush (v := nI 8) hx hb dX5_writeRuns_100 (by decide) ?_
        refine lv_icmp_ge (tgt := 111) hx hb dX5_writeRuns_102 (by decide) (fun c_102 => ?_) (fun c_102 => ?_)
        · rw [nI_leI (a := 8) (b := (same r (i + 8 * gq))) (by omega) (by omega)] at c_102
          have hg : gf r i = gq := gf_of hgq (Or.inr (by omega))
          rw [wrF_grp hlt (by omega), ← List.append_assoc, hg] at hinv
          have hyl : (ys ++ wGrp r w i gq).length ≤ 16386 := by have h9 := congrArg List.length hinv; rw [List.length_append] at h9; omega
          rw [List.length_append] at hyl
          have hol : (wGrp r w i gq).length = (vint 9 (gq * 2 + 1)).length + gq * w := by unfold wGrp; rw [List.length_append, wgs_len]
          refine lv_aload_n hx hb dX5_writeRuns_111 rfl (lv_at hl 0 rfl) ?_
          refine lv_ldc2 (v := lN 2) hx hb hown (hts _ m_355) dX5_writeRuns_112 ?_
          refine lv_iload hx hb dX5_writeRuns_115 (lv_at hl 5 rfl) ?_
          refine lv_i2l (v := lN gq) hx hb dX5_writeRuns_117 (nI_l (by omega)) ?_
          refine lv_lmul hx hb dX5_writeRuns_118 ?_
          refine lv_lconst (v := lN 1) hx hb dX5_writeRuns_119 (by decide) ?_
          refine lv_ladd hx hb dX5_writeRuns_120 ?_
          refine tL_ (y := lN (gq * 2 + 1)) (by rw [lN_mul, lN_add, Nat.mul_comm]) ?_
          refine kret_v (wc := [(mo, .inr (5, [.int cd, .ref q1, .ref q2, .int z3, .int z4, .int z5, .int z6, .int (nI (List.length ys)), .int z8, .int z9, .ref q3, .ref q4, .ref q5])), (q5, .inl (c5, 24000, .inl u))]) (wr := [(q1, .inl (c1, 4096, .inl f1))]) (va_runV (As := [.long (lN (gq * 2 + 1))]) (rest := []) ⟨hx, hb, hml, hown, hts⟩ (m_putVarint l dC dI _ mo q1 q2 q3 q4 q5 cd z3 z4 z5 z6 z8 z9 c5 u ys (gq * 2 + 1) hu (by omega) (by omega)) (cwV 1 hts (gdV m_356 m_358 mp_12 m_7 m_359) rfl rfl rfl (by decide +kernel) ⟨Nat.le_of_ble_eq_true rfl, Nat.le_of_ble_eq_true rfl⟩) (kpV hNs hK hP hD [0, 1] [1] rfl rfl (by decide) (ci := 5) rfl rfl) rfl rfl hl.1 rfl (lv_room (Nat.le_of_ble_eq_true rfl)) dX5_writeRuns_121 ⟨Nat.le_of_ble_eq_true rfl, Nat.le_of_ble_eq_true rfl⟩) hP hD hS hA [0, 1] [2] rfl rfl (by decide) (by decide) (fun u1 H locs hpo hK1 hP hD hS => ?_)
          have hu1 := hpo
          have hP : va_P (dC, dI) vwCl [(q1, .inl (c1, 4096, .inl f1)), (mo, .inr (5, [.int cd, .ref q1, .ref q2, .int z3, .int z4, .int z5, .int z6, .int (nI (List.length (ys ++ vint 9 (gq * 2 + 1)))), .int z8, .int z9, .ref q3, .ref q4, .ref q5])), (q5, .inl (c5, 24000, .inl u1))] H := hP
          have hD : va_D A [(q1, .inl (c1, 4096, .inl f1)), (mo, .inr (5, [.int cd, .ref q1, .ref q2, .int z3, .int z4, .int z5, .int z6, .int (nI (List.length (ys ++ vint 9 (gq * 2 + 1)))), .int z8, .int z9, .ref q3, .ref q4, .ref q5])), (q5, .inl (c5, 24000, .inl u1))] := hD
          refine lv_iconst (v := nI 0) hx hb dX5_writeRuns_124 (by decide) ?_
          refine lv_istore (lv' := [(7, .int (nI 0)), (0, .ref mo), (1, .ref q1), (2, .int (nI (List.length r))), (3, .int (nI w)), (4, .int (nI i)), (6, .int (nI gq))]) hx hb dX5_writeRuns_125 hl (by decide) rfl (fun ls hl => ?_)
          have hz0 : ys ++ vint 9 (gq * 2 + 1) = ys ++ vint 9 (gq * 2 + 1) ++ (List.range 0).map (Gb r w i) := by simp
          rw [hz0] at hP hD hu1
          have hl := (show lv_has ls 11 [(7, .int (nI (8 * 0))), (0, .ref mo), (1, .ref q1), (2, .int (nI (List.length r))), (3, .int (nI w)), (4, .int (nI i)), (6, .int (nI gq))] from hl)
          have hwg : w * gq ≤ 32 * 513 := Nat.mul_le_mul hw32 (by omega)
          have hA8 : 8 * w * gq = 8 * (w * gq) := Nat.mul_assoc 8 w gq
          have hwg2 : gq * w = w * gq := Nat.mul_comm gq w
          refine k_loop (σ := Nat × (Nat → Int32)) (fun (z : Nat × (Nat → Int32)) H locs ls => match z with
                | (j, u2) => j ≤ w * gq ∧ mB u2 (ys ++ vint 9 (gq * 2 + 1) ++ (List.range j).map (Gb r w i)) ∧ va_P (dC, dI) vwCl [(mo, .inr (5, [.int cd, .ref q1, .ref q2, .int z3, .int z4, .int z5, .int z6, .int (nI (List.length (ys ++ vint 9 (gq * 2 + 1) ++ (List.range j).map (Gb r w i)))), .int z8, .int z9, .ref q3, .ref q4, .ref q5])), (q1, .inl (c1, 4096, .inl f1)), (q5, .inl (c5, 24000, .inl u2))] H ∧ va_D A [(mo, .inr (5, [.int cd, .ref q1, .ref q2, .int z3, .int z4, .int z5, .int z6, .int (nI (List.length (ys ++ vint 9 (gq * 2 + 1) ++ (List.range j).map (Gb r w i)))), .int z8, .int z9, .ref q3, .ref q4, .ref q5])), (q1, .inl (c1, 4096, .inl f1)), (q5, .inl (c5, 24000, .inl u2))] ∧ va_S A s.heap H locs ∧ lv_has ls 11 [(0, .ref mo), (1, .ref q1), (2, .int (nI (List.length r))), (3, .int (nI w)), (4, .int (nI i)), (6, .int (nI gq)), (7, .int (nI (8 * j)))]) (fun z => match z with
                | (j, u2) => w * gq - j) ?_ ((0, u1)) _ _ _ ⟨Nat.zero_le _, hu1, hP.sub [1, 0, 2] rfl, hD.sub [1, 0, 2] (by decide) rfl, hS, lv_sub hl [1, 2, 3, 4, 5, 6, 0] rfl⟩
          intro z H locs ls hI ih
          obtain ⟨j, u2⟩ := z
          obtain ⟨hj, hu2, hP, hD, hS, hl⟩ := hI
          refine lv_iload hx hb dX5_writeRuns_127 (lv_at hl 6 rfl) ?_
          refine lv_bipush (v := nI 8) hx hb dX5_writeRuns_129 (by decide) ?_
          refine lv_iload_n hx hb dX5_writeRuns_131 rfl (lv_at hl 3 rfl) ?_
          refine lv_imul hx hb dX5_writeRuns_132 ?_
          refine tI_ (y := nI (8 * w)) (pk_mul _ _) ?_
          refine lv_iload hx hb dX5_writeRuns_133 (lv_at hl 5 rfl) ?_
          refine lv_imul hx hb dX5_writeRuns_135 ?_
          refine tI_ (y := nI ((8 * w) * gq)) (pk_mul _ _) ?_
          refine lv_icmp_ge (tgt := 210) hx hb dX5_writeRuns_136 (by decide) (fun c_136 => ?_) (fun c_136 => ?_)
          · rw [nI_leI (a := ((8 * w) * gq)) (b := (8 * j)) (by omega) (by omega)] at c_136
            obtain rfl : j = w * gq := by omega
            have hz : ys ++ vint 9 (gq * 2 + 1) ++ (List.range (w * gq)).map (Gb r w i) = ys ++ wGrp r w i gq := by unfold wGrp; rw [wgs_Gb, List.append_assoc]
            rw [hz] at hP hD hu2
            refine lv_iload hx hb dX5_writeRuns_210 (lv_at hl 4 rfl) ?_
            refine lv_bipush (v := nI 8) hx hb dX5_writeRuns_212 (by decide) ?_
            refine lv_iload hx hb dX5_writeRuns_214 (lv_at hl 5 rfl) ?_
            refine lv_imul hx hb dX5_writeRuns_216 ?_
            refine tI_ (y := nI (8 * gq)) (pk_mul _ _) ?_
            refine lv_iadd hx hb dX5_writeRuns_217 ?_
            refine tI_ (y := nI (i + (8 * gq))) (nI_add _ _) ?_
            refine lv_istore (lv' := [(4, .int (nI (i + (8 * gq)))), (0, .ref mo), (1, .ref q1), (2, .int (nI (List.length r))), (3, .int (nI w)), (6, .int (nI gq)), (7, .int (nI (8 * (w * gq))))]) hx hb dX5_writeRuns_218 hl (by decide) rfl (fun ls hl => ?_)
            refine lv_goto (tgt := 3) hx hb dX5_writeRuns_220 (by decide) ?_
            exact ihk (i + 8 * gq, m1, u2, ys ++ wGrp r w i gq) _ _ _ ⟨by omega, by omega, hu2, by rw [hinv, Nat.mul_comm gq 8], hP.sub [0, 1, 2] rfl, hD.sub [0, 1, 2] (by decide) rfl, hS, lv_sub hl [1, 2, 3, 4, 0] rfl⟩ (by show r.length + 8 - (i + 8 * gq) < r.length + 8 - i; omega)
          · rw [nI_leI (a := ((8 * w) * gq)) (b := (8 * j)) (by omega) (by omega)] at c_136
            have hjl : j < w * gq := by omega
            have hw0 : 0 < w := by
              rcases Nat.eq_zero_or_pos w with h0 | h0
              · rw [h0, Nat.zero_mul] at hjl; exact absurd hjl (Nat.not_lt_zero _)
              · exact h0
            have ihj := ih
            clear ih
            refine lv_iconst (v := nI 0) hx hb dX5_writeRuns_139 (by decide) ?_
            refine lv_istore (lv' := [(8, .int (nI 0)), (0, .ref mo), (1, .ref q1), (2, .int (nI (List.length r))), (3, .int (nI w)), (4, .int (nI i)), (6, .int (nI gq)), (7, .int (nI (8 * j)))]) hx hb dX5_writeRuns_140 hl (by decide) rfl (fun ls hl => ?_)
            refine lv_iconst (v := nI 0) hx hb dX5_writeRuns_142 (by decide) ?_
            refine lv_istore (lv' := [(9, .int (nI 0)), (8, .int (nI 0)), (0, .ref mo), (1, .ref q1), (2, .int (nI (List.length r))), (3, .int (nI w)), (4, .int (nI i)), (6, .int (nI gq)), (7, .int (nI (8 * j)))]) hx hb dX5_writeRuns_143 hl (by decide) rfl (fun ls hl => ?_)
            have hl := (show lv_has ls 11 [(9, .int (nI 0)), (8, .int (nI (Gb r w i j % 2 ^ 0))), (0, .ref mo), (1, .ref q1), (2, .int (nI (List.length r))), (3, .int (nI w)), (4, .int (nI i)), (6, .int (nI gq)), (7, .int (nI (8 * j)))] from (by rw [show Gb r w i j % 2 ^ 0 = 0 from Nat.mod_one _]; exact hl))
            refine k_loop (σ := Nat) (fun (z : Nat) H locs ls => match z with
                  | t => t ≤ 8 ∧ va_P (dC, dI) vwCl [(mo, .inr (5, [.int cd, .ref q1, .ref q2, .int z3, .int z4, .int z5, .int z6, .int (nI (List.length (ys ++ vint 9 (gq * 2 + 1) ++ (List.range j).map (Gb r w i)))), .int z8, .int z9, .ref q3, .ref q4, .ref q5])), (q1, .inl (c1, 4096, .inl f1)), (q5, .inl (c5, 24000, .inl u2))] H ∧ va_D A [(mo, .inr (5, [.int cd, .ref q1, .ref q2, .int z3, .int z4, .int z5, .int z6, .int (nI (List.length (ys ++ vint 9 (gq * 2 + 1) ++ (List.range j).map (Gb r w i)))), .int z8, .int z9, .ref q3, .ref q4, .ref q5])), (q1, .inl (c1, 4096, .inl f1)), (q5, .inl (c5, 24000, .inl u2))] ∧ va_S A s.heap H locs ∧ lv_has ls 11 [(0, .ref mo), (1, .ref q1), (2, .int (nI (List.length r))), (3, .int (nI w)), (4, .int (nI i)), (6, .int (nI gq)), (7, .int (nI (8 * j))), (8, .int (nI (Gb r w i j % 2 ^ t))), (9, .int (nI t))]) (fun z => match z with
                  | t => 8 - t) ?_ (0) _ _ _ ⟨Nat.zero_le _, hP.sub [0, 1, 2] rfl, hD.sub [0, 1, 2] (by decide) rfl, hS, lv_sub hl [2, 3, 4, 5, 6, 7, 8, 1, 0] rfl⟩
            intro z H locs ls hI ih
            obtain ⟨t, rfl⟩ : ∃ y, y = z := ⟨_, rfl⟩
            obtain ⟨ht8, hP, hD, hS, hl⟩ := hI
            refine lv_iload hx hb dX5_writeRuns_145 (lv_at hl 8 rfl) ?_
            refine lv_bipush (v := nI 8) hx hb dX5_writeRuns_147 (by decide) ?_
            refine lv_icmp_ge (tgt := 198) hx hb dX5_writeRuns_149 (by decide) (fun c_149 => ?_) (fun c_149 => ?_)
            · rw [nI_leI (a := 8) (b := t) (by omega) (by omega)] at c_149
              obtain rfl : t = 8 := by omega
              refine lv_aload_n hx hb dX5_writeRuns_198 rfl (lv_at hl 0 rfl) ?_
              refine lv_iload hx hb dX5_writeRuns_199 (lv_at hl 7 rfl) ?_
              have hll : (ys ++ vint 9 (gq * 2 + 1) ++ (List.range j).map (Gb r w i)).length = ys.length + (vint 9 (gq * 2 + 1)).length + j := by rw [List.length_append, List.length_append, List.length_map, List.length_range]
              refine kret_v (wc := [(mo, .inr (5, [.int cd, .ref q1, .ref q2, .int z3, .int z4, .int z5, .int z6, .int (nI (List.length (ys ++ vint 9 (gq * 2 + 1) ++ (List.range j).map (Gb r w i)))), .int z8, .int z9, .ref q3, .ref q4, .ref q5])), (q5, .inl (c5, 24000, .inl u2))]) (wr := [(q1, .inl (c1, 4096, .inl f1))]) (va_runV (As := [.int (nI (Gb r w i j % 2 ^ 8))]) (rest := []) ⟨hx, hb, hml, hown, hts⟩ (m_put l dC dI _ mo q1 q2 q3 q4 q5 cd z3 z4 z5 z6 z8 z9 c5 u2 (ys ++ vint 9 (gq * 2 + 1) ++ (List.range j).map (Gb r w i)) (nI (Gb r w i j % 2 ^ 8)) hu2 (by omega)) (cwV 1 hts (gdV m_361 m_363 mp_13 m_7 m_364) rfl rfl rfl (by decide +kernel) ⟨Nat.le_of_ble_eq_true rfl, Nat.le_of_ble_eq_true rfl⟩) (kpV hNs hK hP hD [0, 2] [1] rfl rfl (by decide) (ci := 5) rfl rfl) rfl rfl hl.1 rfl (lv_room (Nat.le_of_ble_eq_true rfl)) dX5_writeRuns_201 ⟨Nat.le_of_ble_eq_true rfl, Nat.le_of_ble_eq_true rfl⟩) hP hD hS hA [0, 2] [1] rfl rfl (by decide) (by decide) (fun u3 H locs hpo hK1 hP hD hS => ?_)
              have hu3 := hpo
              have hP : va_P (dC, dI) vwCl [(q1, .inl (c1, 4096, .inl f1)), (mo, .inr (5, [.int cd, .ref q1, .ref q2, .int z3, .int z4, .int z5, .int z6, .int (nI (List.length (ys ++ vint 9 (gq * 2 + 1) ++ (List.range j).map (Gb r w i) ++ [uv (nI (Gb r w i j % 2 ^ 8)) % 256]))), .int z8, .int z9, .ref q3, .ref q4, .ref q5])), (q5, .inl (c5, 24000, .inl u3))] H := hP
              have hD : va_D A [(q1, .inl (c1, 4096, .inl f1)), (mo, .inr (5, [.int cd, .ref q1, .ref q2, .int z3, .int z4, .int z5, .int z6, .int (nI (List.length (ys ++ vint 9 (gq * 2 + 1) ++ (List.range j).map (Gb r w i) ++ [uv (nI (Gb r w i j % 2 ^ 8)) % 256]))), .int z8, .int z9, .ref q3, .ref q4, .ref q5])), (q5, .inl (c5, 24000, .inl u3))] := hD
              have hz : ys ++ vint 9 (gq * 2 + 1) ++ (List.range j).map (Gb r w i) ++ [uv (nI (Gb r w i j % 2 ^ 8)) % 256] = ys ++ vint 9 (gq * 2 + 1) ++ (List.range (j + 1)).map (Gb r w i) := by rw [Nat.mod_eq_of_lt (Gb_lt r w i j), uv_nI (Nat.lt_of_lt_of_le (Gb_lt r w i j) (by decide)), Nat.mod_eq_of_lt (Gb_lt r w i j), List.range_succ, List.map_append, List.append_assoc, List.append_assoc, List.append_assoc]; rfl
              rw [hz] at hP hD hu3
              refine lv_iinc (v := nI ((8 * j) + 8)) (lv' := [(7, .int (nI ((8 * j) + 8))), (0, .ref mo), (1, .ref q1), (2, .int (nI (List.length r))), (3, .int (nI w)), (4, .int (nI i)), (6, .int (nI gq)), (8, .int (nI (Gb r w i j % 2 ^ 8))), (9, .int (nI 8))]) hx hb dX5_writeRuns_204 hl (k := 6) rfl (ii_add (c := 8) (k := 8) (8 * j) (by decide)) (by decide) rfl (fun ls hl => ?_)
              refine lv_goto (tgt := 127) hx hb dX5_writeRuns_207 (by decide) ?_
              have hl := (show lv_has ls 11 [(7, .int (nI (8 * (j + 1)))), (0, .ref mo), (1, .ref q1), (2, .int (nI (List.length r))), (3, .int (nI w)), (4, .int (nI i)), (6, .int (nI gq)), (8, .int (nI (Gb r w i j % 2 ^ 8))), (9, .int (nI 8))] from hl)
              exact ihj (j + 1, u3) _ _ _ ⟨by omega, hu3, hP.sub [1, 0, 2] rfl, hD.sub [1, 0, 2] (by decide) rfl, hS, lv_sub hl [1, 2, 3, 4, 5, 6, 0] rfl⟩ (by show w * gq - (j + 1) < w * gq - j; omega)
            · rw [nI_leI (a := 8) (b := t) (by omega) (by omega)] at c_149
              have hdw : (8 * j + t) / w ≤ 8 * j + t := Nat.div_le_self _ _
              have hbit := Gb_bit hfit hw0 i j (t := t) (by omega)
              refine lv_iload hx hb dX5_writeRuns_152 (lv_at hl 4 rfl) ?_
              refine lv_iload hx hb dX5_writeRuns_154 (lv_at hl 6 rfl) ?_
              refine lv_iload hx hb dX5_writeRuns_156 (lv_at hl 8 rfl) ?_
              refine lv_iadd hx hb dX5_writeRuns_158 ?_
              refine tI_ (y := nI ((8 * j) + t)) (nI_add _ _) ?_
              refine lv_iload_n hx hb dX5_writeRuns_159 rfl (lv_at hl 3 rfl) ?_
              refine lv_idiv hx hb dX5_writeRuns_160 (nI_ne0 (by omega) (by omega)) ?_
              refine tI_ (y := nI (((8 * j) + t) / w)) (pk_div (by omega) (by omega) (by omega)) ?_
              refine lv_iadd hx hb dX5_writeRuns_161 ?_
              refine tI_ (y := nI (i + (((8 * j) + t) / w))) (nI_add _ _) ?_
              refine lv_istore (lv' := [(10, .int (nI (i + (((8 * j) + t) / w)))), (0, .ref mo), (1, .ref q1), (2, .int (nI (List.length r))), (3, .int (nI w)), (4, .int (nI i)), (6, .int (nI gq)), (7, .int (nI (8 * j))), (8, .int (nI (Gb r w i j % 2 ^ t))), (9, .int (nI t))]) hx hb dX5_writeRuns_162 hl (by decide) rfl (fun ls hl => ?_)
              refine lv_iload hx hb dX5_writeRuns_164 (lv_at hl 0 rfl) ?_
              refine lv_iload_n hx hb dX5_writeRuns_166 rfl (lv_at hl 3 rfl) ?_
              refine lv_icmp_ge (tgt := 192) hx hb dX5_writeRuns_167 (by decide) (fun c_167 => ?_) (fun c_167 => ?_)
              · rw [nI_leI (a := (List.length r)) (b := (i + (((8 * j) + t) / w))) (by omega) (by omega)] at c_167
                rw [gd_out (by omega)] at hbit
                have hst : Gb r w i j % 2 ^ t = Gb r w i j % 2 ^ (t + 1) := by rw [mod_step, hbit]; show _ = _ + 0 / _ % 2 * _; rw [Nat.zero_div]; show _ = _ + 0 * _; rw [Nat.zero_mul, Nat.add_zero]
                refine lv_iinc (v := nI (t + 1)) (lv' := [(9, .int (nI (t + 1))), (10, .int (nI (i + (((8 * j) + t) / w)))), (0, .ref mo), (1, .ref q1), (2, .int (nI (List.length r))), (3, .int (nI w)), (4, .int (nI i)), (6, .int (nI gq)), (7, .int (nI (8 * j))), (8, .int (nI (Gb r w i j % 2 ^ t)))]) hx hb dX5_writeRuns_192 hl (k := 9) rfl (ii_add (c := 1) (k := 1) t (by decide)) (by decide) rfl (fun ls hl => ?_)
                refine lv_goto (tgt := 145) hx hb dX5_writeRuns_195 (by decide) ?_
                rw [hst] at hl
                exact ih (t + 1) _ _ _ ⟨by omega, hP.sub [0, 1, 2] rfl, hD.sub [0, 1, 2] (by decide) rfl, hS, lv_sub hl [2, 3, 4, 5, 6, 7, 8, 9, 0] rfl⟩ (by show 8 - (t + 1) < 8 - t; omega)
              · rw [nI_leI (a := (List.length r)) (b := (i + (((8 * j) + t) / w))) (by omega) (by omega)] at c_167
                have hsm : (8 * j + t) % w < w := Nat.mod_lt _ hw0
                refine lv_iload hx hb dX5_writeRuns_170 (lv_at hl 8 rfl) ?_
                refine lv_aload_n hx hb dX5_writeRuns_172 rfl (lv_at hl 2 rfl) ?_
                refine lv_iload hx hb dX5_writeRuns_173 (lv_at hl 0 rfl) ?_
                refine va_iald hx hb hK hP 1 0 rfl rfl (vp_in_nI (by omega) (by omega)) dX5_writeRuns_175 ?_
                refine tI_ (y := f1 (i + (((8 * j) + t) / w))) (congrArg f1 (nI_clamp (by omega))) ?_
                refine lv_iload hx hb dX5_writeRuns_176 (lv_at hl 7 rfl) ?_
                refine lv_iload hx hb dX5_writeRuns_178 (lv_at hl 9 rfl) ?_
                refine lv_iadd hx hb dX5_writeRuns_180 ?_
                refine tI_ (y := nI ((8 * j) + t)) (nI_add _ _) ?_
                refine lv_iload_n hx hb dX5_writeRuns_181 rfl (lv_at hl 4 rfl) ?_
                refine lv_irem hx hb dX5_writeRuns_182 (nI_ne0 (by omega) (by omega)) ?_
                refine tI_ (y := nI (((8 * j) + t) % w)) (pk_rem (by omega) (by omega) (by omega)) ?_
                refine lv_iushr (v := sh (f1 (i + (((8 * j) + t) / w))) ((8 * j + t) % w)) hx hb dX5_writeRuns_183 (rfl) ?_
                refine lv_iconst (v := nI 1) hx hb dX5_writeRuns_184 (by decide) ?_
                refine lv_iand hx hb dX5_writeRuns_185 ?_
                refine tI_ (y := nI (Gb r w i j / 2 ^ t % 2)) (by rw [and1, uv_sh _ (by omega), hf _ (by omega), hbit]) ?_
                refine lv_iload hx hb dX5_writeRuns_186 (lv_at hl 9 rfl) ?_
                refine lv_ishl hx hb dX5_writeRuns_188 ?_
                refine tI_ (y := nI (Gb r w i j / 2 ^ t % 2 * 2 ^ t)) (shlN (by omega) (by have hb2 : Gb r w i j / 2 ^ t % 2 * 2 ^ t ≤ 1 * 2 ^ 8 := Nat.mul_le_mul (by omega) (Nat.pow_le_pow_right (by decide) (by omega)); omega)) ?_
                refine lv_ior hx hb dX5_writeRuns_189 ?_
                refine tI_ (y := nI (Gb r w i j % 2 ^ (t + 1))) (by rw [mod_step]; exact nI_orS (Nat.mod_lt _ (Nat.pow_pos (by decide)))) ?_
                refine lv_istore (lv' := [(8, .int (nI (Gb r w i j % 2 ^ (t + 1)))), (10, .int (nI (i + (((8 * j) + t) / w)))), (0, .ref mo), (1, .ref q1), (2, .int (nI (List.length r))), (3, .int (nI w)), (4, .int (nI i)), (6, .int (nI gq)), (7, .int (nI (8 * j))), (9, .int (nI t))]) hx hb dX5_writeRuns_190 hl (by decide) rfl (fun ls hl => ?_)
                refine lv_iinc (v := nI (t + 1)) (lv' := [(9, .int (nI (t + 1))), (8, .int (nI (Gb r w i j % 2 ^ (t + 1)))), (10, .int (nI (i + (((8 * j) + t) / w)))), (0, .ref mo), (1, .ref q1), (2, .int (nI (List.length r))), (3, .int (nI w)), (4, .int (nI i)), (6, .int (nI gq)), (7, .int (nI (8 * j)))]) hx hb dX5_writeRuns_192 hl (k := 9) rfl (ii_add (c := 1) (k := 1) t (by decide)) (by decide) rfl (fun ls hl => ?_)
                refine lv_goto (tgt := 145) hx hb dX5_writeRuns_195 (by decide) ?_
                exact ih (t + 1) _ _ _ ⟨by omega, hP.sub [0, 1, 2] rfl, hD.sub [0, 1, 2] (by decide) rfl, hS, lv_sub hl [3, 4, 5, 6, 7, 8, 9, 1, 0] rfl⟩ (by show 8 - (t + 1) < 8 - t; omega)
        · rw [nI_leI (a := 8) (b := (same r (i + 8 * gq))) (by omega) (by omega)] at c_102
          refine lv_iinc (v := nI (gq + 1)) (lv' := [(6, .int (nI (gq + 1))), (0, .ref mo), (1, .ref q1), (2, .int (nI (List.length r))), (3, .int (nI w)), (4, .int (nI i))]) hx hb dX5_writeRuns_105 hl (k := 5) rfl (ii_add (c := 1) (k := 1) gq (by decide)) (by decide) rfl (fun ls hl => ?_)
          refine lv_goto (tgt := 75) hx hb dX5_writeRuns_108 (by decide) ?_
          exact ih (gq + 1) _ _ _ ⟨by omega, by omega, fun q hq => by
            by_cases hqd : q = gq
            · subst hqd; exact ⟨by omega, by omega⟩
            · exact hgq q (by omega), hP.sub [0, 2, 1] rfl, hD.sub [0, 2, 1] (by decide) rfl, hS, lv_sub hl [1, 2, 3, 4, 5, 0] rfl⟩ (by show r.length + 8 - (i + 8 * (gq + 1)) < r.length + 8 - (i + 8 * gq); omega)
    · rw [nI_ltI (a := (same r i)) (b := 8) (by omega) (by omega)] at c_22
      rw [wrF_one hlt (by omega), ← List.append_assoc] at hinv
      have hyl : (ys ++ wOne (r.getD i 0) (same r i) w).length ≤ 16386 := by have h9 := congrArg List.length hinv; rw [List.length_append] at h9; omega
      rw [List.length_append] at hyl
      have hol : (wOne (r.getD i 0) (same r i) w).length = (vint 9 (same r i * 2)).length + (w + 7) / 8 := by unfold wOne; rw [List.length_append, leb_len]
      refine lv_aload_n hx hb dX5_writeRuns_25 rfl (lv_at hl 1 rfl) ?_
      refine lv_ldc2 (v := lN 2) hx hb hown (hts _ m_355) dX5_writeRuns_26 ?_
      refine lv_iload hx hb dX5_writeRuns_29 (lv_at hl 0 rfl) ?_
      refine lv_i2l (v := lN (same r i)) hx hb dX5_writeRuns_31 (nI_l (by omega)) ?_
      refine lv_lmul hx hb dX5_writeRuns_32 ?_
      refine tL_ (y := lN (same r i * 2)) (by rw [lN_mul, Nat.mul_comm]) ?_
      refine kret_v (wc := [(mo, .inr (5, [.int cd, .ref q1, .ref q2, .int z3, .int z4, .int z5, .int z6, .int (nI (List.length ys)), .int z8, .int z9, .ref q3, .ref q4, .ref q5])), (q5, .inl (c5, 24000, .inl u))]) (wr := [(q1, .inl (c1, 4096, .inl f1))]) (va_runV (As := [.long (lN (same r i * 2))]) (rest := []) ⟨hx, hb, hml, hown, hts⟩ (m_putVarint l dC dI _ mo q1 q2 q3 q4 q5 cd z3 z4 z5 z6 z8 z9 c5 u ys (same r i * 2) hu (by omega) (by omega)) (cwV 1 hts (gdV m_356 m_358 mp_12 m_7 m_359) rfl rfl rfl (by decide +kernel) ⟨Nat.le_of_ble_eq_true rfl, Nat.le_of_ble_eq_true rfl⟩) (kpV hNs hK hP hD [0, 1] [1] rfl rfl (by decide) (ci := 5) rfl rfl) rfl rfl hl.1 rfl (lv_room (Nat.le_of_ble_eq_true rfl)) dX5_writeRuns_33 ⟨Nat.le_of_ble_eq_true rfl, Nat.le_of_ble_eq_true rfl⟩) hP hD hS hA [0, 1] [2] rfl rfl (by decide) (by decide) (fun u1 H locs hpo hK1 hP hD hS => ?_)
      have hu1 := hpo
      have hP : va_P (dC, dI) vwCl [(q1, .inl (c1, 4096, .inl f1)), (mo, .inr (5, [.int cd, .ref q1, .ref q2, .int z3, .int z4, .int z5, .int z6, .int (nI (List.length (ys ++ vint 9 (same r i * 2)))), .int z8, .int z9, .ref q3, .ref q4, .ref q5])), (q5, .inl (c5, 24000, .inl u1))] H := hP
      have hD : va_D A [(q1, .inl (c1, 4096, .inl f1)), (mo, .inr (5, [.int cd, .ref q1, .ref q2, .int z3, .int z4, .int z5, .int z6, .int (nI (List.length (ys ++ vint 9 (same r i * 2)))), .int z8, .int z9, .ref q3, .ref q4, .ref q5])), (q5, .inl (c5, 24000, .inl u1))] := hD
      refine lv_iconst (v := nI 0) hx hb dX5_writeRuns_36 (by decide) ?_
      refine lv_istore (lv' := [(6, .int (nI 0)), (5, .int (nI (same r i))), (0, .ref mo), (1, .ref q1), (2, .int (nI (List.length r))), (3, .int (nI w)), (4, .int (nI i))]) hx hb dX5_writeRuns_37 hl (by decide) rfl (fun ls hl => ?_)
      have hz0 : ys ++ vint 9 (same r i * 2) = ys ++ vint 9 (same r i * 2) ++ leb (uv (r.getD i 0)) 0 := by rw [leb_zero, List.append_nil]
      rw [hz0] at hP hD hu1
      have hl := (show lv_has ls 11 [(6, .int (nI (8 * 0))), (5, .int (nI (same r i))), (0, .ref mo), (1, .ref q1), (2, .int (nI (List.length r))), (3, .int (nI w)), (4, .int (nI i))] from hl)
      refine k_loop (σ := Nat × (Nat → Int32)) (fun (z : Nat × (Nat → Int32)) H locs ls => match z with
            | (d, u2) => d ≤ (w + 7) / 8 ∧ mB u2 (ys ++ vint 9 (same r i * 2) ++ leb (uv (r.getD i 0)) d) ∧ va_P (dC, dI) vwCl [(mo, .inr (5, [.int cd, .ref q1, .ref q2, .int z3, .int z4, .int z5, .int z6, .int (nI (List.length (ys ++ vint 9 (same r i * 2) ++ leb (uv (r.getD i 0)) d))), .int z8, .int z9, .ref q3, .ref q4, .ref q5])), (q1, .inl (c1, 4096, .inl f1)), (q5, .inl (c5, 24000, .inl u2))] H ∧ va_D A [(mo, .inr (5, [.int cd, .ref q1, .ref q2, .int z3, .int z4, .int z5, .int z6, .int (nI (List.length (ys ++ vint 9 (same r i * 2) ++ leb (uv (r.getD i 0)) d))), .int z8, .int z9, .ref q3, .ref q4, .ref q5])), (q1, .inl (c1, 4096, .inl f1)), (q5, .inl (c5, 24000, .inl u2))] ∧ va_S A s.heap H locs ∧ lv_has ls 11 [(0, .ref mo), (1, .ref q1), (2, .int (nI (List.length r))), (3, .int (nI w)), (4, .int (nI i)), (5, .int (nI (same r i))), (6, .int (nI (8 * d)))]) (fun z => match z with
            | (d, u2) => (w + 7) / 8 - d) ?_ ((0, u1)) _ _ _ ⟨Nat.zero_le _, hu1, hP.sub [1, 0, 2] rfl, hD.sub [1, 0, 2] (by decide) rfl, hS, lv_sub hl [2, 3, 4, 5, 6, 1, 0] rfl⟩
      intro z H locs ls hI ih
      obtain ⟨d, u2⟩ := z
      obtain ⟨hd, hu2, hP, hD, hS, hl⟩ := hI
      refine lv_iload hx hb dX5_writeRuns_39 (lv_at hl 6 rfl) ?_
      refine lv_iload_n hx hb dX5_writeRuns_41 rfl (lv_at hl 3 rfl) ?_
      refine lv_icmp_ge (tgt := 62) hx hb dX5_writeRuns_42 (by decide) (fun c_42 => ?_) (fun c_42 => ?_)
      · rw [nI_leI (a := w) (b := (8 * d)) (by omega) (by omega)] at c_42
        obtain rfl : d = (w + 7) / 8 := by omega
        have hz : ys ++ vint 9 (same r i * 2) ++ leb (uv (r.getD i 0)) ((w + 7) / 8) = ys ++ wOne (r.getD i 0) (same r i) w := by unfold wOne; rw [List.append_assoc]
        rw [hz] at hP hD hu2
        refine lv_iload hx hb dX5_writeRuns_62 (lv_at hl 4 rfl) ?_
        refine lv_iload hx hb dX5_writeRuns_64 (lv_at hl 5 rfl) ?_
        refine lv_iadd hx hb dX5_writeRuns_66 ?_
        refine tI_ (y := nI (i + (same r i))) (nI_add _ _) ?_
        refine lv_istore (lv' := [(4, .int (nI (i + (same r i)))), (0, .ref mo), (1, .ref q1), (2, .int (nI (List.length r))), (3, .int (nI w)), (5, .int (nI (same r i))), (6, .int (nI (8 * ((w + 7) / 8))))]) hx hb dX5_writeRuns_67 hl (by decide) rfl (fun ls hl => ?_)
        refine lv_goto (tgt := 3) hx hb dX5_writeRuns_69 (by decide) ?_
        exact ihk (i + same r i, m1, u2, ys ++ wOne (r.getD i 0) (same r i) w) _ _ _ ⟨by omega, by omega, hu2, hinv, hP.sub [0, 1, 2] rfl, hD.sub [0, 1, 2] (by decide) rfl, hS, lv_sub hl [1, 2, 3, 4, 0] rfl⟩ (by show r.length + 8 - (i + same r i) < r.length + 8 - i; omega)
      · rw [nI_leI (a := w) (b := (8 * d)) (by omega) (by omega)] at c_42
        refine lv_aload_n hx hb dX5_writeRuns_45 rfl (lv_at hl 0 rfl) ?_
        refine lv_aload_n hx hb dX5_writeRuns_46 rfl (lv_at hl 1 rfl) ?_
        refine lv_iload hx hb dX5_writeRuns_47 (lv_at hl 4 rfl) ?_
        refine va_iald hx hb hK hP 1 0 rfl rfl (vp_in_nI (by omega) (by omega)) dX5_writeRuns_49 ?_
        refine tI_ (y := f1 i) (congrArg f1 (nI_clamp (by omega))) ?_
        refine lv_iload hx hb dX5_writeRuns_50 (lv_at hl 6 rfl) ?_
        refine lv_ishr hx hb dX5_writeRuns_52 ?_
        have hll : (ys ++ vint 9 (same r i * 2) ++ leb (uv (r.getD i 0)) d).length = ys.length + (vint 9 (same r i * 2)).length + d := by rw [List.length_append, List.length_append, leb_len]
        refine kret_v (wc := [(mo, .inr (5, [.int cd, .ref q1, .ref q2, .int z3, .int z4, .int z5, .int z6, .int (nI (List.length (ys ++ vint 9 (same r i * 2) ++ leb (uv (r.getD i 0)) d))), .int z8, .int z9, .ref q3, .ref q4, .ref q5])), (q5, .inl (c5, 24000, .inl u2))]) (wr := [(q1, .inl (c1, 4096, .inl f1))]) (va_runV (As := [.int ((f1 i) >>> ((nI (8 * d)) &&& 31))]) (rest := []) ⟨hx, hb, hml, hown, hts⟩ (m_put l dC dI _ mo q1 q2 q3 q4 q5 cd z3 z4 z5 z6 z8 z9 c5 u2 (ys ++ vint 9 (same r i * 2) ++ leb (uv (r.getD i 0)) d) ((f1 i) >>> (nI (8 * d) &&& 31)) hu2 (by omega)) (cwV 1 hts (gdV m_361 m_363 mp_13 m_7 m_364) rfl rfl rfl (by decide +kernel) ⟨Nat.le_of_ble_eq_true rfl, Nat.le_of_ble_eq_true rfl⟩) (kpV hNs hK hP hD [0, 2] [1] rfl rfl (by decide) (ci := 5) rfl rfl) rfl rfl hl.1 rfl (lv_room (Nat.le_of_ble_eq_true rfl)) dX5_writeRuns_53 ⟨Nat.le_of_ble_eq_true rfl, Nat.le_of_ble_eq_true rfl⟩) hP hD hS hA [0, 2] [1] rfl rfl (by decide) (by decide) (fun u3 H locs hpo hK1 hP hD hS => ?_)
        have hu3 := hpo
        have hP : va_P (dC, dI) vwCl [(q1, .inl (c1, 4096, .inl f1)), (mo, .inr (5, [.int cd, .ref q1, .ref q2, .int z3, .int z4, .int z5, .int z6, .int (nI (List.length (ys ++ vint 9 (same r i * 2) ++ leb (uv (r.getD i 0)) d ++ [uv ((f1 i) >>> (nI (8 * d) &&& 31)) % 256]))), .int z8, .int z9, .ref q3, .ref q4, .ref q5])), (q5, .inl (c5, 24000, .inl u3))] H := hP
        have hD : va_D A [(q1, .inl (c1, 4096, .inl f1)), (mo, .inr (5, [.int cd, .ref q1, .ref q2, .int z3, .int z4, .int z5, .int z6, .int (nI (List.length (ys ++ vint 9 (same r i * 2) ++ leb (uv (r.getD i 0)) d ++ [uv ((f1 i) >>> (nI (8 * d) &&& 31)) % 256]))), .int z8, .int z9, .ref q3, .ref q4, .ref q5])), (q5, .inl (c5, 24000, .inl u3))] := hD
        have hz : ys ++ vint 9 (same r i * 2) ++ leb (uv (r.getD i 0)) d ++ [uv ((f1 i) >>> (nI (8 * d) &&& 31)) % 256] = ys ++ vint 9 (same r i * 2) ++ leb (uv (r.getD i 0)) (d + 1) := by rw [sar_byte _ (by omega), hf i hlt, leb_succ, p256]; simp only [List.append_assoc]
        rw [hz] at hP hD hu3
        refine lv_iinc (v := nI ((8 * d) + 8)) (lv' := [(6, .int (nI ((8 * d) + 8))), (0, .ref mo), (1, .ref q1), (2, .int (nI (List.length r))), (3, .int (nI w)), (4, .int (nI i)), (5, .int (nI (same r i)))]) hx hb dX5_writeRuns_56 hl (k := 6) rfl (ii_add (c := 8) (k := 8) (8 * d) (by decide)) (by decide) rfl (fun ls hl => ?_)
        refine lv_goto (tgt := 39) hx hb dX5_writeRuns_59 (by decide) ?_
        have hl := (show lv_has ls 11 [(6, .int (nI (8 * (d + 1)))), (0, .ref mo), (1, .ref q1), (2, .int (nI (List.length r))), (3, .int (nI w)), (4, .int (nI i)), (5, .int (nI (same r i)))] from hl)
        exact ih ((d + 1, u3)) _ _ _ ⟨by omega, hu3, hP.sub [1, 0, 2] rfl, hD.sub [1, 0, 2] (by decide) rfl, hS, lv_sub hl [1, 2, 3, 4, 5, 6, 0] rfl⟩ (by show (w + 7) / 8 - (d + 1) < (w + 7) / 8 - d; omega)

