set_option maxHeartbeats 4000000 in
set_option maxRecDepth 100000 in
/-- bitsAt -/
theorem m_bitsAt (l : Launch) (dC : Nat → ClassId) (dI : Nat → Nat → Nat) (sz : Nat) (mo q1 q2 q3 q4 q5 : Nat) (cd z3 z4 z5 z6 z7 z8 z9 : Int32) (c4 : ClassId) (f4 : Nat → Int32) (inp : List Nat) (pl bt_ w W_ : Nat) (hf : mB f4 inp) (hn : inp.length ≤ 8192) (hw32 : w ≤ 32) (hpl : pl + W_ ≤ inp.length) (hbw : bt_ + w ≤ 8 * W_) : Met l yX5_bitsAt wsX5_bitsAt ({ frames := 0, cells := 0, slots := 0, locals := 0 }) (va_Pc [.ref mo, .int (nI pl), .int (nI bt_), .int (nI w)] (kB (dC, dI) vwCl [(c4, .int)] [(mo, .inr (5, [.int cd, .ref q1, .ref q2, .int z3, .int z4, .int z5, .int z6, .int z7, .int z8, .int z9, .ref q3, .ref q4, .ref q5])), (q4, .inl (c4, 8192, .inl f4))] sz)) (va_Qi (fun r0 (_ : Unit) => r0 = nI (lev inp pl W_ / 2 ^ bt_ % 2 ^ w)) (kE (dC, dI) vwCl (va_A [(mo, .inr (5, [.int cd, .ref q1, .ref q2, .int z3, .int z4, .int z5, .int z6, .int z7, .int z8, .int z9, .ref q3, .ref q4, .ref q5])), (q4, .inl (c4, 8192, .inl f4))] sz) (fun _ => [(c4, .int)]) (fun _ => [(mo, .inr (5, [.int cd, .ref q1, .ref q2, .int z3, .int z4, .int z5, .int z6, .int z7, .int z8, .int z9, .ref q3, .ref q4, .ref q5])), (q4, .inl (c4, 8192, .inl f4))])) (va_A [(mo, .inr (5, [.int cd, .ref q1, .ref q2, .int z3, .int z4, .int z5, .int z6, .int z7, .int z8, .int z9, .ref q3, .ref q4, .ref q5])), (q4, .inl (c4, 8192, .inl f4))] sz)) 0 0 (va_A [(mo, .inr (5, [.int cd, .ref q1, .ref q2, .int z3, .int z4, .int z5, .int z6, .int z7, .int z8, .int z9, .ref q3, .ref q4, .ref q5])), (q4, .inl (c4, 8192, .inl f4))] sz) := by
  refine Met.ofW (cc := cX5_bitsAt) (maxL := 6) (ret := (some .int)) (by decide) rfl ?_
  intro p e s m args below meth c s₁ B hml hv
  obtain ⟨rfl, hsz, hP, hK, hD0, hNs⟩ := hv
  have hx := B.exec
  have hb := B.bytes
  have hr := B.returns
  have hts := fun w (h : w ∈ lw_g) => atoms_spec (ws := wsX5_bitsAt) B.pre w (List.mem_cons_of_mem _ h)
  have hown : s.vm.findClass RX5 = some m.cls := findClass_of_methodNamed B.named
  have hlocks := B.notSynchronized
  subst hsz
  have hD := hD0.self (sz := s.heap.size)
  generalize hAe : va_A [(mo, .inr (5, [.int cd, .ref q1, .ref q2, .int z3, .int z4, .int z5, .int z6, .int z7, .int z8, .int z9, .ref q3, .ref q4, .ref q5])), (q4, .inl (c4, 8192, .inl f4))] s.heap.size = A at hD ⊢
  have hA : ∀ q : Nat, s.heap.size ≤ q → A q := fun q h => by rw [← hAe]; exact Or.inr h
  have hS : va_S A s.heap s.heap [] := va_S.rf
  have hP : va_P (dC, dI) vwCl [(mo, .inr (5, [.int cd, .ref q1, .ref q2, .int z3, .int z4, .int z5, .int z6, .int z7, .int z8, .int z9, .ref q3, .ref q4, .ref q5])), (q4, .inl (c4, 8192, .inl f4))] s.heap := hP
  have hl := lv_entry ([.ref mo, .int (nI pl), .int (nI bt_), .int (nI w)]) (n := 6) (Nat.le_of_ble_eq_true rfl)
  rw [lg_entry_eq]
  generalize (lg_sl ([.ref mo, .int (nI pl), .int (nI bt_), .int (nI w)]) ++ List.replicate (6 - (lg_sl ([.ref mo, .int (nI pl), .int (nI bt_), .int (nI w)])).length) Slot.unset).toArray = ls at hl ⊢
  have hl : lv_has ls 6 [(0, .ref mo), (1, .int (nI pl)), (2, .int (nI bt_)), (3, .int (nI w))] := hl
  refine lv_iconst (v := nI 0) hx hb dX5_bitsAt_0 (by decide) ?_
  refine lv_istore (lv' := [(4, .int (nI 0)), (0, .ref mo), (1, .int (nI pl)), (2, .int (nI bt_)), (3, .int (nI w))]) hx hb dX5_bitsAt_1 hl (by decide) rfl (fun ls hl => ?_)
  refine lv_iconst (v := nI 0) hx hb dX5_bitsAt_3 (by decide) ?_
  refine lv_istore (lv' := [(5, .int (nI 0)), (4, .int (nI 0)), (0, .ref mo), (1, .int (nI pl)), (2, .int (nI bt_)), (3, .int (nI w))]) hx hb dX5_bitsAt_4 hl (by decide) rfl (fun ls hl => ?_)
  have hl := (show lv_has ls 6 [(5, .int (nI 0)), (4, .int (nI (lev inp pl W_ / 2 ^ bt_ % 2 ^ 0))), (0, .ref mo), (1, .int (nI pl)), (2, .int (nI bt_)), (3, .int (nI w))] from (by rw [show lev inp pl W_ / 2 ^ bt_ % 2 ^ 0 = 0 from Nat.mod_one _]; exact hl))
  refine k_loop (σ := Nat) (fun (z : Nat) H locs ls => match z with
        | i => i ≤ w ∧ va_P (dC, dI) vwCl [(mo, .inr (5, [.int cd, .ref q1, .ref q2, .int z3, .int z4, .int z5, .int z6, .int z7, .int z8, .int z9, .ref q3, .ref q4, .ref q5])), (q4, .inl (c4, 8192, .inl f4))] H ∧ va_D A [(mo, .inr (5, [.int cd, .ref q1, .ref q2, .int z3, .int z4, .int z5, .int z6, .int z7, .int z8, .int z9, .ref q3, .ref q4, .ref q5])), (q4, .inl (c4, 8192, .inl f4))] ∧ va_S A s.heap H locs ∧ lv_has ls 6 [(0, .ref mo), (1, .int (nI pl)), (2, .int (nI bt_)), (3, .int (nI w)), (4, .int (nI (lev inp pl W_ / 2 ^ bt_ % 2 ^ i))), (5, .int (nI i))]) (fun z => match z with
        | i => w - i) ?_ (0) _ _ _ ⟨Nat.zero_le _, hP.sub [0, 1] rfl, hD.sub [0, 1] (by decide) rfl, hS, lv_sub hl [2, 3, 4, 5, 1, 0] rfl⟩
  intro z H locs ls hI ih
  obtain ⟨i, rfl⟩ : ∃ y, y = z := ⟨_, rfl⟩
  obtain ⟨hi, hP, hD, hS, hl⟩ := hI
  refine lv_iload hx hb dX5_bitsAt_6 (lv_at hl 5 rfl) ?_
  refine lv_iload_n hx hb dX5_bitsAt_8 rfl (lv_at hl 3 rfl) ?_
  refine lv_icmp_ge (tgt := 50) hx hb dX5_bitsAt_9 (by decide) (fun c_9 => ?_) (fun c_9 => ?_)
  · rw [nI_leI (a := w) (b := i) (by omega) (by omega)] at c_9
    obtain rfl : w = i := by omega
    refine lv_iload hx hb dX5_bitsAt_50 (lv_at hl 4 rfl) ?_
    exact kend_i hx hb hr hlocks dX5_bitsAt_52 (rfl) hK hP hD hS (()) (rfl) [0, 1] [0] rfl (by decide) rfl
  · rw [nI_leI (a := w) (b := i) (by omega) (by omega)] at c_9
    have h256 := mB_256 hf (pl + ((bt_ + i) / 8))
    have hbit : lev inp pl W_ / 2 ^ bt_ / 2 ^ i % 2 = inp.getD (pl + ((bt_ + i) / 8)) 0 / 2 ^ ((bt_ + i) % 8) % 2 := by rw [Nat.div_div_eq_div_mul, ← Nat.pow_add, lev_bit (mB_256 hf) pl W_ (bt_ + i) (by omega)]
    refine lv_iload hx hb dX5_bitsAt_12 (lv_at hl 4 rfl) ?_
    refine lv_aload_n hx hb dX5_bitsAt_14 rfl (lv_at hl 0 rfl) ?_
    refine va_get (D := (dC, dI)) (ci := 5) (v := .ref q4) (C := RX5) (T := TX5) (N := 13) hx hb hts iX5 hown hK hP 0 rfl rfl 11 (by decide) (hts _ m_295) (fun _ h9 => h9) rfl dX5_bitsAt_15 ?_
    refine lv_iload_n hx hb dX5_bitsAt_18 rfl (lv_at hl 1 rfl) ?_
    refine lv_iload_n hx hb dX5_bitsAt_19 rfl (lv_at hl 2 rfl) ?_
    refine lv_iload hx hb dX5_bitsAt_20 (lv_at hl 5 rfl) ?_
    refine lv_iadd hx hb dX5_bitsAt_22 ?_
    refine tI_ (y := nI (bt_ + i)) (nI_add _ _) ?_
    refine lv_bipush (v := nI 8) hx hb dX5_bitsAt_23 (by decide) ?_
    refine lv_idiv hx hb dX5_bitsAt_25 (by decide) ?_
    refine tI_ (y := nI ((bt_ + i) / 8)) (pk_div (by omega) (by decide) (by decide)) ?_
    refine lv_iadd hx hb dX5_bitsAt_26 ?_
    refine tI_ (y := nI (pl + ((bt_ + i) / 8))) (nI_add _ _) ?_
    refine va_iald hx hb hK hP 1 0 rfl rfl (vp_in_nI (by omega) (by omega)) dX5_bitsAt_27 ?_
    refine tI_ (y := f4 (pl + ((bt_ + i) / 8))) (congrArg f4 (nI_clamp (by omega))) ?_
    refine tI_ (y := nI (inp.getD (pl + ((bt_ + i) / 8)) 0)) ((hf _ (by omega)).2) ?_
    refine lv_iload_n hx hb dX5_bitsAt_28 rfl (lv_at hl 2 rfl) ?_
    refine lv_iload hx hb dX5_bitsAt_29 (lv_at hl 5 rfl) ?_
    refine lv_iadd hx hb dX5_bitsAt_31 ?_
    refine tI_ (y := nI (bt_ + i)) (nI_add _ _) ?_
    refine lv_bipush (v := nI 8) hx hb dX5_bitsAt_32 (by decide) ?_
    refine lv_irem hx hb dX5_bitsAt_34 (by decide) ?_
    refine tI_ (y := nI ((bt_ + i) % 8)) (pk_rem (by omega) (by decide) (by decide)) ?_
    refine lv_ishr hx hb dX5_bitsAt_35 ?_
    refine tI_ (y := nI (inp.getD (pl + ((bt_ + i) / 8)) 0 / 2 ^ ((bt_ + i) % 8))) (shrN (by omega) (by omega)) ?_
    refine lv_iconst (v := nI 1) hx hb dX5_bitsAt_36 (by decide) ?_
    refine lv_iand hx hb dX5_bitsAt_37 ?_
    refine tI_ (y := nI (lev inp pl W_ / 2 ^ bt_ / 2 ^ i % 2)) (by rw [hbit]; exact pk_andN (Nat.lt_of_le_of_lt (Nat.div_le_self _ _) (by omega)) 1 (by decide)) ?_
    refine lv_iload hx hb dX5_bitsAt_38 (lv_at hl 5 rfl) ?_
    refine lv_ishl hx hb dX5_bitsAt_40 ?_
    refine tI_ (y := nI (lev inp pl W_ / 2 ^ bt_ / 2 ^ i % 2 * 2 ^ i)) (shlN (by omega) (by have hb2 : lev inp pl W_ / 2 ^ bt_ / 2 ^ i % 2 * 2 ^ i ≤ 1 * 2 ^ 31 := Nat.mul_le_mul (by omega) (Nat.pow_le_pow_right (by decide) (by omega)); omega)) ?_
    refine lv_ior hx hb dX5_bitsAt_41 ?_
    refine tI_ (y := nI (lev inp pl W_ / 2 ^ bt_ % 2 ^ (i + 1))) (by rw [mod_step]; exact nI_orS (Nat.mod_lt _ (Nat.pow_pos (by decide)))) ?_
    refine lv_istore (lv' := [(4, .int (nI (lev inp pl W_ / 2 ^ bt_ % 2 ^ (i + 1)))), (0, .ref mo), (1, .int (nI pl)), (2, .int (nI bt_)), (3, .int (nI w)), (5, .int (nI i))]) hx hb dX5_bitsAt_42 hl (by decide) rfl (fun ls hl => ?_)
    refine lv_iinc (v := nI (i + 1)) (lv' := [(5, .int (nI (i + 1))), (4, .int (nI (lev inp pl W_ / 2 ^ bt_ % 2 ^ (i + 1)))), (0, .ref mo), (1, .int (nI pl)), (2, .int (nI bt_)), (3, .int (nI w))]) hx hb dX5_bitsAt_44 hl (k := 5) rfl (ii_add (c := 1) (k := 1) i (by decide)) (by decide) rfl (fun ls hl => ?_)
    refine lv_goto (tgt := 6) hx hb dX5_bitsAt_47 (by decide) ?_
    exact ih (i + 1) _ _ _ ⟨by omega, hP.sub [0, 1] rfl, hD.sub [0, 1] (by decide) rfl, hS, lv_sub hl [2, 3, 4, 5, 1, 0] rfl⟩ (by show w - (i + 1) < w - i; omega)

set_option maxHeartbeats 4000000 in
set_option maxRecDepth 100000 in
/-- varint -/
theorem m_varint (l : Launch) (dC : Nat → ClassId) (dI : Nat → Nat → Nat) (sz : Nat) (mo q1 q2 q3 q4 q5 : Nat) (cd z3 z4 z5 z6 z7 : Int32) (c4 : ClassId) (f4 : Nat → Int32) (inp : List Nat) (at_ : Nat) (hf : mB f4 inp) (hn : inp.length ≤ 8192) (hat : at_ ≤ inp.length) : Met l yX5_varint wsX5_varint ({ frames := 0, cells := 0, slots := 0, locals := 0 }) (va_Pc [.ref mo, .int (nI (List.length inp))] (kB (dC, dI) vwCl [(c4, .int)] [(mo, .inr (5, [.int cd, .ref q1, .ref q2, .int z3, .int z4, .int z5, .int z6, .int z7, .int (nI at_), .int (nI 0), .ref q3, .ref q4, .ref q5])), (q4, .inl (c4, 8192, .inl f4))] sz)) (va_Ql (fun r0 (u : Nat × Nat) => ∃ hv, hdF inp 10 0 at_ 0 = (u.2, u.1, hv) ∧ u.2 ≤ 2 ∧ u.1 ≤ inp.length ∧ (u.2 = 0 → r0 = lN hv ∧ hv < 2 ^ 64)) (kE (dC, dI) vwCl (va_A [(mo, .inr (5, [.int cd, .ref q1, .ref q2, .int z3, .int z4, .int z5, .int z6, .int z7, .int (nI at_), .int (nI 0), .ref q3, .ref q4, .ref q5])), (q4, .inl (c4, 8192, .inl f4))] sz) (fun _ => [(c4, .int)]) (fun u => [(mo, .inr (5, [.int cd, .ref q1, .ref q2, .int z3, .int z4, .int z5, .int z6, .int z7, .int (nI u.1), .int (nI u.2), .ref q3, .ref q4, .ref q5])), (q4, .inl (c4, 8192, .inl f4))])) (va_A [(mo, .inr (5, [.int cd, .ref q1, .ref q2, .int z3, .int z4, .int z5, .int z6, .int z7, .int (nI at_), .int (nI 0), .ref q3, .ref q4, .ref q5])), (q4, .inl (c4, 8192, .inl f4))] sz)) 0 0 (va_A [(mo, .inr (5, [.int cd, .ref q1, .ref q2, .int z3, .int z4, .int z5, .int z6, .int z7, .int (nI at_), .int (nI 0), .ref q3, .ref q4, .ref q5])), (q4, .inl (c4, 8192, .inl f4))] sz) := by
  refine Met.ofW (cc := cX5_varint) (maxL := 6) (ret := (some .long)) (by decide) rfl ?_
  intro p e s m args below meth c s₁ B hml hv
  obtain ⟨rfl, hsz, hP, hK, hD0, hNs⟩ := hv
  have hx := B.exec
  have hb := B.bytes
  have hr := B.returns
  have hts := fun w (h : w ∈ lw_g) => atoms_spec (ws := wsX5_varint) B.pre w (List.mem_cons_of_mem _ h)
  have hown : s.vm.findClass RX5 = some m.cls := findClass_of_methodNamed B.named
  have hlocks := B.notSynchronized
  subst hsz
  have hD := hD0.self (sz := s.heap.size)
  generalize hAe : va_A [(mo, .inr (5, [.int cd, .ref q1, .ref q2, .int z3, .int z4, .int z5, .int z6, .int z7, .int (nI at_), .int (nI 0), .ref q3, .ref q4, .ref q5])), (q4, .inl (c4, 8192, .inl f4))] s.heap.size = A at hD ⊢
  have hA : ∀ q : Nat, s.heap.size ≤ q → A q := fun q h => by rw [← hAe]; exact Or.inr h
  have hS : va_S A s.heap s.heap [] := va_S.rf
  have hP : va_P (dC, dI) vwCl [(mo, .inr (5, [.int cd, .ref q1, .ref q2, .int z3, .int z4, .int z5, .int z6, .int z7, .int (nI at_), .int (nI 0), .ref q3, .ref q4, .ref q5])), (q4, .inl (c4, 8192, .inl f4))] s.heap := hP
  have hl := lv_entry ([.ref mo, .int (nI (List.length inp))]) (n := 6) (Nat.le_of_ble_eq_true rfl)
  rw [lg_entry_eq]
  generalize (lg_sl ([.ref mo, .int (nI (List.length inp))]) ++ List.replicate (6 - (lg_sl ([.ref mo, .int (nI (List.length inp))])).length) Slot.unset).toArray = ls at hl ⊢
  have hl : lv_has ls 6 [(0, .ref mo), (1, .int (nI (List.length inp)))] := hl
  refine lv_lconst (v := lN 0) hx hb dX5_varint_0 (by decide) ?_
  refine lv_lstore_n (lv' := [(2, .long (lN 0)), (0, .ref mo), (1, .int (nI (List.length inp)))]) hx hb dX5_varint_1 rfl hl (by decide) rfl (fun ls hl => ?_)
  refine lv_iconst (v := nI 0) hx hb dX5_varint_2 (by decide) ?_
  refine lv_istore (lv' := [(4, .int (nI 0)), (2, .long (lN 0)), (0, .ref mo), (1, .int (nI (List.length inp)))]) hx hb dX5_varint_3 hl (by decide) rfl (fun ls hl => ?_)
  refine k_loop (σ := Nat × Nat × Nat) (fun (z : Nat × Nat × Nat) H locs ls => match z with
        | (i, k, acc) => i ≤ 9 ∧ k ≤ inp.length ∧ acc < 2 ^ (7 * i) ∧ hdF inp 10 0 at_ 0 = hdF inp (10 - i) i k acc ∧ va_P (dC, dI) vwCl [(mo, .inr (5, [.int cd, .ref q1, .ref q2, .int z3, .int z4, .int z5, .int z6, .int z7, .int (nI k), .int (nI 0), .ref q3, .ref q4, .ref q5])), (q4, .inl (c4, 8192, .inl f4))] H ∧ va_D A [(mo, .inr (5, [.int cd, .ref q1, .ref q2, .int z3, .int z4, .int z5, .int z6, .int z7, .int (nI k), .int (nI 0), .ref q3, .ref q4, .ref q5])), (q4, .inl (c4, 8192, .inl f4))] ∧ va_S A s.heap H locs ∧ lv_has ls 6 [(0, .ref mo), (1, .int (nI (List.length inp))), (2, .long (lN acc)), (4, .int (nI i))]) (fun z => match z with
        | (i, k, acc) => 10 - i) ?_ ((0, at_, 0)) _ _ _ ⟨by decide, hat, by decide, rfl, hP.sub [0, 1] rfl, hD.sub [0, 1] (by decide) rfl, hS, lv_sub hl [2, 3, 1, 0] rfl⟩
  intro z H locs ls hI ih
  obtain ⟨i, k, acc⟩ := z
  obtain ⟨hi, hk, hacc, hinv, hP, hD, hS, hl⟩ := hI
  rw [show 10 - i = (9 - i) + 1 by omega, hdF_step inp i k acc (9 - i)] at hinv
  have h70 : 2 ^ (7 * i) ≤ 2 ^ 63 := Nat.pow_le_pow_right (by decide) (by omega)
  refine lv_aload_n hx hb dX5_varint_5 rfl (lv_at hl 0 rfl) ?_
  refine va_get (D := (dC, dI)) (ci := 5) (v := .int (nI 0)) (C := RX5) (T := TX5) (N := 13) hx hb hts iX5 hown hK hP 0 rfl rfl 9 (by decide) (hts _ m_293) (fun _ h9 => h9) rfl dX5_varint_6 ?_
  refine lv_if_ne (tgt := 111) hx hb dX5_varint_9 (by decide) (fun c_9 => absurd (by decide) c_9) (fun _ => ?_)
  refine lv_aload_n hx hb dX5_varint_12 rfl (lv_at hl 0 rfl) ?_
  refine va_get (D := (dC, dI)) (ci := 5) (v := .int (nI k)) (C := RX5) (T := TX5) (N := 13) hx hb hts iX5 hown hK hP 0 rfl rfl 8 (by decide) (hts _ m_292) (fun _ h9 => h9) rfl dX5_varint_13 ?_
  refine lv_iload_n hx hb dX5_varint_16 rfl (lv_at hl 1 rfl) ?_
  refine lv_icmp_lt (tgt := 28) hx hb dX5_varint_17 (by decide) (fun c_17 => ?_) (fun c_17 => ?_)
  · rw [nI_ltI (a := k) (b := (List.length inp)) (by omega) (by omega)] at c_17
    have h256 := mB_256 hf k
    rw [if_pos (by omega)] at hinv
    refine lv_aload_n hx hb dX5_varint_28 rfl (lv_at hl 0 rfl) ?_
    refine va_get (D := (dC, dI)) (ci := 5) (v := .ref q4) (C := RX5) (T := TX5) (N := 13) hx hb hts iX5 hown hK hP 0 rfl rfl 11 (by decide) (hts _ m_295) (fun _ h9 => h9) rfl dX5_varint_29 ?_
    refine lv_aload_n hx hb dX5_varint_32 rfl (lv_at hl 0 rfl) ?_
    refine va_get (D := (dC, dI)) (ci := 5) (v := .int (nI k)) (C := RX5) (T := TX5) (N := 13) hx hb hts iX5 hown hK hP 0 rfl rfl 8 (by decide) (hts _ m_292) (fun _ h9 => h9) rfl dX5_varint_33 ?_
    refine va_iald hx hb hK hP 1 0 rfl rfl (vp_in_nI (by omega) (by omega)) dX5_varint_36 ?_
    refine tI_ (y := f4 k) (congrArg f4 (nI_clamp (by omega))) ?_
    refine tI_ (y := nI (inp.getD k 0)) ((hf k (by omega)).2) ?_
    generalize hbk : inp.getD k 0 = b at hinv h256 ⊢
    refine lv_istore (lv' := [(5, .int (nI b)), (0, .ref mo), (1, .int (nI (List.length inp))), (2, .long (lN acc)), (4, .int (nI i))]) hx hb dX5_varint_37 hl (by decide) rfl (fun ls hl => ?_)
    refine lv_aload_n hx hb dX5_varint_39 rfl (lv_at hl 1 rfl) ?_
    refine lv_dup hx hb dX5_varint_40 rfl ?_
    refine va_get (D := (dC, dI)) (ci := 5) (v := .int (nI k)) (C := RX5) (T := TX5) (N := 13) hx hb hts iX5 hown hK hP 0 rfl rfl 8 (by decide) (hts _ m_292) (fun _ h9 => h9) rfl dX5_varint_41 ?_
    refine lv_iconst (v := nI 1) hx hb dX5_varint_44 (by decide) ?_
    refine lv_iadd hx hb dX5_varint_45 ?_
    refine tI_ (y := nI (k + 1)) (nI_add _ _) ?_
    refine va_put (D := (dC, dI)) (ci := 5) (v := .int (nI (k + 1))) (ty := .int) (C := RX5) (T := TX5) (N := 13) hx hb hts iX5 tyX5 tyX5_ok nmX5 hown hK hP hD hS 0 rfl rfl 8 (by decide) (hts _ m_292) (fun _ h9 => h9) rfl (by decide +kernel) rfl rfl (Nat.le_of_ble_eq_true rfl) dX5_varint_46 (fun H locs hP hD hS => ?_)
    have hP : va_P (dC, dI) vwCl [(mo, .inr (5, [.int cd, .ref q1, .ref q2, .int z3, .int z4, .int z5, .int z6, .int z7, .int (nI (k + 1)), .int (nI 0), .ref q3, .ref q4, .ref q5])), (q4, .inl (c4, 8192, .inl f4))] H := hP
    have hD : va_D A [(mo, .inr (5, [.int cd, .ref q1, .ref q2, .int z3, .int z4, .int z5, .int z6, .int z7, .int (nI (k + 1)), .int (nI 0), .ref q3, .ref q4, .ref q5])), (q4, .inl (c4, 8192, .inl f4))] := hD
    refine lv_iload hx hb dX5_varint_49 (lv_at hl 4 rfl) ?_
    refine lv_bipush (v := nI 9) hx hb dX5_varint_51 (by decide) ?_
    refine lv_icmp_ne (tgt := 62) hx hb dX5_varint_53 (by decide) (fun c_53 => ?_) (fun c_53 => ?_)
    · rw [nI_eq (a := i) (b := 9) (by omega) (by omega)] at c_53
      refine lv_iload hx hb dX5_varint_62 (lv_at hl 4 rfl) ?_
      refine lv_if_le (tgt := 80) hx hb dX5_varint_64 (by decide) (fun c_64 => ?_) (fun c_64 => ?_)
      · rw [show (0 : Int32) = nI 0 from rfl, nI_leI (a := i) (b := 0) (by omega) (by decide)] at c_64
        rw [if_neg (by omega)] at hinv
        refine lv_lload_n hx hb dX5_varint_80 rfl (lv_at hl 3 rfl) ?_
        refine lv_iload hx hb dX5_varint_81 (lv_at hl 0 rfl) ?_
        refine lv_bipush (v := nI 127) hx hb dX5_varint_83 (by decide) ?_
        refine lv_iand hx hb dX5_varint_85 ?_
        refine tI_ (y := nI (b % 128)) (pk_andN (by omega) 7 (by decide)) ?_
        refine lv_i2l (v := lN (b % 128)) hx hb dX5_varint_86 (nI_l (by omega)) ?_
        refine lv_bipush (v := nI 7) hx hb dX5_varint_87 (by decide) ?_
        refine lv_iload hx hb dX5_varint_89 (lv_at hl 4 rfl) ?_
        refine lv_imul hx hb dX5_varint_91 ?_
        refine tI_ (y := nI (7 * i)) (pk_mul _ _) ?_
        refine lv_lshl (v := lN (b % 128 * 2 ^ (7 * i))) hx hb dX5_varint_92 (wb_shl _ (by omega)) ?_
        refine lv_lor hx hb dX5_varint_93 ?_
        have hmul : b % 128 * 2 ^ (7 * i) + 2 ^ (7 * i) ≤ 2 ^ (7 * (i + 1)) := by
          rw [← Nat.succ_mul, Nat.mul_succ, Nat.pow_add, Nat.mul_comm (2 ^ (7 * i))]
          exact Nat.mul_le_mul_right _ (by omega)
        have h64 : acc + b % 128 * 2 ^ (7 * i) < 2 ^ 64 := by
          rcases Nat.lt_or_ge i 9 with q9 | q9
          · have : 2 ^ (7 * (i + 1)) ≤ 2 ^ 63 := Nat.pow_le_pow_right (by decide) (by omega)
            omega
          · have : b % 128 ≤ 1 := by omega
            have : b % 128 * 2 ^ (7 * i) ≤ 1 * 2 ^ (7 * i) := Nat.mul_le_mul_right _ this
            omega
        refine tL_ (y := lN (acc + b % 128 * 2 ^ (7 * i))) (g_or' rfl hacc h64) ?_
        refine lv_lstore_n (lv' := [(2, .long (lN (acc + b % 128 * 2 ^ (7 * i)))), (5, .int (nI b)), (0, .ref mo), (1, .int (nI (List.length inp))), (4, .int (nI i))]) hx hb dX5_varint_94 rfl hl (by decide) rfl (fun ls hl => ?_)
        refine lv_iload hx hb dX5_varint_95 (lv_at hl 1 rfl) ?_
        refine lv_sipush (v := nI 128) hx hb dX5_varint_97 (by decide) ?_
        refine lv_icmp_ge (tgt := 105) hx hb dX5_varint_100 (by decide) (fun c_100 => ?_) (fun c_100 => ?_)
        · rw [nI_leI (a := 128) (b := b) (by omega) (by omega)] at c_100
          rw [if_neg (by omega)] at hinv
          refine lv_iinc (v := nI (i + 1)) (lv' := [(4, .int (nI (i + 1))), (2, .long (lN (acc + b % 128 * 2 ^ (7 * i)))), (5, .int (nI b)), (0, .ref mo), (1, .int (nI (List.length inp)))]) hx hb dX5_varint_105 hl (k := 4) rfl (ii_add (c := 1) (k := 1) i (by decide)) (by decide) rfl (fun ls hl => ?_)
          refine lv_goto (tgt := 5) hx hb dX5_varint_108 (by decide) ?_
          exact ih ((i + 1, k + 1, acc + b % 128 * 2 ^ (7 * i))) _ _ _ ⟨by omega, by omega, by omega, by rw [hinv]; congr 1; omega, hP.sub [0, 1] rfl, hD.sub [0, 1] (by decide) rfl, hS, lv_sub hl [3, 4, 1, 0] rfl⟩ (by show 10 - (i + 1) < 10 - i; omega)
        · rw [nI_leI (a := 128) (b := b) (by omega) (by omega)] at c_100
          rw [if_pos (by omega), if_neg (by omega)] at hinv
          refine lv_lload_n hx hb dX5_varint_103 rfl (lv_at hl 0 rfl) ?_
          exact kend_l hx hb hr hlocks dX5_varint_104 hK hP hD hS ((k + 1, 0)) (⟨acc + b % 128 * 2 ^ (7 * i), hinv, (by show 0 ≤ 2; decide), by show k + 1 ≤ inp.length; omega, fun _ => ⟨rfl, h64⟩⟩) [0, 1] [0] rfl (by decide) rfl
      · rw [show (0 : Int32) = nI 0 from rfl, nI_leI (a := i) (b := 0) (by omega) (by decide)] at c_64
        refine lv_iload hx hb dX5_varint_67 (lv_at hl 0 rfl) ?_
        refine lv_if_ne (tgt := 80) hx hb dX5_varint_69 (by decide) (fun c_69 => ?_) (fun c_69 => ?_)
        · rw [z_eq (by omega)] at c_69
          rw [if_neg (by omega)] at hinv
          refine lv_lload_n hx hb dX5_varint_80 rfl (lv_at hl 3 rfl) ?_
          refine lv_iload hx hb dX5_varint_81 (lv_at hl 0 rfl) ?_
          refine lv_bipush (v := nI 127) hx hb dX5_varint_83 (by decide) ?_
          refine lv_iand hx hb dX5_varint_85 ?_
          refine tI_ (y := nI (b % 128)) (pk_andN (by omega) 7 (by decide)) ?_
          refine lv_i2l (v := lN (b % 128)) hx hb dX5_varint_86 (nI_l (by omega)) ?_
          refine lv_bipush (v := nI 7) hx hb dX5_varint_87 (by decide) ?_
          refine lv_iload hx hb dX5_varint_89 (lv_at hl 4 rfl) ?_
          refine lv_imul hx hb dX5_varint_91 ?_
          refine tI_ (y := nI (7 * i)) (pk_mul _ _) ?_
          refine lv_lshl (v := lN (b % 128 * 2 ^ (7 * i))) hx hb dX5_varint_92 (wb_shl _ (by omega)) ?_
          refine lv_lor hx hb dX5_varint_93 ?_
          have hmul : b % 128 * 2 ^ (7 * i) + 2 ^ (7 * i) ≤ 2 ^ (7 * (i + 1)) := by
            rw [← Nat.succ_mul, Nat.mul_succ, Nat.pow_add, Nat.mul_comm (2 ^ (7 * i))]
            exact Nat.mul_le_mul_right _ (by omega)
          have h64 : acc + b % 128 * 2 ^ (7 * i) < 2 ^ 64 := by
            rcases Nat.lt_or_ge i 9 with q9 | q9
            · have : 2 ^ (7 * (i + 1)) ≤ 2 ^ 63 := Nat.pow_le_pow_right (by decide) (by omega)
              omega
            · have : b % 128 ≤ 1 := by omega
              have : b % 128 * 2 ^ (7 * i) ≤ 1 * 2 ^ (7 * i) := Nat.mul_le_mul_right _ this
              omega
          refine tL_ (y := lN (acc + b % 128 * 2 ^ (7 * i))) (g_or' rfl hacc h64) ?_
          refine lv_lstore_n (lv' := [(2, .long (lN (acc + b % 128 * 2 ^ (7 * i)))), (5, .int (nI b)), (0, .ref mo), (1, .int (nI (List.length inp))), (4, .int (nI i))]) hx hb dX5_varint_94 rfl hl (by decide) rfl (fun ls hl => ?_)
          refine lv_iload hx hb dX5_varint_95 (lv_at hl 1 rfl) ?_
          refine lv_sipush (v := nI 128) hx hb dX5_varint_97 (by decide) ?_
          refine lv_icmp_ge (tgt := 105) hx hb dX5_varint_100 (by decide) (fun c_100 => ?_) (fun c_100 => ?_)
          · rw [nI_leI (a := 128) (b := b) (by omega) (by omega)] at c_100
            rw [if_neg (by omega)] at hinv
            refine lv_iinc (v := nI (i + 1)) (lv' := [(4, .int (nI (i + 1))), (2, .long (lN (acc + b % 128 * 2 ^ (7 * i)))), (5, .int (nI b)), (0, .ref mo), (1, .int (nI (List.length inp)))]) hx hb dX5_varint_105 hl (k := 4) rfl (ii_add (c := 1) (k := 1) i (by decide)) (by decide) rfl (fun ls hl => ?_)
            refine lv_goto (tgt := 5) hx hb dX5_varint_108 (by decide) ?_
            exact ih ((i + 1, k + 1, acc + b % 128 * 2 ^ (7 * i))) _ _ _ ⟨by omega, by omega, by omega, by rw [hinv]; congr 1; omega, hP.sub [0, 1] rfl, hD.sub [0, 1] (by decide) rfl, hS, lv_sub hl [3, 4, 1, 0] rfl⟩ (by show 10 - (i + 1) < 10 - i; omega)
          · rw [nI_leI (a := 128) (b := b) (by omega) (by omega)] at c_100
            rw [if_pos (by omega), if_neg (by omega)] at hinv
            refine lv_lload_n hx hb dX5_varint_103 rfl (lv_at hl 0 rfl) ?_
            exact kend_l hx hb hr hlocks dX5_varint_104 hK hP hD hS ((k + 1, 0)) (⟨acc + b % 128 * 2 ^ (7 * i), hinv, (by show 0 ≤ 2; decide), by show k + 1 ≤ inp.length; omega, fun _ => ⟨rfl, h64⟩⟩) [0, 1] [0] rfl (by decide) rfl
        · rw [z_eq (by omega)] at c_69
          rw [if_neg (by omega), if_pos (by omega), if_pos (by omega)] at hinv
          refine lv_aload_n hx hb dX5_varint_72 rfl (lv_at hl 1 rfl) ?_
          refine lv_iconst (v := nI 2) hx hb dX5_varint_73 (by decide) ?_
          refine va_put (D := (dC, dI)) (ci := 5) (v := .int (nI 2)) (ty := .int) (C := RX5) (T := TX5) (N := 13) hx hb hts iX5 tyX5 tyX5_ok nmX5 hown hK hP hD hS 0 rfl rfl 9 (by decide) (hts _ m_293) (fun _ h9 => h9) rfl (by decide +kernel) rfl rfl (Nat.le_of_ble_eq_true rfl) dX5_varint_74 (fun H locs hP hD hS => ?_)
          have hP : va_P (dC, dI) vwCl [(mo, .inr (5, [.int cd, .ref q1, .ref q2, .int z3, .int z4, .int z5, .int z6, .int z7, .int (nI (k + 1)), .int (nI 2), .ref q3, .ref q4, .ref q5])), (q4, .inl (c4, 8192, .inl f4))] H := hP
          have hD : va_D A [(mo, .inr (5, [.int cd, .ref q1, .ref q2, .int z3, .int z4, .int z5, .int z6, .int z7, .int (nI (k + 1)), .int (nI 2), .ref q3, .ref q4, .ref q5])), (q4, .inl (c4, 8192, .inl f4))] := hD
          refine lv_goto (tgt := 108) hx hb dX5_varint_77 (by decide) ?_
          refine lv_goto (tgt := 5) hx hb dX5_varint_108 (by decide) ?_
          refine lv_aload_n hx hb dX5_varint_5 rfl (lv_at hl 1 rfl) ?_
          refine va_get (D := (dC, dI)) (ci := 5) (v := .int (nI 2)) (C := RX5) (T := TX5) (N := 13) hx hb hts iX5 hown hK hP 0 rfl rfl 9 (by decide) (hts _ m_293) (fun _ h9 => h9) rfl dX5_varint_6 ?_
          refine lv_if_ne (tgt := 111) hx hb dX5_varint_9 (by decide) (fun _ => ?_) (fun c_9 => absurd c_9 (by decide))
          refine lv_lconst (v := lN 0) hx hb dX5_varint_111 (by decide) ?_
          exact kend_l hx hb hr hlocks dX5_varint_112 hK hP hD hS ((k + 1, 2)) (⟨_, hinv, (by show 2 ≤ 2; decide), by show k + 1 ≤ inp.length; omega, fun q9 => absurd q9 (by show ¬ 2 = 0; decide)⟩) [0, 1] [0] rfl (by decide) rfl
    · rw [nI_eq (a := i) (b := 9) (by omega) (by omega)] at c_53
      refine lv_iload hx hb dX5_varint_56 (lv_at hl 0 rfl) ?_
      refine lv_iconst (v := nI 1) hx hb dX5_varint_58 (by decide) ?_
      refine lv_icmp_gt (tgt := 72) hx hb dX5_varint_59 (by decide) (fun c_59 => ?_) (fun c_59 => ?_)
      · rw [nI_ltI (a := 1) (b := b) (by omega) (by omega)] at c_59
        rw [if_pos (by omega)] at hinv
        refine lv_aload_n hx hb dX5_varint_72 rfl (lv_at hl 1 rfl) ?_
        refine lv_iconst (v := nI 2) hx hb dX5_varint_73 (by decide) ?_
        refine va_put (D := (dC, dI)) (ci := 5) (v := .int (nI 2)) (ty := .int) (C := RX5) (T := TX5) (N := 13) hx hb hts iX5 tyX5 tyX5_ok nmX5 hown hK hP hD hS 0 rfl rfl 9 (by decide) (hts _ m_293) (fun _ h9 => h9) rfl (by decide +kernel) rfl rfl (Nat.le_of_ble_eq_true rfl) dX5_varint_74 (fun H locs hP hD hS => ?_)
        have hP : va_P (dC, dI) vwCl [(mo, .inr (5, [.int cd, .ref q1, .ref q2, .int z3, .int z4, .int z5, .int z6, .int z7, .int (nI (k + 1)), .int (nI 2), .ref q3, .ref q4, .ref q5])), (q4, .inl (c4, 8192, .inl f4))] H := hP
        have hD : va_D A [(mo, .inr (5, [.int cd, .ref q1, .ref q2, .int z3, .int z4, .int z5, .int z6, .int z7, .int (nI (k + 1)), .int (nI 2), .ref q3, .ref q4, .ref q5])), (q4, .inl (c4, 8192, .inl f4))] := hD
        refine lv_goto (tgt := 108) hx hb dX5_varint_77 (by decide) ?_
        refine lv_goto (tgt := 5) hx hb dX5_varint_108 (by decide) ?_
        refine lv_aload_n hx hb dX5_varint_5 rfl (lv_at hl 1 rfl) ?_
        refine va_get (D := (dC, dI)) (ci := 5) (v := .int (nI 2)) (C := RX5) (T := TX5) (N := 13) hx hb hts iX5 hown hK hP 0 rfl rfl 9 (by decide) (hts _ m_293) (fun _ h9 => h9) rfl dX5_varint_6 ?_
        refine lv_if_ne (tgt := 111) hx hb dX5_varint_9 (by decide) (fun _ => ?_) (fun c_9 => absurd c_9 (by decide))
        refine lv_lconst (v := lN 0) hx hb dX5_varint_111 (by decide) ?_
        exact kend_l hx hb hr hlocks dX5_varint_112 hK hP hD hS ((k + 1, 2)) (⟨acc, hinv, (by show 2 ≤ 2; decide), by show k + 1 ≤ inp.length; omega, fun q9 => absurd q9 (by show ¬ 2 = 0; decide)⟩) [0, 1] [0] rfl (by decide) rfl
      · rw [nI_ltI (a := 1) (b := b) (by omega) (by omega)] at c_59
        refine lv_iload hx hb dX5_varint_62 (lv_at hl 4 rfl) ?_
        refine lv_if_le (tgt := 80) hx hb dX5_varint_64 (by decide) (fun c_64 => ?_) (fun c_64 => ?_)
        · rw [show (0 : Int32) = nI 0 from rfl, nI_leI (a := i) (b := 0) (by omega) (by decide)] at c_64
          rw [if_neg (by omega)] at hinv
          refine lv_lload_n hx hb dX5_varint_80 rfl (lv_at hl 3 rfl) ?_
          refine lv_iload hx hb dX5_varint_81 (lv_at hl 0 rfl) ?_
          refine lv_bipush (v := nI 127) hx hb dX5_varint_83 (by decide) ?_
          refine lv_iand hx hb dX5_varint_85 ?_
          refine tI_ (y := nI (b % 128)) (pk_andN (by omega) 7 (by decide)) ?_
          refine lv_i2l (v := lN (b % 128)) hx hb dX5_varint_86 (nI_l (by omega)) ?_
          refine lv_bipush (v := nI 7) hx hb dX5_varint_87 (by decide) ?_
          refine lv_iload hx hb dX5_varint_89 (lv_at hl 4 rfl) ?_
          refine lv_imul hx hb dX5_varint_91 ?_
          refine tI_ (y := nI (7 * i)) (pk_mul _ _) ?_
          refine lv_lshl (v := lN (b % 128 * 2 ^ (7 * i))) hx hb dX5_varint_92 (wb_shl _ (by omega)) ?_
          refine lv_lor hx hb dX5_varint_93 ?_
          have hmul : b % 128 * 2 ^ (7 * i) + 2 ^ (7 * i) ≤ 2 ^ (7 * (i + 1)) := by
            rw [← Nat.succ_mul, Nat.mul_succ, Nat.pow_add, Nat.mul_comm (2 ^ (7 * i))]
            exact Nat.mul_le_mul_right _ (by omega)
          have h64 : acc + b % 128 * 2 ^ (7 * i) < 2 ^ 64 := by
            rcases Nat.lt_or_ge i 9 with q9 | q9
            · have : 2 ^ (7 * (i + 1)) ≤ 2 ^ 63 := Nat.pow_le_pow_right (by decide) (by omega)
              omega
            · have : b % 128 ≤ 1 := by omega
              have : b % 128 * 2 ^ (7 * i) ≤ 1 * 2 ^ (7 * i) := Nat.mul_le_mul_right _ this
              omega
          refine tL_ (y := lN (acc + b % 128 * 2 ^ (7 * i))) (g_or' rfl hacc h64) ?_
          refine lv_lstore_n (lv' := [(2, .long (lN (acc + b % 128 * 2 ^ (7 * i)))), (5, .int (nI b)), (0, .ref mo), (1, .int (nI (List.length inp))), (4, .int (nI i))]) hx hb dX5_varint_94 rfl hl (by decide) rfl (fun ls hl => ?_)
          refine lv_iload hx hb dX5_varint_95 (lv_at hl 1 rfl) ?_
          refine lv_sipush (v := nI 128) hx hb dX5_varint_97 (by decide) ?_
          refine lv_icmp_ge (tgt := 105) hx hb dX5_varint_100 (by decide) (fun c_100 => ?_) (fun c_100 => ?_)
          · rw [nI_leI (a := 128) (b := b) (by omega) (by omega)] at c_100
            rw [if_neg (by omega)] at hinv
            refine lv_iinc (v := nI (i + 1)) (lv' := [(4, .int (nI (i + 1))), (2, .long (lN (acc + b % 128 * 2 ^ (7 * i)))), (5, .int (nI b)), (0, .ref mo), (1, .int (nI (List.length inp)))]) hx hb dX5_varint_105 hl (k := 4) rfl (ii_add (c := 1) (k := 1) i (by decide)) (by decide) rfl (fun ls hl => ?_)
            refine lv_goto (tgt := 5) hx hb dX5_varint_108 (by decide) ?_
            exact ih ((i + 1, k + 1, acc + b % 128 * 2 ^ (7 * i))) _ _ _ ⟨by omega, by omega, by omega, by rw [hinv]; congr 1; omega, hP.sub [0, 1] rfl, hD.sub [0, 1] (by decide) rfl, hS, lv_sub hl [3, 4, 1, 0] rfl⟩ (by show 10 - (i + 1) < 10 - i; omega)
          · rw [nI_leI (a := 128) (b := b) (by omega) (by omega)] at c_100
            rw [if_pos (by omega), if_neg (by omega)] at hinv
            refine lv_lload_n hx hb dX5_varint_103 rfl (lv_at hl 0 rfl) ?_
            exact kend_l hx hb hr hlocks dX5_varint_104 hK hP hD hS ((k + 1, 0)) (⟨acc + b % 128 * 2 ^ (7 * i), hinv, (by show 0 ≤ 2; decide), by show k + 1 ≤ inp.length; omega, fun _ => ⟨rfl, h64⟩⟩) [0, 1] [0] rfl (by decide) rfl
        · rw [show (0 : Int32) = nI 0 from rfl, nI_leI (a := i) (b := 0) (by omega) (by decide)] at c_64
          refine lv_iload hx hb dX5_varint_67 (lv_at hl 0 rfl) ?_
          refine lv_if_ne (tgt := 80) hx hb dX5_varint_69 (by decide) (fun c_69 => ?_) (fun c_69 => ?_)
          · rw [z_eq (by omega)] at c_69
            rw [if_neg (by omega)] at hinv
            refine lv_lload_n hx hb dX5_varint_80 rfl (lv_at hl 3 rfl) ?_
            refine lv_iload hx hb dX5_varint_81 (lv_at hl 0 rfl) ?_
            refine lv_bipush (v := nI 127) hx hb dX5_varint_83 (by decide) ?_
            refine lv_iand hx hb dX5_varint_85 ?_
            refine tI_ (y := nI (b % 128)) (pk_andN (by omega) 7 (by decide)) ?_
            refine lv_i2l (v := lN (b % 128)) hx hb dX5_varint_86 (nI_l (by omega)) ?_
            refine lv_bipush (v := nI 7) hx hb dX5_varint_87 (by decide) ?_
            refine lv_iload hx hb dX5_varint_89 (lv_at hl 4 rfl) ?_
            refine lv_imul hx hb dX5_varint_91 ?_
            refine tI_ (y := nI (7 * i)) (pk_mul _ _) ?_
            refine lv_lshl (v := lN (b % 128 * 2 ^ (7 * i))) hx hb dX5_varint_92 (wb_shl _ (by omega)) ?_
            refine lv_lor hx hb dX5_varint_93 ?_
            have hmul : b % 128 * 2 ^ (7 * i) + 2 ^ (7 * i) ≤ 2 ^ (7 * (i + 1)) := by
              rw [← Nat.succ_mul, Nat.mul_succ, Nat.pow_add, Nat.mul_comm (2 ^ (7 * i))]
              exact Nat.mul_le_mul_right _ (by omega)
            have h64 : acc + b % 128 * 2 ^ (7 * i) < 2 ^ 64 := by
              rcases Nat.lt_or_ge i 9 with q9 | q9
              · have : 2 ^ (7 * (i + 1)) ≤ 2 ^ 63 := Nat.pow_le_pow_right (by decide) (by omega)
                omega
              · have : b % 128 ≤ 1 := by omega
                have : b % 128 * 2 ^ (7 * i) ≤ 1 * 2 ^ (7 * i) := Nat.mul_le_mul_right _ this
                omega
            refine tL_ (y := lN (acc + b % 128 * 2 ^ (7 * i))) (g_or' rfl hacc h64) ?_
            refine lv_lstore_n (lv' := [(2, .long (lN (acc + b % 128 * 2 ^ (7 * i)))), (5, .int (nI b)), (0, .ref mo), (1, .int (nI (List.length inp))), (4, .int (nI i))]) hx hb dX5_varint_94 rfl hl (by decide) rfl (fun ls hl => ?_)
            refine lv_iload hx hb dX5_varint_95 (lv_at hl 1 rfl) ?_
            refine lv_sipush (v := nI 128) hx hb dX5_varint_97 (by decide) ?_
            refine lv_icmp_ge (tgt := 105) hx hb dX5_varint_100 (by decide) (fun c_100 => ?_) (fun c_100 => ?_)
            · rw [nI_leI (a := 128) (b := b) (by omega) (by omega)] at c_100
              rw [if_neg (by omega)] at hinv
              refine lv_iinc (v := nI (i + 1)) (lv' := [(4, .int (nI (i + 1))), (2, .long (lN (acc + b % 128 * 2 ^ (7 * i)))), (5, .int (nI b)), (0, .ref mo), (1, .int (nI (List.length inp)))]) hx hb dX5_varint_105 hl (k := 4) rfl (ii_add (c := 1) (k := 1) i (by decide)) (by decide) rfl (fun ls hl => ?_)
              refine lv_goto (tgt := 5) hx hb dX5_varint_108 (by decide) ?_
              exact ih ((i + 1, k + 1, acc + b % 128 * 2 ^ (7 * i))) _ _ _ ⟨by omega, by omega, by omega, by rw [hinv]; congr 1; omega, hP.sub [0, 1] rfl, hD.sub [0, 1] (by decide) rfl, hS, lv_sub hl [3, 4, 1, 0] rfl⟩ (by show 10 - (i + 1) < 10 - i; omega)
            · rw [nI_leI (a := 128) (b := b) (by omega) (by omega)] at c_100
              rw [if_pos (by omega), if_neg (by omega)] at hinv
              refine lv_lload_n hx hb dX5_varint_103 rfl (lv_at hl 0 rfl) ?_
              exact kend_l hx hb hr hlocks dX5_varint_104 hK hP hD hS ((k + 1, 0)) (⟨acc + b % 128 * 2 ^ (7 * i), hinv, (by show 0 ≤ 2; decide), by show k + 1 ≤ inp.length; omega, fun _ => ⟨rfl, h64⟩⟩) [0, 1] [0] rfl (by decide) rfl
          · rw [z_eq (by omega)] at c_69
            rw [if_neg (by omega), if_pos (by omega), if_pos (by omega)] at hinv
            refine lv_aload_n hx hb dX5_varint_72 rfl (lv_at hl 1 rfl) ?_
            refine lv_iconst (v := nI 2) hx hb dX5_varint_73 (by decide) ?_
            refine va_put (D := (dC, dI)) (ci := 5) (v := .int (nI 2)) (ty := .int) (C := RX5) (T := TX5) (N := 13) hx hb hts iX5 tyX5 tyX5_ok nmX5 hown hK hP hD hS 0 rfl rfl 9 (by decide) (hts _ m_293) (fun _ h9 => h9) rfl (by decide +kernel) rfl rfl (Nat.le_of_ble_eq_true rfl) dX5_varint_74 (fun H locs hP hD hS => ?_)
            have hP : va_P (dC, dI) vwCl [(mo, .inr (5, [.int cd, .ref q1, .ref q2, .int z3, .int z4, .int z5, .int z6, .int z7, .int (nI (k + 1)), .int (nI 2), .ref q3, .ref q4, .ref q5])), (q4, .inl (c4, 8192, .inl f4))] H := hP
            have hD : va_D A [(mo, .inr (5, [.int cd, .ref q1, .ref q2, .int z3, .int z4, .int z5, .int z6, .int z7, .int (nI (k + 1)), .int (nI 2), .ref q3, .ref q4, .ref q5])), (q4, .inl (c4, 8192, .inl f4))] := hD
            refine lv_goto (tgt := 108) hx hb dX5_varint_77 (by decide) ?_
            refine lv_goto (tgt := 5) hx hb dX5_varint_108 (by decide) ?_
            refine lv_aload_n hx hb dX5_varint_5 rfl (lv_at hl 1 rfl) ?_
            refine va_get (D := (dC, dI)) (ci := 5) (v := .int (nI 2)) (C := RX5) (T := TX5) (N := 13) hx hb hts iX5 hown hK hP 0 rfl rfl 9 (by decide) (hts _ m_293) (fun _ h9 => h9) rfl dX5_varint_6 ?_
            refine lv_if_ne (tgt := 111) hx hb dX5_varint_9 (by decide) (fun _ => ?_) (fun c_9 => absurd c_9 (by decide))
            refine lv_lconst (v := lN 0) hx hb dX5_varint_111 (by decide) ?_
            exact kend_l hx hb hr hlocks dX5_varint_112 hK hP hD hS ((k + 1, 2)) (⟨_, hinv, (by show 2 ≤ 2; decide), by show k + 1 ≤ inp.length; omega, fun q9 => absurd q9 (by show ¬ 2 = 0; decide)⟩) [0, 1] [0] rfl (by decide) rfl
  · rw [nI_ltI (a := k) (b := (List.length inp)) (by omega) (by omega)] at c_17
    rw [if_neg (by omega)] at hinv
    refine lv_aload_n hx hb dX5_varint_20 rfl (lv_at hl 0 rfl) ?_
    refine lv_iconst (v := nI 1) hx hb dX5_varint_21 (by decide) ?_
    refine va_put (D := (dC, dI)) (ci := 5) (v := .int (nI 1)) (ty := .int) (C := RX5) (T := TX5) (N := 13) hx hb hts iX5 tyX5 tyX5_ok nmX5 hown hK hP hD hS 0 rfl rfl 9 (by decide) (hts _ m_293) (fun _ h9 => h9) rfl (by decide +kernel) rfl rfl (Nat.le_of_ble_eq_true rfl) dX5_varint_22 (fun H locs hP hD hS => ?_)
    have hP : va_P (dC, dI) vwCl [(mo, .inr (5, [.int cd, .ref q1, .ref q2, .int z3, .int z4, .int z5, .int z6, .int z7, .int (nI k), .int (nI 1), .ref q3, .ref q4, .ref q5])), (q4, .inl (c4, 8192, .inl f4))] H := hP
    have hD : va_D A [(mo, .inr (5, [.int cd, .ref q1, .ref q2, .int z3, .int z4, .int z5, .int z6, .int z7, .int (nI k), .int (nI 1), .ref q3, .ref q4, .ref q5])), (q4, .inl (c4, 8192, .inl f4))] := hD
    refine lv_goto (tgt := 5) hx hb dX5_varint_25 (by decide) ?_
    refine lv_aload_n hx hb dX5_varint_5 rfl (lv_at hl 0 rfl) ?_
    refine va_get (D := (dC, dI)) (ci := 5) (v := .int (nI 1)) (C := RX5) (T := TX5) (N := 13) hx hb hts iX5 hown hK hP 0 rfl rfl 9 (by decide) (hts _ m_293) (fun _ h9 => h9) rfl dX5_varint_6 ?_
    refine lv_if_ne (tgt := 111) hx hb dX5_varint_9 (by decide) (fun _ => ?_) (fun c_9 => absurd c_9 (by decide))
    refine lv_lconst (v := lN 0) hx hb dX5_varint_111 (by decide) ?_
    exact kend_l hx hb hr hlocks dX5_varint_112 hK hP hD hS ((k, 1)) (⟨acc, hinv, (by show 1 ≤ 2; decide), by show k ≤ inp.length; omega, fun q9 => absurd q9 (by show ¬ 1 = 0; decide)⟩) [0, 1] [0] rfl (by decide) rfl

set_option maxHeartbeats 4000000 in
set_option maxRecDepth 100000 in
/-- readOne -/
theorem m_readOne (l : Launch) (dC : Nat → ClassId) (dI : Nat → Nat → Nat) (sz : Nat) (mo q1 q2 q3 q4 q5 : Nat) (cd z3 z4 z5 z6 z7 : Int32) (c2 : ClassId) (f2 : Nat → Int32) (c4 : ClassId) (f4 : Nat → Int32) (inp : List Nat) (at_ k n_ w mv : Nat) (hf : mB f4 inp) (hn : inp.length ≤ 8192) (hat : at_ ≤ inp.length) (hkn : k ≤ n_) (hn4 : n_ ≤ 4096) (hw32 : w ≤ 32) (hmv : mv < 2 ^ 63) : Met l yX5_readOne wsX5_readOne ({ frames := 1, cells := 0, slots := 0, locals := 25 }) (va_Pc [.ref mo, .ref q2, .int (nI k), .int (nI n_), .int (nI w), .int (nI (List.length inp)), .long (lN mv)] (kB (dC, dI) vwCl [(c2, .int), (c4, .int)] [(mo, .inr (5, [.int cd, .ref q1, .ref q2, .int z3, .int z4, .int z5, .int z6, .int z7, .int (nI at_), .int (nI 0), .ref q3, .ref q4, .ref q5])), (q2, .inl (c2, 4104, .inl f2)), (q4, .inl (c4, 8192, .inl f4))] sz)) (va_Qi (fun r0 (u : Nat × Nat × (Nat → Int32)) => (n_ - k < mv ∧ u.2.1 = 4) ∨ (¬ n_ - k < mv ∧ inp.length - at_ < (w + 7) / 8 ∧ u.2.1 = 1) ∨ (¬ n_ - k < mv ∧ ¬ inp.length - at_ < (w + 7) / 8 ∧ 2 ^ w ≤ lev inp at_ ((w + 7) / 8) ∧ u.2.1 = 5) ∨ (¬ n_ - k < mv ∧ ¬ inp.length - at_ < (w + 7) / 8 ∧ ¬ 2 ^ w ≤ lev inp at_ ((w + 7) / 8) ∧ u.2.1 = 0 ∧ u.1 = at_ + (w + 7) / 8 ∧ r0 = nI (k + mv) ∧ (∀ q, q < k → u.2.2 q = f2 q) ∧ ∀ q, k ≤ q → q < k + mv → u.2.2 q = nI (lev inp at_ ((w + 7) / 8)))) (kE (dC, dI) vwCl (va_A [(mo, .inr (5, [.int cd, .ref q1, .ref q2, .int z3, .int z4, .int z5, .int z6, .int z7, .int (nI at_), .int (nI 0), .ref q3, .ref q4, .ref q5])), (q2, .inl (c2, 4104, .inl f2)), (q4, .inl (c4, 8192, .inl f4))] sz) (fun _ => [(c2, .int), (c4, .int)]) (fun u => [(mo, .inr (5, [.int cd, .ref q1, .ref q2, .int z3, .int z4, .int z5, .int z6, .int z7, .int (nI u.1), .int (nI u.2.1), .ref q3, .ref q4, .ref q5])), (q2, .inl (c2, 4104, .inl u.2.2)), (q4, .inl (c4, 8192, .inl f4))])) (va_A [(mo, .inr (5, [.int cd, .ref q1, .ref q2, .int z3, .int z4, .int z5, .int z6, .int z7, .int (nI at_), .int (nI 0), .ref q3, .ref q4, .ref q5])), (q2, .inl (c2, 4104, .inl f2)), (q4, .inl (c4, 8192, .inl f4))] sz)) 0 0 (va_A [(mo, .inr (5, [.int cd, .ref q1, .ref q2, .int z3, .int z4, .int z5, .int z6, .int z7, .int (nI at_), .int (nI 0), .ref q3, .ref q4, .ref q5])), (q2, .inl (c2, 4104, .inl f2)), (q4, .inl (c4, 8192, .inl f4))] sz) := by
  refine Met.ofW (cc := cX5_readOne) (maxL := 11) (ret := (some .int)) (by decide) rfl ?_
  intro p e s m args below meth c s₁ B hml hv
  obtain ⟨rfl, hsz, hP, hK, hD0, hNs⟩ := hv
  have hx := B.exec
  have hb := B.bytes
  have hr := B.returns
  have hts := fun w (h : w ∈ lw_g) => atoms_spec (ws := wsX5_readOne) B.pre w (List.mem_cons_of_mem _ h)
  have hown : s.vm.findClass RX5 = some m.cls := findClass_of_methodNamed B.named
  have hlocks := B.notSynchronized
  subst hsz
  have hD := hD0.self (sz := s.heap.size)
  generalize hAe : va_A [(mo, .inr (5, [.int cd, .ref q1, .ref q2, .int z3, .int z4, .int z5, .int z6, .int z7, .int (nI at_), .int (nI 0), .ref q3, .ref q4, .ref q5])), (q2, .inl (c2, 4104, .inl f2)), (q4, .inl (c4, 8192, .inl f4))] s.heap.size = A at hD ⊢
  have hA : ∀ q : Nat, s.heap.size ≤ q → A q := fun q h => by rw [← hAe]; exact Or.inr h
  have hS : va_S A s.heap s.heap [] := va_S.rf
  have hP : va_P (dC, dI) vwCl [(mo, .inr (5, [.int cd, .ref q1, .ref q2, .int z3, .int z4, .int z5, .int z6, .int z7, .int (nI at_), .int (nI 0), .ref q3, .ref q4, .ref q5])), (q2, .inl (c2, 4104, .inl f2)), (q4, .inl (c4, 8192, .inl f4))] s.heap := hP
  have hl := lv_entry ([.ref mo, .ref q2, .int (nI k), .int (nI n_), .int (nI w), .int (nI (List.length inp)), .long (lN mv)]) (n := 11) (Nat.le_of_ble_eq_true rfl)
  rw [lg_entry_eq]
  generalize (lg_sl ([.ref mo, .ref q2, .int (nI k), .int (nI n_), .int (nI w), .int (nI (List.length inp)), .long (lN mv)]) ++ List.replicate (11 - (lg_sl ([.ref mo, .ref q2, .int (nI k), .int (nI n_), .int (nI w), .int (nI (List.length inp)), .long (lN mv)])).length) Slot.unset).toArray = ls at hl ⊢
  have hl : lv_has ls 11 [(0, .ref mo), (1, .ref q2), (2, .int (nI k)), (3, .int (nI n_)), (4, .int (nI w)), (5, .int (nI (List.length inp))), (6, .long (lN mv))] := hl
  refine lv_iload hx hb dX5_readOne_0 (lv_at hl 4 rfl) ?_
  refine lv_bipush (v := nI 7) hx hb dX5_readOne_2 (by decide) ?_
  refine lv_iadd hx hb dX5_readOne_4 ?_
  refine tI_ (y := nI (w + 7)) (nI_add _ _) ?_
  refine lv_bipush (v := nI 8) hx hb dX5_readOne_5 (by decide) ?_
  refine lv_idiv hx hb dX5_readOne_7 (by decide) ?_
  refine tI_ (y := nI ((w + 7) / 8)) (pk_div (by omega) (by decide) (by decide)) ?_
  refine lv_istore (lv' := [(8, .int (nI ((w + 7) / 8))), (0, .ref mo), (1, .ref q2), (2, .int (nI k)), (3, .int (nI n_)), (4, .int (nI w)), (5, .int (nI (List.length inp))), (6, .long (lN mv))]) hx hb dX5_readOne_8 hl (by decide) rfl (fun ls hl => ?_)
  refine lv_lload hx hb dX5_readOne_10 (lv_at hl 7 rfl) ?_
  refine lv_iload_n hx hb dX5_readOne_12 rfl (lv_at hl 4 rfl) ?_
  refine lv_iload_n hx hb dX5_readOne_13 rfl (lv_at hl 3 rfl) ?_
  refine lv_isub hx hb dX5_readOne_14 ?_
  refine tI_ (y := nI (n_ - k)) (pk_sub (by omega)) ?_
  refine lv_i2l (v := lN (n_ - k)) hx hb dX5_readOne_15 (nI_l (by omega)) ?_
  refine W.lcmp hx hb dX5_readOne_16 ?_
  refine lv_if_le (tgt := 28) hx hb dX5_readOne_17 (by decide) (fun c_17 => ?_) (fun c_17 => ?_)
  · rw [lg_cmp_le, pk_lLE (by omega) (by omega)] at c_17
    refine lv_iload hx hb dX5_readOne_28 (lv_at hl 6 rfl) ?_
    refine lv_aload_n hx hb dX5_readOne_30 rfl (lv_at hl 1 rfl) ?_
    refine va_get (D := (dC, dI)) (ci := 5) (v := .int (nI at_)) (C := RX5) (T := TX5) (N := 13) hx hb hts iX5 hown hK hP 0 rfl rfl 8 (by decide) (hts _ m_292) (fun _ h9 => h9) rfl dX5_readOne_31 ?_
    refine lv_isub hx hb dX5_readOne_34 ?_
    refine tI_ (y := nI ((List.length inp) - at_)) (pk_sub (by omega)) ?_
    refine lv_iload hx hb dX5_readOne_35 (lv_at hl 0 rfl) ?_
    refine lv_icmp_ge (tgt := 45) hx hb dX5_readOne_37 (by decide) (fun c_37 => ?_) (fun c_37 => ?_)
    · rw [nI_leI (a := ((w + 7) / 8)) (b := ((List.length inp) - at_)) (by omega) (by omega)] at c_37
      refine lv_aload_n hx hb dX5_readOne_45 rfl (lv_at hl 1 rfl) ?_
      refine va_get (D := (dC, dI)) (ci := 5) (v := .int (nI 0)) (C := RX5) (T := TX5) (N := 13) hx hb hts iX5 hown hK hP 0 rfl rfl 9 (by decide) (hts _ m_293) (fun _ h9 => h9) rfl dX5_readOne_46 ?_
      refine lv_if_eq (tgt := 54) hx hb dX5_readOne_49 (by decide) (fun _ => ?_) (fun c_9 => absurd (by decide) c_9)
      refine lv_aload_n hx hb dX5_readOne_54 rfl (lv_at hl 1 rfl) ?_
      refine lv_aload_n hx hb dX5_readOne_55 rfl (lv_at hl 1 rfl) ?_
      refine va_get (D := (dC, dI)) (ci := 5) (v := .int (nI at_)) (C := RX5) (T := TX5) (N := 13) hx hb hts iX5 hown hK hP 0 rfl rfl 8 (by decide) (hts _ m_292) (fun _ h9 => h9) rfl dX5_readOne_56 ?_
      refine lv_iconst (v := nI 0) hx hb dX5_readOne_59 (by decide) ?_
      refine lv_iload hx hb dX5_readOne_60 (lv_at hl 5 rfl) ?_
      refine kret_i (wc := [(mo, .inr (5, [.int cd, .ref q1, .ref q2, .int z3, .int z4, .int z5, .int z6, .int z7, .int (nI at_), .int (nI 0), .ref q3, .ref q4, .ref q5])), (q4, .inl (c4, 8192, .inl f4))]) (wr := [(q2, .inl (c2, 4104, .inl f2))]) (va_runV (As := [.int (nI at_), .int (nI 0), .int (nI w)]) (rest := []) ⟨hx, hb, hml, hown, hts⟩ (m_bitsAt l dC dI _ mo q1 q2 q3 q4 q5 cd z3 z4 z5 z6 z7 (nI at_) (nI 0) c4 f4 inp at_ 0 w ((w + 7) / 8) hf hn hw32 (by omega) (by omega)) (cwV 3 hts (gdV m_381 m_383 mp_17 m_7 m_384) rfl rfl rfl (by decide +kernel) ⟨Nat.le_of_ble_eq_true rfl, Nat.le_of_ble_eq_true rfl⟩) (kpV hNs hK hP hD [0, 2] [1] rfl rfl (by decide) (ci := 5) rfl rfl) rfl rfl hl.1 rfl (lv_room (Nat.le_of_ble_eq_true rfl)) dX5_readOne_62 ⟨Nat.le_of_ble_eq_true rfl, Nat.le_of_ble_eq_true rfl⟩) hP hD hS hA [0, 2] [1] rfl rfl (by decide) (by decide) (fun y _ H locs hpo hK1 hP hD hS => ?_)
      have hy := hpo
      have hP : va_P (dC, dI) vwCl [(q2, .inl (c2, 4104, .inl f2)), (mo, .inr (5, [.int cd, .ref q1, .ref q2, .int z3, .int z4, .int z5, .int z6, .int z7, .int (nI at_), .int (nI 0), .ref q3, .ref q4, .ref q5])), (q4, .inl (c4, 8192, .inl f4))] H := hP
      have hD : va_D A [(q2, .inl (c2, 4104, .inl f2)), (mo, .inr (5, [.int cd, .ref q1, .ref q2, .int z3, .int z4, .int z5, .int z6, .int z7, .int (nI at_), .int (nI 0), .ref q3, .ref q4, .ref q5])), (q4, .inl (c4, 8192, .inl f4))] := hD
      subst hy
      refine lv_istore (lv' := [(9, .int (nI (lev inp at_ ((w + 7) / 8) / 2 ^ 0 % 2 ^ w))), (8, .int (nI ((w + 7) / 8))), (0, .ref mo), (1, .ref q2), (2, .int (nI k)), (3, .int (nI n_)), (4, .int (nI w)), (5, .int (nI (List.length inp))), (6, .long (lN mv))]) hx hb dX5_readOne_65 hl (by decide) rfl (fun ls hl => ?_)
      refine lv_iload hx hb dX5_readOne_67 (lv_at hl 6 rfl) ?_
      refine lv_istore (lv' := [(10, .int (nI w)), (9, .int (nI (lev inp at_ ((w + 7) / 8) / 2 ^ 0 % 2 ^ w))), (8, .int (nI ((w + 7) / 8))), (0, .ref mo), (1, .ref q2), (2, .int (nI k)), (3, .int (nI n_)), (4, .int (nI w)), (5, .int (nI (List.length inp))), (6, .long (lN mv))]) hx hb dX5_readOne_69 hl (by decide) rfl (fun ls hl => ?_)
      have hf0 : (if 2 ^ w ≤ lev inp at_ ((w + 7) / 8) % 2 ^ w then 5 else 0) = 0 := if_neg (Nat.not_le.mpr (Nat.mod_lt _ (Nat.pow_pos (by decide))))
      have hP := (show va_P (dC, dI) vwCl [(mo, .inr (5, [.int cd, .ref q1, .ref q2, .int z3, .int z4, .int z5, .int z6, .int z7, .int (nI at_), .int (nI (if 2 ^ w ≤ lev inp at_ ((w + 7) / 8) % 2 ^ w then 5 else 0)), .ref q3, .ref q4, .ref q5])), (q2, .inl (c2, 4104, .inl f2)), (q4, .inl (c4, 8192, .inl f4))] _ from by rw [hf0]; exact hP.sub [1, 0, 2] rfl)
      have hD := (show va_D A [(mo, .inr (5, [.int cd, .ref q1, .ref q2, .int z3, .int z4, .int z5, .int z6, .int z7, .int (nI at_), .int (nI (if 2 ^ w ≤ lev inp at_ ((w + 7) / 8) % 2 ^ w then 5 else 0)), .ref q3, .ref q4, .ref q5])), (q2, .inl (c2, 4104, .inl f2)), (q4, .inl (c4, 8192, .inl f4))] from by rw [hf0]; exact hD.sub [1, 0, 2] (by decide) rfl)
      refine k_loop (σ := Nat) (fun (z : Nat) H locs ls => match z with
            | i => w ≤ i ∧ i ≤ 8 * ((w + 7) / 8) ∧ va_P (dC, dI) vwCl [(mo, .inr (5, [.int cd, .ref q1, .ref q2, .int z3, .int z4, .int z5, .int z6, .int z7, .int (nI at_), .int (nI (if 2 ^ w ≤ lev inp at_ ((w + 7) / 8) % 2 ^ i then 5 else 0)), .ref q3, .ref q4, .ref q5])), (q2, .inl (c2, 4104, .inl f2)), (q4, .inl (c4, 8192, .inl f4))] H ∧ va_D A [(mo, .inr (5, [.int cd, .ref q1, .ref q2, .int z3, .int z4, .int z5, .int z6, .int z7, .int (nI at_), .int (nI (if 2 ^ w ≤ lev inp at_ ((w + 7) / 8) % 2 ^ i then 5 else 0)), .ref q3, .ref q4, .ref q5])), (q2, .inl (c2, 4104, .inl f2)), (q4, .inl (c4, 8192, .inl f4))] ∧ va_S A s.heap H locs ∧ lv_has ls 11 [(0, .ref mo), (1, .ref q2), (2, .int (nI k)), (3, .int (nI n_)), (4, .int (nI w)), (5, .int (nI (List.length inp))), (6, .long (lN mv)), (8, .int (nI ((w + 7) / 8))), (9, .int (nI (lev inp at_ ((w + 7) / 8) / 2 ^ 0 % 2 ^ w))), (10, .int (nI i))]) (fun z => match z with
            | i => 8 * ((w + 7) / 8) - i) ?_ (w) _ _ _ ⟨Nat.le_refl w, by omega, hP.sub [0, 1, 2] rfl, hD.sub [0, 1, 2] (by decide) rfl, hS, lv_sub hl [3, 4, 5, 6, 7, 8, 9, 2, 1, 0] rfl⟩
      intro z H locs ls hI ih
      obtain ⟨i, rfl⟩ : ∃ y, y = z := ⟨_, rfl⟩
      obtain ⟨hwi, hi8, hP, hD, hS, hl⟩ := hI
      refine lv_iload hx hb dX5_readOne_71 (lv_at hl 9 rfl) ?_
      refine lv_bipush (v := nI 8) hx hb dX5_readOne_73 (by decide) ?_
      refine lv_iload hx hb dX5_readOne_75 (lv_at hl 7 rfl) ?_
      refine lv_imul hx hb dX5_readOne_77 ?_
      refine tI_ (y := nI (8 * ((w + 7) / 8))) (pk_mul _ _) ?_
      refine lv_icmp_ge (tgt := 119) hx hb dX5_readOne_78 (by decide) (fun c_78 => ?_) (fun c_78 => ?_)
      · rw [nI_leI (a := (8 * ((w + 7) / 8))) (b := i) (by omega) (by omega)] at c_78
        obtain rfl : i = 8 * ((w + 7) / 8) := by omega
        have hlvl := lev_lt (mB_256 hf) at_ ((w + 7) / 8)
        rw [p256] at hlvl
        rw [Nat.mod_eq_of_lt hlvl] at hP hD
        have hP : va_P (dC, dI) vwCl [(mo, .inr (5, [.int cd, .ref q1, .ref q2, .int z3, .int z4, .int z5, .int z6, .int z7, .int (nI at_), .int (nI (if 2 ^ w ≤ lev inp at_ ((w + 7) / 8) then 5 else 0)), .ref q3, .ref q4, .ref q5])), (q2, .inl (c2, 4104, .inl f2)), (q4, .inl (c4, 8192, .inl f4))] H := hP
        have hD : va_D A [(mo, .inr (5, [.int cd, .ref q1, .ref q2, .int z3, .int z4, .int z5, .int z6, .int z7, .int (nI at_), .int (nI (if 2 ^ w ≤ lev inp at_ ((w + 7) / 8) then 5 else 0)), .ref q3, .ref q4, .ref q5])), (q2, .inl (c2, 4104, .inl f2)), (q4, .inl (c4, 8192, .inl f4))] := hD
        refine lv_aload_n hx hb dX5_readOne_119 rfl (lv_at hl 0 rfl) ?_
        refine lv_dup hx hb dX5_readOne_120 rfl ?_
        refine va_get (D := (dC, dI)) (ci := 5) (v := .int (nI at_)) (C := RX5) (T := TX5) (N := 13) hx hb hts iX5 hown hK hP 0 rfl rfl 8 (by decide) (hts _ m_292) (fun _ h9 => h9) rfl dX5_readOne_121 ?_
        refine lv_iload hx hb dX5_readOne_124 (lv_at hl 7 rfl) ?_
        refine lv_iadd hx hb dX5_readOne_126 ?_
        refine tI_ (y := nI (at_ + ((w + 7) / 8))) (nI_add _ _) ?_
        refine va_put (D := (dC, dI)) (ci := 5) (v := .int (nI (at_ + ((w + 7) / 8)))) (ty := .int) (C := RX5) (T := TX5) (N := 13) hx hb hts iX5 tyX5 tyX5_ok nmX5 hown hK hP hD hS 0 rfl rfl 8 (by decide) (hts _ m_292) (fun _ h9 => h9) rfl (by decide +kernel) rfl rfl (Nat.le_of_ble_eq_true rfl) dX5_readOne_127 (fun H locs hP hD hS => ?_)
        have hP : va_P (dC, dI) vwCl [(mo, .inr (5, [.int cd, .ref q1, .ref q2, .int z3, .int z4, .int z5, .int z6, .int z7, .int (nI (at_ + ((w + 7) / 8))), .int (nI (if 2 ^ w ≤ lev inp at_ ((w + 7) / 8) then 5 else 0)), .ref q3, .ref q4, .ref q5])), (q2, .inl (c2, 4104, .inl f2)), (q4, .inl (c4, 8192, .inl f4))] H := hP
        have hD : va_D A [(mo, .inr (5, [.int cd, .ref q1, .ref q2, .int z3, .int z4, .int z5, .int z6, .int z7, .int (nI (at_ + ((w + 7) / 8))), .int (nI (if 2 ^ w ≤ lev inp at_ ((w + 7) / 8) then 5 else 0)), .ref q3, .ref q4, .ref q5])), (q2, .inl (c2, 4104, .inl f2)), (q4, .inl (c4, 8192, .inl f4))] := hD
        refine lv_iconst (v := nI 0) hx hb dX5_readOne_130 (by decide) ?_
        refine lv_istore (lv' := [(10, .int (nI 0)), (0, .ref mo), (1, .ref q2), (2, .int (nI k)), (3, .int (nI n_)), (4, .int (nI w)), (5, .int (nI (List.length inp))), (6, .long (lN mv)), (8, .int (nI ((w + 7) / 8))), (9, .int (nI (lev inp at_ ((w + 7) / 8) / 2 ^ 0 % 2 ^ w)))]) hx hb dX5_readOne_131 hl (by decide) rfl (fun ls hl => ?_)
        refine k_loop (σ := Nat × (Nat → Int32)) (fun (z : Nat × (Nat → Int32)) H locs ls => match z with
              | (d, u) => d ≤ mv ∧ (∀ q, q < k → u q = f2 q) ∧ (∀ q, k ≤ q → q < k + d → u q = nI (lev inp at_ ((w + 7) / 8) / 2 ^ 0 % 2 ^ w)) ∧ va_P (dC, dI) vwCl [(mo, .inr (5, [.int cd, .ref q1, .ref q2, .int z3, .int z4, .int z5, .int z6, .int z7, .int (nI (at_ + ((w + 7) / 8))), .int (nI (if 2 ^ w ≤ lev inp at_ ((w + 7) / 8) then 5 else 0)), .ref q3, .ref q4, .ref q5])), (q2, .inl (c2, 4104, .inl u)), (q4, .inl (c4, 8192, .inl f4))] H ∧ va_D A [(mo, .inr (5, [.int cd, .ref q1, .ref q2, .int z3, .int z4, .int z5, .int z6, .int z7, .int (nI (at_ + ((w + 7) / 8))), .int (nI (if 2 ^ w ≤ lev inp at_ ((w + 7) / 8) then 5 else 0)), .ref q3, .ref q4, .ref q5])), (q2, .inl (c2, 4104, .inl u)), (q4, .inl (c4, 8192, .inl f4))] ∧ va_S A s.heap H locs ∧ lv_has ls 11 [(0, .ref mo), (1, .ref q2), (2, .int (nI k)), (3, .int (nI n_)), (4, .int (nI w)), (5, .int (nI (List.length inp))), (6, .long (lN mv)), (8, .int (nI ((w + 7) / 8))), (9, .int (nI (lev inp at_ ((w + 7) / 8) / 2 ^ 0 % 2 ^ w))), (10, .int (nI d))]) (fun z => match z with
              | (d, u) => mv - d) ?_ ((0, f2)) _ _ _ ⟨Nat.zero_le _, fun _ _ => rfl, fun q h1 h2 => absurd h1 (by omega), hP.sub [0, 1, 2] rfl, hD.sub [0, 1, 2] (by decide) rfl, hS, lv_sub hl [1, 2, 3, 4, 5, 6, 7, 8, 9, 0] rfl⟩
        intro z H locs ls hI ih
        obtain ⟨d, u⟩ := z
        obtain ⟨hd, hu1, hu2, hP, hD, hS, hl⟩ := hI
        refine lv_iload hx hb dX5_readOne_133 (lv_at hl 9 rfl) ?_
        refine lv_i2l (v := lN d) hx hb dX5_readOne_135 (nI_l (by omega)) ?_
        refine lv_lload hx hb dX5_readOne_136 (lv_at hl 6 rfl) ?_
        refine W.lcmp hx hb dX5_readOne_138 ?_
        refine lv_if_ge (tgt := 156) hx hb dX5_readOne_139 (by decide) (fun c_139 => ?_) (fun c_139 => ?_)
        · rw [lg_cmp_ge, pk_lLE (by omega) (by omega)] at c_139
          obtain rfl : mv = d := by omega
          refine lv_iload_n hx hb dX5_readOne_156 rfl (lv_at hl 2 rfl) ?_
          refine lv_lload hx hb dX5_readOne_157 (lv_at hl 6 rfl) ?_
          refine lv_l2i (v := nI mv) hx hb dX5_readOne_159 (lN_i _) ?_
          refine lv_iadd hx hb dX5_readOne_160 ?_
          refine tI_ (y := nI (k + mv)) (nI_add _ _) ?_
          by_cases hge : 2 ^ w ≤ lev inp at_ ((w + 7) / 8)
          · exact kend_i hx hb hr hlocks dX5_readOne_161 (rfl) hK hP hD hS ((at_ + ((w + 7) / 8), (if 2 ^ w ≤ lev inp at_ ((w + 7) / 8) then 5 else 0), u)) (Or.inr (Or.inr (Or.inl ⟨by omega, by omega, hge, if_pos hge⟩))) [0, 1, 2] [0, 1] rfl (by decide) rfl
          · exact kend_i hx hb hr hlocks dX5_readOne_161 (rfl) hK hP hD hS ((at_ + ((w + 7) / 8), (if 2 ^ w ≤ lev inp at_ ((w + 7) / 8) then 5 else 0), u)) (Or.inr (Or.inr (Or.inr ⟨by omega, by omega, hge, if_neg hge, rfl, rfl, hu1, fun q h1 h2 => (hu2 q h1 h2).trans (by rw [Nat.pow_zero, Nat.div_one, Nat.mod_eq_of_lt (Nat.lt_of_not_le hge)])⟩))) [0, 1, 2] [0, 1] rfl (by decide) rfl
        · rw [lg_cmp_ge, pk_lLE (by omega) (by omega)] at c_139
          refine lv_aload_n hx hb dX5_readOne_142 rfl (lv_at hl 1 rfl) ?_
          refine lv_iload_n hx hb dX5_readOne_143 rfl (lv_at hl 2 rfl) ?_
          refine lv_iload hx hb dX5_readOne_144 (lv_at hl 9 rfl) ?_
          refine lv_iadd hx hb dX5_readOne_146 ?_
          refine tI_ (y := nI (k + d)) (nI_add _ _) ?_
          refine lv_iload hx hb dX5_readOne_147 (lv_at hl 8 rfl) ?_
          refine va_iast hx hb hK hP hD hS 1 0 rfl rfl (vp_in_nI (by omega) (by omega)) dX5_readOne_149 (fun H locs hP hD hS => ?_)
          rw [nI_clamp (n := (k + d)) (by omega)] at hP hD
          have hP : va_P (dC, dI) vwCl [(mo, .inr (5, [.int cd, .ref q1, .ref q2, .int z3, .int z4, .int z5, .int z6, .int z7, .int (nI (at_ + ((w + 7) / 8))), .int (nI (if 2 ^ w ≤ lev inp at_ ((w + 7) / 8) then 5 else 0)), .ref q3, .ref q4, .ref q5])), (q2, .inl (c2, 4104, .inl (upd u (k + d) (nI (lev inp at_ ((w + 7) / 8) / 2 ^ 0 % 2 ^ w))))), (q4, .inl (c4, 8192, .inl f4))] H := hP
          have hD : va_D A [(mo, .inr (5, [.int cd, .ref q1, .ref q2, .int z3, .int z4, .int z5, .int z6, .int z7, .int (nI (at_ + ((w + 7) / 8))), .int (nI (if 2 ^ w ≤ lev inp at_ ((w + 7) / 8) then 5 else 0)), .ref q3, .ref q4, .ref q5])), (q2, .inl (c2, 4104, .inl (upd u (k + d) (nI (lev inp at_ ((w + 7) / 8) / 2 ^ 0 % 2 ^ w))))), (q4, .inl (c4, 8192, .inl f4))] := hD
          refine lv_iinc (v := nI (d + 1)) (lv' := [(10, .int (nI (d + 1))), (0, .ref mo), (1, .ref q2), (2, .int (nI k)), (3, .int (nI n_)), (4, .int (nI w)), (5, .int (nI (List.length inp))), (6, .long (lN mv)), (8, .int (nI ((w + 7) / 8))), (9, .int (nI (lev inp at_ ((w + 7) / 8) / 2 ^ 0 % 2 ^ w)))]) hx hb dX5_readOne_150 hl (k := 9) rfl (ii_add (c := 1) (k := 1) d (by decide)) (by decide) rfl (fun ls hl => ?_)
          refine lv_goto (tgt := 133) hx hb dX5_readOne_153 (by decide) ?_
          exact ih ((d + 1, upd u (k + d) (nI (lev inp at_ ((w + 7) / 8) / 2 ^ 0 % 2 ^ w)))) _ _ _ ⟨by omega, fun q hq => by rw [pk_un (by omega)]; exact hu1 q hq, fun q h1 h2 => by
            by_cases hqk : q = k + d
            · subst hqk; exact pk_us
            · rw [pk_un hqk]; exact hu2 q h1 (by omega), hP.sub [0, 1, 2] rfl, hD.sub [0, 1, 2] (by decide) rfl, hS, lv_sub hl [1, 2, 3, 4, 5, 6, 7, 8, 9, 0] rfl⟩ (by show mv - (d + 1) < mv - d; omega)
      · rw [nI_leI (a := (8 * ((w + 7) / 8))) (b := i) (by omega) (by omega)] at c_78
        have h256 := mB_256 hf (at_ + (i / 8))
        have hbit := lev_bit (mB_256 hf) at_ ((w + 7) / 8) i (by omega)
        refine lv_aload_n hx hb dX5_readOne_81 rfl (lv_at hl 0 rfl) ?_
        refine va_get (D := (dC, dI)) (ci := 5) (v := .ref q4) (C := RX5) (T := TX5) (N := 13) hx hb hts iX5 hown hK hP 0 rfl rfl 11 (by decide) (hts _ m_295) (fun _ h9 => h9) rfl dX5_readOne_82 ?_
        refine lv_aload_n hx hb dX5_readOne_85 rfl (lv_at hl 0 rfl) ?_
        refine va_get (D := (dC, dI)) (ci := 5) (v := .int (nI at_)) (C := RX5) (T := TX5) (N := 13) hx hb hts iX5 hown hK hP 0 rfl rfl 8 (by decide) (hts _ m_292) (fun _ h9 => h9) rfl dX5_readOne_86 ?_
        refine lv_iload hx hb dX5_readOne_89 (lv_at hl 9 rfl) ?_
        refine lv_bipush (v := nI 8) hx hb dX5_readOne_91 (by decide) ?_
        refine lv_idiv hx hb dX5_readOne_93 (by decide) ?_
        refine tI_ (y := nI (i / 8)) (pk_div (by omega) (by decide) (by decide)) ?_
        refine lv_iadd hx hb dX5_readOne_94 ?_
        refine tI_ (y := nI (at_ + (i / 8))) (nI_add _ _) ?_
        refine va_iald hx hb hK hP 2 1 rfl rfl (vp_in_nI (by omega) (by omega)) dX5_readOne_95 ?_
        refine tI_ (y := f4 (at_ + (i / 8))) (congrArg f4 (nI_clamp (by omega))) ?_
        refine tI_ (y := nI (inp.getD (at_ + (i / 8)) 0)) ((hf _ (by omega)).2) ?_
        refine lv_iload hx hb dX5_readOne_96 (lv_at hl 9 rfl) ?_
        refine lv_bipush (v := nI 8) hx hb dX5_readOne_98 (by decide) ?_
        refine lv_irem hx hb dX5_readOne_100 (by decide) ?_
        refine tI_ (y := nI (i % 8)) (pk_rem (by omega) (by decide) (by decide)) ?_
        refine lv_ishr hx hb dX5_readOne_101 ?_
        refine tI_ (y := nI (inp.getD (at_ + (i / 8)) 0 / 2 ^ (i % 8))) (shrN (by omega) (by omega)) ?_
        refine lv_iconst (v := nI 1) hx hb dX5_readOne_102 (by decide) ?_
        refine lv_iand hx hb dX5_readOne_103 ?_
        refine tI_ (y := nI (lev inp at_ ((w + 7) / 8) / 2 ^ i % 2)) (by rw [hbit]; exact pk_andN (Nat.lt_of_le_of_lt (Nat.div_le_self _ _) (by omega)) 1 (by decide)) ?_
        refine lv_iconst (v := nI 1) hx hb dX5_readOne_104 (by decide) ?_
        have hms := mod_step (lev inp at_ ((w + 7) / 8)) i
        refine lv_icmp_ne (tgt := 113) hx hb dX5_readOne_105 (by decide) (fun c_105 => ?_) (fun c_105 => ?_)
        · rw [nI_eq (a := (lev inp at_ ((w + 7) / 8) / 2 ^ i % 2)) (b := 1) (by omega) (by omega)] at c_105
          have h0 : lev inp at_ ((w + 7) / 8) / 2 ^ i % 2 = 0 := by omega
          have hms2 : lev inp at_ ((w + 7) / 8) % 2 ^ (i + 1) = lev inp at_ ((w + 7) / 8) % 2 ^ i := by rw [hms, h0, Nat.zero_mul]; rfl
          rw [← hms2] at hP hD
          refine lv_iinc (v := nI (i + 1)) (lv' := [(10, .int (nI (i + 1))), (0, .ref mo), (1, .ref q2), (2, .int (nI k)), (3, .int (nI n_)), (4, .int (nI w)), (5, .int (nI (List.length inp))), (6, .long (lN mv)), (8, .int (nI ((w + 7) / 8))), (9, .int (nI (lev inp at_ ((w + 7) / 8) / 2 ^ 0 % 2 ^ w)))]) hx hb dX5_readOne_113 hl (k := 9) rfl (ii_add (c := 1) (k := 1) i (by decide)) (by decide) rfl (fun ls hl => ?_)
          refine lv_goto (tgt := 71) hx hb dX5_readOne_116 (by decide) ?_
          exact ih (i + 1) _ _ _ ⟨by omega, by omega, hP.sub [0, 1, 2] rfl, hD.sub [0, 1, 2] (by decide) rfl, hS, lv_sub hl [1, 2, 3, 4, 5, 6, 7, 8, 9, 0] rfl⟩ (by show 8 * ((w + 7) / 8) - (i + 1) < 8 * ((w + 7) / 8) - i; omega)
        · rw [nI_eq (a := (lev inp at_ ((w + 7) / 8) / 2 ^ i % 2)) (b := 1) (by omega) (by omega)] at c_105
          have hp2 : 2 ^ w ≤ 2 ^ i := Nat.pow_le_pow_right (by decide) hwi
          rw [c_105, Nat.one_mul] at hms
          have h5 : (if 2 ^ w ≤ lev inp at_ ((w + 7) / 8) % 2 ^ (i + 1) then 5 else 0) = 5 := if_pos (by omega)
          refine lv_aload_n hx hb dX5_readOne_108 rfl (lv_at hl 0 rfl) ?_
          refine lv_iconst (v := nI 5) hx hb dX5_readOne_109 (by decide) ?_
          refine va_put (D := (dC, dI)) (ci := 5) (v := .int (nI 5)) (ty := .int) (C := RX5) (T := TX5) (N := 13) hx hb hts iX5 tyX5 tyX5_ok nmX5 hown hK hP hD hS 0 rfl rfl 9 (by decide) (hts _ m_293) (fun _ h9 => h9) rfl (by decide +kernel) rfl rfl (Nat.le_of_ble_eq_true rfl) dX5_readOne_110 (fun H locs hP hD hS => ?_)
          have hP : va_P (dC, dI) vwCl [(mo, .inr (5, [.int cd, .ref q1, .ref q2, .int z3, .int z4, .int z5, .int z6, .int z7, .int (nI at_), .int (nI 5), .ref q3, .ref q4, .ref q5])), (q2, .inl (c2, 4104, .inl f2)), (q4, .inl (c4, 8192, .inl f4))] H := hP
          have hD : va_D A [(mo, .inr (5, [.int cd, .ref q1, .ref q2, .int z3, .int z4, .int z5, .int z6, .int z7, .int (nI at_), .int (nI 5), .ref q3, .ref q4, .ref q5])), (q2, .inl (c2, 4104, .inl f2)), (q4, .inl (c4, 8192, .inl f4))] := hD
          refine lv_iinc (v := nI (i + 1)) (lv' := [(10, .int (nI (i + 1))), (0, .ref mo), (1, .ref q2), (2, .int (nI k)), (3, .int (nI n_)), (4, .int (nI w)), (5, .int (nI (List.length inp))), (6, .long (lN mv)), (8, .int (nI ((w + 7) / 8))), (9, .int (nI (lev inp at_ ((w + 7) / 8) / 2 ^ 0 % 2 ^ w)))]) hx hb dX5_readOne_113 hl (k := 9) rfl (ii_add (c := 1) (k := 1) i (by decide)) (by decide) rfl (fun ls hl => ?_)
          refine lv_goto (tgt := 71) hx hb dX5_readOne_116 (by decide) ?_
          have hP := (show va_P (dC, dI) vwCl [(mo, .inr (5, [.int cd, .ref q1, .ref q2, .int z3, .int z4, .int z5, .int z6, .int z7, .int (nI at_), .int (nI (if 2 ^ w ≤ lev inp at_ ((w + 7) / 8) % 2 ^ (i + 1) then 5 else 0)), .ref q3, .ref q4, .ref q5])), (q2, .inl (c2, 4104, .inl f2)), (q4, .inl (c4, 8192, .inl f4))] H from by rw [h5]; exact hP.sub [0, 1, 2] rfl)
          have hD := (show va_D A [(mo, .inr (5, [.int cd, .ref q1, .ref q2, .int z3, .int z4, .int z5, .int z6, .int z7, .int (nI at_), .int (nI (if 2 ^ w ≤ lev inp at_ ((w + 7) / 8) % 2 ^ (i + 1) then 5 else 0)), .ref q3, .ref q4, .ref q5])), (q2, .inl (c2, 4104, .inl f2)), (q4, .inl (c4, 8192, .inl f4))] from by rw [h5]; exact hD.sub [0, 1, 2] (by decide) rfl)
          exact ih (i + 1) _ _ _ ⟨by omega, by omega, hP.sub [0, 1, 2] rfl, hD.sub [0, 1, 2] (by decide) rfl, hS, lv_sub hl [1, 2, 3, 4, 5, 6, 7, 8, 9, 0] rfl⟩ (by show 8 * ((w + 7) / 8) - (i + 1) < 8 * ((w + 7) / 8) - i; omega)
    · rw [nI_leI (a := ((w + 7) / 8)) (b := ((List.length inp) - at_)) (by omega) (by omega)] at c_37
      refine lv_aload_n hx hb dX5_readOne_40 rfl (lv_at hl 1 rfl) ?_
      refine lv_iconst (v := nI 1) hx hb dX5_readOne_41 (by decide) ?_
      refine va_put (D := (dC, dI)) (ci := 5) (v := .int (nI 1)) (ty := .int) (C := RX5) (T := TX5) (N := 13) hx hb hts iX5 tyX5 tyX5_ok nmX5 hown hK hP hD hS 0 rfl rfl 9 (by decide) (hts _ m_293) (fun _ h9 => h9) rfl (by decide +kernel) rfl rfl (Nat.le_of_ble_eq_true rfl) dX5_readOne_42 (fun H locs hP hD hS => ?_)
      have hP : va_P (dC, dI) vwCl [(mo, .inr (5, [.int cd, .ref q1, .ref q2, .int z3, .int z4, .int z5, .int z6, .int z7, .int (nI at_), .int (nI 1), .ref q3, .ref q4, .ref q5])), (q2, .inl (c2, 4104, .inl f2)), (q4, .inl (c4, 8192, .inl f4))] H := hP
      have hD : va_D A [(mo, .inr (5, [.int cd, .ref q1, .ref q2, .int z3, .int z4, .int z5, .int z6, .int z7, .int (nI at_), .int (nI 1), .ref q3, .ref q4, .ref q5])), (q2, .inl (c2, 4104, .inl f2)), (q4, .inl (c4, 8192, .inl f4))] := hD
      refine lv_aload_n hx hb dX5_readOne_45 rfl (lv_at hl 1 rfl) ?_
      refine va_get (D := (dC, dI)) (ci := 5) (v := .int (nI 1)) (C := RX5) (T := TX5) (N := 13) hx hb hts iX5 hown hK hP 0 rfl rfl 9 (by decide) (hts _ m_293) (fun _ h9 => h9) rfl dX5_readOne_46 ?_
      refine lv_if_eq (tgt := 54) hx hb dX5_readOne_49 (by decide) (fun c_9 => absurd c_9 (by decide)) (fun _ => ?_)
      refine lv_iload_n hx hb dX5_readOne_52 rfl (lv_at hl 3 rfl) ?_
      exact kend_i hx hb hr hlocks dX5_readOne_53 (rfl) hK hP hD hS ((at_, 1, f2)) (Or.inr (Or.inl ⟨by omega, by omega, rfl⟩)) [0, 1, 2] [0, 1] rfl (by decide) rfl
  · rw [lg_cmp_le, pk_lLE (by omega) (by omega)] at c_17
    refine lv_aload_n hx hb dX5_readOne_20 rfl (lv_at hl 1 rfl) ?_
    refine lv_iconst (v := nI 4) hx hb dX5_readOne_21 (by decide) ?_
    refine va_put (D := (dC, dI)) (ci := 5) (v := .int (nI 4)) (ty := .int) (C := RX5) (T := TX5) (N := 13) hx hb hts iX5 tyX5 tyX5_ok nmX5 hown hK hP hD hS 0 rfl rfl 9 (by decide) (hts _ m_293) (fun _ h9 => h9) rfl (by decide +kernel) rfl rfl (Nat.le_of_ble_eq_true rfl) dX5_readOne_22 (fun H locs hP hD hS => ?_)
    have hP : va_P (dC, dI) vwCl [(mo, .inr (5, [.int cd, .ref q1, .ref q2, .int z3, .int z4, .int z5, .int z6, .int z7, .int (nI at_), .int (nI 4), .ref q3, .ref q4, .ref q5])), (q2, .inl (c2, 4104, .inl f2)), (q4, .inl (c4, 8192, .inl f4))] H := hP
    have hD : va_D A [(mo, .inr (5, [.int cd, .ref q1, .ref q2, .int z3, .int z4, .int z5, .int z6, .int z7, .int (nI at_), .int (nI 4), .ref q3, .ref q4, .ref q5])), (q2, .inl (c2, 4104, .inl f2)), (q4, .inl (c4, 8192, .inl f4))] := hD
    refine lv_goto (tgt := 45) hx hb dX5_readOne_25 (by decide) ?_
    refine lv_aload_n hx hb dX5_readOne_45 rfl (lv_at hl 1 rfl) ?_
    refine va_get (D := (dC, dI)) (ci := 5) (v := .int (nI 4)) (C := RX5) (T := TX5) (N := 13) hx hb hts iX5 hown hK hP 0 rfl rfl 9 (by decide) (hts _ m_293) (fun _ h9 => h9) rfl dX5_readOne_46 ?_
    refine lv_if_eq (tgt := 54) hx hb dX5_readOne_49 (by decide) (fun c_9 => absurd c_9 (by decide)) (fun _ => ?_)
    refine lv_iload_n hx hb dX5_readOne_52 rfl (lv_at hl 3 rfl) ?_
    exact kend_i hx hb hr hlocks dX5_readOne_53 (rfl) hK hP hD hS ((at_, 4, f2)) (Or.inl ⟨by omega, rfl⟩) [0, 1, 2] [0, 1] rfl (by decide) rfl

set_option maxHeartbeats 4000000 in
set_option maxRecDepth 100000 in
/-- readGroups -/
theorem m_readGroups (l : Launch) (dC : Nat → ClassId) (dI : Nat → Nat → Nat) (sz : Nat) (mo q1 q2 q3 q4 q5 : Nat) (cd z3 z4 z5 z6 z7 : Int32) (c2 : ClassId) (f2 : Nat → Int32) (c4 : ClassId) (f4 : Nat → Int32) (inp : List Nat) (at_ k n_ w mv : Nat) (hf : mB f4 inp) (hn : inp.length ≤ 8192) (hat : at_ ≤ inp.length) (hkn : k ≤ n_) (hn4 : n_ ≤ 4096) (hw32 : w ≤ 32) (hmv : mv < 2 ^ 63) : Met l yX5_readGroups wsX5_readGroups ({ frames := 1, cells := 0, slots := 0, locals := 25 }) (va_Pc [.ref mo, .ref q2, .int (nI k), .int (nI n_), .int (nI w), .int (nI (List.length inp)), .long (lN mv)] (kB (dC, dI) vwCl [(c2, .int), (c4, .int)] [(mo, .inr (5, [.int cd, .ref q1, .ref q2, .int z3, .int z4, .int z5, .int z6, .int z7, .int (nI at_), .int (nI 0), .ref q3, .ref q4, .ref q5])), (q2, .inl (c2, 4104, .inl f2)), (q4, .inl (c4, 8192, .inl f4))] sz)) (va_Qi (fun r0 (u : Nat × Nat × (Nat → Int32)) => ((n_ - k + 7) / 8 < mv ∧ u.2.1 = 4) ∨ (¬ (n_ - k + 7) / 8 < mv ∧ inp.length - at_ < mv * w ∧ u.2.1 = 1) ∨ (¬ (n_ - k + 7) / 8 < mv ∧ ¬ inp.length - at_ < mv * w ∧ (¬ (∀ q, q < mv * 8 → n_ - k ≤ q → lev inp at_ (mv * w) / 2 ^ (w * q) % 2 ^ w = 0)) ∧ u.2.1 = 5) ∨ (¬ (n_ - k + 7) / 8 < mv ∧ ¬ inp.length - at_ < mv * w ∧ (∀ q, q < mv * 8 → n_ - k ≤ q → lev inp at_ (mv * w) / 2 ^ (w * q) % 2 ^ w = 0) ∧ u.2.1 = 0 ∧ u.1 = at_ + mv * w ∧ r0 = nI (k + 8 * mv) ∧ (∀ q, q < k → u.2.2 q = f2 q) ∧ ∀ q, q < mv * 8 → k + q < n_ → u.2.2 (k + q) = nI (lev inp at_ (mv * w) / 2 ^ (w * q) % 2 ^ w))) (kE (dC, dI) vwCl (va_A [(mo, .inr (5, [.int cd, .ref q1, .ref q2, .int z3, .int z4, .int z5, .int z6, .int z7, .int (nI at_), .int (nI 0), .ref q3, .ref q4, .ref q5])), (q2, .inl (c2, 4104, .inl f2)), (q4, .inl (c4, 8192, .inl f4))] sz) (fun _ => [(c2, .int), (c4, .int)]) (fun u => [(mo, .inr (5, [.int cd, .ref q1, .ref q2, .int z3, .int z4, .int z5, .int z6, .int z7, .int (nI u.1), .int (nI u.2.1), .ref q3, .ref q4, .ref q5])), (q2, .inl (c2, 4104, .inl u.2.2)), (q4, .inl (c4, 8192, .inl f4))])) (va_A [(mo, .inr (5, [.int cd, .ref q1, .ref q2, .int z3, .int z4, .int z5, .int z6, .int z7, .int (nI at_), .int (nI 0), .ref q3, .ref q4, .ref q5])), (q2, .inl (c2, 4104, .inl f2)), (q4, .inl (c4, 8192, .inl f4))] sz)) 0 0 (va_A [(mo, .inr (5, [.int cd, .ref q1, .ref q2, .int z3, .int z4, .int z5, .int z6, .int z7, .int (nI at_), .int (nI 0), .ref q3, .ref q4, .ref q5])), (q2, .inl (c2, 4104, .inl f2)), (q4, .inl (c4, 8192, .inl f4))] sz) := by
  refine Met.ofW (cc := cX5_readGroups) (maxL := 10) (ret := (some .int)) (by decide) rfl ?_
  intro p e s m args below meth c s₁ B hml hv
  obtain ⟨rfl, hsz, hP, hK, hD0, hNs⟩ := hv
  have hx := B.exec
  have hb := B.bytes
  have hr := B.returns
  have hts := fun w (h : w ∈ lw_g) => atoms_spec (ws := wsX5_readGroups) B.pre w (List.mem_cons_of_mem _ h)
  have hown : s.vm.findClass RX5 = some m.cls := findClass_of_methodNamed B.named
  have hlocks := B.notSynchronized
  subst hsz
  have hD := hD0.self (sz := s.heap.size)
  generalize hAe : va_A [(mo, .inr (5, [.int cd, .ref q1, .ref q2, .int z3, .int z4, .int z5, .int z6, .int z7, .int (nI at_), .int (nI 0), .ref q3, .ref q4, .ref q5])), (q2, .inl (c2, 4104, .inl f2)), (q4, .inl (c4, 8192, .inl f4))] s.heap.size = A at hD ⊢
  have hA : ∀ q : Nat, s.heap.size ≤ q → A q := fun q h => by rw [← hAe]; exact Or.inr h
  have hS : va_S A s.heap s.heap [] := va_S.rf
  have hP : va_P (dC, dI) vwCl [(mo, .inr (5, [.int cd, .ref q1, .ref q2, .int z3, .int z4, .int z5, .int z6, .int z7, .int (nI at_), .int (nI 0), .ref q3, .ref q4, .ref q5])), (q2, .inl (c2, 4104, .inl f2)), (q4, .inl (c4, 8192, .inl f4))] s.heap := hP
  have hl := lv_entry ([.ref mo, .ref q2, .int (nI k), .int (nI n_), .int (nI w), .int (nI (List.length inp)), .long (lN mv)]) (n := 10) (Nat.le_of_ble_eq_true rfl)
  rw [lg_entry_eq]
  generalize (lg_sl ([.ref mo, .ref q2, .int (nI k), .int (nI n_), .int (nI w), .int (nI (List.length inp)), .long (lN mv)]) ++ List.replicate (10 - (lg_sl ([.ref mo, .ref q2, .int (nI k), .int (nI n_), .int (nI w), .int (nI (List.length inp)), .long (lN mv)])).length) Slot.unset).toArray = ls at hl ⊢
  have hl : lv_has ls 10 [(0, .ref mo), (1, .ref q2), (2, .int (nI k)), (3, .int (nI n_)), (4, .int (nI w)), (5, .int (nI (List.length inp))), (6, .long (lN mv))] := hl
  refine lv_lload hx hb dX5_readGroups_0 (lv_at hl 6 rfl) ?_
  refine lv_iload_n hx hb dX5_readGroups_2 rfl (lv_at hl 3 rfl) ?_
  refine lv_iload_n hx hb dX5_readGroups_3 rfl (lv_at hl 2 rfl) ?_
  refine lv_isub hx hb dX5_readGroups_4 ?_
  refine tI_ (y := nI (n_ - k)) (pk_sub (by omega)) ?_
  refine lv_bipush (v := nI 7) hx hb dX5_readGroups_5 (by decide) ?_
  refine lv_iadd hx hb dX5_readGroups_7 ?_
  refine tI_ (y := nI ((n_ - k) + 7)) (nI_add _ _) ?_
  refine lv_bipush (v := nI 8) hx hb dX5_readGroups_8 (by decide) ?_
  refine lv_idiv hx hb dX5_readGroups_10 (by decide) ?_
  refine tI_ (y := nI (((n_ - k) + 7) / 8)) (pk_div (by omega) (by decide) (by decide)) ?_
  refine lv_i2l (v := lN ((n_ - k + 7) / 8)) hx hb dX5_readGroups_11 (nI_l (by omega)) ?_
  refine W.lcmp hx hb dX5_readGroups_12 ?_
  refine lv_if_le (tgt := 24) hx hb dX5_readGroups_13 (by decide) (fun c_13 => ?_) (fun c_13 => ?_)
  · rw [lg_cmp_le, pk_lLE (by omega) (by omega)] at c_13
    have hmw : mv * w ≤ 512 * 32 := Nat.mul_le_mul (by omega) hw32
    refine lv_iload hx hb dX5_readGroups_24 (lv_at hl 5 rfl) ?_
    refine lv_aload_n hx hb dX5_readGroups_26 rfl (lv_at hl 0 rfl) ?_
    refine va_get (D := (dC, dI)) (ci := 5) (v := .int (nI at_)) (C := RX5) (T := TX5) (N := 13) hx hb hts iX5 hown hK hP 0 rfl rfl 8 (by decide) (hts _ m_292) (fun _ h9 => h9) rfl dX5_readGroups_27 ?_
    refine lv_isub hx hb dX5_readGroups_30 ?_
    refine tI_ (y := nI ((List.length inp) - at_)) (pk_sub (by omega)) ?_
    refine lv_i2l (v := lN ((List.length inp) - at_)) hx hb dX5_readGroups_31 (nI_l (by omega)) ?_
    refine lv_lload hx hb dX5_readGroups_32 (lv_at hl 6 rfl) ?_
    refine lv_iload hx hb dX5_readGroups_34 (lv_at hl 4 rfl) ?_
    refine lv_i2l (v := lN w) hx hb dX5_readGroups_36 (nI_l (by omega)) ?_
    refine lv_lmul hx hb dX5_readGroups_37 ?_
    refine tL_ (y := lN (mv * w)) (lN_mul _ _) ?_
    refine W.lcmp hx hb dX5_readGroups_38 ?_
    refine lv_if_ge (tgt := 47) hx hb dX5_readGroups_39 (by decide) (fun c_39 => ?_) (fun c_39 => ?_)
    · rw [lg_cmp_ge, pk_lLE (by omega) (by omega)] at c_39
      refine lv_aload_n hx hb dX5_readGroups_47 rfl (lv_at hl 0 rfl) ?_
      refine va_get (D := (dC, dI)) (ci := 5) (v := .int (nI 0)) (C := RX5) (T := TX5) (N := 13) hx hb hts iX5 hown hK hP 0 rfl rfl 9 (by decide) (hts _ m_293) (fun _ h9 => h9) rfl dX5_readGroups_48 ?_
      refine lv_if_eq (tgt := 56) hx hb dX5_readGroups_51 (by decide) (fun _ => ?_) (fun c_9 => absurd (by decide) c_9)
      refine lv_iconst (v := nI 0) hx hb dX5_readGroups_56 (by decide) ?_
      refine lv_istore (lv' := [(8, .int (nI 0)), (0, .ref mo), (1, .ref q2), (2, .int (nI k)), (3, .int (nI n_)), (4, .int (nI w)), (5, .int (nI (List.length inp))), (6, .long (lN mv))]) hx hb dX5_readGroups_57 hl (by decide) rfl (fun ls hl => ?_)
      refine k_loop (σ := Nat × Nat × (Nat → Int32)) (fun (z : Nat × Nat × (Nat → Int32)) H locs ls => match z with
            | (i, fq, u) => i ≤ 8 * mv ∧ ((fq = 0 ∧ ∀ q, q < i → n_ - k ≤ q → lev inp at_ (mv * w) / 2 ^ (w * q) % 2 ^ w = 0) ∨ (fq = 5 ∧ ∃ q, q < i ∧ n_ - k ≤ q ∧ ¬ lev inp at_ (mv * w) / 2 ^ (w * q) % 2 ^ w = 0)) ∧ (∀ q, q < k → u q = f2 q) ∧ (∀ q, q < i → k + q < n_ → u (k + q) = nI (lev inp at_ (mv * w) / 2 ^ (w * q) % 2 ^ w)) ∧ va_P (dC, dI) vwCl [(mo, .inr (5, [.int cd, .ref q1, .ref q2, .int z3, .int z4, .int z5, .int z6, .int z7, .int (nI at_), .int (nI fq), .ref q3, .ref q4, .ref q5])), (q2, .inl (c2, 4104, .inl u)), (q4, .inl (c4, 8192, .inl f4))] H ∧ va_D A [(mo, .inr (5, [.int cd, .ref q1, .ref q2, .int z3, .int z4, .int z5, .int z6, .int z7, .int (nI at_), .int (nI fq), .ref q3, .ref q4, .ref q5])), (q2, .inl (c2, 4104, .inl u)), (q4, .inl (c4, 8192, .inl f4))] ∧ va_S A s.heap H locs ∧ lv_has ls 10 [(0, .ref mo), (1, .ref q2), (2, .int (nI k)), (3, .int (nI n_)), (4, .int (nI w)), (5, .int (nI (List.length inp))), (6, .long (lN mv)), (8, .int (nI i))]) (fun z => match z with
            | (i, fq, u) => 8 * mv - i) ?_ ((0, 0, f2)) _ _ _ ⟨Nat.zero_le _, Or.inl ⟨rfl, fun q h => absurd h (Nat.not_lt_zero q)⟩, fun _ _ => rfl, fun q h => absurd h (Nat.not_lt_zero q), hP.sub [0, 1, 2] rfl, hD.sub [0, 1, 2] (by decide) rfl, hS, lv_sub hl [1, 2, 3, 4, 5, 6, 7, 0] rfl⟩
      intro z H locs ls hI ih
      obtain ⟨i, fq, u⟩ := z
      obtain ⟨hi, hfq, hu1, hu2, hP, hD, hS, hl⟩ := hI
      refine lv_iload hx hb dX5_readGroups_59 (lv_at hl 7 rfl) ?_
      refine lv_i2l (v := lN i) hx hb dX5_readGroups_61 (nI_l (by omega)) ?_
      refine lv_ldc2 (v := lN 8) hx hb hown (hts _ m_389) dX5_readGroups_62 ?_
      refine lv_lload hx hb dX5_readGroups_65 (lv_at hl 6 rfl) ?_
      refine lv_lmul hx hb dX5_readGroups_67 ?_
      refine tL_ (y := lN (8 * mv)) (lN_mul _ _) ?_
      refine W.lcmp hx hb dX5_readGroups_68 ?_
      refine lv_if_ge (tgt := 124) hx hb dX5_readGroups_69 (by decide) (fun c_69 => ?_) (fun c_69 => ?_)
      · rw [lg_cmp_ge, pk_lLE (by omega) (by omega)] at c_69
        obtain rfl : i = 8 * mv := by omega
        refine lv_aload_n hx hb dX5_readGroups_124 rfl (lv_at hl 0 rfl) ?_
        refine lv_dup hx hb dX5_readGroups_125 rfl ?_
        refine va_get (D := (dC, dI)) (ci := 5) (v := .int (nI at_)) (C := RX5) (T := TX5) (N := 13) hx hb hts iX5 hown hK hP 0 rfl rfl 8 (by decide) (hts _ m_292) (fun _ h9 => h9) rfl dX5_readGroups_126 ?_
        refine lv_lload hx hb dX5_readGroups_129 (lv_at hl 6 rfl) ?_
        refine lv_l2i (v := nI mv) hx hb dX5_readGroups_131 (lN_i _) ?_
        refine lv_iload hx hb dX5_readGroups_132 (lv_at hl 4 rfl) ?_
        refine lv_imul hx hb dX5_readGroups_134 ?_
        refine tI_ (y := nI (mv * w)) (pk_mul _ _) ?_
        refine lv_iadd hx hb dX5_readGroups_135 ?_
        refine tI_ (y := nI (at_ + (mv * w))) (nI_add _ _) ?_
        refine va_put (D := (dC, dI)) (ci := 5) (v := .int (nI (at_ + (mv * w)))) (ty := .int) (C := RX5) (T := TX5) (N := 13) hx hb hts iX5 tyX5 tyX5_ok nmX5 hown hK hP hD hS 0 rfl rfl 8 (by decide) (hts _ m_292) (fun _ h9 => h9) rfl (by decide +kernel) rfl rfl (Nat.le_of_ble_eq_true rfl) dX5_readGroups_136 (fun H locs hP hD hS => ?_)
        have hP : va_P (dC, dI) vwCl [(mo, .inr (5, [.int cd, .ref q1, .ref q2, .int z3, .int z4, .int z5, .int z6, .int z7, .int (nI (at_ + (mv * w))), .int (nI fq), .ref q3, .ref q4, .ref q5])), (q2, .inl (c2, 4104, .inl u)), (q4, .inl (c4, 8192, .inl f4))] H := hP
        have hD : va_D A [(mo, .inr (5, [.int cd, .ref q1, .ref q2, .int z3, .int z4, .int z5, .int z6, .int z7, .int (nI (at_ + (mv * w))), .int (nI fq), .ref q3, .ref q4, .ref q5])), (q2, .inl (c2, 4104, .inl u)), (q4, .inl (c4, 8192, .inl f4))] := hD
        refine lv_iload_n hx hb dX5_readGroups_139 rfl (lv_at hl 2 rfl) ?_
        refine lv_bipush (v := nI 8) hx hb dX5_readGroups_140 (by decide) ?_
        refine lv_lload hx hb dX5_readGroups_142 (lv_at hl 6 rfl) ?_
        refine lv_l2i (v := nI mv) hx hb dX5_readGroups_144 (lN_i _) ?_
        refine lv_imul hx hb dX5_readGroups_145 ?_
        refine tI_ (y := nI (8 * mv)) (pk_mul _ _) ?_
        refine lv_iadd hx hb dX5_readGroups_146 ?_
        refine tI_ (y := nI (k + (8 * mv))) (nI_add _ _) ?_
        rcases hfq with ⟨h0, hall⟩ | ⟨h5, q, hq1, hq2, hq3⟩
        · exact kend_i hx hb hr hlocks dX5_readGroups_147 (rfl) hK hP hD hS ((at_ + mv * w, fq, u)) (Or.inr (Or.inr (Or.inr ⟨by omega, by omega, fun q hq1 hq2 => hall q (by omega) hq2, h0, rfl, rfl, hu1, fun q hq1 hq2 => hu2 q (by omega) hq2⟩))) [0, 1, 2] [0, 1] rfl (by decide) rfl
        · exact kend_i hx hb hr hlocks dX5_readGroups_147 (rfl) hK hP hD hS ((at_ + mv * w, fq, u)) (Or.inr (Or.inr (Or.inl ⟨by omega, by omega, fun hall => hq3 (hall q (by omega) hq2), h5⟩))) [0, 1, 2] [0, 1] rfl (by decide) rfl
      · rw [lg_cmp_ge, pk_lLE (by omega) (by omega)] at c_69
        have hw1 : w * (i + 1) = w * i + w := Nat.mul_succ w i
        have hw2 : w * (i + 1) ≤ w * (8 * mv) := Nat.mul_le_mul_left _ (by omega)
        have hw3 : w * (8 * mv) = 8 * (mv * w) := by rw [Nat.mul_comm w, Nat.mul_assoc]
        refine lv_aload_n hx hb dX5_readGroups_72 rfl (lv_at hl 0 rfl) ?_
        refine lv_aload_n hx hb dX5_readGroups_73 rfl (lv_at hl 0 rfl) ?_
        refine va_get (D := (dC, dI)) (ci := 5) (v := .int (nI at_)) (C := RX5) (T := TX5) (N := 13) hx hb hts iX5 hown hK hP 0 rfl rfl 8 (by decide) (hts _ m_292) (fun _ h9 => h9) rfl dX5_readGroups_74 ?_
        refine lv_iload hx hb dX5_readGroups_77 (lv_at hl 4 rfl) ?_
        refine lv_iload hx hb dX5_readGroups_79 (lv_at hl 7 rfl) ?_
        refine lv_imul hx hb dX5_readGroups_81 ?_
        refine tI_ (y := nI (w * i)) (pk_mul _ _) ?_
        refine lv_iload hx hb dX5_readGroups_82 (lv_at hl 4 rfl) ?_
        refine kret_i (wc := [(mo, .inr (5, [.int cd, .ref q1, .ref q2, .int z3, .int z4, .int z5, .int z6, .int z7, .int (nI at_), .int (nI fq), .ref q3, .ref q4, .ref q5])), (q4, .inl (c4, 8192, .inl f4))]) (wr := [(q2, .inl (c2, 4104, .inl u))]) (va_runV (As := [.int (nI at_), .int (nI (w * i)), .int (nI w)]) (rest := []) ⟨hx, hb, hml, hown, hts⟩ (m_bitsAt l dC dI _ mo q1 q2 q3 q4 q5 cd z3 z4 z5 z6 z7 (nI at_) (nI fq) c4 f4 inp at_ (w * i) w (mv * w) hf hn hw32 (by omega) (by omega)) (cwV 3 hts (gdV m_381 m_383 mp_17 m_7 m_384) rfl rfl rfl (by decide +kernel) ⟨Nat.le_of_ble_eq_true rfl, Nat.le_of_ble_eq_true rfl⟩) (kpV hNs hK hP hD [0, 2] [1] rfl rfl (by decide) (ci := 5) rfl rfl) rfl rfl hl.1 rfl (lv_room (Nat.le_of_ble_eq_true rfl)) dX5_readGroups_84 ⟨Nat.le_of_ble_eq_true rfl, Nat.le_of_ble_eq_true rfl⟩) hP hD hS hA [0, 2] [1] rfl rfl (by decide) (by decide) (fun y _ H locs hpo hK1 hP hD hS => ?_)
        have hy := hpo
        have hP : va_P (dC, dI) vwCl [(q2, .inl (c2, 4104, .inl u)), (mo, .inr (5, [.int cd, .ref q1, .ref q2, .int z3, .int z4, .int z5, .int z6, .int z7, .int (nI at_), .int (nI fq), .ref q3, .ref q4, .ref q5])), (q4, .inl (c4, 8192, .inl f4))] H := hP
        have hD : va_D A [(q2, .inl (c2, 4104, .inl u)), (mo, .inr (5, [.int cd, .ref q1, .ref q2, .int z3, .int z4, .int z5, .int z6, .int z7, .int (nI at_), .int (nI fq), .ref q3, .ref q4, .ref q5])), (q4, .inl (c4, 8192, .inl f4))] := hD
        subst hy
        refine lv_istore (lv' := [(9, .int (nI (lev inp at_ (mv * w) / 2 ^ (w * i) % 2 ^ w))), (0, .ref mo), (1, .ref q2), (2, .int (nI k)), (3, .int (nI n_)), (4, .int (nI w)), (5, .int (nI (List.length inp))), (6, .long (lN mv)), (8, .int (nI i))]) hx hb dX5_readGroups_87 hl (by decide) rfl (fun ls hl => ?_)
        refine lv_iload_n hx hb dX5_readGroups_89 rfl (lv_at hl 3 rfl) ?_
        refine lv_iload hx hb dX5_readGroups_90 (lv_at hl 8 rfl) ?_
        refine lv_iadd hx hb dX5_readGroups_92 ?_
        refine tI_ (y := nI (k + i)) (nI_add _ _) ?_
        refine lv_iload_n hx hb dX5_readGroups_93 rfl (lv_at hl 4 rfl) ?_
        refine lv_icmp_ge (tgt := 108) hx hb dX5_readGroups_94 (by decide) (fun c_94 => ?_) (fun c_94 => ?_)
        · rw [nI_leI (a := n_) (b := (k + i)) (by omega) (by omega)] at c_94
          refine lv_iload hx hb dX5_readGroups_108 (lv_at hl 0 rfl) ?_
          refine lv_if_eq (tgt := 118) hx hb dX5_readGroups_110 (by decide) (fun c_110 => ?_) (fun c_110 => ?_)
          · have hzz := nI_z32 (a := lev inp at_ (mv * w) / 2 ^ (w * i) % 2 ^ w) (Nat.lt_of_lt_of_le (Nat.mod_lt _ (Nat.pow_pos (by decide))) (Nat.pow_le_pow_right (by decide) hw32))
            rw [hzz] at c_110
            refine lv_iinc (v := nI (i + 1)) (lv' := [(8, .int (nI (i + 1))), (9, .int (nI (lev inp at_ (mv * w) / 2 ^ (w * i) % 2 ^ w))), (0, .ref mo), (1, .ref q2), (2, .int (nI k)), (3, .int (nI n_)), (4, .int (nI w)), (5, .int (nI (List.length inp))), (6, .long (lN mv))]) hx hb dX5_readGroups_118 hl (k := 8) rfl (ii_add (c := 1) (k := 1) i (by decide)) (by decide) rfl (fun ls hl => ?_)
            refine lv_goto (tgt := 59) hx hb dX5_readGroups_121 (by decide) ?_
            exact ih ((i + 1, fq, u)) _ _ _ ⟨by omega, by
              rcases hfq with ⟨h0, hall⟩ | ⟨h5, q, hq1, hq2, hq3⟩
              · exact Or.inl ⟨h0, fun q hq1 hq2 => by
                  by_cases hqi : q = i
                  · subst hqi; exact c_110
                  · exact hall q (by omega) hq2⟩
              · exact Or.inr ⟨h5, q, by omega, hq2, hq3⟩, hu1, fun q hq1 hq2 => by
              by_cases hqi : q = i
              · exact absurd hq2 (by omega)
              · exact hu2 q (by omega) hq2, hP.sub [1, 0, 2] rfl, hD.sub [1, 0, 2] (by decide) rfl, hS, lv_sub hl [2, 3, 4, 5, 6, 7, 8, 0] rfl⟩ (by show 8 * mv - (i + 1) < 8 * mv - i; omega)
          · have hzz := nI_z32 (a := lev inp at_ (mv * w) / 2 ^ (w * i) % 2 ^ w) (Nat.lt_of_lt_of_le (Nat.mod_lt _ (Nat.pow_pos (by decide))) (Nat.pow_le_pow_right (by decide) hw32))
            rw [hzz] at c_110
            refine lv_aload_n hx hb dX5_readGroups_113 rfl (lv_at hl 1 rfl) ?_
            refine lv_iconst (v := nI 5) hx hb dX5_readGroups_114 (by decide) ?_
            refine va_put (D := (dC, dI)) (ci := 5) (v := .int (nI 5)) (ty := .int) (C := RX5) (T := TX5) (N := 13) hx hb hts iX5 tyX5 tyX5_ok nmX5 hown hK hP hD hS 1 rfl rfl 9 (by decide) (hts _ m_293) (fun _ h9 => h9) rfl (by decide +kernel) rfl rfl (Nat.le_of_ble_eq_true rfl) dX5_readGroups_115 (fun H locs hP hD hS => ?_)
            have hP : va_P (dC, dI) vwCl [(q2, .inl (c2, 4104, .inl u)), (mo, .inr (5, [.int cd, .ref q1, .ref q2, .int z3, .int z4, .int z5, .int z6, .int z7, .int (nI at_), .int (nI 5), .ref q3, .ref q4, .ref q5])), (q4, .inl (c4, 8192, .inl f4))] H := hP
            have hD : va_D A [(q2, .inl (c2, 4104, .inl u)), (mo, .inr (5, [.int cd, .ref q1, .ref q2, .int z3, .int z4, .int z5, .int z6, .int z7, .int (nI at_), .int (nI 5), .ref q3, .ref q4, .ref q5])), (q4, .inl (c4, 8192, .inl f4))] := hD
            refine lv_iinc (v := nI (i + 1)) (lv' := [(8, .int (nI (i + 1))), (9, .int (nI (lev inp at_ (mv * w) / 2 ^ (w * i) % 2 ^ w))), (0, .ref mo), (1, .ref q2), (2, .int (nI k)), (3, .int (nI n_)), (4, .int (nI w)), (5, .int (nI (List.length inp))), (6, .long (lN mv))]) hx hb dX5_readGroups_118 hl (k := 8) rfl (ii_add (c := 1) (k := 1) i (by decide)) (by decide) rfl (fun ls hl => ?_)
            refine lv_goto (tgt := 59) hx hb dX5_readGroups_121 (by decide) ?_
            exact ih ((i + 1, 5, u)) _ _ _ ⟨by omega, Or.inr ⟨rfl, i, by omega, by omega, c_110⟩, hu1, fun q hq1 hq2 => by
              by_cases hqi : q = i
              · exact absurd hq2 (by omega)
              · exact hu2 q (by omega) hq2, hP.sub [1, 0, 2] rfl, hD.sub [1, 0, 2] (by decide) rfl, hS, lv_sub hl [2, 3, 4, 5, 6, 7, 8, 0] rfl⟩ (by show 8 * mv - (i + 1) < 8 * mv - i; omega)
        · rw [nI_leI (a := n_) (b := (k + i)) (by omega) (by omega)] at c_94
          refine lv_aload_n hx hb dX5_readGroups_97 rfl (lv_at hl 2 rfl) ?_
          refine lv_iload_n hx hb dX5_readGroups_98 rfl (lv_at hl 3 rfl) ?_
          refine lv_iload hx hb dX5_readGroups_99 (lv_at hl 8 rfl) ?_
          refine lv_iadd hx hb dX5_readGroups_101 ?_
          refine tI_ (y := nI (k + i)) (nI_add _ _) ?_
          refine lv_iload hx hb dX5_readGroups_102 (lv_at hl 0 rfl) ?_
          refine va_iast hx hb hK hP hD hS 0 0 rfl rfl (vp_in_nI (by omega) (by omega)) dX5_readGroups_104 (fun H locs hP hD hS => ?_)
          rw [nI_clamp (n := (k + i)) (by omega)] at hP hD
          have hP : va_P (dC, dI) vwCl [(q2, .inl (c2, 4104, .inl (upd u (k + i) (nI (lev inp at_ (mv * w) / 2 ^ (w * i) % 2 ^ w))))), (mo, .inr (5, [.int cd, .ref q1, .ref q2, .int z3, .int z4, .int z5, .int z6, .int z7, .int (nI at_), .int (nI fq), .ref q3, .ref q4, .ref q5])), (q4, .inl (c4, 8192, .inl f4))] H := hP
          have hD : va_D A [(q2, .inl (c2, 4104, .inl (upd u (k + i) (nI (lev inp at_ (mv * w) / 2 ^ (w * i) % 2 ^ w))))), (mo, .inr (5, [.int cd, .ref q1, .ref q2, .int z3, .int z4, .int z5, .int z6, .int z7, .int (nI at_), .int (nI fq), .ref q3, .ref q4, .ref q5])), (q4, .inl (c4, 8192, .inl f4))] := hD
          refine lv_goto (tgt := 118) hx hb dX5_readGroups_105 (by decide) ?_
          refine lv_iinc (v := nI (i + 1)) (lv' := [(8, .int (nI (i + 1))), (9, .int (nI (lev inp at_ (mv * w) / 2 ^ (w * i) % 2 ^ w))), (0, .ref mo), (1, .ref q2), (2, .int (nI k)), (3, .int (nI n_)), (4, .int (nI w)), (5, .int (nI (List.length inp))), (6, .long (lN mv))]) hx hb dX5_readGroups_118 hl (k := 8) rfl (ii_add (c := 1) (k := 1) i (by decide)) (by decide) rfl (fun ls hl => ?_)
          refine lv_goto (tgt := 59) hx hb dX5_readGroups_121 (by decide) ?_
          exact ih ((i + 1, fq, upd u (k + i) (nI (lev inp at_ (mv * w) / 2 ^ (w * i) % 2 ^ w)))) _ _ _ ⟨by omega, by
            rcases hfq with ⟨h0, hall⟩ | ⟨h5, q, hq1, hq2, hq3⟩
            · exact Or.inl ⟨h0, fun q hq1 hq2 => by
                by_cases hqi : q = i
                · exact absurd hq2 (by omega)
                · exact hall q (by omega) hq2⟩
            · exact Or.inr ⟨h5, q, by omega, hq2, hq3⟩, fun q hq => by rw [pk_un (by omega)]; exact hu1 q hq, fun q hq1 hq2 => by
            by_cases hqi : q = i
            · subst hqi; exact pk_us
            · rw [pk_un (by omega)]; exact hu2 q (by omega) hq2, hP.sub [1, 0, 2] rfl, hD.sub [1, 0, 2] (by decide) rfl, hS, lv_sub hl [2, 3, 4, 5, 6, 7, 8, 0] rfl⟩ (by show 8 * mv - (i + 1) < 8 * mv - i; omega)
    · rw [lg_cmp_ge, pk_lLE (by omega) (by omega)] at c_39
      refine lv_aload_n hx hb dX5_readGroups_42 rfl (lv_at hl 0 rfl) ?_
      refine lv_iconst (v := nI 1) hx hb dX5_readGroups_43 (by decide) ?_
      refine va_put (D := (dC, dI)) (ci := 5) (v := .int (nI 1)) (ty := .int) (C := RX5) (T := TX5) (N := 13) hx hb hts iX5 tyX5 tyX5_ok nmX5 hown hK hP hD hS 0 rfl rfl 9 (by decide) (hts _ m_293) (fun _ h9 => h9) rfl (by decide +kernel) rfl rfl (Nat.le_of_ble_eq_true rfl) dX5_readGroups_44 (fun H locs hP hD hS => ?_)
      have hP : va_P (dC, dI) vwCl [(mo, .inr (5, [.int cd, .ref q1, .ref q2, .int z3, .int z4, .int z5, .int z6, .int z7, .int (nI at_), .int (nI 1), .ref q3, .ref q4, .ref q5])), (q2, .inl (c2, 4104, .inl f2)), (q4, .inl (c4, 8192, .inl f4))] H := hP
      have hD : va_D A [(mo, .inr (5, [.int cd, .ref q1, .ref q2, .int z3, .int z4, .int z5, .int z6, .int z7, .int (nI at_), .int (nI 1), .ref q3, .ref q4, .ref q5])), (q2, .inl (c2, 4104, .inl f2)), (q4, .inl (c4, 8192, .inl f4))] := hD
      refine lv_aload_n hx hb dX5_readGroups_47 rfl (lv_at hl 0 rfl) ?_
      refine va_get (D := (dC, dI)) (ci := 5) (v := .int (nI 1)) (C := RX5) (T := TX5) (N := 13) hx hb hts iX5 hown hK hP 0 rfl rfl 9 (by decide) (hts _ m_293) (fun _ h9 => h9) rfl dX5_readGroups_48 ?_
      refine lv_if_eq (tgt := 56) hx hb dX5_readGroups_51 (by decide) (fun c_9 => absurd c_9 (by decide)) (fun _ => ?_)
      refine lv_iload_n hx hb dX5_readGroups_54 rfl (lv_at hl 2 rfl) ?_
      exact kend_i hx hb hr hlocks dX5_readGroups_55 (rfl) hK hP hD hS ((at_, 1, f2)) (Or.inr (Or.inl ⟨by omega, by omega, rfl⟩)) [0, 1, 2] [0, 1] rfl (by decide) rfl
  · rw [lg_cmp_le, pk_lLE (by omega) (by omega)] at c_13
    refine lv_aload_n hx hb dX5_readGroups_16 rfl (lv_at hl 0 rfl) ?_
    refine lv_iconst (v := nI 4) hx hb dX5_readGroups_17 (by decide) ?_
    refine va_put (D := (dC, dI)) (ci := 5) (v := .int (nI 4)) (ty := .int) (C := RX5) (T := TX5) (N := 13) hx hb hts iX5 tyX5 tyX5_ok nmX5 hown hK hP hD hS 0 rfl rfl 9 (by decide) (hts _ m_293) (fun _ h9 => h9) rfl (by decide +kernel) rfl rfl (Nat.le_of_ble_eq_true rfl) dX5_readGroups_18 (fun H locs hP hD hS => ?_)
    have hP : va_P (dC, dI) vwCl [(mo, .inr (5, [.int cd, .ref q1, .ref q2, .int z3, .int z4, .int z5, .int z6, .int z7, .int (nI at_), .int (nI 4), .ref q3, .ref q4, .ref q5])), (q2, .inl (c2, 4104, .inl f2)), (q4, .inl (c4, 8192, .inl f4))] H := hP
    have hD : va_D A [(mo, .inr (5, [.int cd, .ref q1, .ref q2, .int z3, .int z4, .int z5, .int z6, .int z7, .int (nI at_), .int (nI 4), .ref q3, .ref q4, .ref q5])), (q2, .inl (c2, 4104, .inl f2)), (q4, .inl (c4, 8192, .inl f4))] := hD
    refine lv_goto (tgt := 47) hx hb dX5_readGroups_21 (by decide) ?_
    refine lv_aload_n hx hb dX5_readGroups_47 rfl (lv_at hl 0 rfl) ?_
    refine va_get (D := (dC, dI)) (ci := 5) (v := .int (nI 4)) (C := RX5) (T := TX5) (N := 13) hx hb hts iX5 hown hK hP 0 rfl rfl 9 (by decide) (hts _ m_293) (fun _ h9 => h9) rfl dX5_readGroups_48 ?_
    refine lv_if_eq (tgt := 56) hx hb dX5_readGroups_51 (by decide) (fun c_9 => absurd c_9 (by decide)) (fun _ => ?_)
    refine lv_iload_n hx hb dX5_readGroups_54 rfl (lv_at hl 2 rfl) ?_
    exact kend_i hx hb hr hlocks dX5_readGroups_55 (rfl) hK hP hD hS ((at_, 4, f2)) (Or.inl ⟨by omega, rfl⟩) [0, 1, 2] [0, 1] rfl (by decide) rfl

