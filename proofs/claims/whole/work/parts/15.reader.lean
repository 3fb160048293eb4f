set_option maxHeartbeats 4000000 in
set_option maxRecDepth 100000 in
/-- Reader.nextByte() -/
theorem c_nextByte (l : Launch) (dC : Nat → ClassId) (dI : Nat → Nat → Nat) (sz : Nat) (ow : Nat) (h a : Nat) (cA : ClassId) (n : Nat) (f : Nat → Int32) (xs : List Nat) (at_ : Nat) (hd : Int64) (hf : bHas f xs) (hn : xs.length ≤ n) (hN : n < 2 ^ 31) (hat : at_ < xs.length) : Met l yX1_nextByte wsX1_nextByte ({ frames := 1, cells := 0, slots := 0, locals := 21 }) (va_Pc [.ref ow] (kB (dC, dI) vwCl [(cA, .byte)] [(ow, .inr (1, [.ref h, .int (nI at_), .long hd])), (h, .inr (0, [.ref a, .int (nI (List.length xs))])), (a, .inl (cA, n, .inl f))] sz)) (va_Ql (fun r0 (_ : Unit) => r0 = lN (xs.getD at_ 0)) (kE (dC, dI) vwCl (va_A [(ow, .inr (1, [.ref h, .int (nI at_), .long hd])), (h, .inr (0, [.ref a, .int (nI (List.length xs))])), (a, .inl (cA, n, .inl f))] sz) (fun _ => [(cA, .byte)]) (fun _ => [(ow, .inr (1, [.ref h, .int (nI (at_ + 1)), .long hd])), (h, .inr (0, [.ref a, .int (nI (List.length xs))])), (a, .inl (cA, n, .inl f))])) (va_A [(ow, .inr (1, [.ref h, .int (nI at_), .long hd])), (h, .inr (0, [.ref a, .int (nI (List.length xs))])), (a, .inl (cA, n, .inl f))] sz)) 0 0 (va_A [(ow, .inr (1, [.ref h, .int (nI at_), .long hd])), (h, .inr (0, [.ref a, .int (nI (List.length xs))])), (a, .inl (cA, n, .inl f))] sz) := by
  refine Met.ofW (cc := cX1_nextByte) (maxL := 2) (ret := (some .long)) (by decide) rfl ?_
  intro p e s m args below meth c s₁ B hml hv
  obtain ⟨rfl, hsz, hP, hK, hD0, hNs⟩ := hv
  have hx := B.exec
  have hb := B.bytes
  have hr := B.returns
  have hts := fun w (h : w ∈ lw_g) => atoms_spec (ws := wsX1_nextByte) B.pre w (List.mem_cons_of_mem _ h)
  have hown : s.vm.findClass RX1 = some m.cls := findClass_of_methodNamed B.named
  have hlocks := B.notSynchronized
  subst hsz
  have hD := hD0.self (sz := s.heap.size)
  generalize hAe : va_A [(ow, .inr (1, [.ref h, .int (nI at_), .long hd])), (h, .inr (0, [.ref a, .int (nI (List.length xs))])), (a, .inl (cA, n, .inl f))] s.heap.size = A at hD ⊢
  have hA : ∀ q : Nat, s.heap.size ≤ q → A q := fun q h => by rw [← hAe]; exact Or.inr h
  have hS : va_S A s.heap s.heap [] := va_S.rf
  have hP : va_P (dC, dI) vwCl [(ow, .inr (1, [.ref h, .int (nI at_), .long hd])), (h, .inr (0, [.ref a, .int (nI (List.length xs))])), (a, .inl (cA, n, .inl f))] s.heap := hP
  have hl := lv_entry ([.ref ow]) (n := 2) (Nat.le_of_ble_eq_true rfl)
  rw [lg_entry_eq]
  generalize (lg_sl ([.ref ow]) ++ List.replicate (2 - (lg_sl ([.ref ow])).length) Slot.unset).toArray = ls at hl ⊢
  have hl : lv_has ls 2 [(0, .ref ow)] := hl
  refine lv_aload_n hx hb dX1_nextByte_0 rfl (lv_at hl 0 rfl) ?_
  refine va_get (D := (dC, dI)) (ci := 1) (v := .ref h) (C := RX1) (T := TX1) (N := 3) hx hb hts iX1 hown hK hP 0 rfl rfl 0 (by decide) (hts _ m_56) (fun _ h9 => h9) rfl dX1_nextByte_1 ?_
  refine lv_aload_n hx hb dX1_nextByte_4 rfl (lv_at hl 0 rfl) ?_
  refine va_get (D := (dC, dI)) (ci := 1) (v := .int (nI at_)) (C := RX1) (T := TX1) (N := 3) hx hb hts iX1 hown hK hP 0 rfl rfl 1 (by decide) (hts _ m_58) (fun _ h9 => h9) rfl dX1_nextByte_5 ?_
  refine kret_i (wc := [(h, .inr (0, [.ref a, .int (nI (List.length xs))])), (a, .inl (cA, n, .inl f))]) (wr := [(ow, .inr (1, [.ref h, .int (nI at_), .long hd]))]) (va_runV (As := [.int (nI at_)]) (rest := []) ⟨hx, hb, hml, hown, hts⟩ (c_Bytes_at l dC dI _ h a cA n f xs (nI at_) hf hn hN) (cwV 1 hts (gdV m_236 m_237 m_238 m_2 m_239) rfl rfl rfl (by decide +kernel) ⟨Nat.le_of_ble_eq_true rfl, Nat.le_of_ble_eq_true rfl⟩) (kpV hNs hK hP hD [1, 2] [0] rfl rfl (by decide) (ci := 0) rfl rfl) rfl rfl hl.1 rfl (lv_room (Nat.le_of_ble_eq_true rfl)) dX1_nextByte_8 ⟨Nat.le_of_ble_eq_true rfl, Nat.le_of_ble_eq_true rfl⟩) hP hD hS hA [1, 2] [0] rfl rfl (by decide) (by decide) (fun y _ H locs hpo hK1 hP hD hS => ?_)
  have hy := hpo
  have hP : va_P (dC, dI) vwCl [(ow, .inr (1, [.ref h, .int (nI at_), .long hd])), (h, .inr (0, [.ref a, .int (nI (List.length xs))])), (a, .inl (cA, n, .inl f))] H := hP
  have hD : va_D A [(ow, .inr (1, [.ref h, .int (nI at_), .long hd])), (h, .inr (0, [.ref a, .int (nI (List.length xs))])), (a, .inl (cA, n, .inl f))] := hD
  rw [bAt_in hat (by omega)] at hy
  subst hy
  have h256 := bHas_256 hf at_
  refine lv_istore_n (lv' := [(1, .int (nI (xs.getD at_ 0))), (0, .ref ow)]) hx hb dX1_nextByte_11 rfl hl (by decide) rfl (fun ls hl => ?_)
  refine lv_aload_n hx hb dX1_nextByte_12 rfl (lv_at hl 1 rfl) ?_
  refine lv_dup hx hb dX1_nextByte_13 rfl ?_
  refine va_get (D := (dC, dI)) (ci := 1) (v := .int (nI at_)) (C := RX1) (T := TX1) (N := 3) hx hb hts iX1 hown hK hP 0 rfl rfl 1 (by decide) (hts _ m_58) (fun _ h9 => h9) rfl dX1_nextByte_14 ?_
  refine lv_iconst (v := nI 1) hx hb dX1_nextByte_17 (by decide) ?_
  refine lv_iadd hx hb dX1_nextByte_18 ?_
  refine tI_ (y := nI (at_ + 1)) (nI_add _ _) ?_
  refine va_put (D := (dC, dI)) (ci := 1) (v := .int (nI (at_ + 1))) (ty := .int) (C := RX1) (T := TX1) (N := 3) hx hb hts iX1 tyX1 tyX1_ok nmX1 hown hK hP hD hS 0 rfl rfl 1 (by decide) (hts _ m_58) (fun _ h9 => h9) rfl (by decide +kernel) rfl rfl (Nat.le_of_ble_eq_true rfl) dX1_nextByte_19 (fun H locs hP hD hS => ?_)
  have hP : va_P (dC, dI) vwCl [(ow, .inr (1, [.ref h, .int (nI (at_ + 1)), .long hd])), (h, .inr (0, [.ref a, .int (nI (List.length xs))])), (a, .inl (cA, n, .inl f))] H := hP
  have hD : va_D A [(ow, .inr (1, [.ref h, .int (nI (at_ + 1)), .long hd])), (h, .inr (0, [.ref a, .int (nI (List.length xs))])), (a, .inl (cA, n, .inl f))] := hD
  refine lv_iload_n hx hb dX1_nextByte_22 rfl (lv_at hl 0 rfl) ?_
  refine lv_sipush (v := nI 255) hx hb dX1_nextByte_23 (by decide) ?_
  refine lv_iand hx hb dX1_nextByte_26 ?_
  refine tI_ (y := nI (xs.getD at_ 0)) (by rw [pk_andN (by omega) 8 (by decide), Nat.mod_eq_of_lt h256]) ?_
  refine lv_i2l (v := lN (xs.getD at_ 0)) hx hb dX1_nextByte_27 (nI_l (by omega)) ?_
  exact kend_l hx hb hr hlocks dX1_nextByte_28 hK hP hD hS (()) (rfl) [0, 1, 2] [0] rfl (by decide) rfl

set_option maxHeartbeats 4000000 in
set_option maxRecDepth 100000 in
/-- Reader.readHead() -/
theorem c_readHead (l : Launch) (dC : Nat → ClassId) (dI : Nat → Nat → Nat) (sz : Nat) (ow : Nat) (h a : Nat) (cA : ClassId) (n : Nat) (f : Nat → Int32) (xs : List Nat) (at_ : Nat) (hd : Int64) (hf : bHas f xs) (hn : xs.length ≤ n) (hN : n < 2 ^ 31) (hat : at_ ≤ xs.length) : Met l yX1_readHead wsX1_readHead ({ frames := 1, cells := 0, slots := 0, locals := 21 }) (va_Pc [.ref ow] (kB (dC, dI) vwCl [(cA, .byte)] [(ow, .inr (1, [.ref h, .int (nI at_), .long hd])), (h, .inr (0, [.ref a, .int (nI (List.length xs))])), (a, .inl (cA, n, .inl f))] sz)) (va_Qi (fun r0 (u : Nat × Nat) => ∃ q, q ≤ 2 ∧ r0 = nI q ∧ hdF xs 10 0 at_ 0 = (q, u.1, u.2) ∧ u.1 ≤ xs.length ∧ u.2 < 2 ^ 64) (kE (dC, dI) vwCl (va_A [(ow, .inr (1, [.ref h, .int (nI at_), .long hd])), (h, .inr (0, [.ref a, .int (nI (List.length xs))])), (a, .inl (cA, n, .inl f))] sz) (fun _ => [(cA, .byte)]) (fun u => [(ow, .inr (1, [.ref h, .int (nI u.1), .long (lN u.2)])), (h, .inr (0, [.ref a, .int (nI (List.length xs))])), (a, .inl (cA, n, .inl f))])) (va_A [(ow, .inr (1, [.ref h, .int (nI at_), .long hd])), (h, .inr (0, [.ref a, .int (nI (List.length xs))])), (a, .inl (cA, n, .inl f))] sz)) 0 0 (va_A [(ow, .inr (1, [.ref h, .int (nI at_), .long hd])), (h, .inr (0, [.ref a, .int (nI (List.length xs))])), (a, .inl (cA, n, .inl f))] sz) := by
  refine Met.ofW (cc := cX1_readHead) (maxL := 3) (ret := (some .int)) (by decide) rfl ?_
  intro p e s m args below meth c s₁ B hml hv
  obtain ⟨rfl, hsz, hP, hK, hD0, hNs⟩ := hv
  have hx := B.exec
  have hb := B.bytes
  have hr := B.returns
  have hts := fun w (h : w ∈ lw_g) => atoms_spec (ws := wsX1_readHead) B.pre w (List.mem_cons_of_mem _ h)
  have hown : s.vm.findClass RX1 = some m.cls := findClass_of_methodNamed B.named
  have hlocks := B.notSynchronized
  subst hsz
  have hD := hD0.self (sz := s.heap.size)
  generalize hAe : va_A [(ow, .inr (1, [.ref h, .int (nI at_), .long hd])), (h, .inr (0, [.ref a, .int (nI (List.length xs))])), (a, .inl (cA, n, .inl f))] s.heap.size = A at hD ⊢
  have hA : ∀ q : Nat, s.heap.size ≤ q → A q := fun q h => by rw [← hAe]; exact Or.inr h
  have hS : va_S A s.heap s.heap [] := va_S.rf
  have hP : va_P (dC, dI) vwCl [(ow, .inr (1, [.ref h, .int (nI at_), .long hd])), (h, .inr (0, [.ref a, .int (nI (List.length xs))])), (a, .inl (cA, n, .inl f))] s.heap := hP
  have hl := lv_entry ([.ref ow]) (n := 3) (Nat.le_of_ble_eq_true rfl)
  rw [lg_entry_eq]
  generalize (lg_sl ([.ref ow]) ++ List.replicate (3 - (lg_sl ([.ref ow])).length) Slot.unset).toArray = ls at hl ⊢
  have hl : lv_has ls 3 [(0, .ref ow)] := hl
  refine lv_aload_n hx hb dX1_readHead_0 rfl (lv_at hl 0 rfl) ?_
  refine lv_lconst (v := lN 0) hx hb dX1_readHead_1 (by decide) ?_
  refine va_put (D := (dC, dI)) (ci := 1) (v := .long (lN 0)) (ty := .long) (C := RX1) (T := TX1) (N := 3) hx hb hts iX1 tyX1 tyX1_ok nmX1 hown hK hP hD hS 0 rfl rfl 2 (by decide) (hts _ m_59) (fun _ h9 => h9) rfl (by decide +kernel) rfl rfl (Nat.le_of_ble_eq_true rfl) dX1_readHead_2 (fun H locs hP hD hS => ?_)
  have hP : va_P (dC, dI) vwCl [(ow, .inr (1, [.ref h, .int (nI at_), .long (lN 0)])), (h, .inr (0, [.ref a, .int (nI (List.length xs))])), (a, .inl (cA, n, .inl f))] H := hP
  have hD : va_D A [(ow, .inr (1, [.ref h, .int (nI at_), .long (lN 0)])), (h, .inr (0, [.ref a, .int (nI (List.length xs))])), (a, .inl (cA, n, .inl f))] := hD
  refine lv_iconst (v := nI 0) hx hb dX1_readHead_5 (by decide) ?_
  refine lv_istore_n (lv' := [(1, .int (nI 0)), (0, .ref ow)]) hx hb dX1_readHead_6 rfl hl (by decide) rfl (fun ls hl => ?_)
  refine k_loop (σ := Nat × Nat × Nat) (fun (z : Nat × Nat × Nat) H locs ls => match z with
        | (i, k, acc) => i ≤ 10 ∧ k ≤ xs.length ∧ acc < 2 ^ (7 * i) ∧ hdF xs 10 0 at_ 0 = hdF xs (10 - i) i k acc ∧ (i = 10 → acc < 2 ^ 64) ∧ va_P (dC, dI) vwCl [(ow, .inr (1, [.ref h, .int (nI k), .long (lN acc)])), (h, .inr (0, [.ref a, .int (nI (List.length xs))])), (a, .inl (cA, n, .inl f))] H ∧ va_D A [(ow, .inr (1, [.ref h, .int (nI k), .long (lN acc)])), (h, .inr (0, [.ref a, .int (nI (List.length xs))])), (a, .inl (cA, n, .inl f))] ∧ va_S A s.heap H locs ∧ lv_has ls 3 [(0, .ref ow), (1, .int (nI i))]) (fun z => match z with
        | (i, k, acc) => 10 - i) ?_ ((0, at_, 0)) _ _ _ ⟨by decide, hat, by decide, rfl, by decide, hP.sub [0, 1, 2] rfl, hD.sub [0, 1, 2] (by decide) rfl, hS, lv_sub hl [1, 0] rfl⟩
  intro z H locs ls hI ih
  obtain ⟨i, k, acc⟩ := z
  obtain ⟨hi, hk, hacc, hinv, hi9, hP, hD, hS, hl⟩ := hI
  refine lv_iload_n hx hb dX1_readHead_7 rfl (lv_at hl 1 rfl) ?_
  refine lv_bipush (v := nI 10) hx hb dX1_readHead_8 (by decide) ?_
  refine lv_icmp_ge (tgt := 101) hx hb dX1_readHead_10 (by decide) (fun c_10 => ?_) (fun c_10 => ?_)
  · rw [nI_leI (a := 10) (b := i) (by omega) (by omega)] at c_10
    obtain rfl : i = 10 := by omega
    refine lv_iconst (v := nI 2) hx hb dX1_readHead_101 (by decide) ?_
    exact kend_i hx hb hr hlocks dX1_readHead_102 (rfl) hK hP hD hS ((k, acc)) (⟨2, by decide, rfl, hinv, hk, hi9 rfl⟩) [0, 1, 2] [0] rfl (by decide) rfl
  · rw [nI_leI (a := 10) (b := i) (by omega) (by omega)] at c_10
    refine lv_aload_n hx hb dX1_readHead_13 rfl (lv_at hl 0 rfl) ?_
    refine va_get (D := (dC, dI)) (ci := 1) (v := .ref h) (C := RX1) (T := TX1) (N := 3) hx hb hts iX1 hown hK hP 0 rfl rfl 0 (by decide) (hts _ m_56) (fun _ h9 => h9) rfl dX1_readHead_14 ?_
    refine lv_aload_n hx hb dX1_readHead_17 rfl (lv_at hl 0 rfl) ?_
    refine va_get (D := (dC, dI)) (ci := 1) (v := .int (nI k)) (C := RX1) (T := TX1) (N := 3) hx hb hts iX1 hown hK hP 0 rfl rfl 1 (by decide) (hts _ m_58) (fun _ h9 => h9) rfl dX1_readHead_18 ?_
    refine kret_i (wc := [(h, .inr (0, [.ref a, .int (nI (List.length xs))])), (a, .inl (cA, n, .inl f))]) (wr := [(ow, .inr (1, [.ref h, .int (nI k), .long (lN acc)]))]) (va_runV (As := [.int (nI k)]) (rest := []) ⟨hx, hb, hml, hown, hts⟩ (c_Bytes_at l dC dI _ h a cA n f xs (nI k) hf hn hN) (cwV 1 hts (gdV m_236 m_237 m_238 m_2 m_239) rfl rfl rfl (by decide +kernel) ⟨Nat.le_of_ble_eq_true rfl, Nat.le_of_ble_eq_true rfl⟩) (kpV hNs hK hP hD [1, 2] [0] rfl rfl (by decide) (ci := 0) rfl rfl) rfl rfl hl.1 rfl (lv_room (Nat.le_of_ble_eq_true rfl)) dX1_readHead_21 ⟨Nat.le_of_ble_eq_true rfl, Nat.le_of_ble_eq_true rfl⟩) hP hD hS hA [1, 2] [0] rfl rfl (by decide) (by decide) (fun y _ H locs hpo hK1 hP hD hS => ?_)
    have hy := hpo
    have hP : va_P (dC, dI) vwCl [(ow, .inr (1, [.ref h, .int (nI k), .long (lN acc)])), (h, .inr (0, [.ref a, .int (nI (List.length xs))])), (a, .inl (cA, n, .inl f))] H := hP
    have hD : va_D A [(ow, .inr (1, [.ref h, .int (nI k), .long (lN acc)])), (h, .inr (0, [.ref a, .int (nI (List.length xs))])), (a, .inl (cA, n, .inl f))] := hD
    have h70 : 2 ^ (7 * i) ≤ 2 ^ 63 := Nat.pow_le_pow_right (by decide) (by omega)
    rw [show 10 - i = (9 - i) + 1 by omega, hdF_step xs i k acc (9 - i)] at hinv
    rcases Nat.lt_or_ge k xs.length with hkl | hkl
    · rw [bAt_in hkl (by omega)] at hy
      subst hy
      have h256 := bHas_256 hf k
      rw [if_pos hkl] at hinv
      generalize hbk : xs.getD k 0 = b at hinv h256 ⊢
      refine lv_istore_n (lv' := [(2, .int (nI b)), (0, .ref ow), (1, .int (nI i))]) hx hb dX1_readHead_24 rfl hl (by decide) rfl (fun ls hl => ?_)
      refine lv_iload_n hx hb dX1_readHead_25 rfl (lv_at hl 0 rfl) ?_
      refine lv_iconst (v := (-1)) hx hb dX1_readHead_26 (by decide) ?_
      refine lv_icmp_ne (tgt := 32) hx hb dX1_readHead_27 (by decide) (fun _ => ?_) (fun c_9 => absurd c_9 (fun q => by have h1 := congrArg Int32.toInt q; rw [nI_toInt (by omega), show Int32.toInt (-1) = -1 by decide] at h1; omega))
      refine lv_aload_n hx hb dX1_readHead_32 rfl (lv_at hl 1 rfl) ?_
      refine lv_dup hx hb dX1_readHead_33 rfl ?_
      refine va_get (D := (dC, dI)) (ci := 1) (v := .int (nI k)) (C := RX1) (T := TX1) (N := 3) hx hb hts iX1 hown hK hP 0 rfl rfl 1 (by decide) (hts _ m_58) (fun _ h9 => h9) rfl dX1_readHead_34 ?_
      refine lv_iconst (v := nI 1) hx hb dX1_readHead_37 (by decide) ?_
      refine lv_iadd hx hb dX1_readHead_38 ?_
      refine tI_ (y := nI (k + 1)) (nI_add _ _) ?_
      refine va_put (D := (dC, dI)) (ci := 1) (v := .int (nI (k + 1))) (ty := .int) (C := RX1) (T := TX1) (N := 3) hx hb hts iX1 tyX1 tyX1_ok nmX1 hown hK hP hD hS 0 rfl rfl 1 (by decide) (hts _ m_58) (fun _ h9 => h9) rfl (by decide +kernel) rfl rfl (Nat.le_of_ble_eq_true rfl) dX1_readHead_39 (fun H locs hP hD hS => ?_)
      have hP : va_P (dC, dI) vwCl [(ow, .inr (1, [.ref h, .int (nI (k + 1)), .long (lN acc)])), (h, .inr (0, [.ref a, .int (nI (List.length xs))])), (a, .inl (cA, n, .inl f))] H := hP
      have hD : va_D A [(ow, .inr (1, [.ref h, .int (nI (k + 1)), .long (lN acc)])), (h, .inr (0, [.ref a, .int (nI (List.length xs))])), (a, .inl (cA, n, .inl f))] := hD
      refine lv_iload_n hx hb dX1_readHead_42 rfl (lv_at hl 2 rfl) ?_
      refine lv_bipush (v := nI 9) hx hb dX1_readHead_43 (by decide) ?_
      refine lv_icmp_ne (tgt := 55) hx hb dX1_readHead_45 (by decide) (fun c_45 => ?_) (fun c_45 => ?_)
      · rw [nI_eq (a := i) (b := 9) (by omega) (by omega)] at c_45
        rw [if_neg (by omega)] at hinv
        refine lv_aload_n hx hb dX1_readHead_55 rfl (lv_at hl 1 rfl) ?_
        refine lv_dup hx hb dX1_readHead_56 rfl ?_
        refine va_get (D := (dC, dI)) (ci := 1) (v := .long (lN acc)) (C := RX1) (T := TX1) (N := 3) hx hb hts iX1 hown hK hP 0 rfl rfl 2 (by decide) (hts _ m_59) (fun _ h9 => h9) rfl dX1_readHead_57 ?_
        refine lv_iload_n hx hb dX1_readHead_60 rfl (lv_at hl 0 rfl) ?_
        refine lv_bipush (v := nI 127) hx hb dX1_readHead_61 (by decide) ?_
        refine lv_iand hx hb dX1_readHead_63 ?_
        refine tI_ (y := nI (b % 128)) (pk_andN (by omega) 7 (by decide)) ?_
        refine lv_i2l (v := lN (b % 128)) hx hb dX1_readHead_64 (nI_l (by omega)) ?_
        refine lv_bipush (v := nI 7) hx hb dX1_readHead_65 (by decide) ?_
        refine lv_iload_n hx hb dX1_readHead_67 rfl (lv_at hl 2 rfl) ?_
        refine lv_imul hx hb dX1_readHead_68 ?_
        refine tI_ (y := nI (7 * i)) (pk_mul _ _) ?_
        refine lv_lshl (v := lN (b % 128 * 2 ^ (7 * i))) hx hb dX1_readHead_69 (wb_shl _ (by omega)) ?_
        refine lv_lor hx hb dX1_readHead_70 ?_
        have hmul : b % 128 * 2 ^ (7 * i) + 2 ^ (7 * i) ≤ 2 ^ (7 * (i + 1)) := by
          rw [← Nat.succ_mul, Nat.mul_succ, Nat.pow_add, Nat.mul_comm (2 ^ (7 * i))]
          exact Nat.mul_le_mul_right _ (by omega)
        have h64 : acc + b % 128 * 2 ^ (7 * i) < 2 ^ 64 := by
          have : 2 ^ (7 * (i + 1)) ≤ 2 ^ 63 := Nat.pow_le_pow_right (by decide) (by omega)
          omega
        refine tL_ (y := lN (acc + b % 128 * 2 ^ (7 * i))) (g_or' rfl hacc h64) ?_
        refine va_put (D := (dC, dI)) (ci := 1) (v := .long (lN (acc + b % 128 * 2 ^ (7 * i)))) (ty := .long) (C := RX1) (T := TX1) (N := 3) hx hb hts iX1 tyX1 tyX1_ok nmX1 hown hK hP hD hS 0 rfl rfl 2 (by decide) (hts _ m_59) (fun _ h9 => h9) rfl (by decide +kernel) rfl rfl (Nat.le_of_ble_eq_true rfl) dX1_readHead_71 (fun H locs hP hD hS => ?_)
        have hP : va_P (dC, dI) vwCl [(ow, .inr (1, [.ref h, .int (nI (k + 1)), .long (lN (acc + b % 128 * 2 ^ (7 * i)))])), (h, .inr (0, [.ref a, .int (nI (List.length xs))])), (a, .inl (cA, n, .inl f))] H := hP
        have hD : va_D A [(ow, .inr (1, [.ref h, .int (nI (k + 1)), .long (lN (acc + b % 128 * 2 ^ (7 * i)))])), (h, .inr (0, [.ref a, .int (nI (List.length xs))])), (a, .inl (cA, n, .inl f))] := hD
        refine lv_iload_n hx hb dX1_readHead_74 rfl (lv_at hl 0 rfl) ?_
        refine lv_sipush (v := nI 128) hx hb dX1_readHead_75 (by decide) ?_
        refine lv_icmp_ge (tgt := 95) hx hb dX1_readHead_78 (by decide) (fun c_78 => ?_) (fun c_78 => ?_)
        · rw [nI_leI (a := 128) (b := b) (by omega) (by omega)] at c_78
          rw [if_neg (by omega)] at hinv
          refine lv_iinc (v := nI (i + 1)) (lv' := [(1, .int (nI (i + 1))), (2, .int (nI b)), (0, .ref ow)]) hx hb dX1_readHead_95 hl (k := 2) rfl (ii_add (c := 1) (k := 1) i (by decide)) (by decide) rfl (fun ls hl => ?_)
          refine lv_goto (tgt := 7) hx hb dX1_readHead_98 (by decide) ?_
          exact ih ((i + 1, k + 1, acc + b % 128 * 2 ^ (7 * i))) _ _ _ ⟨by omega, by omega, by omega, by rw [hinv]; congr 1; omega, fun _ => h64, hP.sub [0, 1, 2] rfl, hD.sub [0, 1, 2] (by decide) rfl, hS, lv_sub hl [2, 0] rfl⟩ (by show 10 - (i + 1) < 10 - i; omega)
        · rw [nI_leI (a := 128) (b := b) (by omega) (by omega)] at c_78
          rw [if_pos (by omega)] at hinv
          refine lv_iload_n hx hb dX1_readHead_81 rfl (lv_at hl 0 rfl) ?_
          refine lv_if_ne (tgt := 93) hx hb dX1_readHead_82 (by decide) (fun c_82 => ?_) (fun c_82 => ?_)
          · rw [z_eq (by omega)] at c_82
            rw [if_neg (by omega)] at hinv
            refine lv_iconst (v := nI 0) hx hb dX1_readHead_93 (by decide) ?_
            exact kend_i hx hb hr hlocks dX1_readHead_94 (rfl) hK hP hD hS ((k + 1, acc + b % 128 * 2 ^ (7 * i))) (⟨0, by decide, rfl, hinv, by omega, h64⟩) [0, 1, 2] [0] rfl (by decide) rfl
          · rw [z_eq (by omega)] at c_82
            refine lv_iload_n hx hb dX1_readHead_85 rfl (lv_at hl 2 rfl) ?_
            refine lv_if_le (tgt := 93) hx hb dX1_readHead_86 (by decide) (fun c_86 => ?_) (fun c_86 => ?_)
            · rw [show (0 : Int32) = nI 0 from rfl, nI_leI (a := i) (b := 0) (by omega) (by decide)] at c_86
              rw [if_neg (by omega)] at hinv
              refine lv_iconst (v := nI 0) hx hb dX1_readHead_93 (by decide) ?_
              exact kend_i hx hb hr hlocks dX1_readHead_94 (rfl) hK hP hD hS ((k + 1, acc + b % 128 * 2 ^ (7 * i))) (⟨0, by decide, rfl, hinv, by omega, h64⟩) [0, 1, 2] [0] rfl (by decide) rfl
            · rw [show (0 : Int32) = nI 0 from rfl, nI_leI (a := i) (b := 0) (by omega) (by decide)] at c_86
              rw [if_pos (by omega)] at hinv
              refine lv_iconst (v := nI 2) hx hb dX1_readHead_89 (by decide) ?_
              refine lv_goto (tgt := 94) hx hb dX1_readHead_90 (by decide) ?_
              exact kend_i hx hb hr hlocks dX1_readHead_94 (rfl) hK hP hD hS ((k + 1, acc + b % 128 * 2 ^ (7 * i))) (⟨2, by decide, rfl, hinv, by omega, h64⟩) [0, 1, 2] [0] rfl (by decide) rfl
      · rw [nI_eq (a := i) (b := 9) (by omega) (by omega)] at c_45
        refine lv_iload_n hx hb dX1_readHead_48 rfl (lv_at hl 0 rfl) ?_
        refine lv_iconst (v := nI 1) hx hb dX1_readHead_49 (by decide) ?_
        refine lv_icmp_le (tgt := 55) hx hb dX1_readHead_50 (by decide) (fun c_50 => ?_) (fun c_50 => ?_)
        · rw [nI_leI (a := b) (b := 1) (by omega) (by omega)] at c_50
          rw [if_neg (by omega)] at hinv
          refine lv_aload_n hx hb dX1_readHead_55 rfl (lv_at hl 1 rfl) ?_
          refine lv_dup hx hb dX1_readHead_56 rfl ?_
          refine va_get (D := (dC, dI)) (ci := 1) (v := .long (lN acc)) (C := RX1) (T := TX1) (N := 3) hx hb hts iX1 hown hK hP 0 rfl rfl 2 (by decide) (hts _ m_59) (fun _ h9 => h9) rfl dX1_readHead_57 ?_
          refine lv_iload_n hx hb dX1_readHead_60 rfl (lv_at hl 0 rfl) ?_
          refine lv_bipush (v := nI 127) hx hb dX1_readHead_61 (by decide) ?_
          refine lv_iand hx hb dX1_readHead_63 ?_
          refine tI_ (y := nI (b % 128)) (pk_andN (by omega) 7 (by decide)) ?_
          refine lv_i2l (v := lN (b % 128)) hx hb dX1_readHead_64 (nI_l (by omega)) ?_
          refine lv_bipush (v := nI 7) hx hb dX1_readHead_65 (by decide) ?_
          refine lv_iload_n hx hb dX1_readHead_67 rfl (lv_at hl 2 rfl) ?_
          refine lv_imul hx hb dX1_readHead_68 ?_
          refine tI_ (y := nI (7 * i)) (pk_mul _ _) ?_
          refine lv_lshl (v := lN (b % 128 * 2 ^ (7 * i))) hx hb dX1_readHead_69 (wb_shl _ (by omega)) ?_
          refine lv_lor hx hb dX1_readHead_70 ?_
          have hmul : b % 128 * 2 ^ (7 * i) + 2 ^ (7 * i) ≤ 2 ^ (7 * (i + 1)) := by
            rw [← Nat.succ_mul, Nat.mul_succ, Nat.pow_add, Nat.mul_comm (2 ^ (7 * i))]
            exact Nat.mul_le_mul_right _ (by omega)
          have h64 : acc + b % 128 * 2 ^ (7 * i) < 2 ^ 64 := by
            have : b % 128 ≤ 1 := by omega
            have : b % 128 * 2 ^ (7 * i) ≤ 1 * 2 ^ (7 * i) := Nat.mul_le_mul_right _ this
            omega
          refine tL_ (y := lN (acc + b % 128 * 2 ^ (7 * i))) (g_or' rfl hacc h64) ?_
          refine va_put (D := (dC, dI)) (ci := 1) (v := .long (lN (acc + b % 128 * 2 ^ (7 * i)))) (ty := .long) (C := RX1) (T := TX1) (N := 3) hx hb hts iX1 tyX1 tyX1_ok nmX1 hown hK hP hD hS 0 rfl rfl 2 (by decide) (hts _ m_59) (fun _ h9 => h9) rfl (by decide +kernel) rfl rfl (Nat.le_of_ble_eq_true rfl) dX1_readHead_71 (fun H locs hP hD hS => ?_)
          have hP : va_P (dC, dI) vwCl [(ow, .inr (1, [.ref h, .int (nI (k + 1)), .long (lN (acc + b % 128 * 2 ^ (7 * i)))])), (h, .inr (0, [.ref a, .int (nI (List.length xs))])), (a, .inl (cA, n, .inl f))] H := hP
          have hD : va_D A [(ow, .inr (1, [.ref h, .int (nI (k + 1)), .long (lN (acc + b % 128 * 2 ^ (7 * i)))])), (h, .inr (0, [.ref a, .int (nI (List.length xs))])), (a, .inl (cA, n, .inl f))] := hD
          refine lv_iload_n hx hb dX1_readHead_74 rfl (lv_at hl 0 rfl) ?_
          refine lv_sipush (v := nI 128) hx hb dX1_readHead_75 (by decide) ?_
          refine lv_icmp_ge (tgt := 95) hx hb dX1_readHead_78 (by decide) (fun c_78 => ?_) (fun c_78 => ?_)
          · rw [nI_leI (a := 128) (b := b) (by omega) (by omega)] at c_78
            rw [if_neg (by omega)] at hinv
            refine lv_iinc (v := nI (i + 1)) (lv' := [(1, .int (nI (i + 1))), (2, .int (nI b)), (0, .ref ow)]) hx hb dX1_readHead_95 hl (k := 2) rfl (ii_add (c := 1) (k := 1) i (by decide)) (by decide) rfl (fun ls hl => ?_)
            refine lv_goto (tgt := 7) hx hb dX1_readHead_98 (by decide) ?_
            exact ih ((i + 1, k + 1, acc + b % 128 * 2 ^ (7 * i))) _ _ _ ⟨by omega, by omega, by omega, by rw [hinv]; congr 1; omega, fun _ => h64, hP.sub [0, 1, 2] rfl, hD.sub [0, 1, 2] (by decide) rfl, hS, lv_sub hl [2, 0] rfl⟩ (by show 10 - (i + 1) < 10 - i; omega)
          · rw [nI_leI (a := 128) (b := b) (by omega) (by omega)] at c_78
            rw [if_pos (by omega)] at hinv
            refine lv_iload_n hx hb dX1_readHead_81 rfl (lv_at hl 0 rfl) ?_
            refine lv_if_ne (tgt := 93) hx hb dX1_readHead_82 (by decide) (fun c_82 => ?_) (fun c_82 => ?_)
            · rw [z_eq (by omega)] at c_82
              rw [if_neg (by omega)] at hinv
              refine lv_iconst (v := nI 0) hx hb dX1_readHead_93 (by decide) ?_
              exact kend_i hx hb hr hlocks dX1_readHead_94 (rfl) hK hP hD hS ((k + 1, acc + b % 128 * 2 ^ (7 * i))) (⟨0, by decide, rfl, hinv, by omega, h64⟩) [0, 1, 2] [0] rfl (by decide) rfl
            · rw [z_eq (by omega)] at c_82
              refine lv_iload_n hx hb dX1_readHead_85 rfl (lv_at hl 2 rfl) ?_
              refine lv_if_le (tgt := 93) hx hb dX1_readHead_86 (by decide) (fun c_86 => ?_) (fun c_86 => ?_)
              · rw [show (0 : Int32) = nI 0 from rfl, nI_leI (a := i) (b := 0) (by omega) (by decide)] at c_86
                rw [if_neg (by omega)] at hinv
                refine lv_iconst (v := nI 0) hx hb dX1_readHead_93 (by decide) ?_
                exact kend_i hx hb hr hlocks dX1_readHead_94 (rfl) hK hP hD hS ((k + 1, acc + b % 128 * 2 ^ (7 * i))) (⟨0, by decide, rfl, hinv, by omega, h64⟩) [0, 1, 2] [0] rfl (by decide) rfl
              · rw [show (0 : Int32) = nI 0 from rfl, nI_leI (a := i) (b := 0) (by omega) (by decide)] at c_86
                rw [if_pos (by omega)] at hinv
                refine lv_iconst (v := nI 2) hx hb dX1_readHead_89 (by decide) ?_
                refine lv_goto (tgt := 94) hx hb dX1_readHead_90 (by decide) ?_
                exact kend_i hx hb hr hlocks dX1_readHead_94 (rfl) hK hP hD hS ((k + 1, acc + b % 128 * 2 ^ (7 * i))) (⟨2, by decide, rfl, hinv, by omega, h64⟩) [0, 1, 2] [0] rfl (by decide) rfl
        · rw [nI_leI (a := b) (b := 1) (by omega) (by omega)] at c_50
          rw [if_pos (by omega)] at hinv
          refine lv_iconst (v := nI 2) hx hb dX1_readHead_53 (by decide) ?_
          exact kend_i hx hb hr hlocks dX1_readHead_54 (rfl) hK hP hD hS ((k + 1, acc)) (⟨2, by decide, rfl, hinv, by omega, by omega⟩) [0, 1, 2] [0] rfl (by decide) rfl
    · rw [bAt_end hkl (by omega)] at hy
      subst hy
      rw [if_neg (by omega)] at hinv
      refine lv_istore_n (lv' := [(2, .int (-1)), (0, .ref ow), (1, .int (nI i))]) hx hb dX1_readHead_24 rfl hl (by decide) rfl (fun ls hl => ?_)
      refine lv_iload_n hx hb dX1_readHead_25 rfl (lv_at hl 0 rfl) ?_
      refine lv_iconst (v := (-1)) hx hb dX1_readHead_26 (by decide) ?_
      refine lv_icmp_ne (tgt := 32) hx hb dX1_readHead_27 (by decide) (fun c_9 => absurd (rfl) c_9) (fun _ => ?_)
      refine lv_iconst (v := nI 1) hx hb dX1_readHead_30 (by decide) ?_
      exact kend_i hx hb hr hlocks dX1_readHead_31 (rfl) hK hP hD hS ((k, acc)) (⟨1, by decide, rfl, hinv, hk, by omega⟩) [0, 1, 2] [0] rfl (by decide) rfl

set_option maxHeartbeats 4000000 in
set_option maxRecDepth 100000 in
/-- Reader.readOne(into, width, times) -/
theorem c_readOne (l : Launch) (dC : Nat → ClassId) (dI : Nat → Nat → Nat) (sz : Nat) (ow : Nat) (h a : Nat) (cA : ClassId) (n : Nat) (f : Nat → Int32) (xs : List Nat) (at_ : Nat) (hd : Int64) (ro ra : Nat) (cR : ClassId) (fr : Nat → Int32) (r : List Int32) (w t : Nat) (hf : bHas f xs) (hn : xs.length ≤ n) (hN : n < 2 ^ 31) (hfr : rHas fr r) (hrn : r.length ≤ 4096) (hw32 : w ≤ 32) (hat : at_ + (w + 7) / 8 ≤ xs.length) (ht0 : 1 ≤ t) (ht : t ≤ 4096 - r.length) : Met l yX1_readOne wsX1_readOne ({ frames := 3, cells := 0, slots := 0, locals := 68 }) (va_Pc [.ref ow, .ref ro, .int (nI w), .int (nI t)] (kB (dC, dI) vwCl [(cA, .byte), (cR, .int)] [(ow, .inr (1, [.ref h, .int (nI at_), .long hd])), (h, .inr (0, [.ref a, .int (nI (List.length xs))])), (a, .inl (cA, n, .inl f)), (ro, .inr (2, [.ref ra, .int (nI (List.length r))])), (ra, .inl (cR, 4096, .inl fr))] sz)) (va_Qi (fun r0 (u : Nat × (Nat → Int32) × List Int32) => rHas u.2.1 u.2.2 ∧ u.1 = at_ + (w + 7) / 8 ∧ ((2 ^ w ≤ lev xs at_ ((w + 7) / 8) ∧ r0 = nI 5 ∧ u.2.2 = r) ∨ (¬ 2 ^ w ≤ lev xs at_ ((w + 7) / 8) ∧ r0 = nI 0 ∧ u.2.2 = r ++ List.replicate t (nI (lev xs at_ ((w + 7) / 8)))))) (kE (dC, dI) vwCl (va_A [(ow, .inr (1, [.ref h, .int (nI at_), .long hd])), (h, .inr (0, [.ref a, .int (nI (List.length xs))])), (a, .inl (cA, n, .inl f)), (ro, .inr (2, [.ref ra, .int (nI (List.length r))])), (ra, .inl (cR, 4096, .inl fr))] sz) (fun _ => [(cA, .byte), (cR, .int)]) (fun u => [(ow, .inr (1, [.ref h, .int (nI u.1), .long hd])), (h, .inr (0, [.ref a, .int (nI (List.length xs))])), (a, .inl (cA, n, .inl f)), (ro, .inr (2, [.ref ra, .int (nI (List.length u.2.2))])), (ra, .inl (cR, 4096, .inl u.2.1))])) (va_A [(ow, .inr (1, [.ref h, .int (nI at_), .long hd])), (h, .inr (0, [.ref a, .int (nI (List.length xs))])), (a, .inl (cA, n, .inl f)), (ro, .inr (2, [.ref ra, .int (nI (List.length r))])), (ra, .inl (cR, 4096, .inl fr))] sz)) 0 0 (va_A [(ow, .inr (1, [.ref h, .int (nI at_), .long hd])), (h, .inr (0, [.ref a, .int (nI (List.length xs))])), (a, .inl (cA, n, .inl f)), (ro, .inr (2, [.ref ra, .int (nI (List.length r))])), (ra, .inl (cR, 4096, .inl fr))] sz) := by
  refine Met.ofW (cc := cX1_readOne) (maxL := 7) (ret := (some .int)) (by decide) rfl ?_
  intro p e s m args below meth c s₁ B hml hv
  obtain ⟨rfl, hsz, hP, hK, hD0, hNs⟩ := hv
  have hx := B.exec
  have hb := B.bytes
  have hr := B.returns
  have hts := fun w (h : w ∈ lw_g) => atoms_spec (ws := wsX1_readOne) B.pre w (List.mem_cons_of_mem _ h)
  have hown : s.vm.findClass RX1 = some m.cls := findClass_of_methodNamed B.named
  have hlocks := B.notSynchronized
  subst hsz
  have hD := hD0.self (sz := s.heap.size)
  generalize hAe : va_A [(ow, .inr (1, [.ref h, .int (nI at_), .long hd])), (h, .inr (0, [.ref a, .int (nI (List.length xs))])), (a, .inl (cA, n, .inl f)), (ro, .inr (2, [.ref ra, .int (nI (List.length r))])), (ra, .inl (cR, 4096, .inl fr))] s.heap.size = A at hD ⊢
  have hA : ∀ q : Nat, s.heap.size ≤ q → A q := fun q h => by rw [← hAe]; exact Or.inr h
  have hS : va_S A s.heap s.heap [] := va_S.rf
  have hP : va_P (dC, dI) vwCl [(ow, .inr (1, [.ref h, .int (nI at_), .long hd])), (h, .inr (0, [.ref a, .int (nI (List.length xs))])), (a, .inl (cA, n, .inl f)), (ro, .inr (2, [.ref ra, .int (nI (List.length r))])), (ra, .inl (cR, 4096, .inl fr))] s.heap := hP
  have hl := lv_entry ([.ref ow, .ref ro, .int (nI w), .int (nI t)]) (n := 7) (Nat.le_of_ble_eq_true rfl)
  rw [lg_entry_eq]
  generalize (lg_sl ([.ref ow, .ref ro, .int (nI w), .int (nI t)]) ++ List.replicate (7 - (lg_sl ([.ref ow, .ref ro, .int (nI w), .int (nI t)])).length) Slot.unset).toArray = ls at hl ⊢
  have hl : lv_has ls 7 [(0, .ref ow), (1, .ref ro), (2, .int (nI w)), (3, .int (nI t))] := hl
  refine lv_lconst (v := lN 0) hx hb dX1_readOne_0 (by decide) ?_
  refine lv_lstore (lv' := [(4, .long (lN 0)), (0, .ref ow), (1, .ref ro), (2, .int (nI w)), (3, .int (nI t))]) hx hb dX1_readOne_1 hl (by decide) rfl (fun ls hl => ?_)
  refine lv_iconst (v := nI 0) hx hb dX1_readOne_3 (by decide) ?_
  refine lv_istore (lv' := [(6, .int (nI 0)), (4, .long (lN 0)), (0, .ref ow), (1, .ref ro), (2, .int (nI w)), (3, .int (nI t))]) hx hb dX1_readOne_4 hl (by decide) rfl (fun ls hl => ?_)
  have hl := (show lv_has ls 7 [(6, .int (nI 0)), (4, .long (lN (lev xs at_ 0))), (0, .ref ow), (1, .ref ro), (2, .int (nI w)), (3, .int (nI t))] from hl)
  have hP := (show va_P (dC, dI) vwCl [(ow, .inr (1, [.ref h, .int (nI (at_ + 0)), .long hd])), (h, .inr (0, [.ref a, .int (nI (List.length xs))])), (a, .inl (cA, n, .inl f)), (ro, .inr (2, [.ref ra, .int (nI (List.length r))])), (ra, .inl (cR, 4096, .inl fr))] _ from hP)
  have hD := (show va_D A [(ow, .inr (1, [.ref h, .int (nI (at_ + 0)), .long hd])), (h, .inr (0, [.ref a, .int (nI (List.length xs))])), (a, .inl (cA, n, .inl f)), (ro, .inr (2, [.ref ra, .int (nI (List.length r))])), (ra, .inl (cR, 4096, .inl fr))] from hD)
  refine k_loop (σ := Nat) (fun (z : Nat) H locs ls => match z with
        | i => i ≤ (w + 7) / 8 ∧ va_P (dC, dI) vwCl [(ow, .inr (1, [.ref h, .int (nI (at_ + i)), .long hd])), (h, .inr (0, [.ref a, .int (nI (List.length xs))])), (a, .inl (cA, n, .inl f)), (ro, .inr (2, [.ref ra, .int (nI (List.length r))])), (ra, .inl (cR, 4096, .inl fr))] H ∧ va_D A [(ow, .inr (1, [.ref h, .int (nI (at_ + i)), .long hd])), (h, .inr (0, [.ref a, .int (nI (List.length xs))])), (a, .inl (cA, n, .inl f)), (ro, .inr (2, [.ref ra, .int (nI (List.length r))])), (ra, .inl (cR, 4096, .inl fr))] ∧ va_S A s.heap H locs ∧ lv_has ls 7 [(0, .ref ow), (1, .ref ro), (2, .int (nI w)), (3, .int (nI t)), (4, .long (lN (lev xs at_ i))), (6, .int (nI i))]) (fun z => match z with
        | i => (w + 7) / 8 - i) ?_ (0) _ _ _ ⟨Nat.zero_le _, hP.sub [0, 1, 2, 3, 4] rfl, hD.sub [0, 1, 2, 3, 4] (by decide) rfl, hS, lv_sub hl [2, 3, 4, 5, 1, 0] rfl⟩
  intro z H locs ls hI ih
  obtain ⟨i, rfl⟩ : ∃ y, y = z := ⟨_, rfl⟩
  obtain ⟨hi, hP, hD, hS, hl⟩ := hI
  refine lv_iload hx hb dX1_readOne_6 (lv_at hl 5 rfl) ?_
  refine lv_iload_n hx hb dX1_readOne_8 rfl (lv_at hl 2 rfl) ?_
  refine kret_i (wc := []) (wr := [(ow, .inr (1, [.ref h, .int (nI (at_ + i)), .long hd])), (h, .inr (0, [.ref a, .int (nI (List.length xs))])), (a, .inl (cA, n, .inl f)), (ro, .inr (2, [.ref ra, .int (nI (List.length r))])), (ra, .inl (cR, 4096, .inl fr))]) (va_runSN (As := [.int (nI w)]) (rest := [.int (nI i)]) ⟨hx, hb, hml, hown, hts⟩ (c_numberBytes l dC dI _ w hw32) (⟨va_cnB 1 hts (gdC m_200) rfl rfl rfl hNs.2.2.2.2.2.2 (hts _ m_1) (by decide +kernel) ⟨Nat.le_of_ble_eq_true rfl, Nat.le_of_ble_eq_true rfl⟩, hts _ m_199, trivial⟩) (kpS hNs hK hP hD [] [] rfl rfl (by decide)) rfl rfl hl.1 rfl (lv_room (Nat.le_of_ble_eq_true rfl)) dX1_readOne_9 ⟨Nat.le_of_ble_eq_true rfl, Nat.le_of_ble_eq_true rfl⟩) hP hD hS hA [] [0, 1, 2, 3, 4] rfl rfl (by decide) (by decide) (fun y _ H locs hpo hK1 hP hD hS => ?_)
  have hy := hpo
  have hP : va_P (dC, dI) vwCl [(ow, .inr (1, [.ref h, .int (nI (at_ + i)), .long hd])), (h, .inr (0, [.ref a, .int (nI (List.length xs))])), (a, .inl (cA, n, .inl f)), (ro, .inr (2, [.ref ra, .int (nI (List.length r))])), (ra, .inl (cR, 4096, .inl fr))] H := hP
  have hD : va_D A [(ow, .inr (1, [.ref h, .int (nI (at_ + i)), .long hd])), (h, .inr (0, [.ref a, .int (nI (List.length xs))])), (a, .inl (cA, n, .inl f)), (ro, .inr (2, [.ref ra, .int (nI (List.length r))])), (ra, .inl (cR, 4096, .inl fr))] := hD
  subst hy
  have hlv := lev_lt (bHas_256 hf) at_ i
  have h256i : 256 ^ i ≤ 256 ^ 4 := Nat.pow_le_pow_right (by decide) (by omega)
  refine lv_icmp_ge (tgt := 36) hx hb dX1_readOne_12 (by decide) (fun c_12 => ?_) (fun c_12 => ?_)
  · rw [nI_leI (a := ((w + 7) / 8)) (b := i) (by omega) (by omega)] at c_12
    obtain rfl : i = (w + 7) / 8 := by omega
    refine lv_lload hx hb dX1_readOne_36 (lv_at hl 4 rfl) ?_
    refine lv_iload_n hx hb dX1_readOne_38 rfl (lv_at hl 2 rfl) ?_
    refine lv_lushr (v := lN (lev xs at_ ((w + 7) / 8) / 2 ^ w)) hx hb dX1_readOne_39 (wb_shr (by omega) (by omega)) ?_
    refine lv_lconst (v := lN 0) hx hb dX1_readOne_40 (by decide) ?_
    refine W.lcmp hx hb dX1_readOne_41 ?_
    refine lv_if_eq (tgt := 47) hx hb dX1_readOne_42 (by decide) (fun c_42 => ?_) (fun c_42 => ?_)
    · rw [cmpE (Nat.lt_of_le_of_lt (Nat.div_le_self _ _) (by omega)) (by decide)] at c_42
      have hlt : ¬ 2 ^ w ≤ lev xs at_ ((w + 7) / 8) := fun q => absurd (Nat.div_pos q (Nat.pow_pos (by decide))) (by omega)
      refine lv_aload_n hx hb dX1_readOne_47 rfl (lv_at hl 1 rfl) ?_
      refine lv_lload hx hb dX1_readOne_48 (lv_at hl 4 rfl) ?_
      refine lv_l2i (v := nI (lev xs at_ ((w + 7) / 8))) hx hb dX1_readOne_50 (lN_i _) ?_
      refine lv_iload_n hx hb dX1_readOne_51 rfl (lv_at hl 3 rfl) ?_
      refine kret_i (wc := [(ro, .inr (2, [.ref ra, .int (nI (List.length r))])), (ra, .inl (cR, 4096, .inl fr))]) (wr := [(ow, .inr (1, [.ref h, .int (nI (at_ + ((w + 7) / 8))), .long hd])), (h, .inr (0, [.ref a, .int (nI (List.length xs))])), (a, .inl (cA, n, .inl f))]) (va_runV (As := [.int (nI (lev xs at_ ((w + 7) / 8))), .int (nI t)]) (rest := []) ⟨hx, hb, hml, hown, hts⟩ (c_Row_append l dC dI _ ro ra cR fr r (nI (lev xs at_ ((w + 7) / 8))) (nI t) hfr hrn) (cwV 2 hts (gdV m_250 m_146 m_147 m_6 m_148) rfl rfl rfl (by decide +kernel) ⟨Nat.le_of_ble_eq_true rfl, Nat.le_of_ble_eq_true rfl⟩) (kpV hNs hK hP hD [3, 4] [1] rfl rfl (by decide) (ci := 2) rfl rfl) rfl rfl hl.1 rfl (lv_room (Nat.le_of_ble_eq_true rfl)) dX1_readOne_52 ⟨Nat.le_of_ble_eq_true rfl, Nat.le_of_ble_eq_true rfl⟩) hP hD hS hA [3, 4] [0, 1, 2] rfl rfl (by decide) (by decide) (fun y u H locs hpo hK1 hP hD hS => ?_)
      obtain ⟨hu1, hu2⟩ := hpo
      have hP : va_P (dC, dI) vwCl [(ow, .inr (1, [.ref h, .int (nI (at_ + ((w + 7) / 8))), .long hd])), (h, .inr (0, [.ref a, .int (nI (List.length xs))])), (a, .inl (cA, n, .inl f)), (ro, .inr (2, [.ref ra, .int (nI (List.length u.2))])), (ra, .inl (cR, 4096, .inl u.1))] H := hP
      have hD : va_D A [(ow, .inr (1, [.ref h, .int (nI (at_ + ((w + 7) / 8))), .long hd])), (h, .inr (0, [.ref a, .int (nI (List.length xs))])), (a, .inl (cA, n, .inl f)), (ro, .inr (2, [.ref ra, .int (nI (List.length u.2))])), (ra, .inl (cR, 4096, .inl u.1))] := hD
      obtain ⟨u1, u2⟩ := u
      obtain ⟨hy, hu3⟩ := app_get ht0 ht hu2
      dsimp only at hu3 hu1
      subst hu3
      have hP : va_P (dC, dI) vwCl [(ow, .inr (1, [.ref h, .int (nI (at_ + ((w + 7) / 8))), .long hd])), (h, .inr (0, [.ref a, .int (nI (List.length xs))])), (a, .inl (cA, n, .inl f)), (ro, .inr (2, [.ref ra, .int (nI (List.length (r ++ List.replicate t (nI (lev xs at_ ((w + 7) / 8))))))])), (ra, .inl (cR, 4096, .inl u1))] H := hP
      have hD : va_D A [(ow, .inr (1, [.ref h, .int (nI (at_ + ((w + 7) / 8))), .long hd])), (h, .inr (0, [.ref a, .int (nI (List.length xs))])), (a, .inl (cA, n, .inl f)), (ro, .inr (2, [.ref ra, .int (nI (List.length (r ++ List.replicate t (nI (lev xs at_ ((w + 7) / 8))))))])), (ra, .inl (cR, 4096, .inl u1))] := hD
      refine lv_pop hx hb dX1_readOne_55 rfl ?_
      refine lv_iconst (v := nI 0) hx hb dX1_readOne_56 (by decide) ?_
      exact kend_i hx hb hr hlocks dX1_readOne_57 (rfl) hK hP hD hS ((at_ + (w + 7) / 8, u1, r ++ List.replicate t (nI (lev xs at_ ((w + 7) / 8))))) (⟨hu1, rfl, Or.inr ⟨hlt, rfl, rfl⟩⟩) [0, 1, 2, 3, 4] [0, 1] rfl (by decide) rfl
    · rw [cmpE (Nat.lt_of_le_of_lt (Nat.div_le_self _ _) (by omega)) (by decide)] at c_42
      have hge : 2 ^ w ≤ lev xs at_ ((w + 7) / 8) := by rcases Nat.lt_or_ge (lev xs at_ ((w + 7) / 8)) (2 ^ w) with q | q; exact absurd (Nat.div_eq_of_lt q) c_42; exact q
      refine lv_iconst (v := nI 5) hx hb dX1_readOne_45 (by decide) ?_
      exact kend_i hx hb hr hlocks dX1_readOne_46 (rfl) hK hP hD hS ((at_ + (w + 7) / 8, fr, r)) (⟨hfr, rfl, Or.inl ⟨hge, rfl, rfl⟩⟩) [0, 1, 2, 3, 4] [0, 1] rfl (by decide) rfl
  · rw [nI_leI (a := ((w + 7) / 8)) (b := i) (by omega) (by omega)] at c_12
    refine lv_lload hx hb dX1_readOne_15 (lv_at hl 4 rfl) ?_
    refine lv_aload_n hx hb dX1_readOne_17 rfl (lv_at hl 0 rfl) ?_
    refine kret_l (wc := [(ow, .inr (1, [.ref h, .int (nI (at_ + i)), .long hd])), (h, .inr (0, [.ref a, .int (nI (List.length xs))])), (a, .inl (cA, n, .inl f))]) (wr := [(ro, .inr (2, [.ref ra, .int (nI (List.length r))])), (ra, .inl (cR, 4096, .inl fr))]) (va_runV (As := []) (rest := [.long (lN (lev xs at_ i))]) ⟨hx, hb, hml, hown, hts⟩ (c_nextByte l dC dI _ ow h a cA n f xs (at_ + i) hd hf hn hN (by omega)) (cwV 0 hts (gdV m_246 m_248 mp_8 m_5 m_249) rfl rfl rfl (by decide +kernel) ⟨Nat.le_of_ble_eq_true rfl, Nat.le_of_ble_eq_true rfl⟩) (kpV hNs hK hP hD [0, 1, 2] [0] rfl rfl (by decide) (ci := 1) rfl rfl) rfl rfl hl.1 rfl (lv_room (Nat.le_of_ble_eq_true rfl)) dX1_readOne_18 ⟨Nat.le_of_ble_eq_true rfl, Nat.le_of_ble_eq_true rfl⟩) hP hD hS hA [0, 1, 2] [3, 4] rfl rfl (by decide) (by decide) (fun y _ H locs hpo hK1 hP hD hS => ?_)
    have hy := hpo
    have hP : va_P (dC, dI) vwCl [(ro, .inr (2, [.ref ra, .int (nI (List.length r))])), (ra, .inl (cR, 4096, .inl fr)), (ow, .inr (1, [.ref h, .int (nI (at_ + i + 1)), .long hd])), (h, .inr (0, [.ref a, .int (nI (List.length xs))])), (a, .inl (cA, n, .inl f))] H := hP
    have hD : va_D A [(ro, .inr (2, [.ref ra, .int (nI (List.length r))])), (ra, .inl (cR, 4096, .inl fr)), (ow, .inr (1, [.ref h, .int (nI (at_ + i + 1)), .long hd])), (h, .inr (0, [.ref a, .int (nI (List.length xs))])), (a, .inl (cA, n, .inl f))] := hD
    subst hy
    refine lv_bipush (v := nI 8) hx hb dX1_readOne_21 (by decide) ?_
    refine lv_iload hx hb dX1_readOne_23 (lv_at hl 5 rfl) ?_
    refine lv_imul hx hb dX1_readOne_25 ?_
    refine tI_ (y := nI (8 * i)) (pk_mul _ _) ?_
    refine lv_lshl (v := lN (xs.getD (at_ + i) 0 * 2 ^ (8 * i))) hx hb dX1_readOne_26 (wb_shl _ (by omega)) ?_
    refine lv_lor hx hb dX1_readOne_27 ?_
    have h256 := bHas_256 hf (at_ + i)
    have hlv2 := lev_lt (bHas_256 hf) at_ (i + 1)
    have h256i2 : 256 ^ (i + 1) ≤ 256 ^ 4 := Nat.pow_le_pow_right (by decide) (by omega)
    refine tL_ (y := lN (lev xs at_ (i + 1))) (by rw [← p256]; exact g_or' (k := 8 * i) (p256 i).symm hlv (Nat.lt_of_lt_of_le hlv2 (Nat.le_trans h256i2 (by decide)))) ?_
    refine lv_lstore (lv' := [(4, .long (lN (lev xs at_ (i + 1)))), (0, .ref ow), (1, .ref ro), (2, .int (nI w)), (3, .int (nI t)), (6, .int (nI i))]) hx hb dX1_readOne_28 hl (by decide) rfl (fun ls hl => ?_)
    refine lv_iinc (v := nI (i + 1)) (lv' := [(6, .int (nI (i + 1))), (4, .long (lN (lev xs at_ (i + 1)))), (0, .ref ow), (1, .ref ro), (2, .int (nI w)), (3, .int (nI t))]) hx hb dX1_readOne_30 hl (k := 5) rfl (ii_add (c := 1) (k := 1) i (by decide)) (by decide) rfl (fun ls hl => ?_)
    refine lv_goto (tgt := 6) hx hb dX1_readOne_33 (by decide) ?_
    exact ih (i + 1) _ _ _ ⟨by omega, hP.sub [2, 3, 4, 0, 1] rfl, hD.sub [2, 3, 4, 0, 1] (by decide) rfl, hS, lv_sub hl [2, 3, 4, 5, 1, 0] rfl⟩ (by show (w + 7) / 8 - (i + 1) < (w + 7) / 8 - i; omega)

set_option maxHeartbeats 4000000 in
set_option maxRecDepth 100000 in
/-- Reader.readGroups(into, width, groups, n) -/
theorem c_readGroups (l : Launch) (dC : Nat → ClassId) (dI : Nat → Nat → Nat) (sz : Nat) (ow : Nat) (h a : Nat) (cA : ClassId) (n : Nat) (f : Nat → Int32) (xs : List Nat) (at_ : Nat) (hd : Int64) (ro ra : Nat) (cR : ClassId) (fr : Nat → Int32) (r : List Int32) (w t m_ : Nat) (hf : bHas f xs) (hn : xs.length ≤ n) (hN : n < 2 ^ 31) (hfr : rHas fr r) (hrn : r.length ≤ 4096) (hw32 : w ≤ 32) (hat : at_ + t * w ≤ xs.length) (hm : m_ ≤ 4096) (hrm : r.length ≤ m_) (ht : t ≤ 512) : Met l yX1_readGroups wsX1_readGroups ({ frames := 3, cells := 0, slots := 0, locals := 68 }) (va_Pc [.ref ow, .ref ro, .int (nI w), .int (nI t), .int (nI m_)] (kB (dC, dI) vwCl [(cA, .byte), (cR, .int)] [(ow, .inr (1, [.ref h, .int (nI at_), .long hd])), (h, .inr (0, [.ref a, .int (nI (List.length xs))])), (a, .inl (cA, n, .inl f)), (ro, .inr (2, [.ref ra, .int (nI (List.length r))])), (ra, .inl (cR, 4096, .inl fr))] sz)) (va_Qi (fun r0 (u : Nat × (Nat → Int32) × List Int32) => rHas u.2.1 u.2.2 ∧ u.2.2.length ≤ 4096 ∧ u.1 ≤ xs.length ∧ (((¬ ∀ q, q < t * 8 → m_ - r.length ≤ q → lev xs at_ (t * w) / 2 ^ (w * q) % 2 ^ w = 0) ∧ r0 = nI 5) ∨ ((∀ q, q < t * 8 → m_ - r.length ≤ q → lev xs at_ (t * w) / 2 ^ (w * q) % 2 ^ w = 0) ∧ r0 = nI 0 ∧ u.1 = at_ + t * w ∧ u.2.2 = r ++ (gn xs at_ w (t * w) (t * 8)).take (m_ - r.length)))) (kE (dC, dI) vwCl (va_A [(ow, .inr (1, [.ref h, .int (nI at_), .long hd])), (h, .inr (0, [.ref a, .int (nI (List.length xs))])), (a, .inl (cA, n, .inl f)), (ro, .inr (2, [.ref ra, .int (nI (List.length r))])), (ra, .inl (cR, 4096, .inl fr))] sz) (fun _ => [(cA, .byte), (cR, .int)]) (fun u => [(ow, .inr (1, [.ref h, .int (nI u.1), .long hd])), (h, .inr (0, [.ref a, .int (nI (List.length xs))])), (a, .inl (cA, n, .inl f)), (ro, .inr (2, [.ref ra, .int (nI (List.length u.2.2))])), (ra, .inl (cR, 4096, .inl u.2.1))])) (va_A [(ow, .inr (1, [.ref h, .int (nI at_), .long hd])), (h, .inr (0, [.ref a, .int (nI (List.length xs))])), (a, .inl (cA, n, .inl f)), (ro, .inr (2, [.ref ra, .int (nI (List.length r))])), (ra, .inl (cR, 4096, .inl fr))] sz)) 0 0 (va_A [(ow, .inr (1, [.ref h, .int (nI at_), .long hd])), (h, .inr (0, [.ref a, .int (nI (List.length xs))])), (a, .inl (cA, n, .inl f)), (ro, .inr (2, [.ref ra, .int (nI (List.length r))])), (ra, .inl (cR, 4096, .inl fr))] sz) := by
  refine Met.ofW (cc := cX1_readGroups) (maxL := 12) (ret := (some .int)) (by decide) rfl ?_
  intro p e s m args below meth c s₁ B hml hv
  obtain ⟨rfl, hsz, hP, hK, hD0, hNs⟩ := hv
  have hx := B.exec
  have hb := B.bytes
  have hr := B.returns
  have hts := fun w (h : w ∈ lw_g) => atoms_spec (ws := wsX1_readGroups) B.pre w (List.mem_cons_of_mem _ h)
  have hown : s.vm.findClass RX1 = some m.cls := findClass_of_methodNamed B.named
  have hlocks := B.notSynchronized
  subst hsz
  have hD := hD0.self (sz := s.heap.size)
  generalize hAe : va_A [(ow, .inr (1, [.ref h, .int (nI at_), .long hd])), (h, .inr (0, [.ref a, .int (nI (List.length xs))])), (a, .inl (cA, n, .inl f)), (ro, .inr (2, [.ref ra, .int (nI (List.length r))])), (ra, .inl (cR, 4096, .inl fr))] s.heap.size = A at hD ⊢
  have hA : ∀ q : Nat, s.heap.size ≤ q → A q := fun q h => by rw [← hAe]; exact Or.inr h
  have hS : va_S A s.heap s.heap [] := va_S.rf
  have hP : va_P (dC, dI) vwCl [(ow, .inr (1, [.ref h, .int (nI at_), .long hd])), (h, .inr (0, [.ref a, .int (nI (List.length xs))])), (a, .inl (cA, n, .inl f)), (ro, .inr (2, [.ref ra, .int (nI (List.length r))])), (ra, .inl (cR, 4096, .inl fr))] s.heap := hP
  have hl := lv_entry ([.ref ow, .ref ro, .int (nI w), .int (nI t), .int (nI m_)]) (n := 12) (Nat.le_of_ble_eq_true rfl)
  rw [lg_entry_eq]
  generalize (lg_sl ([.ref ow, .ref ro, .int (nI w), .int (nI t), .int (nI m_)]) ++ List.replicate (12 - (lg_sl ([.ref ow, .ref ro, .int (nI w), .int (nI t), .int (nI m_)])).length) Slot.unset).toArray = ls at hl ⊢
  have hl : lv_has ls 12 [(0, .ref ow), (1, .ref ro), (2, .int (nI w)), (3, .int (nI t)), (4, .int (nI m_))] := hl
  refine lv_lconst (v := lN 1) hx hb dX1_readGroups_0 (by decide) ?_
  refine lv_iload_n hx hb dX1_readGroups_1 rfl (lv_at hl 2 rfl) ?_
  refine lv_lshl (v := lN (1 * 2 ^ w)) hx hb dX1_readGroups_2 (wb_shl _ (by omega)) ?_
  refine lv_lconst (v := lN 1) hx hb dX1_readGroups_3 (by decide) ?_
  refine lv_lsub hx hb dX1_readGroups_4 ?_
  refine tL_ (y := lN (2 ^ w - 1)) (by rw [Nat.one_mul]; exact lN_sub (Nat.pow_pos (by decide))) ?_
  refine lv_lstore (lv' := [(5, .long (lN (2 ^ w - 1))), (0, .ref ow), (1, .ref ro), (2, .int (nI w)), (3, .int (nI t)), (4, .int (nI m_))]) hx hb dX1_readGroups_5 hl (by decide) rfl (fun ls hl => ?_)
  refine lv_lconst (v := lN 0) hx hb dX1_readGroups_7 (by decide) ?_
  refine lv_lstore (lv' := [(7, .long (lN 0)), (5, .long (lN (2 ^ w - 1))), (0, .ref ow), (1, .ref ro), (2, .int (nI w)), (3, .int (nI t)), (4, .int (nI m_))]) hx hb dX1_readGroups_8 hl (by decide) rfl (fun ls hl => ?_)
  refine lv_iconst (v := nI 0) hx hb dX1_readGroups_10 (by decide) ?_
  refine lv_istore (lv' := [(9, .int (nI 0)), (7, .long (lN 0)), (5, .long (lN (2 ^ w - 1))), (0, .ref ow), (1, .ref ro), (2, .int (nI w)), (3, .int (nI t)), (4, .int (nI m_))]) hx hb dX1_readGroups_11 hl (by decide) rfl (fun ls hl => ?_)
  refine lv_iconst (v := nI 0) hx hb dX1_readGroups_13 (by decide) ?_
  refine lv_istore (lv' := [(10, .int (nI 0)), (9, .int (nI 0)), (7, .long (lN 0)), (5, .long (lN (2 ^ w - 1))), (0, .ref ow), (1, .ref ro), (2, .int (nI w)), (3, .int (nI t)), (4, .int (nI m_))]) hx hb dX1_readGroups_14 hl (by decide) rfl (fun ls hl => ?_)
  have hl := (show lv_has ls 12 [(10, .int (nI 0)), (9, .int (nI (8 * 0 - w * 0))), (7, .long (lN (lev xs at_ 0 / 2 ^ (w * 0)))), (5, .long (lN (2 ^ w - 1))), (0, .ref ow), (1, .ref ro), (2, .int (nI w)), (3, .int (nI t)), (4, .int (nI m_))] from (by first | exact hl | simpa [lev] using hl))
  have hz0 : r = r ++ (gn xs at_ w (t * w) 0).take (m_ - r.length) := by unfold gn; simp
  have hu0 : rHas fr (r ++ (gn xs at_ w (t * w) 0).take (m_ - r.length)) := by rw [← hz0]; exact hfr
  have hP := (show va_P (dC, dI) vwCl [(ow, .inr (1, [.ref h, .int (nI (at_ + 0)), .long hd])), (h, .inr (0, [.ref a, .int (nI (List.length xs))])), (a, .inl (cA, n, .inl f)), (ro, .inr (2, [.ref ra, .int (nI (List.length (r ++ (gn xs at_ w (t * w) 0).take (m_ - r.length))))])), (ra, .inl (cR, 4096, .inl fr))] _ from by rw [← hz0]; exact hP)
  have hD := (show va_D A [(ow, .inr (1, [.ref h, .int (nI (at_ + 0)), .long hd])), (h, .inr (0, [.ref a, .int (nI (List.length xs))])), (a, .inl (cA, n, .inl f)), (ro, .inr (2, [.ref ra, .int (nI (List.length (r ++ (gn xs at_ w (t * w) 0).take (m_ - r.length))))])), (ra, .inl (cR, 4096, .inl fr))] from by rw [← hz0]; exact hD)
  refine k_loop (σ := Nat × Nat × (Nat → Int32)) (fun (z : Nat × Nat × (Nat → Int32)) H locs ls => match z with
        | (k, j, u) => k ≤ t * 8 ∧ w * k ≤ 8 * j ∧ 8 * j < w * k + 8 ∧ rHas u (r ++ (gn xs at_ w (t * w) k).take (m_ - r.length)) ∧ (∀ q, q < k → m_ - r.length ≤ q → lev xs at_ (t * w) / 2 ^ (w * q) % 2 ^ w = 0) ∧ va_P (dC, dI) vwCl [(ow, .inr (1, [.ref h, .int (nI (at_ + j)), .long hd])), (h, .inr (0, [.ref a, .int (nI (List.length xs))])), (a, .inl (cA, n, .inl f)), (ro, .inr (2, [.ref ra, .int (nI (List.length (r ++ (gn xs at_ w (t * w) k).take (m_ - r.length))))])), (ra, .inl (cR, 4096, .inl u))] H ∧ va_D A [(ow, .inr (1, [.ref h, .int (nI (at_ + j)), .long hd])), (h, .inr (0, [.ref a, .int (nI (List.length xs))])), (a, .inl (cA, n, .inl f)), (ro, .inr (2, [.ref ra, .int (nI (List.length (r ++ (gn xs at_ w (t * w) k).take (m_ - r.length))))])), (ra, .inl (cR, 4096, .inl u))] ∧ va_S A s.heap H locs ∧ lv_has ls 12 [(0, .ref ow), (1, .ref ro), (2, .int (nI w)), (3, .int (nI t)), (4, .int (nI m_)), (5, .long (lN (2 ^ w - 1))), (7, .long (lN (lev xs at_ j / 2 ^ (w * k)))), (9, .int (nI (8 * j - w * k))), (10, .int (nI k))]) (fun z => match z with
        | (k, j, u) => t * 8 - k) ?_ ((0, 0, fr)) _ _ _ ⟨Nat.zero_le _, by omega, by omega, hu0, fun q h => absurd h (Nat.not_lt_zero q), hP.sub [0, 1, 2, 3, 4] rfl, hD.sub [0, 1, 2, 3, 4] (by decide) rfl, hS, lv_sub hl [4, 5, 6, 7, 8, 3, 2, 1, 0] rfl⟩
  intro z H locs ls hI ih
  obtain ⟨k, j, u⟩ := z
  obtain ⟨hk, hj1, hj2, hu, hz, hP, hD, hS, hl⟩ := hI
  refine lv_iload hx hb dX1_readGroups_16 (lv_at hl 8 rfl) ?_
  refine lv_iload_n hx hb dX1_readGroups_18 rfl (lv_at hl 3 rfl) ?_
  refine lv_bipush (v := nI 8) hx hb dX1_readGroups_19 (by decide) ?_
  refine lv_imul hx hb dX1_readGroups_21 ?_
  refine tI_ (y := nI (t * 8)) (pk_mul _ _) ?_
  refine lv_icmp_ge (tgt := 102) hx hb dX1_readGroups_22 (by decide) (fun c_22 => ?_) (fun c_22 => ?_)
  · rw [nI_leI (a := (t * 8)) (b := k) (by omega) (by omega)] at c_22
    obtain rfl : k = t * 8 := by omega
    have hwt9 : w * (t * 8) = 8 * (t * w) := by rw [Nat.mul_comm t 8, ← Nat.mul_assoc, Nat.mul_comm w 8, Nat.mul_assoc, Nat.mul_comm w t]
    have hj : j = t * w := by omega
    subst hj
    refine lv_iconst (v := nI 0) hx hb dX1_readGroups_102 (by decide) ?_
    exact kend_i hx hb hr hlocks dX1_readGroups_103 (rfl) hK hP hD hS ((at_ + t * w, u, r ++ (gn xs at_ w (t * w) (t * 8)).take (m_ - r.length))) (⟨hu, rk_len hm hrm, hat, Or.inr ⟨hz, rfl, rfl, rfl⟩⟩) [0, 1, 2, 3, 4] [0, 1] rfl (by decide) rfl
  · rw [nI_leI (a := (t * 8)) (b := k) (by omega) (by omega)] at c_22
    have hwk : w * (k + 1) ≤ w * (t * 8) := Nat.mul_le_mul_left _ (by omega)
    have hwt : w * (t * 8) = 8 * (t * w) := by rw [Nat.mul_comm t 8, ← Nat.mul_assoc, Nat.mul_comm w 8, Nat.mul_assoc, Nat.mul_comm w t]
    have hk1 : w * (k + 1) = w * k + w := Nat.mul_succ w k
    have ihk := ih
    clear ih
    refine k_loop (σ := Nat) (fun (z : Nat) H locs ls => match z with
          | j2 => w * k ≤ 8 * j2 ∧ 8 * j2 < w * (k + 1) + 8 ∧ va_P (dC, dI) vwCl [(ow, .inr (1, [.ref h, .int (nI (at_ + j2)), .long hd])), (h, .inr (0, [.ref a, .int (nI (List.length xs))])), (a, .inl (cA, n, .inl f)), (ro, .inr (2, [.ref ra, .int (nI (List.length (r ++ (gn xs at_ w (t * w) k).take (m_ - r.length))))])), (ra, .inl (cR, 4096, .inl u))] H ∧ va_D A [(ow, .inr (1, [.ref h, .int (nI (at_ + j2)), .long hd])), (h, .inr (0, [.ref a, .int (nI (List.length xs))])), (a, .inl (cA, n, .inl f)), (ro, .inr (2, [.ref ra, .int (nI (List.length (r ++ (gn xs at_ w (t * w) k).take (m_ - r.length))))])), (ra, .inl (cR, 4096, .inl u))] ∧ va_S A s.heap H locs ∧ lv_has ls 12 [(0, .ref ow), (1, .ref ro), (2, .int (nI w)), (3, .int (nI t)), (4, .int (nI m_)), (5, .long (lN (2 ^ w - 1))), (7, .long (lN (lev xs at_ j2 / 2 ^ (w * k)))), (9, .int (nI (8 * j2 - w * k))), (10, .int (nI k))]) (fun z => match z with
          | j2 => w * (k + 1) + 8 - 8 * j2) ?_ (j) _ _ _ ⟨hj1, by omega, hP.sub [0, 1, 2, 3, 4] rfl, hD.sub [0, 1, 2, 3, 4] (by decide) rfl, hS, lv_sub hl [0, 1, 2, 3, 4, 5, 6, 7, 8] rfl⟩
    intro z H locs ls hI ih
    obtain ⟨j2, rfl⟩ : ∃ y, y = z := ⟨_, rfl⟩
    obtain ⟨hj21, hj22, hP, hD, hS, hl⟩ := hI
    have hbl := lev_div_lt (bHas_256 hf) at_ w hj21
    have hpw : 2 ^ (8 * j2 - w * k) ≤ 2 ^ 39 := Nat.pow_le_pow_right (by decide) (by omega)
    refine lv_iload hx hb dX1_readGroups_25 (lv_at hl 7 rfl) ?_
    refine lv_iload_n hx hb dX1_readGroups_27 rfl (lv_at hl 2 rfl) ?_
    refine lv_icmp_ge (tgt := 49) hx hb dX1_readGroups_28 (by decide) (fun c_28 => ?_) (fun c_28 => ?_)
    · rw [nI_leI (a := w) (b := (8 * j2 - w * k)) (by omega) (by omega)] at c_28
      refine lv_lload hx hb dX1_readGroups_49 (lv_at hl 6 rfl) ?_
      refine lv_lload hx hb dX1_readGroups_51 (lv_at hl 5 rfl) ?_
      refine lv_land hx hb dX1_readGroups_53 ?_
      refine tL_ (y := lN (lev xs at_ j2 / 2 ^ (w * k) % 2 ^ w)) (wb_mask (by omega) (by omega)) ?_
      rw [lev_num xs at_ w (k := k) (n := t * w) (by omega) (by omega)]
      refine lv_l2i (v := nI (lev xs at_ (t * w) / 2 ^ (w * k) % 2 ^ w)) hx hb dX1_readGroups_54 (lN_i _) ?_
      refine lv_istore (lv' := [(11, .int (nI (lev xs at_ (t * w) / 2 ^ (w * k) % 2 ^ w))), (0, .ref ow), (1, .ref ro), (2, .int (nI w)), (3, .int (nI t)), (4, .int (nI m_)), (5, .long (lN (2 ^ w - 1))), (7, .long (lN (lev xs at_ j2 / 2 ^ (w * k)))), (9, .int (nI (8 * j2 - w * k))), (10, .int (nI k))]) hx hb dX1_readGroups_55 hl (by decide) rfl (fun ls hl => ?_)
      refine lv_lload hx hb dX1_readGroups_57 (lv_at hl 7 rfl) ?_
      refine lv_iload_n hx hb dX1_readGroups_59 rfl (lv_at hl 3 rfl) ?_
      refine lv_lushr (v := lN (lev xs at_ j2 / 2 ^ (w * (k + 1)))) hx hb dX1_readGroups_60 (by rw [wb_shr (by omega) (by omega), Nat.div_div_eq_div_mul, ← Nat.pow_add, hk1]) ?_
      refine lv_lstore (lv' := [(7, .long (lN (lev xs at_ j2 / 2 ^ (w * (k + 1))))), (11, .int (nI (lev xs at_ (t * w) / 2 ^ (w * k) % 2 ^ w))), (0, .ref ow), (1, .ref ro), (2, .int (nI w)), (3, .int (nI t)), (4, .int (nI m_)), (5, .long (lN (2 ^ w - 1))), (9, .int (nI (8 * j2 - w * k))), (10, .int (nI k))]) hx hb dX1_readGroups_61 hl (by decide) rfl (fun ls hl => ?_)
      refine lv_iload hx hb dX1_readGroups_63 (lv_at hl 8 rfl) ?_
      refine lv_iload_n hx hb dX1_readGroups_65 rfl (lv_at hl 4 rfl) ?_
      refine lv_isub hx hb dX1_readGroups_66 ?_
      refine tI_ (y := nI ((8 * j2 - w * k) - w)) (pk_sub (by omega)) ?_
      refine tI_ (y := nI (8 * j2 - w * (k + 1))) (by rw [hk1]; congr 1; omega) ?_
      refine lv_istore (lv' := [(9, .int (nI (8 * j2 - w * (k + 1)))), (7, .long (lN (lev xs at_ j2 / 2 ^ (w * (k + 1))))), (11, .int (nI (lev xs at_ (t * w) / 2 ^ (w * k) % 2 ^ w))), (0, .ref ow), (1, .ref ro), (2, .int (nI w)), (3, .int (nI t)), (4, .int (nI m_)), (5, .long (lN (2 ^ w - 1))), (10, .int (nI k))]) hx hb dX1_readGroups_67 hl (by decide) rfl (fun ls hl => ?_)
      refine lv_aload_n hx hb dX1_readGroups_69 rfl (lv_at hl 4 rfl) ?_
      refine kret_i (wc := [(ro, .inr (2, [.ref ra, .int (nI (List.length (r ++ (gn xs at_ w (t * w) k).take (m_ - r.length))))])), (ra, .inl (cR, 4096, .inl u))]) (wr := [(ow, .inr (1, [.ref h, .int (nI (at_ + j2)), .long hd])), (h, .inr (0, [.ref a, .int (nI (List.length xs))])), (a, .inl (cA, n, .inl f))]) (va_runV (As := []) (rest := []) ⟨hx, hb, hml, hown, hts⟩ (c_Row_count l dC dI _ ro ra cR u (r ++ (gn xs at_ w (t * w) k).take (m_ - r.length))) (cwV 0 hts (gdV m_227 m_181 m_182 m_6 m_183) rfl rfl rfl (by decide +kernel) ⟨Nat.le_of_ble_eq_true rfl, Nat.le_of_ble_eq_true rfl⟩) (kpV hNs hK hP hD [3, 4] [1] rfl rfl (by decide) (ci := 2) rfl rfl) rfl rfl hl.1 rfl (lv_room (Nat.le_of_ble_eq_true rfl)) dX1_readGroups_70 ⟨Nat.le_of_ble_eq_true rfl, Nat.le_of_ble_eq_true rfl⟩) hP hD hS hA [3, 4] [0, 1, 2] rfl rfl (by decide) (by decide) (fun y _ H locs hpo hK1 hP hD hS => ?_)
      have hy := hpo
      have hP : va_P (dC, dI) vwCl [(ow, .inr (1, [.ref h, .int (nI (at_ + j2)), .long hd])), (h, .inr (0, [.ref a, .int (nI (List.length xs))])), (a, .inl (cA, n, .inl f)), (ro, .inr (2, [.ref ra, .int (nI (List.length (r ++ (gn xs at_ w (t * w) k).take (m_ - r.length))))])), (ra, .inl (cR, 4096, .inl u))] H := hP
      have hD : va_D A [(ow, .inr (1, [.ref h, .int (nI (at_ + j2)), .long hd])), (h, .inr (0, [.ref a, .int (nI (List.length xs))])), (a, .inl (cA, n, .inl f)), (ro, .inr (2, [.ref ra, .int (nI (List.length (r ++ (gn xs at_ w (t * w) k).take (m_ - r.length))))])), (ra, .inl (cR, 4096, .inl u))] := hD
      have hlen : List.length (r ++ (gn xs at_ w (t * w) k).take (m_ - r.length)) = r.length + min (m_ - r.length) k := by rw [List.length_append, List.length_take, gn_len]
      rw [hlen] at hy
      subst hy
      refine lv_iload hx hb dX1_readGroups_73 (lv_at hl 7 rfl) ?_
      refine lv_icmp_ge (tgt := 89) hx hb dX1_readGroups_75 (by decide) (fun c_75 => ?_) (fun c_75 => ?_)
      · rw [nI_leI (a := m_) (b := (r.length + min (m_ - r.length) k)) (by omega) (by omega)] at c_75
        refine lv_iload hx hb dX1_readGroups_89 (lv_at hl 2 rfl) ?_
        refine lv_if_eq (tgt := 96) hx hb dX1_readGroups_91 (by decide) (fun c_91 => ?_) (fun c_91 => ?_)
        · have hzz : lev xs at_ (t * w) / 2 ^ (w * k) % 2 ^ w = 0 := (nI_z32 (Nat.lt_of_lt_of_le (Nat.mod_lt _ (Nat.pow_pos (by decide))) (Nat.pow_le_pow_right (by decide) hw32))).mp c_91
          have hR : r ++ (gn xs at_ w (t * w) (k + 1)).take (m_ - r.length) = r ++ (gn xs at_ w (t * w) k).take (m_ - r.length) := by rw [gn_succ, List.take_append_of_le_length (by rw [gn_len]; omega)]
          have hP := (show va_P (dC, dI) vwCl [(ow, .inr (1, [.ref h, .int (nI (at_ + j2)), .long hd])), (h, .inr (0, [.ref a, .int (nI (List.length xs))])), (a, .inl (cA, n, .inl f)), (ro, .inr (2, [.ref ra, .int (nI (List.length (r ++ (gn xs at_ w (t * w) (k + 1)).take (m_ - r.length))))])), (ra, .inl (cR, 4096, .inl u))] H from by rw [hR]; exact hP.sub [0, 1, 2, 3, 4] rfl)
          have hD := (show va_D A [(ow, .inr (1, [.ref h, .int (nI (at_ + j2)), .long hd])), (h, .inr (0, [.ref a, .int (nI (List.length xs))])), (a, .inl (cA, n, .inl f)), (ro, .inr (2, [.ref ra, .int (nI (List.length (r ++ (gn xs at_ w (t * w) (k + 1)).take (m_ - r.length))))])), (ra, .inl (cR, 4096, .inl u))] from by rw [hR]; exact hD.sub [0, 1, 2, 3, 4] (by decide) rfl)
          refine lv_iinc (v := nI (k + 1)) (lv' := [(10, .int (nI (k + 1))), (9, .int (nI (8 * j2 - w * (k + 1)))), (7, .long (lN (lev xs at_ j2 / 2 ^ (w * (k + 1))))), (11, .int (nI (lev xs at_ (t * w) / 2 ^ (w * k) % 2 ^ w))), (0, .ref ow), (1, .ref ro), (2, .int (nI w)), (3, .int (nI t)), (4, .int (nI m_)), (5, .long (lN (2 ^ w - 1)))]) hx hb dX1_readGroups_96 hl (k := 9) rfl (ii_add (c := 1) (k := 1) k (by decide)) (by decide) rfl (fun ls hl => ?_)
          refine lv_goto (tgt := 16) hx hb dX1_readGroups_99 (by decide) ?_
          exact ihk (k + 1, j2, u) _ _ _ ⟨by omega, by omega, by omega, by rw [hR]; exact hu, fun q hq1 hq2 => by
            by_cases hqk : q = k
            · subst hqk; exact hzz
            · exact hz q (by omega) hq2, hP.sub [0, 1, 2, 3, 4] rfl, hD.sub [0, 1, 2, 3, 4] (by decide) rfl, hS, lv_sub hl [4, 5, 6, 7, 8, 9, 2, 1, 0] rfl⟩ (by show t * 8 - (k + 1) < t * 8 - k; omega)
        · have hnz : ¬ (lev xs at_ (t * w) / 2 ^ (w * k) % 2 ^ w = 0) := fun q => c_91 (by rw [q]; rfl)
          refine lv_iconst (v := nI 5) hx hb dX1_readGroups_94 (by decide) ?_
          exact kend_i hx hb hr hlocks dX1_readGroups_95 (rfl) hK hP hD hS ((at_ + j2, u, r ++ (gn xs at_ w (t * w) k).take (m_ - r.length))) (⟨hu, rk_len hm hrm, by show at_ + j2 ≤ xs.length; omega, Or.inl ⟨fun q => hnz (q k (by omega) (by omega)), rfl⟩⟩) [0, 1, 2, 3, 4] [0, 1] rfl (by decide) rfl
      · rw [nI_leI (a := m_) (b := (r.length + min (m_ - r.length) k)) (by omega) (by omega)] at c_75
        refine lv_aload_n hx hb dX1_readGroups_78 rfl (lv_at hl 4 rfl) ?_
        refine lv_iload hx hb dX1_readGroups_79 (lv_at hl 2 rfl) ?_
        refine lv_iconst (v := nI 1) hx hb dX1_readGroups_81 (by decide) ?_
        refine kret_i (wc := [(ro, .inr (2, [.ref ra, .int (nI (List.length (r ++ (gn xs at_ w (t * w) k).take (m_ - r.length))))])), (ra, .inl (cR, 4096, .inl u))]) (wr := [(ow, .inr (1, [.ref h, .int (nI (at_ + j2)), .long hd])), (h, .inr (0, [.ref a, .int (nI (List.length xs))])), (a, .inl (cA, n, .inl f))]) (va_runV (As := [.int (nI (lev xs at_ (t * w) / 2 ^ (w * k) % 2 ^ w)), .int (nI 1)]) (rest := []) ⟨hx, hb, hml, hown, hts⟩ (c_Row_append l dC dI _ ro ra cR u (r ++ (gn xs at_ w (t * w) k).take (m_ - r.length)) (nI (lev xs at_ (t * w) / 2 ^ (w * k) % 2 ^ w)) (nI 1) hu (rk_len hm hrm)) (cwV 2 hts (gdV m_250 m_146 m_147 m_6 m_148) rfl rfl rfl (by decide +kernel) ⟨Nat.le_of_ble_eq_true rfl, Nat.le_of_ble_eq_true rfl⟩) (kpV hNs hK hP hD [3, 4] [1] rfl rfl (by decide) (ci := 2) rfl rfl) rfl rfl hl.1 rfl (lv_room (Nat.le_of_ble_eq_true rfl)) dX1_readGroups_82 ⟨Nat.le_of_ble_eq_true rfl, Nat.le_of_ble_eq_true rfl⟩) hP hD hS hA [3, 4] [0, 1, 2] rfl rfl (by decide) (by decide) (fun y u9 H locs hpo hK1 hP hD hS => ?_)
        obtain ⟨hu1, hu2⟩ := hpo
        have hP : va_P (dC, dI) vwCl [(ow, .inr (1, [.ref h, .int (nI (at_ + j2)), .long hd])), (h, .inr (0, [.ref a, .int (nI (List.length xs))])), (a, .inl (cA, n, .inl f)), (ro, .inr (2, [.ref ra, .int (nI (List.length u9.2))])), (ra, .inl (cR, 4096, .inl u9.1))] H := hP
        have hD : va_D A [(ow, .inr (1, [.ref h, .int (nI (at_ + j2)), .long hd])), (h, .inr (0, [.ref a, .int (nI (List.length xs))])), (a, .inl (cA, n, .inl f)), (ro, .inr (2, [.ref ra, .int (nI (List.length u9.2))])), (ra, .inl (cR, 4096, .inl u9.1))] := hD
        obtain ⟨u1, u2⟩ := u9
        obtain ⟨hy, hu3⟩ := app_get (t := 1) (by decide) (by rw [hlen]; omega) hu2
        dsimp only at hu3 hu1
        have hR : u2 = r ++ (gn xs at_ w (t * w) (k + 1)).take (m_ - r.length) := by rw [hu3, gn_succ, List.take_of_length_le (by rw [gn_len]; omega), List.take_of_length_le (by rw [List.length_append, gn_len]; simp; omega), List.append_assoc]; rfl
        subst hR
        have hP : va_P (dC, dI) vwCl [(ow, .inr (1, [.ref h, .int (nI (at_ + j2)), .long hd])), (h, .inr (0, [.ref a, .int (nI (List.length xs))])), (a, .inl (cA, n, .inl f)), (ro, .inr (2, [.ref ra, .int (nI (List.length (r ++ (gn xs at_ w (t * w) (k + 1)).take (m_ - r.length))))])), (ra, .inl (cR, 4096, .inl u1))] H := hP
        have hD : va_D A [(ow, .inr (1, [.ref h, .int (nI (at_ + j2)), .long hd])), (h, .inr (0, [.ref a, .int (nI (List.length xs))])), (a, .inl (cA, n, .inl f)), (ro, .inr (2, [.ref ra, .int (nI (List.length (r ++ (gn xs at_ w (t * w) (k + 1)).take (m_ - r.length))))])), (ra, .inl (cR, 4096, .inl u1))] := hD
        refine lv_pop hx hb dX1_readGroups_85 rfl ?_
        refine lv_goto (tgt := 96) hx hb dX1_readGroups_86 (by decide) ?_
        refine lv_iinc (v := nI (k + 1)) (lv' := [(10, .int (nI (k + 1))), (9, .int (nI (8 * j2 - w * (k + 1)))), (7, .long (lN (lev xs at_ j2 / 2 ^ (w * (k + 1))))), (11, .int (nI (lev xs at_ (t * w) / 2 ^ (w * k) % 2 ^ w))), (0, .ref ow), (1, .ref ro), (2, .int (nI w)), (3, .int (nI t)), (4, .int (nI m_)), (5, .long (lN (2 ^ w - 1)))]) hx hb dX1_readGroups_96 hl (k := 9) rfl (ii_add (c := 1) (k := 1) k (by decide)) (by decide) rfl (fun ls hl => ?_)
        refine lv_goto (tgt := 16) hx hb dX1_readGroups_99 (by decide) ?_
        exact ihk (k + 1, j2, u1) _ _ _ ⟨by omega, by omega, by omega, hu1, fun q hq1 hq2 => absurd hq2 (by omega), hP.sub [0, 1, 2, 3, 4] rfl, hD.sub [0, 1, 2, 3, 4] (by decide) rfl, hS, lv_sub hl [4, 5, 6, 7, 8, 9, 2, 1, 0] rfl⟩ (by show t * 8 - (k + 1) < t * 8 - k; omega)
    · rw [nI_leI (a := w) (b := (8 * j2 - w * k)) (by omega) (by omega)] at c_28
      refine lv_lload hx hb dX1_readGroups_31 (lv_at hl 6 rfl) ?_
      refine lv_aload_n hx hb dX1_readGroups_33 rfl (lv_at hl 0 rfl) ?_
      refine kret_l (wc := [(ow, .inr (1, [.ref h, .int (nI (at_ + j2)), .long hd])), (h, .inr (0, [.ref a, .int (nI (List.length xs))])), (a, .inl (cA, n, .inl f))]) (wr := [(ro, .inr (2, [.ref ra, .int (nI (List.length (r ++ (gn xs at_ w (t * w) k).take (m_ - r.length))))])), (ra, .inl (cR, 4096, .inl u))]) (va_runV (As := []) (rest := [.long (lN (lev xs at_ j2 / 2 ^ (w * k)))]) ⟨hx, hb, hml, hown, hts⟩ (c_nextByte l dC dI _ ow h a cA n f xs (at_ + j2) hd hf hn hN (by omega)) (cwV 0 hts (gdV m_246 m_248 mp_8 m_5 m_249) rfl rfl rfl (by decide +kernel) ⟨Nat.le_of_ble_eq_true rfl, Nat.le_of_ble_eq_true rfl⟩) (kpV hNs hK hP hD [0, 1, 2] [0] rfl rfl (by decide) (ci := 1) rfl rfl) rfl rfl hl.1 rfl (lv_room (Nat.le_of_ble_eq_true rfl)) dX1_readGroups_34 ⟨Nat.le_of_ble_eq_true rfl, Nat.le_of_ble_eq_true rfl⟩) hP hD hS hA [0, 1, 2] [3, 4] rfl rfl (by decide) (by decide) (fun y _ H locs hpo hK1 hP hD hS => ?_)
      have hy := hpo
      have hP : va_P (dC, dI) vwCl [(ro, .inr (2, [.ref ra, .int (nI (List.length (r ++ (gn xs at_ w (t * w) k).take (m_ - r.length))))])), (ra, .inl (cR, 4096, .inl u)), (ow, .inr (1, [.ref h, .int (nI (at_ + j2 + 1)), .long hd])), (h, .inr (0, [.ref a, .int (nI (List.length xs))])), (a, .inl (cA, n, .inl f))] H := hP
      have hD : va_D A [(ro, .inr (2, [.ref ra, .int (nI (List.length (r ++ (gn xs at_ w (t * w) k).take (m_ - r.length))))])), (ra, .inl (cR, 4096, .inl u)), (ow, .inr (1, [.ref h, .int (nI (at_ + j2 + 1)), .long hd])), (h, .inr (0, [.ref a, .int (nI (List.length xs))])), (a, .inl (cA, n, .inl f))] := hD
      subst hy
      refine lv_iload hx hb dX1_readGroups_37 (lv_at hl 7 rfl) ?_
      refine lv_lshl (v := lN (xs.getD (at_ + j2) 0 * 2 ^ (8 * j2 - w * k))) hx hb dX1_readGroups_39 (wb_shl _ (by omega)) ?_
      refine lv_lor hx hb dX1_readGroups_40 ?_
      have hbl2 := lev_div_lt (bHas_256 hf) at_ w (j := j2 + 1) (k := k) (by omega)
      have hpw2 : 2 ^ (8 * (j2 + 1) - w * k) ≤ 2 ^ 40 := Nat.pow_le_pow_right (by decide) (by omega)
      rw [lev_add xs at_ w hj21] at hbl2
      refine tL_ (y := lN (lev xs at_ (j2 + 1) / 2 ^ (w * k))) (by rw [lev_add xs at_ w hj21]; exact g_or' rfl hbl (by omega)) ?_
      refine lv_lstore (lv' := [(7, .long (lN (lev xs at_ (j2 + 1) / 2 ^ (w * k)))), (0, .ref ow), (1, .ref ro), (2, .int (nI w)), (3, .int (nI t)), (4, .int (nI m_)), (5, .long (lN (2 ^ w - 1))), (9, .int (nI (8 * j2 - w * k))), (10, .int (nI k))]) hx hb dX1_readGroups_41 hl (by decide) rfl (fun ls hl => ?_)
      refine lv_iinc (v := nI ((8 * j2 - w * k) + 8)) (lv' := [(9, .int (nI ((8 * j2 - w * k) + 8))), (7, .long (lN (lev xs at_ (j2 + 1) / 2 ^ (w * k)))), (0, .ref ow), (1, .ref ro), (2, .int (nI w)), (3, .int (nI t)), (4, .int (nI m_)), (5, .long (lN (2 ^ w - 1))), (10, .int (nI k))]) hx hb dX1_readGroups_43 hl (k := 7) rfl (ii_add (c := 8) (k := 8) (8 * j2 - w * k) (by decide)) (by decide) rfl (fun ls hl => ?_)
      refine lv_goto (tgt := 25) hx hb dX1_readGroups_46 (by decide) ?_
      have hz9 : nI (8 * j2 - w * k + 8) = nI (8 * (j2 + 1) - w * k) := by congr 1; omega
      rw [hz9] at hl
      exact ih (j2 + 1) _ _ _ ⟨by omega, by omega, hP.sub [2, 3, 4, 0, 1] rfl, hD.sub [2, 3, 4, 0, 1] (by decide) rfl, hS, lv_sub hl [2, 3, 4, 5, 6, 7, 1, 0, 8] rfl⟩ (by show w * (k + 1) + 8 - 8 * (j2 + 1) < w * (k + 1) + 8 - 8 * j2; omega)

set_option maxHeartbeats 4000000 in
set_option maxRecDepth 100000 in
/-- Reader.readRun(into, width, n) -/
theorem c_readRun (l : Launch) (dC : Nat → ClassId) (dI : Nat → Nat → Nat) (sz : Nat) (ow : Nat) (h a : Nat) (cA : ClassId) (n : Nat) (f : Nat → Int32) (xs : List Nat) (at_ : Nat) (hd : Int64) (ro ra : Nat) (cR : ClassId) (fr : Nat → Int32) (r : List Int32) (w m_ : Nat) (hf : bHas f xs) (hn : xs.length ≤ n) (hN : n < 2 ^ 31) (hfr : rHas fr r) (hrn : r.length ≤ 4096) (hw32 : w ≤ 32) (hat : at_ ≤ xs.length) (hm : m_ ≤ 4096) (hrm : r.length ≤ m_) : Met l yX1_readRun wsX1_readRun ({ frames := 4, cells := 0, slots := 0, locals := 99 }) (va_Pc [.ref ow, .ref ro, .int (nI w), .int (nI m_)] (kB (dC, dI) vwCl [(cA, .byte), (cR, .int)] [(ow, .inr (1, [.ref h, .int (nI at_), .long hd])), (h, .inr (0, [.ref a, .int (nI (List.length xs))])), (a, .inl (cA, n, .inl f)), (ro, .inr (2, [.ref ra, .int (nI (List.length r))])), (ra, .inl (cR, 4096, .inl fr))] sz)) (va_Qi (fun r0 (u : Nat × Nat × (Nat → Int32) × List Int32) => rHas u.2.2.1 u.2.2.2 ∧ u.2.2.2.length ≤ 4096 ∧ u.1 ≤ xs.length ∧ r0 = nI (runF xs w m_ at_ r).1 ∧ (runF xs w m_ at_ r).1 ≤ 5 ∧ ((runF xs w m_ at_ r).1 = 0 → u.1 = (runF xs w m_ at_ r).2.1 ∧ u.2.2.2 = (runF xs w m_ at_ r).2.2 ∧ u.2.2.2.length ≤ m_)) (kE (dC, dI) vwCl (va_A [(ow, .inr (1, [.ref h, .int (nI at_), .long hd])), (h, .inr (0, [.ref a, .int (nI (List.length xs))])), (a, .inl (cA, n, .inl f)), (ro, .inr (2, [.ref ra, .int (nI (List.length r))])), (ra, .inl (cR, 4096, .inl fr))] sz) (fun _ => [(cA, .byte), (cR, .int)]) (fun u => [(ow, .inr (1, [.ref h, .int (nI u.1), .long (lN u.2.1)])), (h, .inr (0, [.ref a, .int (nI (List.length xs))])), (a, .inl (cA, n, .inl f)), (ro, .inr (2, [.ref ra, .int (nI (List.length u.2.2.2))])), (ra, .inl (cR, 4096, .inl u.2.2.1))])) (va_A [(ow, .inr (1, [.ref h, .int (nI at_), .long hd])), (h, .inr (0, [.ref a, .int (nI (List.length xs))])), (a, .inl (cA, n, .inl f)), (ro, .inr (2, [.ref ra, .int (nI (List.length r))])), (ra, .inl (cR, 4096, .inl fr))] sz)) 0 0 (va_A [(ow, .inr (1, [.ref h, .int (nI at_), .long hd])), (h, .inr (0, [.ref a, .int (nI (List.length xs))])), (a, .inl (cA, n, .inl f)), (ro, .inr (2, [.ref ra, .int (nI (List.length r))])), (ra, .inl (cR, 4096, .inl fr))] sz) := by
  refine Met.ofW (cc := cX1_readRun) (maxL := 12) (ret := (some .int)) (by decide) rfl ?_
  intro p e s m args below meth c s₁ B hml hv
  obtain ⟨rfl, hsz, hP, hK, hD0, hNs⟩ := hv
  have hx := B.exec
  have hb := B.bytes
  have hr := B.returns
  have hts := fun w (h : w ∈ lw_g) => atoms_spec (ws := wsX1_readRun) B.pre w (List.mem_cons_of_mem _ h)
  have hown : s.vm.findClass RX1 = some m.cls := findClass_of_methodNamed B.named
  have hlocks := B.notSynchronized
  subst hsz
  have hD := hD0.self (sz := s.heap.size)
  generalize hAe : va_A [(ow, .inr (1, [.ref h, .int (nI at_), .long hd])), (h, .inr (0, [.ref a, .int (nI (List.length xs))])), (a, .inl (cA, n, .inl f)), (ro, .inr (2, [.ref ra, .int (nI (List.length r))])), (ra, .inl (cR, 4096, .inl fr))] s.heap.size = A at hD ⊢
  have hA : ∀ q : Nat, s.heap.size ≤ q → A q := fun q h => by rw [← hAe]; exact Or.inr h
  have hS : va_S A s.heap s.heap [] := va_S.rf
  have hP : va_P (dC, dI) vwCl [(ow, .inr (1, [.ref h, .int (nI at_), .long hd])), (h, .inr (0, [.ref a, .int (nI (List.length xs))])), (a, .inl (cA, n, .inl f)), (ro, .inr (2, [.ref ra, .int (nI (List.length r))])), (ra, .inl (cR, 4096, .inl fr))] s.heap := hP
  have hl := lv_entry ([.ref ow, .ref ro, .int (nI w), .int (nI m_)]) (n := 12) (Nat.le_of_ble_eq_true rfl)
  rw [lg_entry_eq]
  generalize (lg_sl ([.ref ow, .ref ro, .int (nI w), .int (nI m_)]) ++ List.replicate (12 - (lg_sl ([.ref ow, .ref ro, .int (nI w), .int (nI m_)])).length) Slot.unset).toArray = ls at hl ⊢
  have hl : lv_has ls 12 [(0, .ref ow), (1, .ref ro), (2, .int (nI w)), (3, .int (nI m_))] := hl
  refine lv_aload_n hx hb dX1_readRun_0 rfl (lv_at hl 0 rfl) ?_
  refine kret_i (wc := [(ow, .inr (1, [.ref h, .int (nI at_), .long hd])), (h, .inr (0, [.ref a, .int (nI (List.length xs))])), (a, .inl (cA, n, .inl f))]) (wr := [(ro, .inr (2, [.ref ra, .int (nI (List.length r))])), (ra, .inl (cR, 4096, .inl fr))]) (va_runV (As := []) (rest := []) ⟨hx, hb, hml, hown, hts⟩ (c_readHead l dC dI _ ow h a cA n f xs at_ hd hf hn hN hat) (cwV 0 hts (gdV m_232 m_234 mp_6 m_5 m_235) rfl rfl rfl (by decide +kernel) ⟨Nat.le_of_ble_eq_true rfl, Nat.le_of_ble_eq_true rfl⟩) (kpV hNs hK hP hD [0, 1, 2] [0] rfl rfl (by decide) (ci := 1) rfl rfl) rfl rfl hl.1 rfl (lv_room (Nat.le_of_ble_eq_true rfl)) dX1_readRun_1 ⟨Nat.le_of_ble_eq_true rfl, Nat.le_of_ble_eq_true rfl⟩) hP hD hS hA [0, 1, 2] [3, 4] rfl rfl (by decide) (by decide) (fun y u H locs hpo hK1 hP hD hS => ?_)
  obtain ⟨q, hq2, hy, hh, ha1, hhv⟩ := hpo
  have hP : va_P (dC, dI) vwCl [(ro, .inr (2, [.ref ra, .int (nI (List.length r))])), (ra, .inl (cR, 4096, .inl fr)), (ow, .inr (1, [.ref h, .int (nI u.1), .long (lN u.2)])), (h, .inr (0, [.ref a, .int (nI (List.length xs))])), (a, .inl (cA, n, .inl f))] H := hP
  have hD : va_D A [(ro, .inr (2, [.ref ra, .int (nI (List.length r))])), (ra, .inl (cR, 4096, .inl fr)), (ow, .inr (1, [.ref h, .int (nI u.1), .long (lN u.2)])), (h, .inr (0, [.ref a, .int (nI (List.length xs))])), (a, .inl (cA, n, .inl f))] := hD
  obtain ⟨a1, hv⟩ := u
  dsimp only at hh ha1 hhv
  subst hy
  have hP : va_P (dC, dI) vwCl [(ro, .inr (2, [.ref ra, .int (nI (List.length r))])), (ra, .inl (cR, 4096, .inl fr)), (ow, .inr (1, [.ref h, .int (nI a1), .long (lN hv)])), (h, .inr (0, [.ref a, .int (nI (List.length xs))])), (a, .inl (cA, n, .inl f))] H := hP
  have hD : va_D A [(ro, .inr (2, [.ref ra, .int (nI (List.length r))])), (ra, .inl (cR, 4096, .inl fr)), (ow, .inr (1, [.ref h, .int (nI a1), .long (lN hv)])), (h, .inr (0, [.ref a, .int (nI (List.length xs))])), (a, .inl (cA, n, .inl f))] := hD
  refine lv_istore (lv' := [(4, .int (nI q)), (0, .ref ow), (1, .ref ro), (2, .int (nI w)), (3, .int (nI m_))]) hx hb dX1_readRun_4 hl (by decide) rfl (fun ls hl => ?_)
  refine lv_iload hx hb dX1_readRun_6 (lv_at hl 0 rfl) ?_
  refine lv_if_eq (tgt := 14) hx hb dX1_readRun_8 (by decide) (fun c_8 => ?_) (fun c_8 => ?_)
  · rw [z_eq (by omega)] at c_8
    subst c_8
    refine lv_aload_n hx hb dX1_readRun_14 rfl (lv_at hl 1 rfl) ?_
    refine va_get (D := (dC, dI)) (ci := 1) (v := .long (lN hv)) (C := RX1) (T := TX1) (N := 3) hx hb hts iX1 hown hK hP 2 rfl rfl 2 (by decide) (hts _ m_59) (fun _ h9 => h9) rfl dX1_readRun_15 ?_
    refine lv_lconst (v := lN 0) hx hb dX1_readRun_18 (by decide) ?_
    refine W.lcmp hx hb dX1_readRun_19 ?_
    refine lv_if_eq (tgt := 32) hx hb dX1_readRun_20 (by decide) (fun c_20 => ?_) (fun c_20 => ?_)
    · rw [cmpE hhv (by decide)] at c_20
      refine lv_iconst (v := nI 3) hx hb dX1_readRun_32 (by decide) ?_
      exact kend_i hx hb hr hlocks dX1_readRun_33 (rfl) hK hP hD hS ((a1, hv, fr, r)) (⟨hfr, hrn, ha1, by rw [run_empty hh (by omega)], by rw [run_empty hh (by omega)]; show 3 ≤ 5; decide, by rw [run_empty hh (by omega)]; exact fun q9 => absurd q9 (by show ¬ 3 = 0; decide)⟩) [2, 3, 4, 0, 1] [0, 1] rfl (by decide) rfl
    · rw [cmpE hhv (by decide)] at c_20
      refine lv_aload_n hx hb dX1_readRun_23 rfl (lv_at hl 1 rfl) ?_
      refine va_get (D := (dC, dI)) (ci := 1) (v := .long (lN hv)) (C := RX1) (T := TX1) (N := 3) hx hb hts iX1 hown hK hP 2 rfl rfl 2 (by decide) (hts _ m_59) (fun _ h9 => h9) rfl dX1_readRun_24 ?_
      refine lv_lconst (v := lN 1) hx hb dX1_readRun_27 (by decide) ?_
      refine W.lcmp hx hb dX1_readRun_28 ?_
      refine lv_if_ne (tgt := 34) hx hb dX1_readRun_29 (by decide) (fun c_29 => ?_) (fun c_29 => ?_)
      · rw [cmpE hhv (by decide)] at c_29
        refine lv_aload_n hx hb dX1_readRun_34 rfl (lv_at hl 1 rfl) ?_
        refine va_get (D := (dC, dI)) (ci := 1) (v := .long (lN hv)) (C := RX1) (T := TX1) (N := 3) hx hb hts iX1 hown hK hP 2 rfl rfl 2 (by decide) (hts _ m_59) (fun _ h9 => h9) rfl dX1_readRun_35 ?_
        refine lv_lconst (v := lN 1) hx hb dX1_readRun_38 (by decide) ?_
        refine lv_land hx hb dX1_readRun_39 ?_
        refine tL_ (y := lN (hv % 2)) (wb_mask (k := 1) hhv (by decide)) ?_
        refine lv_lconst (v := lN 0) hx hb dX1_readRun_40 (by decide) ?_
        refine W.lcmp hx hb dX1_readRun_41 ?_
        refine lv_if_ne (tgt := 49) hx hb dX1_readRun_42 (by decide) (fun c_42 => ?_) (fun c_42 => ?_)
        · rw [cmpE (by omega) (by decide)] at c_42
          refine lv_iconst (v := nI 0) hx hb dX1_readRun_49 (by decide) ?_
          refine lv_istore (lv' := [(5, .int (nI 0)), (4, .int (nI 0)), (0, .ref ow), (1, .ref ro), (2, .int (nI w)), (3, .int (nI m_))]) hx hb dX1_readRun_50 hl (by decide) rfl (fun ls hl => ?_)
          refine lv_aload_n hx hb dX1_readRun_52 rfl (lv_at hl 2 rfl) ?_
          refine va_get (D := (dC, dI)) (ci := 1) (v := .long (lN hv)) (C := RX1) (T := TX1) (N := 3) hx hb hts iX1 hown hK hP 2 rfl rfl 2 (by decide) (hts _ m_59) (fun _ h9 => h9) rfl dX1_readRun_53 ?_
          refine lv_iconst (v := nI 1) hx hb dX1_readRun_56 (by decide) ?_
          refine lv_lushr (v := lN (hv / 2)) hx hb dX1_readRun_57 (wb_shr (k := 1) hhv (by decide)) ?_
          refine lv_lstore (lv' := [(6, .long (lN (hv / 2))), (5, .int (nI 0)), (4, .int (nI 0)), (0, .ref ow), (1, .ref ro), (2, .int (nI w)), (3, .int (nI m_))]) hx hb dX1_readRun_58 hl (by decide) rfl (fun ls hl => ?_)
          refine lv_iload_n hx hb dX1_readRun_60 rfl (lv_at hl 6 rfl) ?_
          refine lv_aload_n hx hb dX1_readRun_61 rfl (lv_at hl 4 rfl) ?_
          refine kret_i (wc := [(ro, .inr (2, [.ref ra, .int (nI (List.length r))])), (ra, .inl (cR, 4096, .inl fr))]) (wr := [(ow, .inr (1, [.ref h, .int (nI a1), .long (lN hv)])), (h, .inr (0, [.ref a, .int (nI (List.length xs))])), (a, .inl (cA, n, .inl f))]) (va_runV (As := []) (rest := [.int (nI m_)]) ⟨hx, hb, hml, hown, hts⟩ (c_Row_count l dC dI _ ro ra cR fr r) (cwV 0 hts (gdV m_227 m_181 m_182 m_6 m_183) rfl rfl rfl (by decide +kernel) ⟨Nat.le_of_ble_eq_true rfl, Nat.le_of_ble_eq_true rfl⟩) (kpV hNs hK hP hD [0, 1] [1] rfl rfl (by decide) (ci := 2) rfl rfl) rfl rfl hl.1 rfl (lv_room (Nat.le_of_ble_eq_true rfl)) dX1_readRun_62 ⟨Nat.le_of_ble_eq_true rfl, Nat.le_of_ble_eq_true rfl⟩) hP hD hS hA [0, 1] [2, 3, 4] rfl rfl (by decide) (by decide) (fun y _ H locs hpo hK1 hP hD hS => ?_)
          have hy := hpo
          have hP : va_P (dC, dI) vwCl [(ow, .inr (1, [.ref h, .int (nI a1), .long (lN hv)])), (h, .inr (0, [.ref a, .int (nI (List.length xs))])), (a, .inl (cA, n, .inl f)), (ro, .inr (2, [.ref ra, .int (nI (List.length r))])), (ra, .inl (cR, 4096, .inl fr))] H := hP
          have hD : va_D A [(ow, .inr (1, [.ref h, .int (nI a1), .long (lN hv)])), (h, .inr (0, [.ref a, .int (nI (List.length xs))])), (a, .inl (cA, n, .inl f)), (ro, .inr (2, [.ref ra, .int (nI (List.length r))])), (ra, .inl (cR, 4096, .inl fr))] := hD
          subst hy
          refine lv_isub hx hb dX1_readRun_65 ?_
          refine tI_ (y := nI (m_ - (List.length r))) (pk_sub (by omega)) ?_
          refine lv_istore (lv' := [(8, .int (nI (m_ - (List.length r)))), (6, .long (lN (hv / 2))), (5, .int (nI 0)), (4, .int (nI 0)), (0, .ref ow), (1, .ref ro), (2, .int (nI w)), (3, .int (nI m_))]) hx hb dX1_readRun_66 hl (by decide) rfl (fun ls hl => ?_)
          refine lv_iload hx hb dX1_readRun_68 (lv_at hl 2 rfl) ?_
          refine lv_if_eq (tgt := 78) hx hb dX1_readRun_70 (by decide) (fun _ => ?_) (fun c_9 => absurd (by decide) c_9)
          refine lv_iload hx hb dX1_readRun_78 (lv_at hl 0 rfl) ?_
          refine lv_bipush (v := nI 8) hx hb dX1_readRun_80 (by decide) ?_
          refine lv_iadd hx hb dX1_readRun_82 ?_
          refine tI_ (y := nI ((m_ - (List.length r)) + 8)) (nI_add _ _) ?_
          refine lv_iconst (v := nI 1) hx hb dX1_readRun_83 (by decide) ?_
          refine lv_isub hx hb dX1_readRun_84 ?_
          refine tI_ (y := nI (((m_ - (List.length r)) + 8) - 1)) (pk_sub (by omega)) ?_
          refine lv_bipush (v := nI 8) hx hb dX1_readRun_85 (by decide) ?_
          refine lv_idiv hx hb dX1_readRun_87 (by decide) ?_
          refine tI_ (y := nI ((((m_ - (List.length r)) + 8) - 1) / 8)) (pk_div (by omega) (by decide) (by decide)) ?_
          refine lv_istore (lv' := [(9, .int (nI ((((m_ - (List.length r)) + 8) - 1) / 8))), (8, .int (nI (m_ - (List.length r)))), (6, .long (lN (hv / 2))), (5, .int (nI 0)), (4, .int (nI 0)), (0, .ref ow), (1, .ref ro), (2, .int (nI w)), (3, .int (nI m_))]) hx hb dX1_readRun_88 hl (by decide) rfl (fun ls hl => ?_)
          refine lv_lload hx hb dX1_readRun_90 (lv_at hl 2 rfl) ?_
          refine lv_iload hx hb dX1_readRun_92 (lv_at hl 0 rfl) ?_
          refine lv_i2l (v := lN ((m_ - List.length r + 8 - 1) / 8)) hx hb dX1_readRun_94 (nI_l (by omega)) ?_
          refine W.lcmp hx hb dX1_readRun_95 ?_
          refine lv_if_le (tgt := 101) hx hb dX1_readRun_96 (by decide) (fun c_96 => ?_) (fun c_96 => ?_)
          · rw [lg_cmp_le, pk_lLE (by omega) (by omega)] at c_96
            refine lv_lload hx hb dX1_readRun_101 (lv_at hl 2 rfl) ?_
            refine lv_l2i (v := nI (hv / 2)) hx hb dX1_readRun_103 (lN_i _) ?_
            refine lv_istore (lv' := [(10, .int (nI (hv / 2))), (9, .int (nI ((((m_ - (List.length r)) + 8) - 1) / 8))), (8, .int (nI (m_ - (List.length r)))), (6, .long (lN (hv / 2))), (5, .int (nI 0)), (4, .int (nI 0)), (0, .ref ow), (1, .ref ro), (2, .int (nI w)), (3, .int (nI m_))]) hx hb dX1_readRun_104 hl (by decide) rfl (fun ls hl => ?_)
            refine lv_iload hx hb dX1_readRun_106 (lv_at hl 4 rfl) ?_
            refine lv_if_eq (tgt := 118) hx hb dX1_readRun_108 (by decide) (fun _ => ?_) (fun c_9 => absurd (by decide) c_9)
            refine lv_iload hx hb dX1_readRun_118 (lv_at hl 0 rfl) ?_
            refine lv_iload_n hx hb dX1_readRun_120 rfl (lv_at hl 8 rfl) ?_
            refine lv_imul hx hb dX1_readRun_121 ?_
            refine tI_ (y := nI ((hv / 2) * w)) (pk_mul _ _) ?_
            refine lv_istore (lv' := [(11, .int (nI ((hv / 2) * w))), (10, .int (nI (hv / 2))), (9, .int (nI ((((m_ - (List.length r)) + 8) - 1) / 8))), (8, .int (nI (m_ - (List.length r)))), (6, .long (lN (hv / 2))), (5, .int (nI 0)), (4, .int (nI 0)), (0, .ref ow), (1, .ref ro), (2, .int (nI w)), (3, .int (nI m_))]) hx hb dX1_readRun_122 hl (by decide) rfl (fun ls hl => ?_)
            refine lv_iload hx hb dX1_readRun_124 (lv_at hl 0 rfl) ?_
            refine lv_aload_n hx hb dX1_readRun_126 rfl (lv_at hl 7 rfl) ?_
            refine va_get (D := (dC, dI)) (ci := 1) (v := .ref h) (C := RX1) (T := TX1) (N := 3) hx hb hts iX1 hown hK hP 0 rfl rfl 0 (by decide) (hts _ m_56) (fun _ h9 => h9) rfl dX1_readRun_127 ?_
            have hwt : hv / 2 * w ≤ 512 * 32 := Nat.mul_le_mul (by omega) hw32
            refine kret_i (wc := [(h, .inr (0, [.ref a, .int (nI (List.length xs))])), (a, .inl (cA, n, .inl f))]) (wr := [(ow, .inr (1, [.ref h, .int (nI a1), .long (lN hv)])), (ro, .inr (2, [.ref ra, .int (nI (List.length r))])), (ra, .inl (cR, 4096, .inl fr))]) (va_runV (As := []) (rest := [.int (nI ((hv / 2) * w))]) ⟨hx, hb, hml, hown, hts⟩ (c_Bytes_count l dC dI _ h a cA n f xs) (cwV 0 hts (gdV m_241 m_215 m_216 m_2 m_217) rfl rfl rfl (by decide +kernel) ⟨Nat.le_of_ble_eq_true rfl, Nat.le_of_ble_eq_true rfl⟩) (kpV hNs hK hP hD [1, 2] [0] rfl rfl (by decide) (ci := 0) rfl rfl) rfl rfl hl.1 rfl (lv_room (Nat.le_of_ble_eq_true rfl)) dX1_readRun_130 ⟨Nat.le_of_ble_eq_true rfl, Nat.le_of_ble_eq_true rfl⟩) hP hD hS hA [1, 2] [0, 3, 4] rfl rfl (by decide) (by decide) (fun y _ H locs hpo hK1 hP hD hS => ?_)
            have hy := hpo
            have hP : va_P (dC, dI) vwCl [(ow, .inr (1, [.ref h, .int (nI a1), .long (lN hv)])), (ro, .inr (2, [.ref ra, .int (nI (List.length r))])), (ra, .inl (cR, 4096, .inl fr)), (h, .inr (0, [.ref a, .int (nI (List.length xs))])), (a, .inl (cA, n, .inl f))] H := hP
            have hD : va_D A [(ow, .inr (1, [.ref h, .int (nI a1), .long (lN hv)])), (ro, .inr (2, [.ref ra, .int (nI (List.length r))])), (ra, .inl (cR, 4096, .inl fr)), (h, .inr (0, [.ref a, .int (nI (List.length xs))])), (a, .inl (cA, n, .inl f))] := hD
            subst hy
            refine lv_aload_n hx hb dX1_readRun_133 rfl (lv_at hl 7 rfl) ?_
            refine va_get (D := (dC, dI)) (ci := 1) (v := .int (nI a1)) (C := RX1) (T := TX1) (N := 3) hx hb hts iX1 hown hK hP 0 rfl rfl 1 (by decide) (hts _ m_58) (fun _ h9 => h9) rfl dX1_readRun_134 ?_
            refine lv_isub hx hb dX1_readRun_137 ?_
            refine tI_ (y := nI ((List.length xs) - a1)) (pk_sub (by omega)) ?_
            refine lv_icmp_le (tgt := 143) hx hb dX1_readRun_138 (by decide) (fun c_138 => ?_) (fun c_138 => ?_)
            · rw [nI_leI (a := ((hv / 2) * w)) (b := ((List.length xs) - a1)) (by omega) (by omega)] at c_138
              refine lv_iload hx hb dX1_readRun_143 (lv_at hl 5 rfl) ?_
              refine lv_if_eq (tgt := 159) hx hb dX1_readRun_145 (by decide) (fun _ => ?_) (fun c_9 => absurd (by decide) c_9)
              refine lv_aload_n hx hb dX1_readRun_159 rfl (lv_at hl 7 rfl) ?_
              refine lv_aload_n hx hb dX1_readRun_160 rfl (lv_at hl 8 rfl) ?_
              refine lv_iload_n hx hb dX1_readRun_161 rfl (lv_at hl 9 rfl) ?_
              refine lv_iload hx hb dX1_readRun_162 (lv_at hl 1 rfl) ?_
              refine lv_iload_n hx hb dX1_readRun_164 rfl (lv_at hl 10 rfl) ?_
              refine kret_i (wc := [(ow, .inr (1, [.ref h, .int (nI a1), .long (lN hv)])), (h, .inr (0, [.ref a, .int (nI (List.length xs))])), (a, .inl (cA, n, .inl f)), (ro, .inr (2, [.ref ra, .int (nI (List.length r))])), (ra, .inl (cR, 4096, .inl fr))]) (wr := []) (va_runV (As := [.ref ro, .int (nI w), .int (nI (hv / 2)), .int (nI m_)]) (rest := []) ⟨hx, hb, hml, hown, hts⟩ (c_readGroups l dC dI _ ow h a cA n f xs a1 (lN hv) ro ra cR fr r w (hv / 2) m_ hf hn hN hfr hrn hw32 (by omega) hm hrm (by omega)) (cwV 4 hts (gdV m_251 m_253 mp_9 m_5 m_254) rfl rfl rfl (by decide +kernel) ⟨Nat.le_of_ble_eq_true rfl, Nat.le_of_ble_eq_true rfl⟩) (kpV hNs hK hP hD [0, 3, 4, 1, 2] [0, 1] rfl rfl (by decide) (ci := 1) rfl rfl) rfl rfl hl.1 rfl (lv_room (Nat.le_of_ble_eq_true rfl)) dX1_readRun_165 ⟨Nat.le_of_ble_eq_true rfl, Nat.le_of_ble_eq_true rfl⟩) hP hD hS hA [0, 3, 4, 1, 2] [] rfl rfl (by decide) (by decide) (fun y u H locs hpo hK1 hP hD hS => ?_)
              obtain ⟨hu1, hu4, hu5, hu3⟩ := hpo
              have hP : va_P (dC, dI) vwCl [(ow, .inr (1, [.ref h, .int (nI u.1), .long (lN hv)])), (h, .inr (0, [.ref a, .int (nI (List.length xs))])), (a, .inl (cA, n, .inl f)), (ro, .inr (2, [.ref ra, .int (nI (List.length u.2.2))])), (ra, .inl (cR, 4096, .inl u.2.1))] H := hP
              have hD : va_D A [(ow, .inr (1, [.ref h, .int (nI u.1), .long (lN hv)])), (h, .inr (0, [.ref a, .int (nI (List.length xs))])), (a, .inl (cA, n, .inl f)), (ro, .inr (2, [.ref ra, .int (nI (List.length u.2.2))])), (ra, .inl (cR, 4096, .inl u.2.1))] := hD
              obtain ⟨a2, f2, r2⟩ := u
              dsimp only at hu1 hu3 hu4 hu5
              have hP : va_P (dC, dI) vwCl [(ow, .inr (1, [.ref h, .int (nI a2), .long (lN hv)])), (h, .inr (0, [.ref a, .int (nI (List.length xs))])), (a, .inl (cA, n, .inl f)), (ro, .inr (2, [.ref ra, .int (nI (List.length r2))])), (ra, .inl (cR, 4096, .inl f2))] H := hP
              have hD : va_D A [(ow, .inr (1, [.ref h, .int (nI a2), .long (lN hv)])), (h, .inr (0, [.ref a, .int (nI (List.length xs))])), (a, .inl (cA, n, .inl f)), (ro, .inr (2, [.ref ra, .int (nI (List.length r2))])), (ra, .inl (cR, 4096, .inl f2))] := hD
              rcases hu3 with ⟨hge, hy⟩ | ⟨hlt, hy, ha2, hr2⟩
              · subst hy
                exact kend_i hx hb hr hlocks dX1_readRun_168 (rfl) hK hP hD hS ((a2, hv, f2, r2)) (⟨hu1, hu4, hu5, by rw [run_grp_bits hh (by omega) c_42 (by omega) (by omega) hge], by rw [run_grp_bits hh (by omega) c_42 (by omega) (by omega) hge]; show 5 ≤ 5; decide, by rw [run_grp_bits hh (by omega) c_42 (by omega) (by omega) hge]; exact fun q9 => absurd q9 (by show ¬ 5 = 0; decide)⟩) [0, 1, 2, 3, 4] [0, 1] rfl (by decide) rfl
              · subst hy
                exact kend_i hx hb hr hlocks dX1_readRun_168 (rfl) hK hP hD hS ((a2, hv, f2, r2)) (⟨hu1, hu4, hu5, by rw [run_grp_ok hh (by omega) c_42 (by omega) (by omega) hlt], by rw [run_grp_ok hh (by omega) c_42 (by omega) (by omega) hlt]; show 0 ≤ 5; decide, by rw [run_grp_ok hh (by omega) c_42 (by omega) (by omega) hlt]; exact fun _ => ⟨ha2, hr2, by show r2.length ≤ m_; rw [hr2, List.length_append, List.length_take]; omega⟩⟩) [0, 1, 2, 3, 4] [0, 1] rfl (by decide) rfl
            · rw [nI_leI (a := ((hv / 2) * w)) (b := ((List.length xs) - a1)) (by omega) (by omega)] at c_138
              refine lv_iconst (v := nI 1) hx hb dX1_readRun_141 (by decide) ?_
              exact kend_i hx hb hr hlocks dX1_readRun_142 (rfl) hK hP hD hS ((a1, hv, fr, r)) (⟨hfr, hrn, ha1, by rw [run_grp_cut hh (by omega) c_42 (by omega) (by omega)], by rw [run_grp_cut hh (by omega) c_42 (by omega) (by omega)]; show 1 ≤ 5; decide, by rw [run_grp_cut hh (by omega) c_42 (by omega) (by omega)]; exact fun q9 => absurd q9 (by show ¬ 1 = 0; decide)⟩) [0, 3, 4, 1, 2] [0, 1] rfl (by decide) rfl
          · rw [lg_cmp_le, pk_lLE (by omega) (by omega)] at c_96
            refine lv_iconst (v := nI 4) hx hb dX1_readRun_99 (by decide) ?_
            exact kend_i hx hb hr hlocks dX1_readRun_100 (rfl) hK hP hD hS ((a1, hv, fr, r)) (⟨hfr, hrn, ha1, by rw [run_grp_many hh (by omega) c_42 (by omega)], by rw [run_grp_many hh (by omega) c_42 (by omega)]; show 4 ≤ 5; decide, by rw [run_grp_many hh (by omega) c_42 (by omega)]; exact fun q9 => absurd q9 (by show ¬ 4 = 0; decide)⟩) [0, 1, 2, 3, 4] [0, 1] rfl (by decide) rfl
        · rw [cmpE (by omega) (by decide)] at c_42
          refine lv_iconst (v := nI 1) hx hb dX1_readRun_45 (by decide) ?_
          refine lv_goto (tgt := 50) hx hb dX1_readRun_46 (by decide) ?_
          refine lv_istore (lv' := [(5, .int (nI 1)), (4, .int (nI 0)), (0, .ref ow), (1, .ref ro), (2, .int (nI w)), (3, .int (nI m_))]) hx hb dX1_readRun_50 hl (by decide) rfl (fun ls hl => ?_)
          refine lv_aload_n hx hb dX1_readRun_52 rfl (lv_at hl 2 rfl) ?_
          refine va_get (D := (dC, dI)) (ci := 1) (v := .long (lN hv)) (C := RX1) (T := TX1) (N := 3) hx hb hts iX1 hown hK hP 2 rfl rfl 2 (by decide) (hts _ m_59) (fun _ h9 => h9) rfl dX1_readRun_53 ?_
          refine lv_iconst (v := nI 1) hx hb dX1_readRun_56 (by decide) ?_
          refine lv_lushr (v := lN (hv / 2)) hx hb dX1_readRun_57 (wb_shr (k := 1) hhv (by decide)) ?_
          refine lv_lstore (lv' := [(6, .long (lN (hv / 2))), (5, .int (nI 1)), (4, .int (nI 0)), (0, .ref ow), (1, .ref ro), (2, .int (nI w)), (3, .int (nI m_))]) hx hb dX1_readRun_58 hl (by decide) rfl (fun ls hl => ?_)
          refine lv_iload_n hx hb dX1_readRun_60 rfl (lv_at hl 6 rfl) ?_
          refine lv_aload_n hx hb dX1_readRun_61 rfl (lv_at hl 4 rfl) ?_
          refine kret_i (wc := [(ro, .inr (2, [.ref ra, .int (nI (List.length r))])), (ra, .inl (cR, 4096, .inl fr))]) (wr := [(ow, .inr (1, [.ref h, .int (nI a1), .long (lN hv)])), (h, .inr (0, [.ref a, .int (nI (List.length xs))])), (a, .inl (cA, n, .inl f))]) (va_runV (As := []) (rest := [.int (nI m_)]) ⟨hx, hb, hml, hown, hts⟩ (c_Row_count l dC dI _ ro ra cR fr r) (cwV 0 hts (gdV m_227 m_181 m_182 m_6 m_183) rfl rfl rfl (by decide +kernel) ⟨Nat.le_of_ble_eq_true rfl, Nat.le_of_ble_eq_true rfl⟩) (kpV hNs hK hP hD [0, 1] [1] rfl rfl (by decide) (ci := 2) rfl rfl) rfl rfl hl.1 rfl (lv_room (Nat.le_of_ble_eq_true rfl)) dX1_readRun_62 ⟨Nat.le_of_ble_eq_true rfl, Nat.le_of_ble_eq_true rfl⟩) hP hD hS hA [0, 1] [2, 3, 4] rfl rfl (by decide) (by decide) (fun y _ H locs hpo hK1 hP hD hS => ?_)
          have hy := hpo
          have hP : va_P (dC, dI) vwCl [(ow, .inr (1, [.ref h, .int (nI a1), .long (lN hv)])), (h, .inr (0, [.ref a, .int (nI (List.length xs))])), (a, .inl (cA, n, .inl f)), (ro, .inr (2, [.ref ra, .int (nI (List.length r))])), (ra, .inl (cR, 4096, .inl fr))] H := hP
          have hD : va_D A [(ow, .inr (1, [.ref h, .int (nI a1), .long (lN hv)])), (h, .inr (0, [.ref a, .int (nI (List.length xs))])), (a, .inl (cA, n, .inl f)), (ro, .inr (2, [.ref ra, .int (nI (List.length r))])), (ra, .inl (cR, 4096, .inl fr))] := hD
          subst hy
          refine lv_isub hx hb dX1_readRun_65 ?_
          refine tI_ (y := nI (m_ - (List.length r))) (pk_sub (by omega)) ?_
          refine lv_istore (lv' := [(8, .int (nI (m_ - (List.length r)))), (6, .long (lN (hv / 2))), (5, .int (nI 1)), (4, .int (nI 0)), (0, .ref ow), (1, .ref ro), (2, .int (nI w)), (3, .int (nI m_))]) hx hb dX1_readRun_66 hl (by decide) rfl (fun ls hl => ?_)
          refine lv_iload hx hb dX1_readRun_68 (lv_at hl 2 rfl) ?_
          refine lv_if_eq (tgt := 78) hx hb dX1_readRun_70 (by decide) (fun c_9 => absurd c_9 (by decide)) (fun _ => ?_)
          refine lv_iload hx hb dX1_readRun_73 (lv_at hl 0 rfl) ?_
          refine lv_goto (tgt := 88) hx hb dX1_readRun_75 (by decide) ?_
          refine lv_istore (lv' := [(9, .int (nI (m_ - (List.length r)))), (8, .int (nI (m_ - (List.length r)))), (6, .long (lN (hv / 2))), (5, .int (nI 1)), (4, .int (nI 0)), (0, .ref ow), (1, .ref ro), (2, .int (nI w)), (3, .int (nI m_))]) hx hb dX1_readRun_88 hl (by decide) rfl (fun ls hl => ?_)
          refine lv_lload hx hb dX1_readRun_90 (lv_at hl 2 rfl) ?_
          refine lv_iload hx hb dX1_readRun_92 (lv_at hl 0 rfl) ?_
          refine lv_i2l (v := lN (m_ - List.length r)) hx hb dX1_readRun_94 (nI_l (by omega)) ?_
          refine W.lcmp hx hb dX1_readRun_95 ?_
          refine lv_if_le (tgt := 101) hx hb dX1_readRun_96 (by decide) (fun c_96 => ?_) (fun c_96 => ?_)
          · rw [lg_cmp_le, pk_lLE (by omega) (by omega)] at c_96
            refine lv_lload hx hb dX1_readRun_101 (lv_at hl 2 rfl) ?_
            refine lv_l2i (v := nI (hv / 2)) hx hb dX1_readRun_103 (lN_i _) ?_
            refine lv_istore (lv' := [(10, .int (nI (hv / 2))), (9, .int (nI (m_ - (List.length r)))), (8, .int (nI (m_ - (List.length r)))), (6, .long (lN (hv / 2))), (5, .int (nI 1)), (4, .int (nI 0)), (0, .ref ow), (1, .ref ro), (2, .int (nI w)), (3, .int (nI m_))]) hx hb dX1_readRun_104 hl (by decide) rfl (fun ls hl => ?_)
            refine lv_iload hx hb dX1_readRun_106 (lv_at hl 4 rfl) ?_
            refine lv_if_eq (tgt := 118) hx hb dX1_readRun_108 (by decide) (fun c_9 => absurd c_9 (by decide)) (fun _ => ?_)
            refine lv_iload_n hx hb dX1_readRun_111 rfl (lv_at hl 8 rfl) ?_
            refine kret_i (wc := []) (wr := [(ow, .inr (1, [.ref h, .int (nI a1), .long (lN hv)])), (h, .inr (0, [.ref a, .int (nI (List.length xs))])), (a, .inl (cA, n, .inl f)), (ro, .inr (2, [.ref ra, .int (nI (List.length r))])), (ra, .inl (cR, 4096, .inl fr))]) (va_runSN (As := [.int (nI w)]) (rest := []) ⟨hx, hb, hml, hown, hts⟩ (c_numberBytes l dC dI _ w hw32) (⟨va_cnB 1 hts (gdC m_200) rfl rfl rfl hNs.2.2.2.2.2.2 (hts _ m_1) (by decide +kernel) ⟨Nat.le_of_ble_eq_true rfl, Nat.le_of_ble_eq_true rfl⟩, hts _ m_199, trivial⟩) (kpS hNs hK hP hD [] [] rfl rfl (by decide)) rfl rfl hl.1 rfl (lv_room (Nat.le_of_ble_eq_true rfl)) dX1_readRun_112 ⟨Nat.le_of_ble_eq_true rfl, Nat.le_of_ble_eq_true rfl⟩) hP hD hS hA [] [0, 1, 2, 3, 4] rfl rfl (by decide) (by decide) (fun y _ H locs hpo hK1 hP hD hS => ?_)
            have hy := hpo
            have hP : va_P (dC, dI) vwCl [(ow, .inr (1, [.ref h, .int (nI a1), .long (lN hv)])), (h, .inr (0, [.ref a, .int (nI (List.length xs))])), (a, .inl (cA, n, .inl f)), (ro, .inr (2, [.ref ra, .int (nI (List.length r))])), (ra, .inl (cR, 4096, .inl fr))] H := hP
            have hD : va_D A [(ow, .inr (1, [.ref h, .int (nI a1), .long (lN hv)])), (h, .inr (0, [.ref a, .int (nI (List.length xs))])), (a, .inl (cA, n, .inl f)), (ro, .inr (2, [.ref ra, .int (nI (List.length r))])), (ra, .inl (cR, 4096, .inl fr))] := hD
            subst hy
            refine lv_goto (tgt := 122) hx hb dX1_readRun_115 (by decide) ?_
            refine lv_istore (lv' := [(11, .int (nI ((w + 7) / 8))), (10, .int (nI (hv / 2))), (9, .int (nI (m_ - (List.length r)))), (8, .int (nI (m_ - (List.length r)))), (6, .long (lN (hv / 2))), (5, .int (nI 1)), (4, .int (nI 0)), (0, .ref ow), (1, .ref ro), (2, .int (nI w)), (3, .int (nI m_))]) hx hb dX1_readRun_122 hl (by decide) rfl (fun ls hl => ?_)
            refine lv_iload hx hb dX1_readRun_124 (lv_at hl 0 rfl) ?_
            refine lv_aload_n hx hb dX1_readRun_126 rfl (lv_at hl 7 rfl) ?_
            refine va_get (D := (dC, dI)) (ci := 1) (v := .ref h) (C := RX1) (T := TX1) (N := 3) hx hb hts iX1 hown hK hP 0 rfl rfl 0 (by decide) (hts _ m_56) (fun _ h9 => h9) rfl dX1_readRun_127 ?_
            refine kret_i (wc := [(h, .inr (0, [.ref a, .int (nI (List.length xs))])), (a, .inl (cA, n, .inl f))]) (wr := [(ow, .inr (1, [.ref h, .int (nI a1), .long (lN hv)])), (ro, .inr (2, [.ref ra, .int (nI (List.length r))])), (ra, .inl (cR, 4096, .inl fr))]) (va_runV (As := []) (rest := [.int (nI ((w + 7) / 8))]) ⟨hx, hb, hml, hown, hts⟩ (c_Bytes_count l dC dI _ h a cA n f xs) (cwV 0 hts (gdV m_241 m_215 m_216 m_2 m_217) rfl rfl rfl (by decide +kernel) ⟨Nat.le_of_ble_eq_true rfl, Nat.le_of_ble_eq_true rfl⟩) (kpV hNs hK hP hD [1, 2] [0] rfl rfl (by decide) (ci := 0) rfl rfl) rfl rfl hl.1 rfl (lv_room (Nat.le_of_ble_eq_true rfl)) dX1_readRun_130 ⟨Nat.le_of_ble_eq_true rfl, Nat.le_of_ble_eq_true rfl⟩) hP hD hS hA [1, 2] [0, 3, 4] rfl rfl (by decide) (by decide) (fun y _ H locs hpo hK1 hP hD hS => ?_)
            have hy := hpo
            have hP : va_P (dC, dI) vwCl [(ow, .inr (1, [.ref h, .int (nI a1), .long (lN hv)])), (ro, .inr (2, [.ref ra, .int (nI (List.length r))])), (ra, .inl (cR, 4096, .inl fr)), (h, .inr (0, [.ref a, .int (nI (List.length xs))])), (a, .inl (cA, n, .inl f))] H := hP
            have hD : va_D A [(ow, .inr (1, [.ref h, .int (nI a1), .long (lN hv)])), (ro, .inr (2, [.ref ra, .int (nI (List.length r))])), (ra, .inl (cR, 4096, .inl fr)), (h, .inr (0, [.ref a, .int (nI (List.length xs))])), (a, .inl (cA, n, .inl f))] := hD
            subst hy
            refine lv_aload_n hx hb dX1_readRun_133 rfl (lv_at hl 7 rfl) ?_
            refine va_get (D := (dC, dI)) (ci := 1) (v := .int (nI a1)) (C := RX1) (T := TX1) (N := 3) hx hb hts iX1 hown hK hP 0 rfl rfl 1 (by decide) (hts _ m_58) (fun _ h9 => h9) rfl dX1_readRun_134 ?_
            refine lv_isub hx hb dX1_readRun_137 ?_
            refine tI_ (y := nI ((List.length xs) - a1)) (pk_sub (by omega)) ?_
            refine lv_icmp_le (tgt := 143) hx hb dX1_readRun_138 (by decide) (fun c_138 => ?_) (fun c_138 => ?_)
            · rw [nI_leI (a := ((w + 7) / 8)) (b := ((List.length xs) - a1)) (by omega) (by omega)] at c_138
              refine lv_iload hx hb dX1_readRun_143 (lv_at hl 5 rfl) ?_
              refine lv_if_eq (tgt := 159) hx hb dX1_readRun_145 (by decide) (fun c_9 => absurd c_9 (by decide)) (fun _ => ?_)
              refine lv_aload_n hx hb dX1_readRun_148 rfl (lv_at hl 7 rfl) ?_
              refine lv_aload_n hx hb dX1_readRun_149 rfl (lv_at hl 8 rfl) ?_
              refine lv_iload_n hx hb dX1_readRun_150 rfl (lv_at hl 9 rfl) ?_
              refine lv_iload hx hb dX1_readRun_151 (lv_at hl 1 rfl) ?_
              refine kret_i (wc := [(ow, .inr (1, [.ref h, .int (nI a1), .long (lN hv)])), (h, .inr (0, [.ref a, .int (nI (List.length xs))])), (a, .inl (cA, n, .inl f)), (ro, .inr (2, [.ref ra, .int (nI (List.length r))])), (ra, .inl (cR, 4096, .inl fr))]) (wr := []) (va_runV (As := [.ref ro, .int (nI w), .int (nI (hv / 2))]) (rest := []) ⟨hx, hb, hml, hown, hts⟩ (c_readOne l dC dI _ ow h a cA n f xs a1 (lN hv) ro ra cR fr r w (hv / 2) hf hn hN hfr hrn hw32 (by omega) (by omega) (by omega)) (cwV 3 hts (gdV m_242 m_244 mp_7 m_5 m_245) rfl rfl rfl (by decide +kernel) ⟨Nat.le_of_ble_eq_true rfl, Nat.le_of_ble_eq_true rfl⟩) (kpV hNs hK hP hD [0, 3, 4, 1, 2] [0, 1] rfl rfl (by decide) (ci := 1) rfl rfl) rfl rfl hl.1 rfl (lv_room (Nat.le_of_ble_eq_true rfl)) dX1_readRun_153 ⟨Nat.le_of_ble_eq_true rfl, Nat.le_of_ble_eq_true rfl⟩) hP hD hS hA [0, 3, 4, 1, 2] [] rfl rfl (by decide) (by decide) (fun y u H locs hpo hK1 hP hD hS => ?_)
              obtain ⟨hu1, hu2, hu3⟩ := hpo
              have hP : va_P (dC, dI) vwCl [(ow, .inr (1, [.ref h, .int (nI u.1), .long (lN hv)])), (h, .inr (0, [.ref a, .int (nI (List.length xs))])), (a, .inl (cA, n, .inl f)), (ro, .inr (2, [.ref ra, .int (nI (List.length u.2.2))])), (ra, .inl (cR, 4096, .inl u.2.1))] H := hP
              have hD : va_D A [(ow, .inr (1, [.ref h, .int (nI u.1), .long (lN hv)])), (h, .inr (0, [.ref a, .int (nI (List.length xs))])), (a, .inl (cA, n, .inl f)), (ro, .inr (2, [.ref ra, .int (nI (List.length u.2.2))])), (ra, .inl (cR, 4096, .inl u.2.1))] := hD
              obtain ⟨a2, f2, r2⟩ := u
              dsimp only at hu1 hu2 hu3
              have hP : va_P (dC, dI) vwCl [(ow, .inr (1, [.ref h, .int (nI a2), .long (lN hv)])), (h, .inr (0, [.ref a, .int (nI (List.length xs))])), (a, .inl (cA, n, .inl f)), (ro, .inr (2, [.ref ra, .int (nI (List.length r2))])), (ra, .inl (cR, 4096, .inl f2))] H := hP
              have hD : va_D A [(ow, .inr (1, [.ref h, .int (nI a2), .long (lN hv)])), (h, .inr (0, [.ref a, .int (nI (List.length xs))])), (a, .inl (cA, n, .inl f)), (ro, .inr (2, [.ref ra, .int (nI (List.length r2))])), (ra, .inl (cR, 4096, .inl f2))] := hD
              rcases hu3 with ⟨hge, hy, hr2⟩ | ⟨hlt, hy, hr2⟩
              · subst hy
                have hr3 := hr2.symm
                subst hr3
                refine lv_goto (tgt := 168) hx hb dX1_readRun_156 (by decide) ?_
                exact kend_i hx hb hr hlocks dX1_readRun_168 (rfl) hK hP hD hS ((a2, hv, f2, r)) (⟨hu1, hrn, by show a2 ≤ xs.length; omega, by rw [run_one_bits hh (by omega) c_42 (by omega) (by omega) hge], by rw [run_one_bits hh (by omega) c_42 (by omega) (by omega) hge]; show 5 ≤ 5; decide, by rw [run_one_bits hh (by omega) c_42 (by omega) (by omega) hge]; exact fun q9 => absurd q9 (by show ¬ 5 = 0; decide)⟩) [0, 1, 2, 3, 4] [0, 1] rfl (by decide) rfl
              · subst hy
                subst hr2
                subst hu2
                have hl2 : List.length (r ++ List.replicate (hv / 2) (nI (lev xs a1 ((w + 7) / 8)))) = r.length + hv / 2 := by simp
                refine lv_goto (tgt := 168) hx hb dX1_readRun_156 (by decide) ?_
                exact kend_i hx hb hr hlocks dX1_readRun_168 (rfl) hK hP hD hS ((a1 + (w + 7) / 8, hv, f2, r ++ List.replicate (hv / 2) (nI (lev xs a1 ((w + 7) / 8))))) (⟨hu1, by show List.length (r ++ List.replicate (hv / 2) (nI (lev xs a1 ((w + 7) / 8)))) ≤ 4096; omega, by show a1 + (w + 7) / 8 ≤ xs.length; omega, by rw [run_one_ok hh (by omega) c_42 (by omega) (by omega) hlt], by rw [run_one_ok hh (by omega) c_42 (by omega) (by omega) hlt]; show 0 ≤ 5; decide, by rw [run_one_ok hh (by omega) c_42 (by omega) (by omega) hlt]; exact fun _ => ⟨rfl, rfl, by show List.length (r ++ List.replicate (hv / 2) (nI (lev xs a1 ((w + 7) / 8)))) ≤ m_; omega⟩⟩) [0, 1, 2, 3, 4] [0, 1] rfl (by decide) rfl
            · rw [nI_leI (a := ((w + 7) / 8)) (b := ((List.length xs) - a1)) (by omega) (by omega)] at c_138
              refine lv_iconst (v := nI 1) hx hb dX1_readRun_141 (by decide) ?_
              exact kend_i hx hb hr hlocks dX1_readRun_142 (rfl) hK hP hD hS ((a1, hv, fr, r)) (⟨hfr, hrn, ha1, by rw [run_one_cut hh (by omega) c_42 (by omega) (by omega)], by rw [run_one_cut hh (by omega) c_42 (by omega) (by omega)]; show 1 ≤ 5; decide, by rw [run_one_cut hh (by omega) c_42 (by omega) (by omega)]; exact fun q9 => absurd q9 (by show ¬ 1 = 0; decide)⟩) [0, 3, 4, 1, 2] [0, 1] rfl (by decide) rfl
          · rw [lg_cmp_le, pk_lLE (by omega) (by omega)] at c_96
            refine lv_iconst (v := nI 4) hx hb dX1_readRun_99 (by decide) ?_
            exact kend_i hx hb hr hlocks dX1_readRun_100 (rfl) hK hP hD hS ((a1, hv, fr, r)) (⟨hfr, hrn, ha1, by rw [run_one_many hh (by omega) c_42 (by omega)], by rw [run_one_many hh (by omega) c_42 (by omega)]; show 4 ≤ 5; decide, by rw [run_one_many hh (by omega) c_42 (by omega)]; exact fun q9 => absurd q9 (by show ¬ 4 = 0; decide)⟩) [0, 1, 2, 3, 4] [0, 1] rfl (by decide) rfl
      · rw [cmpE hhv (by decide)] at c_29
        refine lv_iconst (v := nI 3) hx hb dX1_readRun_32 (by decide) ?_
        exact kend_i hx hb hr hlocks dX1_readRun_33 (rfl) hK hP hD hS ((a1, hv, fr, r)) (⟨hfr, hrn, ha1, by rw [run_empty hh (by omega)], by rw [run_empty hh (by omega)]; show 3 ≤ 5; decide, by rw [run_empty hh (by omega)]; exact fun q9 => absurd q9 (by show ¬ 3 = 0; decide)⟩) [2, 3, 4, 0, 1] [0, 1] rfl (by decide) rfl
  · rw [z_eq (by omega)] at c_8
    refine lv_iload hx hb dX1_readRun_11 (lv_at hl 0 rfl) ?_
    exact kend_i hx hb hr hlocks dX1_readRun_13 (rfl) hK hP hD hS ((a1, hv, fr, r)) (⟨hfr, hrn, ha1, by rw [run_hd hh c_8], by rw [run_hd hh c_8]; exact Nat.le_trans hq2 (by decide), by rw [run_hd hh c_8]; exact fun q9 => absurd q9 (c_8)⟩) [2, 3, 4, 0, 1] [0, 1] rfl (by decide) rfl

set_option maxHeartbeats 4000000 in
set_option maxRecDepth 100000 in
/-- Reader.read(into, width, n) -/
theorem c_read (l : Launch) (dC : Nat → ClassId) (dI : Nat → Nat → Nat) (sz : Nat) (ow : Nat) (h a : Nat) (cA : ClassId) (n : Nat) (f : Nat → Int32) (xs : List Nat) (at_ : Nat) (hd : Int64) (ro ra : Nat) (cR : ClassId) (fr : Nat → Int32) (r : List Int32) (w m_ : Nat) (hf : bHas f xs) (hn : xs.length ≤ n) (hN : n < 2 ^ 31) (hfr : rHas fr r) (hrn : r.length ≤ 4096) (hw32 : w ≤ 32) (hm : m_ ≤ 4096) : Met l yX1_read wsX1_read ({ frames := 5, cells := 0, slots := 0, locals := 130 }) (va_Pc [.ref ow, .ref ro, .int (nI w), .int (nI m_)] (kB (dC, dI) vwCl [(cA, .byte), (cR, .int)] [(ow, .inr (1, [.ref h, .int (nI at_), .long hd])), (h, .inr (0, [.ref a, .int (nI (List.length xs))])), (a, .inl (cA, n, .inl f)), (ro, .inr (2, [.ref ra, .int (nI (List.length r))])), (ra, .inl (cR, 4096, .inl fr))] sz)) (va_Qi (fun r0 (u : (Nat × Int64) × (Nat → Int32) × List Int32) => rHas u.2.1 u.2.2 ∧ u.2.2.length ≤ 4096 ∧ r0 = nI (rdF xs w m_ m_ 0 []).1 ∧ (rdF xs w m_ m_ 0 []).1 ≤ 6 ∧ ((rdF xs w m_ m_ 0 []).1 = 0 → u.2.2 = (rdF xs w m_ m_ 0 []).2)) (kE (dC, dI) vwCl (va_A [(ow, .inr (1, [.ref h, .int (nI at_), .long hd])), (h, .inr (0, [.ref a, .int (nI (List.length xs))])), (a, .inl (cA, n, .inl f)), (ro, .inr (2, [.ref ra, .int (nI (List.length r))])), (ra, .inl (cR, 4096, .inl fr))] sz) (fun _ => [(cA, .byte), (cR, .int)]) (fun u => [(ow, .inr (1, [.ref h, .int (nI u.1.1), .long u.1.2])), (h, .inr (0, [.ref a, .int (nI (List.length xs))])), (a, .inl (cA, n, .inl f)), (ro, .inr (2, [.ref ra, .int (nI (List.length u.2.2))])), (ra, .inl (cR, 4096, .inl u.2.1))])) (va_A [(ow, .inr (1, [.ref h, .int (nI at_), .long hd])), (h, .inr (0, [.ref a, .int (nI (List.length xs))])), (a, .inl (cA, n, .inl f)), (ro, .inr (2, [.ref ra, .int (nI (List.length r))])), (ra, .inl (cR, 4096, .inl fr))] sz)) 0 0 (va_A [(ow, .inr (1, [.ref h, .int (nI at_), .long hd])), (h, .inr (0, [.ref a, .int (nI (List.length xs))])), (a, .inl (cA, n, .inl f)), (ro, .inr (2, [.ref ra, .int (nI (List.length r))])), (ra, .inl (cR, 4096, .inl fr))] sz) := by
  refine Met.ofW (cc := cX1_read) (maxL := 6) (ret := (some .int)) (by decide) rfl ?_
  intro p e s m args below meth c s₁ B hml hv
  obtain ⟨rfl, hsz, hP, hK, hD0, hNs⟩ := hv
  have hx := B.exec
  have hb := B.bytes
  have hr := B.returns
  have hts := fun w (h : w ∈ lw_g) => atoms_spec (ws := wsX1_read) B.pre w (List.mem_cons_of_mem _ h)
  have hown : s.vm.findClass RX1 = some m.cls := findClass_of_methodNamed B.named
  have hlocks := B.notSynchronized
  subst hsz
  have hD := hD0.self (sz := s.heap.size)
  generalize hAe : va_A [(ow, .inr (1, [.ref h, .int (nI at_), .long hd])), (h, .inr (0, [.ref a, .int (nI (List.length xs))])), (a, .inl (cA, n, .inl f)), (ro, .inr (2, [.ref ra, .int (nI (List.length r))])), (ra, .inl (cR, 4096, .inl fr))] s.heap.size = A at hD ⊢
  have hA : ∀ q : Nat, s.heap.size ≤ q → A q := fun q h => by rw [← hAe]; exact Or.inr h
  have hS : va_S A s.heap s.heap [] := va_S.rf
  have hP : va_P (dC, dI) vwCl [(ow, .inr (1, [.ref h, .int (nI at_), .long hd])), (h, .inr (0, [.ref a, .int (nI (List.length xs))])), (a, .inl (cA, n, .inl f)), (ro, .inr (2, [.ref ra, .int (nI (List.length r))])), (ra, .inl (cR, 4096, .inl fr))] s.heap := hP
  have hl := lv_entry ([.ref ow, .ref ro, .int (nI w), .int (nI m_)]) (n := 6) (Nat.le_of_ble_eq_true rfl)
  rw [lg_entry_eq]
  generalize (lg_sl ([.ref ow, .ref ro, .int (nI w), .int (nI m_)]) ++ List.replicate (6 - (lg_sl ([.ref ow, .ref ro, .int (nI w), .int (nI m_)])).length) Slot.unset).toArray = ls at hl ⊢
  have hl : lv_has ls 6 [(0, .ref ow), (1, .ref ro), (2, .int (nI w)), (3, .int (nI m_))] := hl
  refine lv_aload_n hx hb dX1_read_0 rfl (lv_at hl 0 rfl) ?_
  refine lv_iconst (v := nI 0) hx hb dX1_read_1 (by decide) ?_
  refine va_put (D := (dC, dI)) (ci := 1) (v := .int (nI 0)) (ty := .int) (C := RX1) (T := TX1) (N := 3) hx hb hts iX1 tyX1 tyX1_ok nmX1 hown hK hP hD hS 0 rfl rfl 1 (by decide) (hts _ m_58) (fun _ h9 => h9) rfl (by decide +kernel) rfl rfl (Nat.le_of_ble_eq_true rfl) dX1_read_2 (fun H locs hP hD hS => ?_)
  have hP : va_P (dC, dI) vwCl [(ow, .inr (1, [.ref h, .int (nI 0), .long hd])), (h, .inr (0, [.ref a, .int (nI (List.length xs))])), (a, .inl (cA, n, .inl f)), (ro, .inr (2, [.ref ra, .int (nI (List.length r))])), (ra, .inl (cR, 4096, .inl fr))] H := hP
  have hD : va_D A [(ow, .inr (1, [.ref h, .int (nI 0), .long hd])), (h, .inr (0, [.ref a, .int (nI (List.length xs))])), (a, .inl (cA, n, .inl f)), (ro, .inr (2, [.ref ra, .int (nI (List.length r))])), (ra, .inl (cR, 4096, .inl fr))] := hD
  refine lv_aload_n hx hb dX1_read_5 rfl (lv_at hl 1 rfl) ?_
  refine kret_v (wc := [(ro, .inr (2, [.ref ra, .int (nI (List.length r))])), (ra, .inl (cR, 4096, .inl fr))]) (wr := [(ow, .inr (1, [.ref h, .int (nI 0), .long hd])), (h, .inr (0, [.ref a, .int (nI (List.length xs))])), (a, .inl (cA, n, .inl f))]) (va_runV (As := []) (rest := []) ⟨hx, hb, hml, hown, hts⟩ (c_Row_empty l dC dI _ ro ra cR fr r) (cwV 0 hts (gdV m_226 m_160 m_161 m_6 m_162) rfl rfl rfl (by decide +kernel) ⟨Nat.le_of_ble_eq_true rfl, Nat.le_of_ble_eq_true rfl⟩) (kpV hNs hK hP hD [3, 4] [1] rfl rfl (by decide) (ci := 2) rfl rfl) rfl rfl hl.1 rfl (lv_room (Nat.le_of_ble_eq_true rfl)) dX1_read_6 ⟨Nat.le_of_ble_eq_true rfl, Nat.le_of_ble_eq_true rfl⟩) hP hD hS hA [3, 4] [0, 1, 2] rfl rfl (by decide) (by decide) (fun _ H locs hpo hK1 hP hD hS => ?_)
  have hP : va_P (dC, dI) vwCl [(ow, .inr (1, [.ref h, .int (nI 0), .long hd])), (h, .inr (0, [.ref a, .int (nI (List.length xs))])), (a, .inl (cA, n, .inl f)), (ro, .inr (2, [.ref ra, .int (nI (List.length ([] : List Int32)))])), (ra, .inl (cR, 4096, .inl fr))] H := hP
  have hD : va_D A [(ow, .inr (1, [.ref h, .int (nI 0), .long hd])), (h, .inr (0, [.ref a, .int (nI (List.length xs))])), (a, .inl (cA, n, .inl f)), (ro, .inr (2, [.ref ra, .int (nI (List.length ([] : List Int32)))])), (ra, .inl (cR, 4096, .inl fr))] := hD
  refine lv_iconst (v := nI 0) hx hb dX1_read_9 (by decide) ?_
  refine lv_istore (lv' := [(4, .int (nI 0)), (0, .ref ow), (1, .ref ro), (2, .int (nI w)), (3, .int (nI m_))]) hx hb dX1_read_10 hl (by decide) rfl (fun ls hl => ?_)
  refine k_loop (σ := Nat × Nat × Int64 × (Nat → Int32) × List Int32) (fun (z : Nat × Nat × Int64 × (Nat → Int32) × List Int32) H locs ls => match z with
        | (k, a1, hd1, u, r1) => k ≤ m_ ∧ a1 ≤ xs.length ∧ rHas u r1 ∧ r1.length ≤ m_ ∧ rdF xs w m_ m_ 0 [] = rdF xs w m_ (m_ - k) a1 r1 ∧ va_P (dC, dI) vwCl [(ow, .inr (1, [.ref h, .int (nI a1), .long hd1])), (h, .inr (0, [.ref a, .int (nI (List.length xs))])), (a, .inl (cA, n, .inl f)), (ro, .inr (2, [.ref ra, .int (nI (List.length r1))])), (ra, .inl (cR, 4096, .inl u))] H ∧ va_D A [(ow, .inr (1, [.ref h, .int (nI a1), .long hd1])), (h, .inr (0, [.ref a, .int (nI (List.length xs))])), (a, .inl (cA, n, .inl f)), (ro, .inr (2, [.ref ra, .int (nI (List.length r1))])), (ra, .inl (cR, 4096, .inl u))] ∧ va_S A s.heap H locs ∧ lv_has ls 6 [(0, .ref ow), (1, .ref ro), (2, .int (nI w)), (3, .int (nI m_)), (4, .int (nI k))]) (fun z => match z with
        | (k, a1, hd1, u, r1) => m_ - k) ?_ ((0, 0, hd, fr, [])) _ _ _ ⟨Nat.zero_le _, Nat.zero_le _, rHas_nil _, Nat.zero_le _, rfl, hP.sub [0, 1, 2, 3, 4] rfl, hD.sub [0, 1, 2, 3, 4] (by decide) rfl, hS, lv_sub hl [1, 2, 3, 4, 0] rfl⟩
  intro z H locs ls hI ih
  obtain ⟨k, a1, hd1, u, r1⟩ := z
  obtain ⟨hk, ha1, hu, hr1, hinv, hP, hD, hS, hl⟩ := hI
  refine lv_iload hx hb dX1_read_12 (lv_at hl 4 rfl) ?_
  refine lv_iload_n hx hb dX1_read_14 rfl (lv_at hl 3 rfl) ?_
  refine lv_icmp_ge (tgt := 49) hx hb dX1_read_15 (by decide) (fun c_15 => ?_) (fun c_15 => ?_)
  · rw [nI_leI (a := m_) (b := k) (by omega) (by omega)] at c_15
    have hE : rdF xs w m_ m_ 0 [] = ((if a1 < xs.length then 6 else 0), r1) := by rw [hinv]; exact by rw [show m_ - k = 0 by omega, rdF]
    refine lv_aload_n hx hb dX1_read_49 rfl (lv_at hl 0 rfl) ?_
    refine va_get (D := (dC, dI)) (ci := 1) (v := .int (nI a1)) (C := RX1) (T := TX1) (N := 3) hx hb hts iX1 hown hK hP 0 rfl rfl 1 (by decide) (hts _ m_58) (fun _ h9 => h9) rfl dX1_read_50 ?_
    refine lv_aload_n hx hb dX1_read_53 rfl (lv_at hl 0 rfl) ?_
    refine va_get (D := (dC, dI)) (ci := 1) (v := .ref h) (C := RX1) (T := TX1) (N := 3) hx hb hts iX1 hown hK hP 0 rfl rfl 0 (by decide) (hts _ m_56) (fun _ h9 => h9) rfl dX1_read_54 ?_
    refine kret_i (wc := [(h, .inr (0, [.ref a, .int (nI (List.length xs))])), (a, .inl (cA, n, .inl f))]) (wr := [(ow, .inr (1, [.ref h, .int (nI a1), .long hd1])), (ro, .inr (2, [.ref ra, .int (nI (List.length r1))])), (ra, .inl (cR, 4096, .inl u))]) (va_runV (As := []) (rest := [.int (nI a1)]) ⟨hx, hb, hml, hown, hts⟩ (c_Bytes_count l dC dI _ h a cA n f xs) (cwV 0 hts (gdV m_241 m_215 m_216 m_2 m_217) rfl rfl rfl (by decide +kernel) ⟨Nat.le_of_ble_eq_true rfl, Nat.le_of_ble_eq_true rfl⟩) (kpV hNs hK hP hD [1, 2] [0] rfl rfl (by decide) (ci := 0) rfl rfl) rfl rfl hl.1 rfl (lv_room (Nat.le_of_ble_eq_true rfl)) dX1_read_57 ⟨Nat.le_of_ble_eq_true rfl, Nat.le_of_ble_eq_true rfl⟩) hP hD hS hA [1, 2] [0, 3, 4] rfl rfl (by decide) (by decide) (fun y _ H locs hpo hK1 hP hD hS => ?_)
    have hy := hpo
    have hP : va_P (dC, dI) vwCl [(ow, .inr (1, [.ref h, .int (nI a1), .long hd1])), (ro, .inr (2, [.ref ra, .int (nI (List.length r1))])), (ra, .inl (cR, 4096, .inl u)), (h, .inr (0, [.ref a, .int (nI (List.length xs))])), (a, .inl (cA, n, .inl f))] H := hP
    have hD : va_D A [(ow, .inr (1, [.ref h, .int (nI a1), .long hd1])), (ro, .inr (2, [.ref ra, .int (nI (List.length r1))])), (ra, .inl (cR, 4096, .inl u)), (h, .inr (0, [.ref a, .int (nI (List.length xs))])), (a, .inl (cA, n, .inl f))] := hD
    subst hy
    refine lv_icmp_ge (tgt := 68) hx hb dX1_read_60 (by decide) (fun c_60 => ?_) (fun c_60 => ?_)
    · rw [nI_leI (a := (List.length xs)) (b := a1) (by omega) (by omega)] at c_60
      rw [if_neg (by omega)] at hE
      refine lv_iconst (v := nI 0) hx hb dX1_read_68 (by decide) ?_
      exact kend_i hx hb hr hlocks dX1_read_69 (rfl) hK hP hD hS (((a1, hd1), u, r1)) (⟨hu, by show r1.length ≤ 4096; omega, by rw [hE], by rw [hE]; show 0 ≤ 6; decide, fun _ => by rw [hE]⟩) [0, 3, 4, 1, 2] [0, 1] rfl (by decide) rfl
    · rw [nI_leI (a := (List.length xs)) (b := a1) (by omega) (by omega)] at c_60
      rw [if_pos (by omega)] at hE
      refine lv_bipush (v := nI 6) hx hb dX1_read_63 (by decide) ?_
      refine lv_goto (tgt := 69) hx hb dX1_read_65 (by decide) ?_
      exact kend_i hx hb hr hlocks dX1_read_69 (rfl) hK hP hD hS (((a1, hd1), u, r1)) (⟨hu, by show r1.length ≤ 4096; omega, by rw [hE], by rw [hE]; show 6 ≤ 6; decide, fun _ => by rw [hE]⟩) [0, 3, 4, 1, 2] [0, 1] rfl (by decide) rfl
  · rw [nI_leI (a := m_) (b := k) (by omega) (by omega)] at c_15
    refine lv_aload_n hx hb dX1_read_18 rfl (lv_at hl 1 rfl) ?_
    refine kret_i (wc := [(ro, .inr (2, [.ref ra, .int (nI (List.length r1))])), (ra, .inl (cR, 4096, .inl u))]) (wr := [(ow, .inr (1, [.ref h, .int (nI a1), .long hd1])), (h, .inr (0, [.ref a, .int (nI (List.length xs))])), (a, .inl (cA, n, .inl f))]) (va_runV (As := []) (rest := []) ⟨hx, hb, hml, hown, hts⟩ (c_Row_count l dC dI _ ro ra cR u r1) (cwV 0 hts (gdV m_227 m_181 m_182 m_6 m_183) rfl rfl rfl (by decide +kernel) ⟨Nat.le_of_ble_eq_true rfl, Nat.le_of_ble_eq_true rfl⟩) (kpV hNs hK hP hD [3, 4] [1] rfl rfl (by decide) (ci := 2) rfl rfl) rfl rfl hl.1 rfl (lv_room (Nat.le_of_ble_eq_true rfl)) dX1_read_19 ⟨Nat.le_of_ble_eq_true rfl, Nat.le_of_ble_eq_true rfl⟩) hP hD hS hA [3, 4] [0, 1, 2] rfl rfl (by decide) (by decide) (fun y _ H locs hpo hK1 hP hD hS => ?_)
    have hy := hpo
    have hP : va_P (dC, dI) vwCl [(ow, .inr (1, [.ref h, .int (nI a1), .long hd1])), (h, .inr (0, [.ref a, .int (nI (List.length xs))])), (a, .inl (cA, n, .inl f)), (ro, .inr (2, [.ref ra, .int (nI (List.length r1))])), (ra, .inl (cR, 4096, .inl u))] H := hP
    have hD : va_D A [(ow, .inr (1, [.ref h, .int (nI a1), .long hd1])), (h, .inr (0, [.ref a, .int (nI (List.length xs))])), (a, .inl (cA, n, .inl f)), (ro, .inr (2, [.ref ra, .int (nI (List.length r1))])), (ra, .inl (cR, 4096, .inl u))] := hD
    subst hy
    refine lv_iload_n hx hb dX1_read_22 rfl (lv_at hl 3 rfl) ?_
    refine lv_icmp_ge (tgt := 49) hx hb dX1_read_23 (by decide) (fun c_23 => ?_) (fun c_23 => ?_)
    · rw [nI_leI (a := m_) (b := (List.length r1)) (by omega) (by omega)] at c_23
      have hE : rdF xs w m_ m_ 0 [] = ((if a1 < xs.length then 6 else 0), r1) := by rw [hinv]; exact rdF_full (by omega)
      refine lv_aload_n hx hb dX1_read_49 rfl (lv_at hl 0 rfl) ?_
      refine va_get (D := (dC, dI)) (ci := 1) (v := .int (nI a1)) (C := RX1) (T := TX1) (N := 3) hx hb hts iX1 hown hK hP 0 rfl rfl 1 (by decide) (hts _ m_58) (fun _ h9 => h9) rfl dX1_read_50 ?_
      refine lv_aload_n hx hb dX1_read_53 rfl (lv_at hl 0 rfl) ?_
      refine va_get (D := (dC, dI)) (ci := 1) (v := .ref h) (C := RX1) (T := TX1) (N := 3) hx hb hts iX1 hown hK hP 0 rfl rfl 0 (by decide) (hts _ m_56) (fun _ h9 => h9) rfl dX1_read_54 ?_
      refine kret_i (wc := [(h, .inr (0, [.ref a, .int (nI (List.length xs))])), (a, .inl (cA, n, .inl f))]) (wr := [(ow, .inr (1, [.ref h, .int (nI a1), .long hd1])), (ro, .inr (2, [.ref ra, .int (nI (List.length r1))])), (ra, .inl (cR, 4096, .inl u))]) (va_runV (As := []) (rest := [.int (nI a1)]) ⟨hx, hb, hml, hown, hts⟩ (c_Bytes_count l dC dI _ h a cA n f xs) (cwV 0 hts (gdV m_241 m_215 m_216 m_2 m_217) rfl rfl rfl (by decide +kernel) ⟨Nat.le_of_ble_eq_true rfl, Nat.le_of_ble_eq_true rfl⟩) (kpV hNs hK hP hD [1, 2] [0] rfl rfl (by decide) (ci := 0) rfl rfl) rfl rfl hl.1 rfl (lv_room (Nat.le_of_ble_eq_true rfl)) dX1_read_57 ⟨Nat.le_of_ble_eq_true rfl, Nat.le_of_ble_eq_true rfl⟩) hP hD hS hA [1, 2] [0, 3, 4] rfl rfl (by decide) (by decide) (fun y _ H locs hpo hK1 hP hD hS => ?_)
      have hy := hpo
      have hP : va_P (dC, dI) vwCl [(ow, .inr (1, [.ref h, .int (nI a1), .long hd1])), (ro, .inr (2, [.ref ra, .int (nI (List.length r1))])), (ra, .inl (cR, 4096, .inl u)), (h, .inr (0, [.ref a, .int (nI (List.length xs))])), (a, .inl (cA, n, .inl f))] H := hP
      have hD : va_D A [(ow, .inr (1, [.ref h, .int (nI a1), .long hd1])), (ro, .inr (2, [.ref ra, .int (nI (List.length r1))])), (ra, .inl (cR, 4096, .inl u)), (h, .inr (0, [.ref a, .int (nI (List.length xs))])), (a, .inl (cA, n, .inl f))] := hD
      subst hy
      refine lv_icmp_ge (tgt := 68) hx hb dX1_read_60 (by decide) (fun c_60 => ?_) (fun c_60 => ?_)
      · rw [nI_leI (a := (List.length xs)) (b := a1) (by omega) (by omega)] at c_60
        rw [if_neg (by omega)] at hE
        refine lv_iconst (v := nI 0) hx hb dX1_read_68 (by decide) ?_
        exact kend_i hx hb hr hlocks dX1_read_69 (rfl) hK hP hD hS (((a1, hd1), u, r1)) (⟨hu, by show r1.length ≤ 4096; omega, by rw [hE], by rw [hE]; show 0 ≤ 6; decide, fun _ => by rw [hE]⟩) [0, 3, 4, 1, 2] [0, 1] rfl (by decide) rfl
      · rw [nI_leI (a := (List.length xs)) (b := a1) (by omega) (by omega)] at c_60
        rw [if_pos (by omega)] at hE
        refine lv_bipush (v := nI 6) hx hb dX1_read_63 (by decide) ?_
        refine lv_goto (tgt := 69) hx hb dX1_read_65 (by decide) ?_
        exact kend_i hx hb hr hlocks dX1_read_69 (rfl) hK hP hD hS (((a1, hd1), u, r1)) (⟨hu, by show r1.length ≤ 4096; omega, by rw [hE], by rw [hE]; show 6 ≤ 6; decide, fun _ => by rw [hE]⟩) [0, 3, 4, 1, 2] [0, 1] rfl (by decide) rfl
    · rw [nI_leI (a := m_) (b := (List.length r1)) (by omega) (by omega)] at c_23
      refine lv_aload_n hx hb dX1_read_26 rfl (lv_at hl 0 rfl) ?_
      refine lv_aload_n hx hb dX1_read_27 rfl (lv_at hl 1 rfl) ?_
      refine lv_iload_n hx hb dX1_read_28 rfl (lv_at hl 2 rfl) ?_
      refine lv_iload_n hx hb dX1_read_29 rfl (lv_at hl 3 rfl) ?_
      refine kret_i (wc := [(ow, .inr (1, [.ref h, .int (nI a1), .long hd1])), (h, .inr (0, [.ref a, .int (nI (List.length xs))])), (a, .inl (cA, n, .inl f)), (ro, .inr (2, [.ref ra, .int (nI (List.length r1))])), (ra, .inl (cR, 4096, .inl u))]) (wr := []) (va_runV (As := [.ref ro, .int (nI w), .int (nI m_)]) (rest := []) ⟨hx, hb, hml, hown, hts⟩ (c_readRun l dC dI _ ow h a cA n f xs a1 hd1 ro ra cR u r1 w m_ hf hn hN hu (by omega) hw32 ha1 hm hr1) (cwV 3 hts (gdV m_228 m_230 mp_5 m_5 m_231) rfl rfl rfl (by decide +kernel) ⟨Nat.le_of_ble_eq_true rfl, Nat.le_of_ble_eq_true rfl⟩) (kpV hNs hK hP hD [0, 1, 2, 3, 4] [0, 1] rfl rfl (by decide) (ci := 1) rfl rfl) rfl rfl hl.1 rfl (lv_room (Nat.le_of_ble_eq_true rfl)) dX1_read_30 ⟨Nat.le_of_ble_eq_true rfl, Nat.le_of_ble_eq_true rfl⟩) hP hD hS hA [0, 1, 2, 3, 4] [] rfl rfl (by decide) (by decide) (fun y v H locs hpo hK1 hP hD hS => ?_)
      obtain ⟨hv1, hv2, hv3, hy, hy5, hv4⟩ := hpo
      have hP : va_P (dC, dI) vwCl [(ow, .inr (1, [.ref h, .int (nI v.1), .long (lN v.2.1)])), (h, .inr (0, [.ref a, .int (nI (List.length xs))])), (a, .inl (cA, n, .inl f)), (ro, .inr (2, [.ref ra, .int (nI (List.length v.2.2.2))])), (ra, .inl (cR, 4096, .inl v.2.2.1))] H := hP
      have hD : va_D A [(ow, .inr (1, [.ref h, .int (nI v.1), .long (lN v.2.1)])), (h, .inr (0, [.ref a, .int (nI (List.length xs))])), (a, .inl (cA, n, .inl f)), (ro, .inr (2, [.ref ra, .int (nI (List.length v.2.2.2))])), (ra, .inl (cR, 4096, .inl v.2.2.1))] := hD
      obtain ⟨a2, hv, f2, r2⟩ := v
      dsimp only at hv1 hv2 hv3 hv4
      subst hy
      have hP : va_P (dC, dI) vwCl [(ow, .inr (1, [.ref h, .int (nI a2), .long (lN hv)])), (h, .inr (0, [.ref a, .int (nI (List.length xs))])), (a, .inl (cA, n, .inl f)), (ro, .inr (2, [.ref ra, .int (nI (List.length r2))])), (ra, .inl (cR, 4096, .inl f2))] H := hP
      have hD : va_D A [(ow, .inr (1, [.ref h, .int (nI a2), .long (lN hv)])), (h, .inr (0, [.ref a, .int (nI (List.length xs))])), (a, .inl (cA, n, .inl f)), (ro, .inr (2, [.ref ra, .int (nI (List.length r2))])), (ra, .inl (cR, 4096, .inl f2))] := hD
      have hst : rdF xs w m_ (m_ - k) a1 r1 = if (runF xs w m_ a1 r1).1 ≠ 0 then ((runF xs w m_ a1 r1).1, r1) else rdF xs w m_ (m_ - (k + 1)) (runF xs w m_ a1 r1).2.1 (runF xs w m_ a1 r1).2.2 := by rw [show m_ - k = (m_ - (k + 1)) + 1 by omega, rdF_step (by omega)]
      refine lv_istore (lv' := [(5, .int (nI (runF xs w m_ a1 r1).1)), (0, .ref ow), (1, .ref ro), (2, .int (nI w)), (3, .int (nI m_)), (4, .int (nI k))]) hx hb dX1_read_33 hl (by decide) rfl (fun ls hl => ?_)
      refine lv_iload hx hb dX1_read_35 (lv_at hl 0 rfl) ?_
      refine lv_if_eq (tgt := 43) hx hb dX1_read_37 (by decide) (fun c_37 => ?_) (fun c_37 => ?_)
      · rw [z_eq (by omega)] at c_37
        obtain ⟨e1, e2, e3⟩ := hv4 c_37
        rw [if_neg (fun q9 => q9 c_37), ← e1, ← e2] at hst
        refine lv_iinc (v := nI (k + 1)) (lv' := [(4, .int (nI (k + 1))), (5, .int (nI (runF xs w m_ a1 r1).1)), (0, .ref ow), (1, .ref ro), (2, .int (nI w)), (3, .int (nI m_))]) hx hb dX1_read_43 hl (k := 5) rfl (ii_add (c := 1) (k := 1) k (by decide)) (by decide) rfl (fun ls hl => ?_)
        refine lv_goto (tgt := 12) hx hb dX1_read_46 (by decide) ?_
        exact ih ((k + 1, a2, lN hv, f2, r2)) _ _ _ ⟨by omega, hv3, hv1, e3, by rw [hinv, hst], hP.sub [0, 1, 2, 3, 4] rfl, hD.sub [0, 1, 2, 3, 4] (by decide) rfl, hS, lv_sub hl [2, 3, 4, 5, 0] rfl⟩ (by show m_ - (k + 1) < m_ - k; omega)
      · rw [z_eq (by omega)] at c_37
        rw [if_pos c_37, ← hinv] at hst
        refine lv_iload hx hb dX1_read_40 (lv_at hl 0 rfl) ?_
        exact kend_i hx hb hr hlocks dX1_read_42 (rfl) hK hP hD hS (((a2, lN hv), f2, r2)) (⟨hv1, hv2, by rw [hst], by rw [hst]; exact Nat.le_trans hy5 (by decide), by rw [hst]; exact fun q9 => absurd q9 c_37⟩) [0, 1, 2, 3, 4] [0, 1] rfl (by decide) rfl

