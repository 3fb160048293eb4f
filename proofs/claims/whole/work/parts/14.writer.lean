set_option maxHeartbeats 4000000 in
set_option maxRecDepth 100000 in
/-- RunRows.numberBytes(width) -/
theorem c_numberBytes (l : Launch) (dC : Nat → ClassId) (dI : Nat → Nat → Nat) (sz : Nat) (w : Nat) (hw32 : w ≤ 32) : Met l yX4_numberBytes wsX4_numberBytes ({ frames := 0, cells := 0, slots := 0, locals := 0 }) (va_Pc [.int (nI w)] (kB (dC, dI) vwCl [] [] sz)) (va_Qi (fun r0 (_ : Unit) => r0 = nI ((w + 7) / 8)) (kE (dC, dI) vwCl (va_A [] sz) (fun _ => []) (fun _ => [])) (va_A [] sz)) 0 0 (va_A [] sz) := by
  refine Met.ofW (cc := cX4_numberBytes) (maxL := 1) (ret := (some .int)) (by decide) rfl ?_
  intro p e s m args below meth c s₁ B hml hv
  obtain ⟨rfl, hsz, hP, hK, hD0, hNs⟩ := hv
  have hx := B.exec
  have hb := B.bytes
  have hr := B.returns
  have hts := fun w (h : w ∈ lw_g) => atoms_spec (ws := wsX4_numberBytes) B.pre w (List.mem_cons_of_mem _ h)
  have hown : s.vm.findClass RX4 = some m.cls := findClass_of_methodNamed B.named
  have hlocks := B.notSynchronized
  subst hsz
  have hD := hD0.self (sz := s.heap.size)
  generalize hAe : va_A [] s.heap.size = A at hD ⊢
  have hA : ∀ q : Nat, s.heap.size ≤ q → A q := fun q h => by rw [← hAe]; exact Or.inr h
  have hS : va_S A s.heap s.heap [] := va_S.rf
  have hP : va_P (dC, dI) vwCl [] s.heap := hP
  have hl := lv_entry ([.int (nI w)]) (n := 1) (Nat.le_of_ble_eq_true rfl)
  rw [lg_entry_eq]
  generalize (lg_sl ([.int (nI w)]) ++ List.replicate (1 - (lg_sl ([.int (nI w)])).length) Slot.unset).toArray = ls at hl ⊢
  have hl : lv_has ls 1 [(0, .int (nI w))] := hl
  refine lv_iload_n hx hb dX4_numberBytes_0 rfl (lv_at hl 0 rfl) ?_
  refine lv_bipush (v := nI 7) hx hb dX4_numberBytes_1 (by decide) ?_
  refine lv_iadd hx hb dX4_numberBytes_3 ?_
  refine tI_ (y := nI (w + 7)) (nI_add _ _) ?_
  refine lv_bipush (v := nI 8) hx hb dX4_numberBytes_4 (by decide) ?_
  refine lv_idiv hx hb dX4_numberBytes_6 (by decide) ?_
  refine tI_ (y := nI ((w + 7) / 8)) (pk_div (by omega) (by decide) (by decide)) ?_
  exact kend_i hx hb hr hlocks dX4_numberBytes_7 (rfl) hK hP hD hS (()) (rfl) [] [] rfl (by decide) rfl

set_option maxHeartbeats 4000000 in
set_option maxRecDepth 100000 in
/-- Writer.writeHead(head) -/
theorem c_writeHead (l : Launch) (dC : Nat → ClassId) (dI : Nat → Nat → Nat) (sz : Nat) (ow : Nat) (h a : Nat) (cA : ClassId) (n : Nat) (f : Nat → Int32) (xs : List Nat) (hd : Nat) (hf : bHas f xs) (hn : xs.length ≤ n) (hN : n < 2 ^ 31) (hhd : hd < 2 ^ 31) : Met l yX3_writeHead wsX3_writeHead ({ frames := 1, cells := 0, slots := 0, locals := 21 }) (va_Pc [.ref ow, .int (nI hd)] (kB (dC, dI) vwCl [(cA, .byte)] [(ow, .inr (3, [.ref h])), (h, .inr (0, [.ref a, .int (nI (List.length xs))])), (a, .inl (cA, n, .inl f))] sz)) (va_Qv (fun (u : Nat → Int32) => bHas u (ad n xs (vint 9 hd))) (kE (dC, dI) vwCl (va_A [(ow, .inr (3, [.ref h])), (h, .inr (0, [.ref a, .int (nI (List.length xs))])), (a, .inl (cA, n, .inl f))] sz) (fun _ => [(cA, .byte)]) (fun u => [(ow, .inr (3, [.ref h])), (h, .inr (0, [.ref a, .int (nI (List.length (ad n xs (vint 9 hd))))])), (a, .inl (cA, n, .inl u))])) (va_A [(ow, .inr (3, [.ref h])), (h, .inr (0, [.ref a, .int (nI (List.length xs))])), (a, .inl (cA, n, .inl f))] sz)) 0 0 (va_A [(ow, .inr (3, [.ref h])), (h, .inr (0, [.ref a, .int (nI (List.length xs))])), (a, .inl (cA, n, .inl f))] sz) := by
  refine Met.ofW (cc := cX3_writeHead) (maxL := 4) (ret := none) (by decide) rfl ?_
  intro p e s m args below meth c s₁ B hml hv
  obtain ⟨rfl, hsz, hP, hK, hD0, hNs⟩ := hv
  have hx := B.exec
  have hb := B.bytes
  have hr := B.returns
  have hts := fun w (h : w ∈ lw_g) => atoms_spec (ws := wsX3_writeHead) B.pre w (List.mem_cons_of_mem _ h)
  have hown : s.vm.findClass RX3 = some m.cls := findClass_of_methodNamed B.named
  have hlocks := B.notSynchronized
  subst hsz
  have hD := hD0.self (sz := s.heap.size)
  generalize hAe : va_A [(ow, .inr (3, [.ref h])), (h, .inr (0, [.ref a, .int (nI (List.length xs))])), (a, .inl (cA, n, .inl f))] s.heap.size = A at hD ⊢
  have hA : ∀ q : Nat, s.heap.size ≤ q → A q := fun q h => by rw [← hAe]; exact Or.inr h
  have hS : va_S A s.heap s.heap [] := va_S.rf
  have hP : va_P (dC, dI) vwCl [(ow, .inr (3, [.ref h])), (h, .inr (0, [.ref a, .int (nI (List.length xs))])), (a, .inl (cA, n, .inl f))] s.heap := hP
  have hl := lv_entry ([.ref ow, .int (nI hd)]) (n := 4) (Nat.le_of_ble_eq_true rfl)
  rw [lg_entry_eq]
  generalize (lg_sl ([.ref ow, .int (nI hd)]) ++ List.replicate (4 - (lg_sl ([.ref ow, .int (nI hd)])).length) Slot.unset).toArray = ls at hl ⊢
  have hl : lv_has ls 4 [(0, .ref ow), (1, .int (nI hd))] := hl
  refine lv_iload_n hx hb dX3_writeHead_0 rfl (lv_at hl 1 rfl) ?_
  refine lv_istore_n (lv' := [(2, .int (nI hd)), (0, .ref ow), (1, .int (nI hd))]) hx hb dX3_writeHead_1 rfl hl (by decide) rfl (fun ls hl => ?_)
  refine lv_iconst (v := nI 1) hx hb dX3_writeHead_2 (by decide) ?_
  refine lv_istore_n (lv' := [(3, .int (nI 1)), (2, .int (nI hd)), (0, .ref ow), (1, .int (nI hd))]) hx hb dX3_writeHead_3 rfl hl (by decide) rfl (fun ls hl => ?_)
  refine k_loop (σ := Nat × Nat × (Nat → Int32) × List Nat) (fun (z : Nat × Nat × (Nat → Int32) × List Nat) H locs ls => match z with
        | (i, rs, u, ys) => 1 ≤ i ∧ i ≤ 10 ∧ rs < 2 ^ 31 ∧ bHas u ys ∧ ys.length ≤ n ∧ ad n xs (vint 9 hd) = ad n ys (vint (10 - i) rs) ∧ va_P (dC, dI) vwCl [(ow, .inr (3, [.ref h])), (h, .inr (0, [.ref a, .int (nI (List.length ys))])), (a, .inl (cA, n, .inl u))] H ∧ va_D A [(ow, .inr (3, [.ref h])), (h, .inr (0, [.ref a, .int (nI (List.length ys))])), (a, .inl (cA, n, .inl u))] ∧ va_S A s.heap H locs ∧ lv_has ls 4 [(0, .ref ow), (2, .int (nI rs)), (3, .int (nI i))]) (fun z => match z with
        | (i, rs, u, ys) => 10 - i) ?_ ((1, hd, f, xs)) _ _ _ ⟨Nat.le_refl 1, by decide, hhd, hf, hn, rfl, hP.sub [0, 1, 2] rfl, hD.sub [0, 1, 2] (by decide) rfl, hS, lv_sub hl [2, 1, 0] rfl⟩
  intro z H locs ls hI ih
  obtain ⟨i, rs, u, ys⟩ := z
  obtain ⟨hi1, hi2, hrs, hu, hyn, hinv, hP, hD, hS, hl⟩ := hI
  refine lv_iload_n hx hb dX3_writeHead_4 rfl (lv_at hl 2 rfl) ?_
  refine lv_bipush (v := nI 10) hx hb dX3_writeHead_5 (by decide) ?_
  refine lv_icmp_ge (tgt := 42) hx hb dX3_writeHead_7 (by decide) (fun c_7 => ?_) (fun c_7 => ?_)
  · rw [nI_leI (a := 10) (b := i) (by omega) (by omega)] at c_7
    refine lv_aload_n hx hb dX3_writeHead_42 rfl (lv_at hl 0 rfl) ?_
    refine va_get (D := (dC, dI)) (ci := 3) (v := .ref h) (C := RX3) (T := TX3) (N := 1) hx hb hts iX3 hown hK hP 0 rfl rfl 0 (by decide) (hts _ m_43) (fun _ h9 => h9) rfl dX3_writeHead_43 ?_
    refine lv_iload_n hx hb dX3_writeHead_46 rfl (lv_at hl 1 rfl) ?_
    refine kret_v (wc := [(h, .inr (0, [.ref a, .int (nI (List.length ys))])), (a, .inl (cA, n, .inl u))]) (wr := [(ow, .inr (3, [.ref h]))]) (va_runV (As := [.int (nI rs)]) (rest := []) ⟨hx, hb, hml, hown, hts⟩ (c_Bytes_put l dC dI _ h a cA n u ys (nI rs) hu hyn hN) (cwV 1 hts (gdV m_197 m_119 m_120 m_2 m_121) rfl rfl rfl (by decide +kernel) ⟨Nat.le_of_ble_eq_true rfl, Nat.le_of_ble_eq_true rfl⟩) (kpV hNs hK hP hD [1, 2] [0] rfl rfl (by decide) (ci := 0) rfl rfl) rfl rfl hl.1 rfl (lv_room (Nat.le_of_ble_eq_true rfl)) dX3_writeHead_47 ⟨Nat.le_of_ble_eq_true rfl, Nat.le_of_ble_eq_true rfl⟩) hP hD hS hA [1, 2] [0] rfl rfl (by decide) (by decide) (fun u2 H locs hpo hK1 hP hD hS => ?_)
    have hu2 := hpo
    have hP : va_P (dC, dI) vwCl [(ow, .inr (3, [.ref h])), (h, .inr (0, [.ref a, .int (nI (List.length (ad n ys [uv (nI rs) % 256])))])), (a, .inl (cA, n, .inl u2))] H := hP
    have hD : va_D A [(ow, .inr (3, [.ref h])), (h, .inr (0, [.ref a, .int (nI (List.length (ad n ys [uv (nI rs) % 256])))])), (a, .inl (cA, n, .inl u2))] := hD
    have hz : ad n ys [uv (nI rs) % 256] = ad n xs (vint 9 hd) := by rw [hinv, uv_nI (by omega)]; congr 1; rw [show 10 - i = 0 by omega]; rfl
    rw [hz] at hP hD hu2
    exact kend_v hx hb hr hlocks dX3_writeHead_50 hK hP hD hS (u2) (hu2) [0, 1, 2] [0] rfl (by decide) rfl
  · rw [nI_leI (a := 10) (b := i) (by omega) (by omega)] at c_7
    refine lv_iload_n hx hb dX3_writeHead_10 rfl (lv_at hl 1 rfl) ?_
    refine lv_bipush (v := nI 127) hx hb dX3_writeHead_11 (by decide) ?_
    refine lv_icmp_le (tgt := 42) hx hb dX3_writeHead_13 (by decide) (fun c_13 => ?_) (fun c_13 => ?_)
    · rw [nI_leI (a := rs) (b := 127) (by omega) (by omega)] at c_13
      refine lv_aload_n hx hb dX3_writeHead_42 rfl (lv_at hl 0 rfl) ?_
      refine va_get (D := (dC, dI)) (ci := 3) (v := .ref h) (C := RX3) (T := TX3) (N := 1) hx hb hts iX3 hown hK hP 0 rfl rfl 0 (by decide) (hts _ m_43) (fun _ h9 => h9) rfl dX3_writeHead_43 ?_
      refine lv_iload_n hx hb dX3_writeHead_46 rfl (lv_at hl 1 rfl) ?_
      refine kret_v (wc := [(h, .inr (0, [.ref a, .int (nI (List.length ys))])), (a, .inl (cA, n, .inl u))]) (wr := [(ow, .inr (3, [.ref h]))]) (va_runV (As := [.int (nI rs)]) (rest := []) ⟨hx, hb, hml, hown, hts⟩ (c_Bytes_put l dC dI _ h a cA n u ys (nI rs) hu hyn hN) (cwV 1 hts (gdV m_197 m_119 m_120 m_2 m_121) rfl rfl rfl (by decide +kernel) ⟨Nat.le_of_ble_eq_true rfl, Nat.le_of_ble_eq_true rfl⟩) (kpV hNs hK hP hD [1, 2] [0] rfl rfl (by decide) (ci := 0) rfl rfl) rfl rfl hl.1 rfl (lv_room (Nat.le_of_ble_eq_true rfl)) dX3_writeHead_47 ⟨Nat.le_of_ble_eq_true rfl, Nat.le_of_ble_eq_true rfl⟩) hP hD hS hA [1, 2] [0] rfl rfl (by decide) (by decide) (fun u2 H locs hpo hK1 hP hD hS => ?_)
      have hu2 := hpo
      have hP : va_P (dC, dI) vwCl [(ow, .inr (3, [.ref h])), (h, .inr (0, [.ref a, .int (nI (List.length (ad n ys [uv (nI rs) % 256])))])), (a, .inl (cA, n, .inl u2))] H := hP
      have hD : va_D A [(ow, .inr (3, [.ref h])), (h, .inr (0, [.ref a, .int (nI (List.length (ad n ys [uv (nI rs) % 256])))])), (a, .inl (cA, n, .inl u2))] := hD
      have hz : ad n ys [uv (nI rs) % 256] = ad n xs (vint 9 hd) := by rw [hinv, uv_nI (by omega)]; congr 1; exact (vint_small (by omega)).symm
      rw [hz] at hP hD hu2
      exact kend_v hx hb hr hlocks dX3_writeHead_50 hK hP hD hS (u2) (hu2) [0, 1, 2] [0] rfl (by decide) rfl
    · rw [nI_leI (a := rs) (b := 127) (by omega) (by omega)] at c_13
      refine lv_aload_n hx hb dX3_writeHead_16 rfl (lv_at hl 0 rfl) ?_
      refine va_get (D := (dC, dI)) (ci := 3) (v := .ref h) (C := RX3) (T := TX3) (N := 1) hx hb hts iX3 hown hK hP 0 rfl rfl 0 (by decide) (hts _ m_43) (fun _ h9 => h9) rfl dX3_writeHead_17 ?_
      refine lv_iload_n hx hb dX3_writeHead_20 rfl (lv_at hl 1 rfl) ?_
      refine lv_bipush (v := nI 127) hx hb dX3_writeHead_21 (by decide) ?_
      refine lv_iand hx hb dX3_writeHead_23 ?_
      refine tI_ (y := nI (rs % 128)) (pk_andN (by omega) 7 (by decide)) ?_
      refine lv_sipush (v := nI 128) hx hb dX3_writeHead_24 (by decide) ?_
      refine lv_ior hx hb dX3_writeHead_27 ?_
      refine tI_ (y := nI (rs % 128 + 128)) (or128 (by omega)) ?_
      refine kret_v (wc := [(h, .inr (0, [.ref a, .int (nI (List.length ys))])), (a, .inl (cA, n, .inl u))]) (wr := [(ow, .inr (3, [.ref h]))]) (va_runV (As := [.int (nI (rs % 128 + 128))]) (rest := []) ⟨hx, hb, hml, hown, hts⟩ (c_Bytes_put l dC dI _ h a cA n u ys (nI (rs % 128 + 128)) hu hyn hN) (cwV 1 hts (gdV m_197 m_119 m_120 m_2 m_121) rfl rfl rfl (by decide +kernel) ⟨Nat.le_of_ble_eq_true rfl, Nat.le_of_ble_eq_true rfl⟩) (kpV hNs hK hP hD [1, 2] [0] rfl rfl (by decide) (ci := 0) rfl rfl) rfl rfl hl.1 rfl (lv_room (Nat.le_of_ble_eq_true rfl)) dX3_writeHead_28 ⟨Nat.le_of_ble_eq_true rfl, Nat.le_of_ble_eq_true rfl⟩) hP hD hS hA [1, 2] [0] rfl rfl (by decide) (by decide) (fun u2 H locs hpo hK1 hP hD hS => ?_)
      have hu2 := hpo
      have hP : va_P (dC, dI) vwCl [(ow, .inr (3, [.ref h])), (h, .inr (0, [.ref a, .int (nI (List.length (ad n ys [uv (nI (rs % 128 + 128)) % 256])))])), (a, .inl (cA, n, .inl u2))] H := hP
      have hD : va_D A [(ow, .inr (3, [.ref h])), (h, .inr (0, [.ref a, .int (nI (List.length (ad n ys [uv (nI (rs % 128 + 128)) % 256])))])), (a, .inl (cA, n, .inl u2))] := hD
      have hz : ad n ys [uv (nI (rs % 128 + 128)) % 256] = ad n ys [rs % 128 + 128] := by rw [uv_nI (by omega), Nat.mod_eq_of_lt (by omega)]
      rw [hz] at hP hD hu2
      refine lv_iload_n hx hb dX3_writeHead_31 rfl (lv_at hl 1 rfl) ?_
      refine lv_bipush (v := nI 7) hx hb dX3_writeHead_32 (by decide) ?_
      refine lv_iushr (v := nI (rs / 128)) hx hb dX3_writeHead_34 (pk_ushrN (by omega) (nI 7) 7 (by decide)) ?_
      refine lv_istore_n (lv' := [(2, .int (nI (rs / 128))), (0, .ref ow), (3, .int (nI i))]) hx hb dX3_writeHead_35 rfl hl (by decide) rfl (fun ls hl => ?_)
      refine lv_iinc (v := nI (i + 1)) (lv' := [(3, .int (nI (i + 1))), (2, .int (nI (rs / 128))), (0, .ref ow)]) hx hb dX3_writeHead_36 hl (k := 2) rfl (ii_add (c := 1) (k := 1) i (by decide)) (by decide) rfl (fun ls hl => ?_)
      refine lv_goto (tgt := 4) hx hb dX3_writeHead_39 (by decide) ?_
      exact ih ((i + 1, rs / 128, u2, ad n ys [rs % 128 + 128])) _ _ _ ⟨by omega, by omega, by omega, hu2, ad_len _ _, by rw [hinv, ad_ad, show 10 - i = (10 - (i + 1)) + 1 by omega, vint_step (by omega)]; rfl, hP.sub [0, 1, 2] rfl, hD.sub [0, 1, 2] (by decide) rfl, hS, lv_sub hl [2, 1, 0] rfl⟩ (by show 10 - (i + 1) < 10 - i; omega)

set_option maxHeartbeats 4000000 in
set_option maxRecDepth 100000 in
/-- Writer.writeOne(number, times, width) -/
theorem c_writeOne (l : Launch) (dC : Nat → ClassId) (dI : Nat → Nat → Nat) (sz : Nat) (ow : Nat) (h a : Nat) (cA : ClassId) (n : Nat) (f : Nat → Int32) (xs : List Nat) (x : Int32) (t w : Nat) (hf : bHas f xs) (hn : xs.length ≤ n) (hN : n < 2 ^ 31) (ht : t ≤ 4096) (hw32 : w ≤ 32) : Met l yX3_writeOne wsX3_writeOne ({ frames := 2, cells := 0, slots := 0, locals := 44 }) (va_Pc [.ref ow, .int x, .int (nI t), .int (nI w)] (kB (dC, dI) vwCl [(cA, .byte)] [(ow, .inr (3, [.ref h])), (h, .inr (0, [.ref a, .int (nI (List.length xs))])), (a, .inl (cA, n, .inl f))] sz)) (va_Qv (fun (u : Nat → Int32) => bHas u (ad n xs (wOne x t w))) (kE (dC, dI) vwCl (va_A [(ow, .inr (3, [.ref h])), (h, .inr (0, [.ref a, .int (nI (List.length xs))])), (a, .inl (cA, n, .inl f))] sz) (fun _ => [(cA, .byte)]) (fun u => [(ow, .inr (3, [.ref h])), (h, .inr (0, [.ref a, .int (nI (List.length (ad n xs (wOne x t w))))])), (a, .inl (cA, n, .inl u))])) (va_A [(ow, .inr (3, [.ref h])), (h, .inr (0, [.ref a, .int (nI (List.length xs))])), (a, .inl (cA, n, .inl f))] sz)) 0 0 (va_A [(ow, .inr (3, [.ref h])), (h, .inr (0, [.ref a, .int (nI (List.length xs))])), (a, .inl (cA, n, .inl f))] sz) := by
  refine Met.ofW (cc := cX3_writeOne) (maxL := 5) (ret := none) (by decide) rfl ?_
  intro p e s m args below meth c s₁ B hml hv
  obtain ⟨rfl, hsz, hP, hK, hD0, hNs⟩ := hv
  have hx := B.exec
  have hb := B.bytes
  have hr := B.returns
  have hts := fun w (h : w ∈ lw_g) => atoms_spec (ws := wsX3_writeOne) B.pre w (List.mem_cons_of_mem _ h)
  have hown : s.vm.findClass RX3 = some m.cls := findClass_of_methodNamed B.named
  have hlocks := B.notSynchronized
  subst hsz
  have hD := hD0.self (sz := s.heap.size)
  generalize hAe : va_A [(ow, .inr (3, [.ref h])), (h, .inr (0, [.ref a, .int (nI (List.length xs))])), (a, .inl (cA, n, .inl f))] s.heap.size = A at hD ⊢
  have hA : ∀ q : Nat, s.heap.size ≤ q → A q := fun q h => by rw [← hAe]; exact Or.inr h
  have hS : va_S A s.heap s.heap [] := va_S.rf
  have hP : va_P (dC, dI) vwCl [(ow, .inr (3, [.ref h])), (h, .inr (0, [.ref a, .int (nI (List.length xs))])), (a, .inl (cA, n, .inl f))] s.heap := hP
  have hl := lv_entry ([.ref ow, .int x, .int (nI t), .int (nI w)]) (n := 5) (Nat.le_of_ble_eq_true rfl)
  rw [lg_entry_eq]
  generalize (lg_sl ([.ref ow, .int x, .int (nI t), .int (nI w)]) ++ List.replicate (5 - (lg_sl ([.ref ow, .int x, .int (nI t), .int (nI w)])).length) Slot.unset).toArray = ls at hl ⊢
  have hl : lv_has ls 5 [(0, .ref ow), (1, .int x), (2, .int (nI t)), (3, .int (nI w))] := hl
  refine lv_aload_n hx hb dX3_writeOne_0 rfl (lv_at hl 0 rfl) ?_
  refine lv_iload_n hx hb dX3_writeOne_1 rfl (lv_at hl 2 rfl) ?_
  refine lv_iconst (v := nI 2) hx hb dX3_writeOne_2 (by decide) ?_
  refine lv_imul hx hb dX3_writeOne_3 ?_
  refine tI_ (y := nI (t * 2)) (pk_mul _ _) ?_
  refine kret_v (wc := [(ow, .inr (3, [.ref h])), (h, .inr (0, [.ref a, .int (nI (List.length xs))])), (a, .inl (cA, n, .inl f))]) (wr := []) (va_runV (As := [.int (nI (t * 2))]) (rest := []) ⟨hx, hb, hml, hown, hts⟩ (c_writeHead l dC dI _ ow h a cA n f xs (t * 2) hf hn hN (by omega)) (cwV 1 hts (gdV m_193 m_195 mp_1 m_4 m_196) rfl rfl rfl (by decide +kernel) ⟨Nat.le_of_ble_eq_true rfl, Nat.le_of_ble_eq_true rfl⟩) (kpV hNs hK hP hD [0, 1, 2] [0] rfl rfl (by decide) (ci := 3) rfl rfl) rfl rfl hl.1 rfl (lv_room (Nat.le_of_ble_eq_true rfl)) dX3_writeOne_4 ⟨Nat.le_of_ble_eq_true rfl, Nat.le_of_ble_eq_true rfl⟩) hP hD hS hA [0, 1, 2] [] rfl rfl (by decide) (by decide) (fun u H locs hpo hK1 hP hD hS => ?_)
  have hu := hpo
  have hP : va_P (dC, dI) vwCl [(ow, .inr (3, [.ref h])), (h, .inr (0, [.ref a, .int (nI (List.length (ad n xs (vint 9 (t * 2)))))])), (a, .inl (cA, n, .inl u))] H := hP
  have hD : va_D A [(ow, .inr (3, [.ref h])), (h, .inr (0, [.ref a, .int (nI (List.length (ad n xs (vint 9 (t * 2)))))])), (a, .inl (cA, n, .inl u))] := hD
  refine lv_iconst (v := nI 0) hx hb dX3_writeOne_7 (by decide) ?_
  refine lv_istore (lv' := [(4, .int (nI 0)), (0, .ref ow), (1, .int x), (2, .int (nI t)), (3, .int (nI w))]) hx hb dX3_writeOne_8 hl (by decide) rfl (fun ls hl => ?_)
  have hz0 : ad n xs (vint 9 (t * 2)) = ad n xs (vint 9 (t * 2) ++ leb (uv x) 0) := by rw [leb_zero, List.append_nil]
  rw [hz0] at hP hD hu
  refine k_loop (σ := Nat × (Nat → Int32)) (fun (z : Nat × (Nat → Int32)) H locs ls => match z with
        | (i, u) => i ≤ (w + 7) / 8 ∧ bHas u (ad n xs (vint 9 (t * 2) ++ leb (uv x) i)) ∧ va_P (dC, dI) vwCl [(ow, .inr (3, [.ref h])), (h, .inr (0, [.ref a, .int (nI (List.length (ad n xs (vint 9 (t * 2) ++ leb (uv x) i))))])), (a, .inl (cA, n, .inl u))] H ∧ va_D A [(ow, .inr (3, [.ref h])), (h, .inr (0, [.ref a, .int (nI (List.length (ad n xs (vint 9 (t * 2) ++ leb (uv x) i))))])), (a, .inl (cA, n, .inl u))] ∧ va_S A s.heap H locs ∧ lv_has ls 5 [(0, .ref ow), (1, .int x), (3, .int (nI w)), (4, .int (nI i))]) (fun z => match z with
        | (i, u) => (w + 7) / 8 - i) ?_ ((0, u)) _ _ _ ⟨Nat.zero_le _, hu, hP.sub [0, 1, 2] rfl, hD.sub [0, 1, 2] (by decide) rfl, hS, lv_sub hl [1, 2, 4, 0] rfl⟩
  intro z H locs ls hI ih
  obtain ⟨i, u⟩ := z
  obtain ⟨hi, hu, hP, hD, hS, hl⟩ := hI
  refine lv_iload hx hb dX3_writeOne_10 (lv_at hl 3 rfl) ?_
  refine lv_iload_n hx hb dX3_writeOne_12 rfl (lv_at hl 2 rfl) ?_
  refine kret_i (wc := []) (wr := [(ow, .inr (3, [.ref h])), (h, .inr (0, [.ref a, .int (nI (List.length (ad n xs (vint 9 (t * 2) ++ leb (uv x) i))))])), (a, .inl (cA, n, .inl u))]) (va_runSN (As := [.int (nI w)]) (rest := [.int (nI i)]) ⟨hx, hb, hml, hown, hts⟩ (c_numberBytes l dC dI _ w hw32) (⟨va_cnB 1 hts (gdC m_200) rfl rfl rfl hNs.2.2.2.2.2.1 (hts _ m_1) (by decide +kernel) ⟨Nat.le_of_ble_eq_true rfl, Nat.le_of_ble_eq_true rfl⟩, hts _ m_199, trivial⟩) (kpS hNs hK hP hD [] [] rfl rfl (by decide)) rfl rfl hl.1 rfl (lv_room (Nat.le_of_ble_eq_true rfl)) dX3_writeOne_13 ⟨Nat.le_of_ble_eq_true rfl, Nat.le_of_ble_eq_true rfl⟩) hP hD hS hA [] [0, 1, 2] rfl rfl (by decide) (by decide) (fun y _ H locs hpo hK1 hP hD hS => ?_)
  have hy := hpo
  have hP : va_P (dC, dI) vwCl [(ow, .inr (3, [.ref h])), (h, .inr (0, [.ref a, .int (nI (List.length (ad n xs (vint 9 (t * 2) ++ leb (uv x) i))))])), (a, .inl (cA, n, .inl u))] H := hP
  have hD : va_D A [(ow, .inr (3, [.ref h])), (h, .inr (0, [.ref a, .int (nI (List.length (ad n xs (vint 9 (t * 2) ++ leb (uv x) i))))])), (a, .inl (cA, n, .inl u))] := hD
  subst hy
  refine lv_icmp_ge (tgt := 39) hx hb dX3_writeOne_16 (by decide) (fun c_16 => ?_) (fun c_16 => ?_)
  · rw [nI_leI (a := ((w + 7) / 8)) (b := i) (by omega) (by omega)] at c_16
    obtain rfl : i = (w + 7) / 8 := by omega
    exact kend_v hx hb hr hlocks dX3_writeOne_39 hK hP hD hS (u) (hu) [0, 1, 2] [0] rfl (by decide) rfl
  · rw [nI_leI (a := ((w + 7) / 8)) (b := i) (by omega) (by omega)] at c_16
    refine lv_aload_n hx hb dX3_writeOne_19 rfl (lv_at hl 0 rfl) ?_
    refine va_get (D := (dC, dI)) (ci := 3) (v := .ref h) (C := RX3) (T := TX3) (N := 1) hx hb hts iX3 hown hK hP 0 rfl rfl 0 (by decide) (hts _ m_43) (fun _ h9 => h9) rfl dX3_writeOne_20 ?_
    refine lv_iload_n hx hb dX3_writeOne_23 rfl (lv_at hl 1 rfl) ?_
    refine lv_bipush (v := nI 8) hx hb dX3_writeOne_24 (by decide) ?_
    refine lv_iload hx hb dX3_writeOne_26 (lv_at hl 3 rfl) ?_
    refine lv_imul hx hb dX3_writeOne_28 ?_
    refine tI_ (y := nI (8 * i)) (pk_mul _ _) ?_
    refine lv_iushr (v := sh x (8 * i)) hx hb dX3_writeOne_29 (rfl) ?_
    refine kret_v (wc := [(h, .inr (0, [.ref a, .int (nI (List.length (ad n xs (vint 9 (t * 2) ++ leb (uv x) i))))])), (a, .inl (cA, n, .inl u))]) (wr := [(ow, .inr (3, [.ref h]))]) (va_runV (As := [.int (sh x (8 * i))]) (rest := []) ⟨hx, hb, hml, hown, hts⟩ (c_Bytes_put l dC dI _ h a cA n u (ad n xs (vint 9 (t * 2) ++ leb (uv x) i)) (sh x (8 * i)) hu (ad_len _ _) hN) (cwV 1 hts (gdV m_197 m_119 m_120 m_2 m_121) rfl rfl rfl (by decide +kernel) ⟨Nat.le_of_ble_eq_true rfl, Nat.le_of_ble_eq_true rfl⟩) (kpV hNs hK hP hD [1, 2] [0] rfl rfl (by decide) (ci := 0) rfl rfl) rfl rfl hl.1 rfl (lv_room (Nat.le_of_ble_eq_true rfl)) dX3_writeOne_30 ⟨Nat.le_of_ble_eq_true rfl, Nat.le_of_ble_eq_true rfl⟩) hP hD hS hA [1, 2] [0] rfl rfl (by decide) (by decide) (fun u2 H locs hpo hK1 hP hD hS => ?_)
    have hu2 := hpo
    have hP : va_P (dC, dI) vwCl [(ow, .inr (3, [.ref h])), (h, .inr (0, [.ref a, .int (nI (List.length (ad n (ad n xs (vint 9 (t * 2) ++ leb (uv x) i)) [uv (sh x (8 * i)) % 256])))])), (a, .inl (cA, n, .inl u2))] H := hP
    have hD : va_D A [(ow, .inr (3, [.ref h])), (h, .inr (0, [.ref a, .int (nI (List.length (ad n (ad n xs (vint 9 (t * 2) ++ leb (uv x) i)) [uv (sh x (8 * i)) % 256])))])), (a, .inl (cA, n, .inl u2))] := hD
    have hz : ad n (ad n xs (vint 9 (t * 2) ++ leb (uv x) i)) [uv (sh x (8 * i)) % 256] = ad n xs (vint 9 (t * 2) ++ leb (uv x) (i + 1)) := by rw [ad_ad, uv_sh x (by omega), leb_succ, List.append_assoc, p256]
    rw [hz] at hP hD hu2
    refine lv_iinc (v := nI (i + 1)) (lv' := [(4, .int (nI (i + 1))), (0, .ref ow), (1, .int x), (3, .int (nI w))]) hx hb dX3_writeOne_33 hl (k := 3) rfl (ii_add (c := 1) (k := 1) i (by decide)) (by decide) rfl (fun ls hl => ?_)
    refine lv_goto (tgt := 10) hx hb dX3_writeOne_36 (by decide) ?_
    exact ih ((i + 1, u2)) _ _ _ ⟨by omega, hu2, hP.sub [0, 1, 2] rfl, hD.sub [0, 1, 2] (by decide) rfl, hS, lv_sub hl [1, 2, 3, 0] rfl⟩ (by show (w + 7) / 8 - (i + 1) < (w + 7) / 8 - i; omega)

set_option maxHeartbeats 4000000 in
set_option maxRecDepth 100000 in
/-- Writer.writeGroup(row, from, width) -/
theorem c_writeGroup (l : Launch) (dC : Nat → ClassId) (dI : Nat → Nat → Nat) (sz : Nat) (ow : Nat) (h a : Nat) (cA : ClassId) (n : Nat) (f : Nat → Int32) (xs : List Nat) (ro ra : Nat) (cR : ClassId) (fr : Nat → Int32) (r : List Int32) (i w : Nat) (hf : bHas f xs) (hn : xs.length ≤ n) (hN : n < 2 ^ 31) (hfr : rHas fr r) (hrn : r.length ≤ 4096) (hi : i < 8192) (hw32 : w ≤ 32) (hfit : fitsW r w) : Met l yX3_writeGroup wsX3_writeGroup ({ frames := 1, cells := 0, slots := 0, locals := 21 }) (va_Pc [.ref ow, .ref ro, .int (nI i), .int (nI w)] (kB (dC, dI) vwCl [(cA, .byte), (cR, .int)] [(ow, .inr (3, [.ref h])), (h, .inr (0, [.ref a, .int (nI (List.length xs))])), (a, .inl (cA, n, .inl f)), (ro, .inr (2, [.ref ra, .int (nI (List.length r))])), (ra, .inl (cR, 4096, .inl fr))] sz)) (va_Qv (fun (u : Nat → Int32) => bHas u (ad n xs (leb (gv r w i 8) w))) (kE (dC, dI) vwCl (va_A [(ow, .inr (3, [.ref h])), (h, .inr (0, [.ref a, .int (nI (List.length xs))])), (a, .inl (cA, n, .inl f)), (ro, .inr (2, [.ref ra, .int (nI (List.length r))])), (ra, .inl (cR, 4096, .inl fr))] sz) (fun _ => [(cA, .byte), (cR, .int)]) (fun u => [(ow, .inr (3, [.ref h])), (h, .inr (0, [.ref a, .int (nI (List.length (ad n xs (leb (gv r w i 8) w))))])), (a, .inl (cA, n, .inl u)), (ro, .inr (2, [.ref ra, .int (nI (List.length r))])), (ra, .inl (cR, 4096, .inl fr))])) (va_A [(ow, .inr (3, [.ref h])), (h, .inr (0, [.ref a, .int (nI (List.length xs))])), (a, .inl (cA, n, .inl f)), (ro, .inr (2, [.ref ra, .int (nI (List.length r))])), (ra, .inl (cR, 4096, .inl fr))] sz)) 0 0 (va_A [(ow, .inr (3, [.ref h])), (h, .inr (0, [.ref a, .int (nI (List.length xs))])), (a, .inl (cA, n, .inl f)), (ro, .inr (2, [.ref ra, .int (nI (List.length r))])), (ra, .inl (cR, 4096, .inl fr))] sz) := by
  refine Met.ofW (cc := cX3_writeGroup) (maxL := 8) (ret := none) (by decide) rfl ?_
  intro p e s m args below meth c s₁ B hml hv
  obtain ⟨rfl, hsz, hP, hK, hD0, hNs⟩ := hv
  have hx := B.exec
  have hb := B.bytes
  have hr := B.returns
  have hts := fun w (h : w ∈ lw_g) => atoms_spec (ws := wsX3_writeGroup) B.pre w (List.mem_cons_of_mem _ h)
  have hown : s.vm.findClass RX3 = some m.cls := findClass_of_methodNamed B.named
  have hlocks := B.notSynchronized
  subst hsz
  have hD := hD0.self (sz := s.heap.size)
  generalize hAe : va_A [(ow, .inr (3, [.ref h])), (h, .inr (0, [.ref a, .int (nI (List.length xs))])), (a, .inl (cA, n, .inl f)), (ro, .inr (2, [.ref ra, .int (nI (List.length r))])), (ra, .inl (cR, 4096, .inl fr))] s.heap.size = A at hD ⊢
  have hA : ∀ q : Nat, s.heap.size ≤ q → A q := fun q h => by rw [← hAe]; exact Or.inr h
  have hS : va_S A s.heap s.heap [] := va_S.rf
  have hP : va_P (dC, dI) vwCl [(ow, .inr (3, [.ref h])), (h, .inr (0, [.ref a, .int (nI (List.length xs))])), (a, .inl (cA, n, .inl f)), (ro, .inr (2, [.ref ra, .int (nI (List.length r))])), (ra, .inl (cR, 4096, .inl fr))] s.heap := hP
  have hl := lv_entry ([.ref ow, .ref ro, .int (nI i), .int (nI w)]) (n := 8) (Nat.le_of_ble_eq_true rfl)
  rw [lg_entry_eq]
  generalize (lg_sl ([.ref ow, .ref ro, .int (nI i), .int (nI w)]) ++ List.replicate (8 - (lg_sl ([.ref ow, .ref ro, .int (nI i), .int (nI w)])).length) Slot.unset).toArray = ls at hl ⊢
  have hl : lv_has ls 8 [(0, .ref ow), (1, .ref ro), (2, .int (nI i)), (3, .int (nI w))] := hl
  refine lv_lconst (v := lN 0) hx hb dX3_writeGroup_0 (by decide) ?_
  refine lv_lstore (lv' := [(4, .long (lN 0)), (0, .ref ow), (1, .ref ro), (2, .int (nI i)), (3, .int (nI w))]) hx hb dX3_writeGroup_1 hl (by decide) rfl (fun ls hl => ?_)
  refine lv_iconst (v := nI 0) hx hb dX3_writeGroup_3 (by decide) ?_
  refine lv_istore (lv' := [(6, .int (nI 0)), (4, .long (lN 0)), (0, .ref ow), (1, .ref ro), (2, .int (nI i)), (3, .int (nI w))]) hx hb dX3_writeGroup_4 hl (by decide) rfl (fun ls hl => ?_)
  refine lv_iconst (v := nI 0) hx hb dX3_writeGroup_6 (by decide) ?_
  refine lv_istore (lv' := [(7, .int (nI 0)), (6, .int (nI 0)), (4, .long (lN 0)), (0, .ref ow), (1, .ref ro), (2, .int (nI i)), (3, .int (nI w))]) hx hb dX3_writeGroup_7 hl (by decide) rfl (fun ls hl => ?_)
  have hz0 : xs = ad n xs (leb (gv r w i 8) 0) := by rw [leb_zero, ad_nil hn]
  have hu0 : bHas f (ad n xs (leb (gv r w i 8) 0)) := by rw [← hz0]; exact hf
  rw [show List.length xs = List.length (ad n xs (leb (gv r w i 8) 0)) by rw [← hz0]] at hP hD
  have hl : lv_has ls 8 [(7, .int (nI 0)), (6, .int (nI 0)), (4, .long (lN 0)), (0, .ref ow), (1, .ref ro), (2, .int (nI i)), (3, .int (nI w))] := hl
  have hl := (show lv_has ls 8 [(7, .int (nI 0)), (6, .int (nI (w * 0 - 8 * 0))), (4, .long (lN (gv r w i 0 / 256 ^ 0))), (0, .ref ow), (1, .ref ro), (2, .int (nI i)), (3, .int (nI w))] from (by first | exact hl | simpa [gv] using hl))
  refine k_loop (σ := Nat × Nat × (Nat → Int32)) (fun (z : Nat × Nat × (Nat → Int32)) H locs ls => match z with
        | (k, j, u) => k ≤ 8 ∧ 8 * j ≤ w * k ∧ w * k < 8 * j + 8 ∧ bHas u (ad n xs (leb (gv r w i 8) j)) ∧ va_P (dC, dI) vwCl [(ow, .inr (3, [.ref h])), (h, .inr (0, [.ref a, .int (nI (List.length (ad n xs (leb (gv r w i 8) j))))])), (a, .inl (cA, n, .inl u)), (ro, .inr (2, [.ref ra, .int (nI (List.length r))])), (ra, .inl (cR, 4096, .inl fr))] H ∧ va_D A [(ow, .inr (3, [.ref h])), (h, .inr (0, [.ref a, .int (nI (List.length (ad n xs (leb (gv r w i 8) j))))])), (a, .inl (cA, n, .inl u)), (ro, .inr (2, [.ref ra, .int (nI (List.length r))])), (ra, .inl (cR, 4096, .inl fr))] ∧ va_S A s.heap H locs ∧ lv_has ls 8 [(0, .ref ow), (1, .ref ro), (2, .int (nI i)), (3, .int (nI w)), (4, .long (lN (gv r w i k / 256 ^ j))), (6, .int (nI (w * k - 8 * j))), (7, .int (nI k))]) (fun z => match z with
        | (k, j, u) => 8 - k) ?_ ((0, 0, f)) _ _ _ ⟨by decide, by omega, by omega, hu0, hP.sub [0, 1, 2, 3, 4] rfl, hD.sub [0, 1, 2, 3, 4] (by decide) rfl, hS, lv_sub hl [3, 4, 5, 6, 2, 1, 0] rfl⟩
  intro z H locs ls hI ih
  obtain ⟨k, j, u⟩ := z
  obtain ⟨hk, hj1, hj2, hu, hP, hD, hS, hl⟩ := hI
  refine lv_iload hx hb dX3_writeGroup_9 (lv_at hl 6 rfl) ?_
  refine lv_bipush (v := nI 8) hx hb dX3_writeGroup_11 (by decide) ?_
  refine lv_icmp_ge (tgt := 79) hx hb dX3_writeGroup_13 (by decide) (fun c_13 => ?_) (fun c_13 => ?_)
  · rw [nI_leI (a := 8) (b := k) (by omega) (by omega)] at c_13
    obtain rfl : k = 8 := by omega
    obtain rfl : w = j := by omega
    exact kend_v hx hb hr hlocks dX3_writeGroup_79 hK hP hD hS (u) (hu) [0, 1, 2, 3, 4] [0, 1] rfl (by decide) rfl
  · rw [nI_leI (a := 8) (b := k) (by omega) (by omega)] at c_13
    refine lv_lload hx hb dX3_writeGroup_16 (lv_at hl 4 rfl) ?_
    refine lv_aload_n hx hb dX3_writeGroup_18 rfl (lv_at hl 1 rfl) ?_
    refine lv_iload_n hx hb dX3_writeGroup_19 rfl (lv_at hl 2 rfl) ?_
    refine lv_iload hx hb dX3_writeGroup_20 (lv_at hl 6 rfl) ?_
    refine lv_iadd hx hb dX3_writeGroup_22 ?_
    refine tI_ (y := nI (i + k)) (nI_add _ _) ?_
    refine kret_i (wc := [(ro, .inr (2, [.ref ra, .int (nI (List.length r))])), (ra, .inl (cR, 4096, .inl fr))]) (wr := [(ow, .inr (3, [.ref h])), (h, .inr (0, [.ref a, .int (nI (List.length (ad n xs (leb (gv r w i 8) j))))])), (a, .inl (cA, n, .inl u))]) (va_runV (As := [.int (nI (i + k))]) (rest := [.long (lN (gv r w i k / 256 ^ j))]) ⟨hx, hb, hml, hown, hts⟩ (c_Row_at l dC dI _ ro ra cR fr r (nI (i + k)) hfr hrn) (cwV 1 hts (gdV m_188 m_172 m_173 m_6 m_174) rfl rfl rfl (by decide +kernel) ⟨Nat.le_of_ble_eq_true rfl, Nat.le_of_ble_eq_true rfl⟩) (kpV hNs hK hP hD [3, 4] [1] rfl rfl (by decide) (ci := 2) rfl rfl) rfl rfl hl.1 rfl (lv_room (Nat.le_of_ble_eq_true rfl)) dX3_writeGroup_23 ⟨Nat.le_of_ble_eq_true rfl, Nat.le_of_ble_eq_true rfl⟩) hP hD hS hA [3, 4] [0, 1, 2] rfl rfl (by decide) (by decide) (fun y _ H locs hpo hK1 hP hD hS => ?_)
    have hy := hpo
    have hP : va_P (dC, dI) vwCl [(ow, .inr (3, [.ref h])), (h, .inr (0, [.ref a, .int (nI (List.length (ad n xs (leb (gv r w i 8) j))))])), (a, .inl (cA, n, .inl u)), (ro, .inr (2, [.ref ra, .int (nI (List.length r))])), (ra, .inl (cR, 4096, .inl fr))] H := hP
    have hD : va_D A [(ow, .inr (3, [.ref h])), (h, .inr (0, [.ref a, .int (nI (List.length (ad n xs (leb (gv r w i 8) j))))])), (a, .inl (cA, n, .inl u)), (ro, .inr (2, [.ref ra, .int (nI (List.length r))])), (ra, .inl (cR, 4096, .inl fr))] := hD
    rw [rAt_nI (by omega) (by omega)] at hy
    subst hy
    refine lv_i2l (v := (r.getD (i + k) 0).toInt64) hx hb dX3_writeGroup_26 (rfl) ?_
    refine lv_ldc2 (v := lN 4294967295) hx hb hown (hts _ m_213) dX3_writeGroup_27 ?_
    refine lv_land hx hb dX3_writeGroup_30 ?_
    refine tL_ (y := lN (uv (r.getD (i + k) 0))) (mask32 _) ?_
    have hwk : w * k ≤ 32 * 8 := Nat.mul_le_mul hw32 hk
    refine lv_iload hx hb dX3_writeGroup_31 (lv_at hl 5 rfl) ?_
    refine lv_lshl (v := lN (uv (r.getD (i + k) 0) * 2 ^ (w * k - 8 * j))) hx hb dX3_writeGroup_33 (wb_shl _ (by omega)) ?_
    refine lv_lor hx hb dX3_writeGroup_34 ?_
    have hbl := gv_div_lt hfit i (k := k) hj1
    have hbl2 := gv_div_lt hfit i (j := j) (k := k + 1) (by rw [Nat.mul_succ]; omega)
    have hpw : 2 ^ (w * (k + 1) - 8 * j) ≤ 2 ^ 39 := Nat.pow_le_pow_right (by decide) (by rw [Nat.mul_succ]; omega)
    rw [gv_add r w i hj1] at hbl2
    refine tL_ (y := lN (gv r w i (k + 1) / 256 ^ j)) (by rw [gv_add r w i hj1]; exact g_or' rfl hbl (by omega)) ?_
    refine lv_lstore (lv' := [(4, .long (lN (gv r w i (k + 1) / 256 ^ j))), (0, .ref ow), (1, .ref ro), (2, .int (nI i)), (3, .int (nI w)), (6, .int (nI (w * k - 8 * j))), (7, .int (nI k))]) hx hb dX3_writeGroup_35 hl (by decide) rfl (fun ls hl => ?_)
    refine lv_iload hx hb dX3_writeGroup_37 (lv_at hl 5 rfl) ?_
    refine lv_iload_n hx hb dX3_writeGroup_39 rfl (lv_at hl 4 rfl) ?_
    refine lv_iadd hx hb dX3_writeGroup_40 ?_
    refine tI_ (y := nI ((w * k - 8 * j) + w)) (nI_add _ _) ?_
    refine tI_ (y := nI (w * (k + 1) - 8 * j)) (by rw [Nat.mul_succ]; congr 1; omega) ?_
    refine lv_istore (lv' := [(6, .int (nI (w * (k + 1) - 8 * j))), (4, .long (lN (gv r w i (k + 1) / 256 ^ j))), (0, .ref ow), (1, .ref ro), (2, .int (nI i)), (3, .int (nI w)), (7, .int (nI k))]) hx hb dX3_writeGroup_41 hl (by decide) rfl (fun ls hl => ?_)
    clear hbl hbl2 hpw
    have ihk := ih
    clear ih
    refine k_loop (σ := Nat × (Nat → Int32)) (fun (z : Nat × (Nat → Int32)) H locs ls => match z with
          | (j2, u2) => 8 * j2 ≤ w * (k + 1) ∧ w * (k + 1) ≤ 8 * j2 + 40 ∧ bHas u2 (ad n xs (leb (gv r w i 8) j2)) ∧ va_P (dC, dI) vwCl [(ow, .inr (3, [.ref h])), (h, .inr (0, [.ref a, .int (nI (List.length (ad n xs (leb (gv r w i 8) j2))))])), (a, .inl (cA, n, .inl u2)), (ro, .inr (2, [.ref ra, .int (nI (List.length r))])), (ra, .inl (cR, 4096, .inl fr))] H ∧ va_D A [(ow, .inr (3, [.ref h])), (h, .inr (0, [.ref a, .int (nI (List.length (ad n xs (leb (gv r w i 8) j2))))])), (a, .inl (cA, n, .inl u2)), (ro, .inr (2, [.ref ra, .int (nI (List.length r))])), (ra, .inl (cR, 4096, .inl fr))] ∧ va_S A s.heap H locs ∧ lv_has ls 8 [(0, .ref ow), (1, .ref ro), (2, .int (nI i)), (3, .int (nI w)), (4, .long (lN (gv r w i (k + 1) / 256 ^ j2))), (6, .int (nI (w * (k + 1) - 8 * j2))), (7, .int (nI k))]) (fun z => match z with
          | (j2, u2) => w * (k + 1) - 8 * j2) ?_ ((j, u)) _ _ _ ⟨by rw [Nat.mul_succ]; omega, by rw [Nat.mul_succ]; omega, hu, hP.sub [0, 1, 2, 3, 4] rfl, hD.sub [0, 1, 2, 3, 4] (by decide) rfl, hS, lv_sub hl [2, 3, 4, 5, 1, 0, 6] rfl⟩
    intro z H locs ls hI ih
    obtain ⟨j2, u2⟩ := z
    obtain ⟨hj21, hj22, hu2, hP, hD, hS, hl⟩ := hI
    refine lv_iload hx hb dX3_writeGroup_43 (lv_at hl 5 rfl) ?_
    refine lv_bipush (v := nI 8) hx hb dX3_writeGroup_45 (by decide) ?_
    refine lv_icmp_lt (tgt := 73) hx hb dX3_writeGroup_47 (by decide) (fun c_47 => ?_) (fun c_47 => ?_)
    · rw [nI_ltI (a := (w * (k + 1) - 8 * j2)) (b := 8) (by omega) (by omega)] at c_47
      refine lv_iinc (v := nI (k + 1)) (lv' := [(7, .int (nI (k + 1))), (0, .ref ow), (1, .ref ro), (2, .int (nI i)), (3, .int (nI w)), (4, .long (lN (gv r w i (k + 1) / 256 ^ j2))), (6, .int (nI (w * (k + 1) - 8 * j2)))]) hx hb dX3_writeGroup_73 hl (k := 6) rfl (ii_add (c := 1) (k := 1) k (by decide)) (by decide) rfl (fun ls hl => ?_)
      refine lv_goto (tgt := 9) hx hb dX3_writeGroup_76 (by decide) ?_
      exact ihk (k + 1, j2, u2) _ _ _ ⟨by omega, hj21, by omega, hu2, hP.sub [0, 1, 2, 3, 4] rfl, hD.sub [0, 1, 2, 3, 4] (by decide) rfl, hS, lv_sub hl [1, 2, 3, 4, 5, 6, 0] rfl⟩ (by show 8 - (k + 1) < 8 - k; omega)
    · rw [nI_ltI (a := (w * (k + 1) - 8 * j2)) (b := 8) (by omega) (by omega)] at c_47
      have hbl2 := gv_div_lt hfit i (k := k + 1) hj21
      have hpw : 2 ^ (w * (k + 1) - 8 * j2) ≤ 2 ^ 40 := Nat.pow_le_pow_right (by decide) (by omega)
      refine lv_aload_n hx hb dX3_writeGroup_50 rfl (lv_at hl 0 rfl) ?_
      refine va_get (D := (dC, dI)) (ci := 3) (v := .ref h) (C := RX3) (T := TX3) (N := 1) hx hb hts iX3 hown hK hP 0 rfl rfl 0 (by decide) (hts _ m_43) (fun _ h9 => h9) rfl dX3_writeGroup_51 ?_
      refine lv_lload hx hb dX3_writeGroup_54 (lv_at hl 4 rfl) ?_
      refine lv_l2i (v := nI (gv r w i (k + 1) / 256 ^ j2)) hx hb dX3_writeGroup_56 (lN_i _) ?_
      refine kret_v (wc := [(h, .inr (0, [.ref a, .int (nI (List.length (ad n xs (leb (gv r w i 8) j2))))])), (a, .inl (cA, n, .inl u2))]) (wr := [(ow, .inr (3, [.ref h])), (ro, .inr (2, [.ref ra, .int (nI (List.length r))])), (ra, .inl (cR, 4096, .inl fr))]) (va_runV (As := [.int (nI (gv r w i (k + 1) / 256 ^ j2))]) (rest := []) ⟨hx, hb, hml, hown, hts⟩ (c_Bytes_put l dC dI _ h a cA n u2 (ad n xs (leb (gv r w i 8) j2)) (nI (gv r w i (k + 1) / 256 ^ j2)) hu2 (ad_len _ _) hN) (cwV 1 hts (gdV m_197 m_119 m_120 m_2 m_121) rfl rfl rfl (by decide +kernel) ⟨Nat.le_of_ble_eq_true rfl, Nat.le_of_ble_eq_true rfl⟩) (kpV hNs hK hP hD [1, 2] [0] rfl rfl (by decide) (ci := 0) rfl rfl) rfl rfl hl.1 rfl (lv_room (Nat.le_of_ble_eq_true rfl)) dX3_writeGroup_57 ⟨Nat.le_of_ble_eq_true rfl, Nat.le_of_ble_eq_true rfl⟩) hP hD hS hA [1, 2] [0, 3, 4] rfl rfl (by decide) (by decide) (fun u3 H locs hpo hK1 hP hD hS => ?_)
      have hu3 := hpo
      have hP : va_P (dC, dI) vwCl [(ow, .inr (3, [.ref h])), (ro, .inr (2, [.ref ra, .int (nI (List.length r))])), (ra, .inl (cR, 4096, .inl fr)), (h, .inr (0, [.ref a, .int (nI (List.length (ad n (ad n xs (leb (gv r w i 8) j2)) [uv (nI (gv r w i (k + 1) / 256 ^ j2)) % 256])))])), (a, .inl (cA, n, .inl u3))] H := hP
      have hD : va_D A [(ow, .inr (3, [.ref h])), (ro, .inr (2, [.ref ra, .int (nI (List.length r))])), (ra, .inl (cR, 4096, .inl fr)), (h, .inr (0, [.ref a, .int (nI (List.length (ad n (ad n xs (leb (gv r w i 8) j2)) [uv (nI (gv r w i (k + 1) / 256 ^ j2)) % 256])))])), (a, .inl (cA, n, .inl u3))] := hD
      have hz : ad n (ad n xs (leb (gv r w i 8) j2)) [uv (nI (gv r w i (k + 1) / 256 ^ j2)) % 256] = ad n xs (leb (gv r w i 8) (j2 + 1)) := by rw [ad_ad, uv_mod, leb_succ, Nat.mod_mod_of_dvd _ (by decide), gv_byte r w i (n := 8) (by omega) (by omega)]
      rw [hz] at hP hD hu3
      refine lv_lload hx hb dX3_writeGroup_60 (lv_at hl 4 rfl) ?_
      refine lv_bipush (v := nI 8) hx hb dX3_writeGroup_62 (by decide) ?_
      refine lv_lushr (v := lN (gv r w i (k + 1) / 256 ^ (j2 + 1))) hx hb dX3_writeGroup_64 ((wb_shr (k := 8) (by omega) (by decide)).trans (congrArg lN (by rw [Nat.div_div_eq_div_mul, Nat.pow_succ 256 j2, show 2 ^ 8 = 256 from rfl]))) ?_
      refine lv_lstore (lv' := [(4, .long (lN (gv r w i (k + 1) / 256 ^ (j2 + 1)))), (0, .ref ow), (1, .ref ro), (2, .int (nI i)), (3, .int (nI w)), (6, .int (nI (w * (k + 1) - 8 * j2))), (7, .int (nI k))]) hx hb dX3_writeGroup_65 hl (by decide) rfl (fun ls hl => ?_)
      refine lv_iinc (v := nI ((w * (k + 1) - 8 * j2) - 8)) (lv' := [(6, .int (nI ((w * (k + 1) - 8 * j2) - 8))), (4, .long (lN (gv r w i (k + 1) / 256 ^ (j2 + 1)))), (0, .ref ow), (1, .ref ro), (2, .int (nI i)), (3, .int (nI w)), (7, .int (nI k))]) hx hb dX3_writeGroup_67 hl (k := 5) rfl (ii_sub (c := -8) (k := 8) (by decide) (by omega)) (by decide) rfl (fun ls hl => ?_)
      refine lv_goto (tgt := 43) hx hb dX3_writeGroup_70 (by decide) ?_
      have hz6 : nI (w * (k + 1) - 8 * j2 - 8) = nI (w * (k + 1) - 8 * (j2 + 1)) := by congr 1
      rw [hz6] at hl
      exact ih ((j2 + 1, u3)) _ _ _ ⟨by omega, by omega, hu3, hP.sub [0, 3, 4, 1, 2] rfl, hD.sub [0, 3, 4, 1, 2] (by decide) rfl, hS, lv_sub hl [2, 3, 4, 5, 1, 0, 6] rfl⟩ (by show w * (k + 1) - 8 * (j2 + 1) < w * (k + 1) - 8 * j2; omega)

set_option maxHeartbeats 4000000 in
set_option maxRecDepth 100000 in
/-- Writer.writeGroups(row, from, groups, width) -/
theorem c_writeGroups (l : Launch) (dC : Nat → ClassId) (dI : Nat → Nat → Nat) (sz : Nat) (ow : Nat) (h a : Nat) (cA : ClassId) (n : Nat) (f : Nat → Int32) (xs : List Nat) (ro ra : Nat) (cR : ClassId) (fr : Nat → Int32) (r : List Int32) (i q w : Nat) (hf : bHas f xs) (hn : xs.length ≤ n) (hN : n < 2 ^ 31) (hfr : rHas fr r) (hrn : r.length ≤ 4096) (hi : i + q * 8 < 8192) (hw32 : w ≤ 32) (hfit : fitsW r w) : Met l yX3_writeGroups wsX3_writeGroups ({ frames := 2, cells := 0, slots := 0, locals := 48 }) (va_Pc [.ref ow, .ref ro, .int (nI i), .int (nI q), .int (nI w)] (kB (dC, dI) vwCl [(cA, .byte), (cR, .int)] [(ow, .inr (3, [.ref h])), (h, .inr (0, [.ref a, .int (nI (List.length xs))])), (a, .inl (cA, n, .inl f)), (ro, .inr (2, [.ref ra, .int (nI (List.length r))])), (ra, .inl (cR, 4096, .inl fr))] sz)) (va_Qv (fun (u : Nat → Int32) => bHas u (ad n xs (wGrp r w i q))) (kE (dC, dI) vwCl (va_A [(ow, .inr (3, [.ref h])), (h, .inr (0, [.ref a, .int (nI (List.length xs))])), (a, .inl (cA, n, .inl f)), (ro, .inr (2, [.ref ra, .int (nI (List.length r))])), (ra, .inl (cR, 4096, .inl fr))] sz) (fun _ => [(cA, .byte), (cR, .int)]) (fun u => [(ow, .inr (3, [.ref h])), (h, .inr (0, [.ref a, .int (nI (List.length (ad n xs (wGrp r w i q))))])), (a, .inl (cA, n, .inl u)), (ro, .inr (2, [.ref ra, .int (nI (List.length r))])), (ra, .inl (cR, 4096, .inl fr))])) (va_A [(ow, .inr (3, [.ref h])), (h, .inr (0, [.ref a, .int (nI (List.length xs))])), (a, .inl (cA, n, .inl f)), (ro, .inr (2, [.ref ra, .int (nI (List.length r))])), (ra, .inl (cR, 4096, .inl fr))] sz)) 0 0 (va_A [(ow, .inr (3, [.ref h])), (h, .inr (0, [.ref a, .int (nI (List.length xs))])), (a, .inl (cA, n, .inl f)), (ro, .inr (2, [.ref ra, .int (nI (List.length r))])), (ra, .inl (cR, 4096, .inl fr))] sz) := by
  refine Met.ofW (cc := cX3_writeGroups) (maxL := 6) (ret := none) (by decide) rfl ?_
  intro p e s m args below meth c s₁ B hml hv
  obtain ⟨rfl, hsz, hP, hK, hD0, hNs⟩ := hv
  have hx := B.exec
  have hb := B.bytes
  have hr := B.returns
  have hts := fun w (h : w ∈ lw_g) => atoms_spec (ws := wsX3_writeGroups) B.pre w (List.mem_cons_of_mem _ h)
  have hown : s.vm.findClass RX3 = some m.cls := findClass_of_methodNamed B.named
  have hlocks := B.notSynchronized
  subst hsz
  have hD := hD0.self (sz := s.heap.size)
  generalize hAe : va_A [(ow, .inr (3, [.ref h])), (h, .inr (0, [.ref a, .int (nI (List.length xs))])), (a, .inl (cA, n, .inl f)), (ro, .inr (2, [.ref ra, .int (nI (List.length r))])), (ra, .inl (cR, 4096, .inl fr))] s.heap.size = A at hD ⊢
  have hA : ∀ q : Nat, s.heap.size ≤ q → A q := fun q h => by rw [← hAe]; exact Or.inr h
  have hS : va_S A s.heap s.heap [] := va_S.rf
  have hP : va_P (dC, dI) vwCl [(ow, .inr (3, [.ref h])), (h, .inr (0, [.ref a, .int (nI (List.length xs))])), (a, .inl (cA, n, .inl f)), (ro, .inr (2, [.ref ra, .int (nI (List.length r))])), (ra, .inl (cR, 4096, .inl fr))] s.heap := hP
  have hl := lv_entry ([.ref ow, .ref ro, .int (nI i), .int (nI q), .int (nI w)]) (n := 6) (Nat.le_of_ble_eq_true rfl)
  rw [lg_entry_eq]
  generalize (lg_sl ([.ref ow, .ref ro, .int (nI i), .int (nI q), .int (nI w)]) ++ List.replicate (6 - (lg_sl ([.ref ow, .ref ro, .int (nI i), .int (nI q), .int (nI w)])).length) Slot.unset).toArray = ls at hl ⊢
  have hl : lv_has ls 6 [(0, .ref ow), (1, .ref ro), (2, .int (nI i)), (3, .int (nI q)), (4, .int (nI w))] := hl
  refine lv_aload_n hx hb dX3_writeGroups_0 rfl (lv_at hl 0 rfl) ?_
  refine lv_iload_n hx hb dX3_writeGroups_1 rfl (lv_at hl 3 rfl) ?_
  refine lv_iconst (v := nI 2) hx hb dX3_writeGroups_2 (by decide) ?_
  refine lv_imul hx hb dX3_writeGroups_3 ?_
  refine tI_ (y := nI (q * 2)) (pk_mul _ _) ?_
  refine lv_iconst (v := nI 1) hx hb dX3_writeGroups_4 (by decide) ?_
  refine lv_iadd hx hb dX3_writeGroups_5 ?_
  refine tI_ (y := nI ((q * 2) + 1)) (nI_add _ _) ?_
  refine kret_v (wc := [(ow, .inr (3, [.ref h])), (h, .inr (0, [.ref a, .int (nI (List.length xs))])), (a, .inl (cA, n, .inl f))]) (wr := [(ro, .inr (2, [.ref ra, .int (nI (List.length r))])), (ra, .inl (cR, 4096, .inl fr))]) (va_runV (As := [.int (nI ((q * 2) + 1))]) (rest := []) ⟨hx, hb, hml, hown, hts⟩ (c_writeHead l dC dI _ ow h a cA n f xs (q * 2 + 1) hf hn hN (by omega)) (cwV 1 hts (gdV m_193 m_195 mp_1 m_4 m_196) rfl rfl rfl (by decide +kernel) ⟨Nat.le_of_ble_eq_true rfl, Nat.le_of_ble_eq_true rfl⟩) (kpV hNs hK hP hD [0, 1, 2] [0] rfl rfl (by decide) (ci := 3) rfl rfl) rfl rfl hl.1 rfl (lv_room (Nat.le_of_ble_eq_true rfl)) dX3_writeGroups_6 ⟨Nat.le_of_ble_eq_true rfl, Nat.le_of_ble_eq_true rfl⟩) hP hD hS hA [0, 1, 2] [3, 4] rfl rfl (by decide) (by decide) (fun u H locs hpo hK1 hP hD hS => ?_)
  have hu := hpo
  have hP : va_P (dC, dI) vwCl [(ro, .inr (2, [.ref ra, .int (nI (List.length r))])), (ra, .inl (cR, 4096, .inl fr)), (ow, .inr (3, [.ref h])), (h, .inr (0, [.ref a, .int (nI (List.length (ad n xs (vint 9 (q * 2 + 1)))))])), (a, .inl (cA, n, .inl u))] H := hP
  have hD : va_D A [(ro, .inr (2, [.ref ra, .int (nI (List.length r))])), (ra, .inl (cR, 4096, .inl fr)), (ow, .inr (3, [.ref h])), (h, .inr (0, [.ref a, .int (nI (List.length (ad n xs (vint 9 (q * 2 + 1)))))])), (a, .inl (cA, n, .inl u))] := hD
  have hz0 : ad n xs (vint 9 (q * 2 + 1)) = ad n xs (vint 9 (q * 2 + 1) ++ wgs r w i 0) := by unfold wgs; rw [List.append_nil]
  rw [hz0] at hP hD hu
  refine lv_iconst (v := nI 0) hx hb dX3_writeGroups_9 (by decide) ?_
  refine lv_istore (lv' := [(5, .int (nI 0)), (0, .ref ow), (1, .ref ro), (2, .int (nI i)), (3, .int (nI q)), (4, .int (nI w))]) hx hb dX3_writeGroups_10 hl (by decide) rfl (fun ls hl => ?_)
  refine k_loop (σ := Nat × (Nat → Int32)) (fun (z : Nat × (Nat → Int32)) H locs ls => match z with
        | (d, u) => d ≤ q ∧ bHas u (ad n xs (vint 9 (q * 2 + 1) ++ wgs r w i d)) ∧ va_P (dC, dI) vwCl [(ow, .inr (3, [.ref h])), (h, .inr (0, [.ref a, .int (nI (List.length (ad n xs (vint 9 (q * 2 + 1) ++ wgs r w i d))))])), (a, .inl (cA, n, .inl u)), (ro, .inr (2, [.ref ra, .int (nI (List.length r))])), (ra, .inl (cR, 4096, .inl fr))] H ∧ va_D A [(ow, .inr (3, [.ref h])), (h, .inr (0, [.ref a, .int (nI (List.length (ad n xs (vint 9 (q * 2 + 1) ++ wgs r w i d))))])), (a, .inl (cA, n, .inl u)), (ro, .inr (2, [.ref ra, .int (nI (List.length r))])), (ra, .inl (cR, 4096, .inl fr))] ∧ va_S A s.heap H locs ∧ lv_has ls 6 [(0, .ref ow), (1, .ref ro), (2, .int (nI i)), (3, .int (nI q)), (4, .int (nI w)), (5, .int (nI d))]) (fun z => match z with
        | (d, u) => q - d) ?_ ((0, u)) _ _ _ ⟨Nat.zero_le _, hu, hP.sub [2, 3, 4, 0, 1] rfl, hD.sub [2, 3, 4, 0, 1] (by decide) rfl, hS, lv_sub hl [1, 2, 3, 4, 5, 0] rfl⟩
  intro z H locs ls hI ih
  obtain ⟨d, u⟩ := z
  obtain ⟨hd, hu, hP, hD, hS, hl⟩ := hI
  refine lv_iload hx hb dX3_writeGroups_12 (lv_at hl 5 rfl) ?_
  refine lv_iload_n hx hb dX3_writeGroups_14 rfl (lv_at hl 3 rfl) ?_
  refine lv_icmp_ge (tgt := 38) hx hb dX3_writeGroups_15 (by decide) (fun c_15 => ?_) (fun c_15 => ?_)
  · rw [nI_leI (a := q) (b := d) (by omega) (by omega)] at c_15
    obtain rfl : d = q := by omega
    exact kend_v hx hb hr hlocks dX3_writeGroups_38 hK hP hD hS (u) (hu) [0, 1, 2, 3, 4] [0, 1] rfl (by decide) rfl
  · rw [nI_leI (a := q) (b := d) (by omega) (by omega)] at c_15
    refine lv_aload_n hx hb dX3_writeGroups_18 rfl (lv_at hl 0 rfl) ?_
    refine lv_aload_n hx hb dX3_writeGroups_19 rfl (lv_at hl 1 rfl) ?_
    refine lv_iload_n hx hb dX3_writeGroups_20 rfl (lv_at hl 2 rfl) ?_
    refine lv_iload hx hb dX3_writeGroups_21 (lv_at hl 5 rfl) ?_
    refine lv_bipush (v := nI 8) hx hb dX3_writeGroups_23 (by decide) ?_
    refine lv_imul hx hb dX3_writeGroups_25 ?_
    refine tI_ (y := nI (d * 8)) (pk_mul _ _) ?_
    refine lv_iadd hx hb dX3_writeGroups_26 ?_
    refine tI_ (y := nI (i + (d * 8))) (nI_add _ _) ?_
    refine lv_iload hx hb dX3_writeGroups_27 (lv_at hl 4 rfl) ?_
    refine kret_v (wc := [(ow, .inr (3, [.ref h])), (h, .inr (0, [.ref a, .int (nI (List.length (ad n xs (vint 9 (q * 2 + 1) ++ wgs r w i d))))])), (a, .inl (cA, n, .inl u)), (ro, .inr (2, [.ref ra, .int (nI (List.length r))])), (ra, .inl (cR, 4096, .inl fr))]) (wr := []) (va_runV (As := [.ref ro, .int (nI (i + (d * 8))), .int (nI w)]) (rest := []) ⟨hx, hb, hml, hown, hts⟩ (c_writeGroup l dC dI _ ow h a cA n u (ad n xs (vint 9 (q * 2 + 1) ++ wgs r w i d)) ro ra cR fr r (i + d * 8) w hu (ad_len _ _) hN hfr hrn (by omega) hw32 hfit) (cwV 3 hts (gdV m_209 m_211 mp_4 m_4 m_212) rfl rfl rfl (by decide +kernel) ⟨Nat.le_of_ble_eq_true rfl, Nat.le_of_ble_eq_true rfl⟩) (kpV hNs hK hP hD [0, 1, 2, 3, 4] [0, 1] rfl rfl (by decide) (ci := 3) rfl rfl) rfl rfl hl.1 rfl (lv_room (Nat.le_of_ble_eq_true rfl)) dX3_writeGroups_29 ⟨Nat.le_of_ble_eq_true rfl, Nat.le_of_ble_eq_true rfl⟩) hP hD hS hA [0, 1, 2, 3, 4] [] rfl rfl (by decide) (by decide) (fun u2 H locs hpo hK1 hP hD hS => ?_)
    have hu2 := hpo
    have hP : va_P (dC, dI) vwCl [(ow, .inr (3, [.ref h])), (h, .inr (0, [.ref a, .int (nI (List.length (ad n (ad n xs (vint 9 (q * 2 + 1) ++ wgs r w i d)) (leb (gv r w (i + d * 8) 8) w))))])), (a, .inl (cA, n, .inl u2)), (ro, .inr (2, [.ref ra, .int (nI (List.length r))])), (ra, .inl (cR, 4096, .inl fr))] H := hP
    have hD : va_D A [(ow, .inr (3, [.ref h])), (h, .inr (0, [.ref a, .int (nI (List.length (ad n (ad n xs (vint 9 (q * 2 + 1) ++ wgs r w i d)) (leb (gv r w (i + d * 8) 8) w))))])), (a, .inl (cA, n, .inl u2)), (ro, .inr (2, [.ref ra, .int (nI (List.length r))])), (ra, .inl (cR, 4096, .inl fr))] := hD
    have hz : ad n (ad n xs (vint 9 (q * 2 + 1) ++ wgs r w i d)) (leb (gv r w (i + d * 8) 8) w) = ad n xs (vint 9 (q * 2 + 1) ++ wgs r w i (d + 1)) := by rw [ad_ad, List.append_assoc]; rfl
    rw [hz] at hP hD hu2
    refine lv_iinc (v := nI (d + 1)) (lv' := [(5, .int (nI (d + 1))), (0, .ref ow), (1, .ref ro), (2, .int (nI i)), (3, .int (nI q)), (4, .int (nI w))]) hx hb dX3_writeGroups_32 hl (k := 5) rfl (ii_add (c := 1) (k := 1) d (by decide)) (by decide) rfl (fun ls hl => ?_)
    refine lv_goto (tgt := 12) hx hb dX3_writeGroups_35 (by decide) ?_
    exact ih ((d + 1, u2)) _ _ _ ⟨by omega, hu2, hP.sub [0, 1, 2, 3, 4] rfl, hD.sub [0, 1, 2, 3, 4] (by decide) rfl, hS, lv_sub hl [1, 2, 3, 4, 5, 0] rfl⟩ (by show q - (d + 1) < q - d; omega)

set_option maxHeartbeats 4000000 in
set_option maxRecDepth 100000 in
/-- Writer.groupsFrom(row, from) -/
theorem c_groupsFrom (l : Launch) (dC : Nat → ClassId) (dI : Nat → Nat → Nat) (sz : Nat) (ow h ro ra : Nat) (cR : ClassId) (fr : Nat → Int32) (r : List Int32) (i : Nat) (hfr : rHas fr r) (hrn : r.length ≤ 4096) (hi : i < r.length) : Met l yX3_groupsFrom wsX3_groupsFrom ({ frames := 2, cells := 0, slots := 0, locals := 44 }) (va_Pc [.ref ow, .ref ro, .int (nI i)] (kB (dC, dI) vwCl [(cR, .int)] [(ow, .inr (3, [.ref h])), (ro, .inr (2, [.ref ra, .int (nI (List.length r))])), (ra, .inl (cR, 4096, .inl fr))] sz)) (va_Qi (fun r0 (_ : Unit) => r0 = nI (gf r i) ∧ i + gf r i * 8 < r.length + 8) (kE (dC, dI) vwCl (va_A [(ow, .inr (3, [.ref h])), (ro, .inr (2, [.ref ra, .int (nI (List.length r))])), (ra, .inl (cR, 4096, .inl fr))] sz) (fun _ => [(cR, .int)]) (fun _ => [(ow, .inr (3, [.ref h])), (ro, .inr (2, [.ref ra, .int (nI (List.length r))])), (ra, .inl (cR, 4096, .inl fr))])) (va_A [(ow, .inr (3, [.ref h])), (ro, .inr (2, [.ref ra, .int (nI (List.length r))])), (ra, .inl (cR, 4096, .inl fr))] sz)) 0 0 (va_A [(ow, .inr (3, [.ref h])), (ro, .inr (2, [.ref ra, .int (nI (List.length r))])), (ra, .inl (cR, 4096, .inl fr))] sz) := by
  refine Met.ofW (cc := cX3_groupsFrom) (maxL := 5) (ret := (some .int)) (by decide) rfl ?_
  intro p e s m args below meth c s₁ B hml hv
  obtain ⟨rfl, hsz, hP, hK, hD0, hNs⟩ := hv
  have hx := B.exec
  have hb := B.bytes
  have hr := B.returns
  have hts := fun w (h : w ∈ lw_g) => atoms_spec (ws := wsX3_groupsFrom) B.pre w (List.mem_cons_of_mem _ h)
  have hown : s.vm.findClass RX3 = some m.cls := findClass_of_methodNamed B.named
  have hlocks := B.notSynchronized
  subst hsz
  have hD := hD0.self (sz := s.heap.size)
  generalize hAe : va_A [(ow, .inr (3, [.ref h])), (ro, .inr (2, [.ref ra, .int (nI (List.length r))])), (ra, .inl (cR, 4096, .inl fr))] s.heap.size = A at hD ⊢
  have hA : ∀ q : Nat, s.heap.size ≤ q → A q := fun q h => by rw [← hAe]; exact Or.inr h
  have hS : va_S A s.heap s.heap [] := va_S.rf
  have hP : va_P (dC, dI) vwCl [(ow, .inr (3, [.ref h])), (ro, .inr (2, [.ref ra, .int (nI (List.length r))])), (ra, .inl (cR, 4096, .inl fr))] s.heap := hP
  have hl := lv_entry ([.ref ow, .ref ro, .int (nI i)]) (n := 5) (Nat.le_of_ble_eq_true rfl)
  rw [lg_entry_eq]
  generalize (lg_sl ([.ref ow, .ref ro, .int (nI i)]) ++ List.replicate (5 - (lg_sl ([.ref ow, .ref ro, .int (nI i)])).length) Slot.unset).toArray = ls at hl ⊢
  have hl : lv_has ls 5 [(0, .ref ow), (1, .ref ro), (2, .int (nI i))] := hl
  refine lv_iconst (v := nI 0) hx hb dX3_groupsFrom_0 (by decide) ?_
  refine lv_istore_n (lv' := [(3, .int (nI 0)), (0, .ref ow), (1, .ref ro), (2, .int (nI i))]) hx hb dX3_groupsFrom_1 rfl hl (by decide) rfl (fun ls hl => ?_)
  refine lv_iload_n hx hb dX3_groupsFrom_2 rfl (lv_at hl 3 rfl) ?_
  refine lv_istore (lv' := [(4, .int (nI i)), (3, .int (nI 0)), (0, .ref ow), (1, .ref ro), (2, .int (nI i))]) hx hb dX3_groupsFrom_3 hl (by decide) rfl (fun ls hl => ?_)
  have hl := (show lv_has ls 5 [(4, .int (nI (i + 8 * 0))), (3, .int (nI 0)), (0, .ref ow), (1, .ref ro), (2, .int (nI i))] from hl)
  refine k_loop (σ := Nat) (fun (z : Nat) H locs ls => match z with
        | d => i + 8 * d < r.length + 8 ∧ (∀ q, q < d → i + 8 * q < r.length ∧ same r (i + 8 * q) < 8) ∧ va_P (dC, dI) vwCl [(ow, .inr (3, [.ref h])), (ro, .inr (2, [.ref ra, .int (nI (List.length r))])), (ra, .inl (cR, 4096, .inl fr))] H ∧ va_D A [(ow, .inr (3, [.ref h])), (ro, .inr (2, [.ref ra, .int (nI (List.length r))])), (ra, .inl (cR, 4096, .inl fr))] ∧ va_S A s.heap H locs ∧ lv_has ls 5 [(0, .ref ow), (1, .ref ro), (3, .int (nI d)), (4, .int (nI (i + 8 * d)))]) (fun z => match z with
        | d => r.length + 8 - (i + 8 * d)) ?_ (0) _ _ _ ⟨by omega, fun q h => absurd h (Nat.not_lt_zero q), hP.sub [0, 1, 2] rfl, hD.sub [0, 1, 2] (by decide) rfl, hS, lv_sub hl [2, 3, 1, 0] rfl⟩
  intro z H locs ls hI ih
  obtain ⟨d, rfl⟩ : ∃ y, y = z := ⟨_, rfl⟩
  obtain ⟨hd, hq, hP, hD, hS, hl⟩ := hI
  refine lv_iload hx hb dX3_groupsFrom_5 (lv_at hl 3 rfl) ?_
  refine lv_aload_n hx hb dX3_groupsFrom_7 rfl (lv_at hl 1 rfl) ?_
  refine kret_i (wc := [(ro, .inr (2, [.ref ra, .int (nI (List.length r))])), (ra, .inl (cR, 4096, .inl fr))]) (wr := [(ow, .inr (3, [.ref h]))]) (va_runV (As := []) (rest := [.int (nI (i + 8 * d))]) ⟨hx, hb, hml, hown, hts⟩ (c_Row_count l dC dI _ ro ra cR fr r) (cwV 0 hts (gdV m_180 m_181 m_182 m_6 m_183) rfl rfl rfl (by decide +kernel) ⟨Nat.le_of_ble_eq_true rfl, Nat.le_of_ble_eq_true rfl⟩) (kpV hNs hK hP hD [1, 2] [0] rfl rfl (by decide) (ci := 2) rfl rfl) rfl rfl hl.1 rfl (lv_room (Nat.le_of_ble_eq_true rfl)) dX3_groupsFrom_8 ⟨Nat.le_of_ble_eq_true rfl, Nat.le_of_ble_eq_true rfl⟩) hP hD hS hA [1, 2] [0] rfl rfl (by decide) (by decide) (fun y _ H locs hpo hK1 hP hD hS => ?_)
  have hy := hpo
  have hP : va_P (dC, dI) vwCl [(ow, .inr (3, [.ref h])), (ro, .inr (2, [.ref ra, .int (nI (List.length r))])), (ra, .inl (cR, 4096, .inl fr))] H := hP
  have hD : va_D A [(ow, .inr (3, [.ref h])), (ro, .inr (2, [.ref ra, .int (nI (List.length r))])), (ra, .inl (cR, 4096, .inl fr))] := hD
  subst hy
  refine lv_icmp_ge (tgt := 37) hx hb dX3_groupsFrom_11 (by decide) (fun c_11 => ?_) (fun c_11 => ?_)
  · rw [nI_leI (a := (List.length r)) (b := (i + 8 * d)) (by omega) (by omega)] at c_11
    refine lv_iload_n hx hb dX3_groupsFrom_37 rfl (lv_at hl 2 rfl) ?_
    have hg : gf r i = d := gf_of hq (Or.inl (by omega))
    exact kend_i hx hb hr hlocks dX3_groupsFrom_38 (rfl) hK hP hD hS (()) (⟨by rw [hg], by rw [hg]; omega⟩) [0, 1, 2] [0] rfl (by decide) rfl
  · rw [nI_leI (a := (List.length r)) (b := (i + 8 * d)) (by omega) (by omega)] at c_11
    refine lv_aload_n hx hb dX3_groupsFrom_14 rfl (lv_at hl 1 rfl) ?_
    refine lv_iload hx hb dX3_groupsFrom_15 (lv_at hl 3 rfl) ?_
    refine kret_i (wc := [(ro, .inr (2, [.ref ra, .int (nI (List.length r))])), (ra, .inl (cR, 4096, .inl fr))]) (wr := [(ow, .inr (3, [.ref h]))]) (va_runV (As := [.int (nI (i + 8 * d))]) (rest := []) ⟨hx, hb, hml, hown, hts⟩ (c_Row_same l dC dI _ ro ra cR fr r (i + 8 * d) hfr hrn (by omega)) (cwV 1 hts (gdV m_184 m_185 m_186 m_6 m_187) rfl rfl rfl (by decide +kernel) ⟨Nat.le_of_ble_eq_true rfl, Nat.le_of_ble_eq_true rfl⟩) (kpV hNs hK hP hD [1, 2] [0] rfl rfl (by decide) (ci := 2) rfl rfl) rfl rfl hl.1 rfl (lv_room (Nat.le_of_ble_eq_true rfl)) dX3_groupsFrom_17 ⟨Nat.le_of_ble_eq_true rfl, Nat.le_of_ble_eq_true rfl⟩) hP hD hS hA [1, 2] [0] rfl rfl (by decide) (by decide) (fun y _ H locs hpo hK1 hP hD hS => ?_)
    have hy := hpo
    have hP : va_P (dC, dI) vwCl [(ow, .inr (3, [.ref h])), (ro, .inr (2, [.ref ra, .int (nI (List.length r))])), (ra, .inl (cR, 4096, .inl fr))] H := hP
    have hD : va_D A [(ow, .inr (3, [.ref h])), (ro, .inr (2, [.ref ra, .int (nI (List.length r))])), (ra, .inl (cR, 4096, .inl fr))] := hD
    subst hy
    have hsl := same_le r (i := i + 8 * d) (by omega)
    refine lv_bipush (v := nI 8) hx hb dX3_groupsFrom_20 (by decide) ?_
    refine lv_icmp_lt (tgt := 28) hx hb dX3_groupsFrom_22 (by decide) (fun c_22 => ?_) (fun c_22 => ?_)
    · rw [nI_ltI (a := (same r (i + 8 * d))) (b := 8) (by omega) (by omega)] at c_22
      refine lv_iinc (v := nI (d + 1)) (lv' := [(3, .int (nI (d + 1))), (0, .ref ow), (1, .ref ro), (4, .int (nI (i + 8 * d)))]) hx hb dX3_groupsFrom_28 hl (k := 2) rfl (ii_add (c := 1) (k := 1) d (by decide)) (by decide) rfl (fun ls hl => ?_)
      refine lv_iinc (v := nI ((i + 8 * d) + 8)) (lv' := [(4, .int (nI ((i + 8 * d) + 8))), (3, .int (nI (d + 1))), (0, .ref ow), (1, .ref ro)]) hx hb dX3_groupsFrom_31 hl (k := 3) rfl (ii_add (c := 8) (k := 8) (i + 8 * d) (by decide)) (by decide) rfl (fun ls hl => ?_)
      refine lv_goto (tgt := 5) hx hb dX3_groupsFrom_34 (by decide) ?_
      have hl := (show lv_has ls 5 [(4, .int (nI (i + 8 * (d + 1)))), (3, .int (nI (d + 1))), (0, .ref ow), (1, .ref ro)] from hl)
      exact ih (d + 1) _ _ _ ⟨by omega, fun q h => by
        by_cases hqd : q = d
        · subst hqd; exact ⟨by omega, c_22⟩
        · exact hq q (by omega), hP.sub [0, 1, 2] rfl, hD.sub [0, 1, 2] (by decide) rfl, hS, lv_sub hl [2, 3, 1, 0] rfl⟩ (by show r.length + 8 - (i + 8 * (d + 1)) < r.length + 8 - (i + 8 * d); omega)
    · rw [nI_ltI (a := (same r (i + 8 * d))) (b := 8) (by omega) (by omega)] at c_22
      refine lv_goto (tgt := 37) hx hb dX3_groupsFrom_25 (by decide) ?_
      refine lv_iload_n hx hb dX3_groupsFrom_37 rfl (lv_at hl 2 rfl) ?_
      have hg : gf r i = d := gf_of hq (Or.inr (by omega))
      exact kend_i hx hb hr hlocks dX3_groupsFrom_38 (rfl) hK hP hD hS (()) (⟨by rw [hg], by rw [hg]; omega⟩) [0, 1, 2] [0] rfl (by decide) rfl

set_option maxHeartbeats 4000000 in
set_option maxRecDepth 100000 in
/-- Writer.write(row, width) -/
theorem c_write (l : Launch) (dC : Nat → ClassId) (dI : Nat → Nat → Nat) (sz : Nat) (ow : Nat) (h a : Nat) (cA : ClassId) (n : Nat) (f : Nat → Int32) (xs : List Nat) (ro ra : Nat) (cR : ClassId) (fr : Nat → Int32) (r : List Int32) (w : Nat) (hf : bHas f xs) (hn : xs.length ≤ n) (hN : n < 2 ^ 31) (hfr : rHas fr r) (hrn : r.length ≤ 4096) (hw32 : w ≤ 32) (hfit : fitsW r w) : Met l yX3_write wsX3_write ({ frames := 3, cells := 0, slots := 0, locals := 73 }) (va_Pc [.ref ow, .ref ro, .int (nI w)] (kB (dC, dI) vwCl [(cA, .byte), (cR, .int)] [(ow, .inr (3, [.ref h])), (h, .inr (0, [.ref a, .int (nI (List.length xs))])), (a, .inl (cA, n, .inl f)), (ro, .inr (2, [.ref ra, .int (nI (List.length r))])), (ra, .inl (cR, 4096, .inl fr))] sz)) (va_Qv (fun (u : Nat → Int32) => bHas u (ad n xs (wrF r w 4096 0))) (kE (dC, dI) vwCl (va_A [(ow, .inr (3, [.ref h])), (h, .inr (0, [.ref a, .int (nI (List.length xs))])), (a, .inl (cA, n, .inl f)), (ro, .inr (2, [.ref ra, .int (nI (List.length r))])), (ra, .inl (cR, 4096, .inl fr))] sz) (fun _ => [(cA, .byte), (cR, .int)]) (fun u => [(ow, .inr (3, [.ref h])), (h, .inr (0, [.ref a, .int (nI (List.length (ad n xs (wrF r w 4096 0))))])), (a, .inl (cA, n, .inl u)), (ro, .inr (2, [.ref ra, .int (nI (List.length r))])), (ra, .inl (cR, 4096, .inl fr))])) (va_A [(ow, .inr (3, [.ref h])), (h, .inr (0, [.ref a, .int (nI (List.length xs))])), (a, .inl (cA, n, .inl f)), (ro, .inr (2, [.ref ra, .int (nI (List.length r))])), (ra, .inl (cR, 4096, .inl fr))] sz)) 0 0 (va_A [(ow, .inr (3, [.ref h])), (h, .inr (0, [.ref a, .int (nI (List.length xs))])), (a, .inl (cA, n, .inl f)), (ro, .inr (2, [.ref ra, .int (nI (List.length r))])), (ra, .inl (cR, 4096, .inl fr))] sz) := by
  refine Met.ofW (cc := cX3_write) (maxL := 7) (ret := none) (by decide) rfl ?_
  intro p e s m args below meth c s₁ B hml hv
  obtain ⟨rfl, hsz, hP, hK, hD0, hNs⟩ := hv
  have hx := B.exec
  have hb := B.bytes
  have hr := B.returns
  have hts := fun w (h : w ∈ lw_g) => atoms_spec (ws := wsX3_write) B.pre w (List.mem_cons_of_mem _ h)
  have hown : s.vm.findClass RX3 = some m.cls := findClass_of_methodNamed B.named
  have hlocks := B.notSynchronized
  subst hsz
  have hD := hD0.self (sz := s.heap.size)
  generalize hAe : va_A [(ow, .inr (3, [.ref h])), (h, .inr (0, [.ref a, .int (nI (List.length xs))])), (a, .inl (cA, n, .inl f)), (ro, .inr (2, [.ref ra, .int (nI (List.length r))])), (ra, .inl (cR, 4096, .inl fr))] s.heap.size = A at hD ⊢
  have hA : ∀ q : Nat, s.heap.size ≤ q → A q := fun q h => by rw [← hAe]; exact Or.inr h
  have hS : va_S A s.heap s.heap [] := va_S.rf
  have hP : va_P (dC, dI) vwCl [(ow, .inr (3, [.ref h])), (h, .inr (0, [.ref a, .int (nI (List.length xs))])), (a, .inl (cA, n, .inl f)), (ro, .inr (2, [.ref ra, .int (nI (List.length r))])), (ra, .inl (cR, 4096, .inl fr))] s.heap := hP
  have hl := lv_entry ([.ref ow, .ref ro, .int (nI w)]) (n := 7) (Nat.le_of_ble_eq_true rfl)
  rw [lg_entry_eq]
  generalize (lg_sl ([.ref ow, .ref ro, .int (nI w)]) ++ List.replicate (7 - (lg_sl ([.ref ow, .ref ro, .int (nI w)])).length) Slot.unset).toArray = ls at hl ⊢
  have hl : lv_has ls 7 [(0, .ref ow), (1, .ref ro), (2, .int (nI w))] := hl
  refine lv_iconst (v := nI 0) hx hb dX3_write_0 (by decide) ?_
  refine lv_istore_n (lv' := [(3, .int (nI 0)), (0, .ref ow), (1, .ref ro), (2, .int (nI w))]) hx hb dX3_write_1 rfl hl (by decide) rfl (fun ls hl => ?_)
  refine lv_iconst (v := nI 0) hx hb dX3_write_2 (by decide) ?_
  refine lv_istore (lv' := [(4, .int (nI 0)), (3, .int (nI 0)), (0, .ref ow), (1, .ref ro), (2, .int (nI w))]) hx hb dX3_write_3 hl (by decide) rfl (fun ls hl => ?_)
  refine k_loop (σ := Nat × Nat × (Nat → Int32) × List Nat) (fun (z : Nat × Nat × (Nat → Int32) × List Nat) H locs ls => match z with
        | (k, i, u, ys) => k ≤ 4096 ∧ i < r.length + 8 ∧ bHas u ys ∧ ys.length ≤ n ∧ ad n xs (wrF r w 4096 0) = ad n ys (wrF r w (4096 - k) i) ∧ va_P (dC, dI) vwCl [(ow, .inr (3, [.ref h])), (h, .inr (0, [.ref a, .int (nI (List.length ys))])), (a, .inl (cA, n, .inl u)), (ro, .inr (2, [.ref ra, .int (nI (List.length r))])), (ra, .inl (cR, 4096, .inl fr))] H ∧ va_D A [(ow, .inr (3, [.ref h])), (h, .inr (0, [.ref a, .int (nI (List.length ys))])), (a, .inl (cA, n, .inl u)), (ro, .inr (2, [.ref ra, .int (nI (List.length r))])), (ra, .inl (cR, 4096, .inl fr))] ∧ va_S A s.heap H locs ∧ lv_has ls 7 [(0, .ref ow), (1, .ref ro), (2, .int (nI w)), (3, .int (nI i)), (4, .int (nI k))]) (fun z => match z with
        | (k, i, u, ys) => 4096 - k) ?_ ((0, 0, f, xs)) _ _ _ ⟨by omega, by omega, hf, hn, rfl, hP.sub [0, 1, 2, 3, 4] rfl, hD.sub [0, 1, 2, 3, 4] (by decide) rfl, hS, lv_sub hl [2, 3, 4, 1, 0] rfl⟩
  intro z H locs ls hI ih
  obtain ⟨k, i, u, ys⟩ := z
  obtain ⟨hk, hi, hu, hyn, hinv, hP, hD, hS, hl⟩ := hI
  refine lv_iload hx hb dX3_write_5 (lv_at hl 4 rfl) ?_
  refine lv_sipush (v := nI 4096) hx hb dX3_write_7 (by decide) ?_
  refine lv_icmp_ge (tgt := 86) hx hb dX3_write_10 (by decide) (fun c_10 => ?_) (fun c_10 => ?_)
  · rw [nI_leI (a := 4096) (b := k) (by omega) (by omega)] at c_10
    have hz : ys = ad n xs (wrF r w 4096 0) := by rw [hinv, show 4096 - k = 0 by omega, wrF, ad_nil hyn]
    rw [hz] at hP hD hu
    exact kend_v hx hb hr hlocks dX3_write_86 hK hP hD hS (u) (hu) [0, 1, 2, 3, 4] [0, 1] rfl (by decide) rfl
  · rw [nI_leI (a := 4096) (b := k) (by omega) (by omega)] at c_10
    refine lv_iload_n hx hb dX3_write_13 rfl (lv_at hl 3 rfl) ?_
    refine lv_aload_n hx hb dX3_write_14 rfl (lv_at hl 1 rfl) ?_
    refine kret_i (wc := [(ro, .inr (2, [.ref ra, .int (nI (List.length r))])), (ra, .inl (cR, 4096, .inl fr))]) (wr := [(ow, .inr (3, [.ref h])), (h, .inr (0, [.ref a, .int (nI (List.length ys))])), (a, .inl (cA, n, .inl u))]) (va_runV (As := []) (rest := [.int (nI i)]) ⟨hx, hb, hml, hown, hts⟩ (c_Row_count l dC dI _ ro ra cR fr r) (cwV 0 hts (gdV m_180 m_181 m_182 m_6 m_183) rfl rfl rfl (by decide +kernel) ⟨Nat.le_of_ble_eq_true rfl, Nat.le_of_ble_eq_true rfl⟩) (kpV hNs hK hP hD [3, 4] [1] rfl rfl (by decide) (ci := 2) rfl rfl) rfl rfl hl.1 rfl (lv_room (Nat.le_of_ble_eq_true rfl)) dX3_write_15 ⟨Nat.le_of_ble_eq_true rfl, Nat.le_of_ble_eq_true rfl⟩) hP hD hS hA [3, 4] [0, 1, 2] rfl rfl (by decide) (by decide) (fun y _ H locs hpo hK1 hP hD hS => ?_)
    have hy := hpo
    have hP : va_P (dC, dI) vwCl [(ow, .inr (3, [.ref h])), (h, .inr (0, [.ref a, .int (nI (List.length ys))])), (a, .inl (cA, n, .inl u)), (ro, .inr (2, [.ref ra, .int (nI (List.length r))])), (ra, .inl (cR, 4096, .inl fr))] H := hP
    have hD : va_D A [(ow, .inr (3, [.ref h])), (h, .inr (0, [.ref a, .int (nI (List.length ys))])), (a, .inl (cA, n, .inl u)), (ro, .inr (2, [.ref ra, .int (nI (List.length r))])), (ra, .inl (cR, 4096, .inl fr))] := hD
    subst hy
    refine lv_icmp_ge (tgt := 86) hx hb dX3_write_18 (by decide) (fun c_18 => ?_) (fun c_18 => ?_)
    · rw [nI_leI (a := (List.length r)) (b := i) (by omega) (by omega)] at c_18
      have hz : ys = ad n xs (wrF r w 4096 0) := by rw [hinv, wrF_end (by omega), ad_nil hyn]
      rw [hz] at hP hD hu
      exact kend_v hx hb hr hlocks dX3_write_86 hK hP hD hS (u) (hu) [0, 1, 2, 3, 4] [0, 1] rfl (by decide) rfl
    · rw [nI_leI (a := (List.length r)) (b := i) (by omega) (by omega)] at c_18
      have hlt : i < r.length := by omega
      refine lv_aload_n hx hb dX3_write_21 rfl (lv_at hl 1 rfl) ?_
      refine lv_iload_n hx hb dX3_write_22 rfl (lv_at hl 3 rfl) ?_
      refine kret_i (wc := [(ro, .inr (2, [.ref ra, .int (nI (List.length r))])), (ra, .inl (cR, 4096, .inl fr))]) (wr := [(ow, .inr (3, [.ref h])), (h, .inr (0, [.ref a, .int (nI (List.length ys))])), (a, .inl (cA, n, .inl u))]) (va_runV (As := [.int (nI i)]) (rest := []) ⟨hx, hb, hml, hown, hts⟩ (c_Row_same l dC dI _ ro ra cR fr r i hfr hrn hlt) (cwV 1 hts (gdV m_184 m_185 m_186 m_6 m_187) rfl rfl rfl (by decide +kernel) ⟨Nat.le_of_ble_eq_true rfl, Nat.le_of_ble_eq_true rfl⟩) (kpV hNs hK hP hD [3, 4] [1] rfl rfl (by decide) (ci := 2) rfl rfl) rfl rfl hl.1 rfl (lv_room (Nat.le_of_ble_eq_true rfl)) dX3_write_23 ⟨Nat.le_of_ble_eq_true rfl, Nat.le_of_ble_eq_true rfl⟩) hP hD hS hA [3, 4] [0, 1, 2] rfl rfl (by decide) (by decide) (fun y _ H locs hpo hK1 hP hD hS => ?_)
      have hy := hpo
      have hP : va_P (dC, dI) vwCl [(ow, .inr (3, [.ref h])), (h, .inr (0, [.ref a, .int (nI (List.length ys))])), (a, .inl (cA, n, .inl u)), (ro, .inr (2, [.ref ra, .int (nI (List.length r))])), (ra, .inl (cR, 4096, .inl fr))] H := hP
      have hD : va_D A [(ow, .inr (3, [.ref h])), (h, .inr (0, [.ref a, .int (nI (List.length ys))])), (a, .inl (cA, n, .inl u)), (ro, .inr (2, [.ref ra, .int (nI (List.length r))])), (ra, .inl (cR, 4096, .inl fr))] := hD
      subst hy
      have hsl := same_le r (i := i) (by omega)
      have hsp := same_pos hlt
      refine lv_istore (lv' := [(5, .int (nI (same r i))), (0, .ref ow), (1, .ref ro), (2, .int (nI w)), (3, .int (nI i)), (4, .int (nI k))]) hx hb dX3_write_26 hl (by decide) rfl (fun ls hl => ?_)
      refine lv_iload hx hb dX3_write_28 (lv_at hl 0 rfl) ?_
      refine lv_bipush (v := nI 8) hx hb dX3_write_30 (by decide) ?_
      refine lv_icmp_lt (tgt := 55) hx hb dX3_write_32 (by decide) (fun c_32 => ?_) (fun c_32 => ?_)
      · rw [nI_ltI (a := (same r i)) (b := 8) (by omega) (by omega)] at c_32
        refine lv_aload_n hx hb dX3_write_55 rfl (lv_at hl 1 rfl) ?_
        refine lv_aload_n hx hb dX3_write_56 rfl (lv_at hl 2 rfl) ?_
        refine lv_iload_n hx hb dX3_write_57 rfl (lv_at hl 4 rfl) ?_
        refine kret_i (wc := [(ow, .inr (3, [.ref h])), (ro, .inr (2, [.ref ra, .int (nI (List.length r))])), (ra, .inl (cR, 4096, .inl fr))]) (wr := [(h, .inr (0, [.ref a, .int (nI (List.length ys))])), (a, .inl (cA, n, .inl u))]) (va_runV (As := [.ref ro, .int (nI i)]) (rest := []) ⟨hx, hb, hml, hown, hts⟩ (c_groupsFrom l dC dI _ ow h ro ra cR fr r i hfr hrn hlt) (cwV 2 hts (gdV m_201 m_203 mp_2 m_4 m_204) rfl rfl rfl (by decide +kernel) ⟨Nat.le_of_ble_eq_true rfl, Nat.le_of_ble_eq_true rfl⟩) (kpV hNs hK hP hD [0, 3, 4] [1] rfl rfl (by decide) (ci := 3) rfl rfl) rfl rfl hl.1 rfl (lv_room (Nat.le_of_ble_eq_true rfl)) dX3_write_58 ⟨Nat.le_of_ble_eq_true rfl, Nat.le_of_ble_eq_true rfl⟩) hP hD hS hA [0, 3, 4] [1, 2] rfl rfl (by decide) (by decide) (fun y _ H locs hpo hK1 hP hD hS => ?_)
        obtain ⟨hy, hgl⟩ := hpo
        have hP : va_P (dC, dI) vwCl [(h, .inr (0, [.ref a, .int (nI (List.length ys))])), (a, .inl (cA, n, .inl u)), (ow, .inr (3, [.ref h])), (ro, .inr (2, [.ref ra, .int (nI (List.length r))])), (ra, .inl (cR, 4096, .inl fr))] H := hP
        have hD : va_D A [(h, .inr (0, [.ref a, .int (nI (List.length ys))])), (a, .inl (cA, n, .inl u)), (ow, .inr (3, [.ref h])), (ro, .inr (2, [.ref ra, .int (nI (List.length r))])), (ra, .inl (cR, 4096, .inl fr))] := hD
        subst hy
        refine lv_istore (lv' := [(6, .int (nI (gf r i))), (5, .int (nI (same r i))), (0, .ref ow), (1, .ref ro), (2, .int (nI w)), (3, .int (nI i)), (4, .int (nI k))]) hx hb dX3_write_61 hl (by decide) rfl (fun ls hl => ?_)
        refine lv_aload_n hx hb dX3_write_63 rfl (lv_at hl 2 rfl) ?_
        refine lv_aload_n hx hb dX3_write_64 rfl (lv_at hl 3 rfl) ?_
        refine lv_iload_n hx hb dX3_write_65 rfl (lv_at hl 5 rfl) ?_
        refine lv_iload hx hb dX3_write_66 (lv_at hl 0 rfl) ?_
        refine lv_iload_n hx hb dX3_write_68 rfl (lv_at hl 4 rfl) ?_
        refine kret_v (wc := [(ow, .inr (3, [.ref h])), (h, .inr (0, [.ref a, .int (nI (List.length ys))])), (a, .inl (cA, n, .inl u)), (ro, .inr (2, [.ref ra, .int (nI (List.length r))])), (ra, .inl (cR, 4096, .inl fr))]) (wr := []) (va_runV (As := [.ref ro, .int (nI i), .int (nI (gf r i)), .int (nI w)]) (rest := []) ⟨hx, hb, hml, hown, hts⟩ (c_writeGroups l dC dI _ ow h a cA n u ys ro ra cR fr r i (gf r i) w hu hyn hN hfr hrn (by omega) hw32 hfit) (cwV 4 hts (gdV m_205 m_207 mp_3 m_4 m_208) rfl rfl rfl (by decide +kernel) ⟨Nat.le_of_ble_eq_true rfl, Nat.le_of_ble_eq_true rfl⟩) (kpV hNs hK hP hD [2, 0, 1, 3, 4] [0, 1] rfl rfl (by decide) (ci := 3) rfl rfl) rfl rfl hl.1 rfl (lv_room (Nat.le_of_ble_eq_true rfl)) dX3_write_69 ⟨Nat.le_of_ble_eq_true rfl, Nat.le_of_ble_eq_true rfl⟩) hP hD hS hA [2, 0, 1, 3, 4] [] rfl rfl (by decide) (by decide) (fun u2 H locs hpo hK1 hP hD hS => ?_)
        have hu2 := hpo
        have hP : va_P (dC, dI) vwCl [(ow, .inr (3, [.ref h])), (h, .inr (0, [.ref a, .int (nI (List.length (ad n ys (wGrp r w i (gf r i)))))])), (a, .inl (cA, n, .inl u2)), (ro, .inr (2, [.ref ra, .int (nI (List.length r))])), (ra, .inl (cR, 4096, .inl fr))] H := hP
        have hD : va_D A [(ow, .inr (3, [.ref h])), (h, .inr (0, [.ref a, .int (nI (List.length (ad n ys (wGrp r w i (gf r i)))))])), (a, .inl (cA, n, .inl u2)), (ro, .inr (2, [.ref ra, .int (nI (List.length r))])), (ra, .inl (cR, 4096, .inl fr))] := hD
        refine lv_iload_n hx hb dX3_write_72 rfl (lv_at hl 5 rfl) ?_
        refine lv_iload hx hb dX3_write_73 (lv_at hl 0 rfl) ?_
        refine lv_bipush (v := nI 8) hx hb dX3_write_75 (by decide) ?_
        refine lv_imul hx hb dX3_write_77 ?_
        refine tI_ (y := nI ((gf r i) * 8)) (pk_mul _ _) ?_
        refine lv_iadd hx hb dX3_write_78 ?_
        refine tI_ (y := nI (i + ((gf r i) * 8))) (nI_add _ _) ?_
        refine lv_istore_n (lv' := [(3, .int (nI (i + ((gf r i) * 8)))), (6, .int (nI (gf r i))), (5, .int (nI (same r i))), (0, .ref ow), (1, .ref ro), (2, .int (nI w)), (4, .int (nI k))]) hx hb dX3_write_79 rfl hl (by decide) rfl (fun ls hl => ?_)
        refine lv_iinc (v := nI (k + 1)) (lv' := [(4, .int (nI (k + 1))), (3, .int (nI (i + ((gf r i) * 8)))), (6, .int (nI (gf r i))), (5, .int (nI (same r i))), (0, .ref ow), (1, .ref ro), (2, .int (nI w))]) hx hb dX3_write_80 hl (k := 6) rfl (ii_add (c := 1) (k := 1) k (by decide)) (by decide) rfl (fun ls hl => ?_)
        refine lv_goto (tgt := 5) hx hb dX3_write_83 (by decide) ?_
        exact ih ((k + 1, i + gf r i * 8, u2, ad n ys (wGrp r w i (gf r i)))) _ _ _ ⟨by omega, by omega, hu2, ad_len _ _, by rw [hinv, ad_ad, show 4096 - k = (4096 - (k + 1)) + 1 by omega, wrF_grp hlt (by omega)], hP.sub [0, 1, 2, 3, 4] rfl, hD.sub [0, 1, 2, 3, 4] (by decide) rfl, hS, lv_sub hl [4, 5, 6, 1, 0] rfl⟩ (by show 4096 - (k + 1) < 4096 - k; omega)
      · rw [nI_ltI (a := (same r i)) (b := 8) (by omega) (by omega)] at c_32
        refine lv_aload_n hx hb dX3_write_35 rfl (lv_at hl 1 rfl) ?_
        refine lv_aload_n hx hb dX3_write_36 rfl (lv_at hl 2 rfl) ?_
        refine lv_iload_n hx hb dX3_write_37 rfl (lv_at hl 4 rfl) ?_
        refine kret_i (wc := [(ro, .inr (2, [.ref ra, .int (nI (List.length r))])), (ra, .inl (cR, 4096, .inl fr))]) (wr := [(ow, .inr (3, [.ref h])), (h, .inr (0, [.ref a, .int (nI (List.length ys))])), (a, .inl (cA, n, .inl u))]) (va_runV (As := [.int (nI i)]) (rest := [.ref ow]) ⟨hx, hb, hml, hown, hts⟩ (c_Row_at l dC dI _ ro ra cR fr r (nI i) hfr hrn) (cwV 1 hts (gdV m_188 m_172 m_173 m_6 m_174) rfl rfl rfl (by decide +kernel) ⟨Nat.le_of_ble_eq_true rfl, Nat.le_of_ble_eq_true rfl⟩) (kpV hNs hK hP hD [3, 4] [1] rfl rfl (by decide) (ci := 2) rfl rfl) rfl rfl hl.1 rfl (lv_room (Nat.le_of_ble_eq_true rfl)) dX3_write_38 ⟨Nat.le_of_ble_eq_true rfl, Nat.le_of_ble_eq_true rfl⟩) hP hD hS hA [3, 4] [0, 1, 2] rfl rfl (by decide) (by decide) (fun y _ H locs hpo hK1 hP hD hS => ?_)
        have hy := hpo
        have hP : va_P (dC, dI) vwCl [(ow, .inr (3, [.ref h])), (h, .inr (0, [.ref a, .int (nI (List.length ys))])), (a, .inl (cA, n, .inl u)), (ro, .inr (2, [.ref ra, .int (nI (List.length r))])), (ra, .inl (cR, 4096, .inl fr))] H := hP
        have hD : va_D A [(ow, .inr (3, [.ref h])), (h, .inr (0, [.ref a, .int (nI (List.length ys))])), (a, .inl (cA, n, .inl u)), (ro, .inr (2, [.ref ra, .int (nI (List.length r))])), (ra, .inl (cR, 4096, .inl fr))] := hD
        rw [rAt_nI (by omega) (by omega)] at hy
        subst hy
        refine lv_iload hx hb dX3_write_41 (lv_at hl 0 rfl) ?_
        refine lv_iload_n hx hb dX3_write_43 rfl (lv_at hl 3 rfl) ?_
        refine kret_v (wc := [(ow, .inr (3, [.ref h])), (h, .inr (0, [.ref a, .int (nI (List.length ys))])), (a, .inl (cA, n, .inl u))]) (wr := [(ro, .inr (2, [.ref ra, .int (nI (List.length r))])), (ra, .inl (cR, 4096, .inl fr))]) (va_runV (As := [.int (r.getD i 0), .int (nI (same r i)), .int (nI w)]) (rest := []) ⟨hx, hb, hml, hown, hts⟩ (c_writeOne l dC dI _ ow h a cA n u ys (r.getD i 0) (same r i) w hu hyn hN (by omega) hw32) (cwV 3 hts (gdV m_189 m_191 mp_0 m_4 m_192) rfl rfl rfl (by decide +kernel) ⟨Nat.le_of_ble_eq_true rfl, Nat.le_of_ble_eq_true rfl⟩) (kpV hNs hK hP hD [0, 1, 2] [0] rfl rfl (by decide) (ci := 3) rfl rfl) rfl rfl hl.1 rfl (lv_room (Nat.le_of_ble_eq_true rfl)) dX3_write_44 ⟨Nat.le_of_ble_eq_true rfl, Nat.le_of_ble_eq_true rfl⟩) hP hD hS hA [0, 1, 2] [3, 4] rfl rfl (by decide) (by decide) (fun u2 H locs hpo hK1 hP hD hS => ?_)
        have hu2 := hpo
        have hP : va_P (dC, dI) vwCl [(ro, .inr (2, [.ref ra, .int (nI (List.length r))])), (ra, .inl (cR, 4096, .inl fr)), (ow, .inr (3, [.ref h])), (h, .inr (0, [.ref a, .int (nI (List.length (ad n ys (wOne (r.getD i 0) (same r i) w))))])), (a, .inl (cA, n, .inl u2))] H := hP
        have hD : va_D A [(ro, .inr (2, [.ref ra, .int (nI (List.length r))])), (ra, .inl (cR, 4096, .inl fr)), (ow, .inr (3, [.ref h])), (h, .inr (0, [.ref a, .int (nI (List.length (ad n ys (wOne (r.getD i 0) (same r i) w))))])), (a, .inl (cA, n, .inl u2))] := hD
        refine lv_iload_n hx hb dX3_write_47 rfl (lv_at hl 4 rfl) ?_
        refine lv_iload hx hb dX3_write_48 (lv_at hl 0 rfl) ?_
        refine lv_iadd hx hb dX3_write_50 ?_
        refine tI_ (y := nI (i + (same r i))) (nI_add _ _) ?_
        refine lv_istore_n (lv' := [(3, .int (nI (i + (same r i)))), (5, .int (nI (same r i))), (0, .ref ow), (1, .ref ro), (2, .int (nI w)), (4, .int (nI k))]) hx hb dX3_write_51 rfl hl (by decide) rfl (fun ls hl => ?_)
        refine lv_goto (tgt := 80) hx hb dX3_write_52 (by decide) ?_
        refine lv_iinc (v := nI (k + 1)) (lv' := [(4, .int (nI (k + 1))), (3, .int (nI (i + (same r i)))), (5, .int (nI (same r i))), (0, .ref ow), (1, .ref ro), (2, .int (nI w))]) hx hb dX3_write_80 hl (k := 5) rfl (ii_add (c := 1) (k := 1) k (by decide)) (by decide) rfl (fun ls hl => ?_)
        refine lv_goto (tgt := 5) hx hb dX3_write_83 (by decide) ?_
        exact ih ((k + 1, i + same r i, u2, ad n ys (wOne (r.getD i 0) (same r i) w))) _ _ _ ⟨by omega, by omega, hu2, ad_len _ _, by rw [hinv, ad_ad, show 4096 - k = (4096 - (k + 1)) + 1 by omega, wrF_one hlt (by omega)], hP.sub [2, 3, 4, 0, 1] rfl, hD.sub [2, 3, 4, 0, 1] (by decide) rfl, hS, lv_sub hl [3, 4, 5, 1, 0] rfl⟩ (by show 4096 - (k + 1) < 4096 - k; omega)

