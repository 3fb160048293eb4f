set_option maxHeartbeats 4000000 in
set_option maxRecDepth 100000 in
/-- Bytes.count() -/
theorem c_Bytes_count (l : Launch) (dC : Nat → ClassId) (dI : Nat → Nat → Nat) (sz : Nat) (h a : Nat) (cA : ClassId) (n : Nat) (f : Nat → Int32) (xs : List Nat)  : Met l yX0_count wsX0_count ({ frames := 0, cells := 0, slots := 0, locals := 0 }) (va_Pc [.ref h] (kB (dC, dI) vwCl [(cA, .byte)] [(h, .inr (0, [.ref a, .int (nI (List.length xs))])), (a, .inl (cA, n, .inl f))] sz)) (va_Qi (fun r (_ : Unit) => r = nI xs.length) (kE (dC, dI) vwCl (va_A [(h, .inr (0, [.ref a, .int (nI (List.length xs))])), (a, .inl (cA, n, .inl f))] sz) (fun _ => [(cA, .byte)]) (fun _ => [(h, .inr (0, [.ref a, .int (nI (List.length xs))])), (a, .inl (cA, n, .inl f))])) (va_A [(h, .inr (0, [.ref a, .int (nI (List.length xs))])), (a, .inl (cA, n, .inl f))] sz)) 0 0 (va_A [(h, .inr (0, [.ref a, .int (nI (List.length xs))])), (a, .inl (cA, n, .inl f))] sz) := by
  refine Met.ofW (cc := cX0_count) (maxL := 1) (ret := (some .int)) (by decide) rfl ?_
  intro p e s m args below meth c s₁ B hml hv
  obtain ⟨rfl, hsz, hP, hK, hD0, hNs⟩ := hv
  have hx := B.exec
  have hb := B.bytes
  have hr := B.returns
  have hts := fun w (h : w ∈ lw_g) => atoms_spec (ws := wsX0_count) B.pre w (List.mem_cons_of_mem _ h)
  have hown : s.vm.findClass RX0 = some m.cls := findClass_of_methodNamed B.named
  have hlocks := B.notSynchronized
  subst hsz
  have hD := hD0.self (sz := s.heap.size)
  generalize hAe : va_A [(h, .inr (0, [.ref a, .int (nI (List.length xs))])), (a, .inl (cA, n, .inl f))] s.heap.size = A at hD ⊢
  have hA : ∀ q : Nat, s.heap.size ≤ q → A q := fun q h => by rw [← hAe]; exact Or.inr h
  have hS : va_S A s.heap s.heap [] := va_S.rf
  have hP : va_P (dC, dI) vwCl [(h, .inr (0, [.ref a, .int (nI (List.length xs))])), (a, .inl (cA, n, .inl f))] s.heap := hP
  have hl := lv_entry ([.ref h]) (n := 1) (Nat.le_of_ble_eq_true rfl)
  rw [lg_entry_eq]
  generalize (lg_sl ([.ref h]) ++ List.replicate (1 - (lg_sl ([.ref h])).length) Slot.unset).toArray = ls at hl ⊢
  have hl : lv_has ls 1 [(0, .ref h)] := hl
  refine lv_aload_n hx hb dX0_count_0 rfl (lv_at hl 0 rfl) ?_
  refine va_get (D := (dC, dI)) (ci := 0) (v := .int (nI (List.length xs))) (C := RX0) (T := TX0) (N := 2) hx hb hts iX0 hown hK hP 0 rfl rfl 1 (by decide) (hts _ m_28) (fun _ h9 => h9) rfl dX0_count_1 ?_
  exact kend_i hx hb hr hlocks dX0_count_4 (rfl) hK hP hD hS (()) (rfl) [0, 1] [0] rfl (by decide) rfl

set_option maxHeartbeats 4000000 in
set_option maxRecDepth 100000 in
/-- Bytes.room() -/
theorem c_Bytes_room (l : Launch) (dC : Nat → ClassId) (dI : Nat → Nat → Nat) (sz : Nat) (h a : Nat) (cA : ClassId) (n : Nat) (f : Nat → Int32) (xs : List Nat) (hn : xs.length ≤ n) : Met l yX0_room wsX0_room ({ frames := 0, cells := 0, slots := 0, locals := 0 }) (va_Pc [.ref h] (kB (dC, dI) vwCl [(cA, .byte)] [(h, .inr (0, [.ref a, .int (nI (List.length xs))])), (a, .inl (cA, n, .inl f))] sz)) (va_Qi (fun r (_ : Unit) => r = nI (n - xs.length)) (kE (dC, dI) vwCl (va_A [(h, .inr (0, [.ref a, .int (nI (List.length xs))])), (a, .inl (cA, n, .inl f))] sz) (fun _ => [(cA, .byte)]) (fun _ => [(h, .inr (0, [.ref a, .int (nI (List.length xs))])), (a, .inl (cA, n, .inl f))])) (va_A [(h, .inr (0, [.ref a, .int (nI (List.length xs))])), (a, .inl (cA, n, .inl f))] sz)) 0 0 (va_A [(h, .inr (0, [.ref a, .int (nI (List.length xs))])), (a, .inl (cA, n, .inl f))] sz) := by
  refine Met.ofW (cc := cX0_room) (maxL := 1) (ret := (some .int)) (by decide) rfl ?_
  intro p e s m args below meth c s₁ B hml hv
  obtain ⟨rfl, hsz, hP, hK, hD0, hNs⟩ := hv
  have hx := B.exec
  have hb := B.bytes
  have hr := B.returns
  have hts := fun w (h : w ∈ lw_g) => atoms_spec (ws := wsX0_room) B.pre w (List.mem_cons_of_mem _ h)
  have hown : s.vm.findClass RX0 = some m.cls := findClass_of_methodNamed B.named
  have hlocks := B.notSynchronized
  subst hsz
  have hD := hD0.self (sz := s.heap.size)
  generalize hAe : va_A [(h, .inr (0, [.ref a, .int (nI (List.length xs))])), (a, .inl (cA, n, .inl f))] s.heap.size = A at hD ⊢
  have hA : ∀ q : Nat, s.heap.size ≤ q → A q := fun q h => by rw [← hAe]; exact Or.inr h
  have hS : va_S A s.heap s.heap [] := va_S.rf
  have hP : va_P (dC, dI) vwCl [(h, .inr (0, [.ref a, .int (nI (List.length xs))])), (a, .inl (cA, n, .inl f))] s.heap := hP
  have hl := lv_entry ([.ref h]) (n := 1) (Nat.le_of_ble_eq_true rfl)
  rw [lg_entry_eq]
  generalize (lg_sl ([.ref h]) ++ List.replicate (1 - (lg_sl ([.ref h])).length) Slot.unset).toArray = ls at hl ⊢
  have hl : lv_has ls 1 [(0, .ref h)] := hl
  refine lv_aload_n hx hb dX0_room_0 rfl (lv_at hl 0 rfl) ?_
  refine va_get (D := (dC, dI)) (ci := 0) (v := .ref a) (C := RX0) (T := TX0) (N := 2) hx hb hts iX0 hown hK hP 0 rfl rfl 0 (by decide) (hts _ m_27) (fun _ h9 => h9) rfl dX0_room_1 ?_
  refine va_alen (v := nI n) hx hb hK hP 1 0 rfl rfl rfl dX0_room_4 ?_
  refine lv_aload_n hx hb dX0_room_5 rfl (lv_at hl 0 rfl) ?_
  refine va_get (D := (dC, dI)) (ci := 0) (v := .int (nI (List.length xs))) (C := RX0) (T := TX0) (N := 2) hx hb hts iX0 hown hK hP 0 rfl rfl 1 (by decide) (hts _ m_28) (fun _ h9 => h9) rfl dX0_room_6 ?_
  refine lv_isub hx hb dX0_room_9 ?_
  refine tI_ (y := nI (n - (List.length xs))) (pk_sub (by omega)) ?_
  exact kend_i hx hb hr hlocks dX0_room_10 (rfl) hK hP hD hS (()) (rfl) [0, 1] [0] rfl (by decide) rfl

set_option maxHeartbeats 4000000 in
set_option maxRecDepth 100000 in
/-- Bytes.empty() -/
theorem c_Bytes_empty (l : Launch) (dC : Nat → ClassId) (dI : Nat → Nat → Nat) (sz : Nat) (h a : Nat) (cA : ClassId) (n : Nat) (f : Nat → Int32) (xs : List Nat)  : Met l yX0_empty wsX0_empty ({ frames := 0, cells := 0, slots := 0, locals := 0 }) (va_Pc [.ref h] (kB (dC, dI) vwCl [(cA, .byte)] [(h, .inr (0, [.ref a, .int (nI (List.length xs))])), (a, .inl (cA, n, .inl f))] sz)) (va_Qv (fun (_ : Unit) => True) (kE (dC, dI) vwCl (va_A [(h, .inr (0, [.ref a, .int (nI (List.length xs))])), (a, .inl (cA, n, .inl f))] sz) (fun _ => [(cA, .byte)]) (fun _ => [(h, .inr (0, [.ref a, .int (nI (List.length ([] : List Nat)))])), (a, .inl (cA, n, .inl f))])) (va_A [(h, .inr (0, [.ref a, .int (nI (List.length xs))])), (a, .inl (cA, n, .inl f))] sz)) 0 0 (va_A [(h, .inr (0, [.ref a, .int (nI (List.length xs))])), (a, .inl (cA, n, .inl f))] sz) := by
  refine Met.ofW (cc := cX0_empty) (maxL := 1) (ret := none) (by decide) rfl ?_
  intro p e s m args below meth c s₁ B hml hv
  obtain ⟨rfl, hsz, hP, hK, hD0, hNs⟩ := hv
  have hx := B.exec
  have hb := B.bytes
  have hr := B.returns
  have hts := fun w (h : w ∈ lw_g) => atoms_spec (ws := wsX0_empty) B.pre w (List.mem_cons_of_mem _ h)
  have hown : s.vm.findClass RX0 = some m.cls := findClass_of_methodNamed B.named
  have hlocks := B.notSynchronized
  subst hsz
  have hD := hD0.self (sz := s.heap.size)
  generalize hAe : va_A [(h, .inr (0, [.ref a, .int (nI (List.length xs))])), (a, .inl (cA, n, .inl f))] s.heap.size = A at hD ⊢
  have hA : ∀ q : Nat, s.heap.size ≤ q → A q := fun q h => by rw [← hAe]; exact Or.inr h
  have hS : va_S A s.heap s.heap [] := va_S.rf
  have hP : va_P (dC, dI) vwCl [(h, .inr (0, [.ref a, .int (nI (List.length xs))])), (a, .inl (cA, n, .inl f))] s.heap := hP
  have hl := lv_entry ([.ref h]) (n := 1) (Nat.le_of_ble_eq_true rfl)
  rw [lg_entry_eq]
  generalize (lg_sl ([.ref h]) ++ List.replicate (1 - (lg_sl ([.ref h])).length) Slot.unset).toArray = ls at hl ⊢
  have hl : lv_has ls 1 [(0, .ref h)] := hl
  refine lv_aload_n hx hb dX0_empty_0 rfl (lv_at hl 0 rfl) ?_
  refine lv_iconst (v := nI 0) hx hb dX0_empty_1 (by decide) ?_
  refine va_put (D := (dC, dI)) (ci := 0) (v := .int (nI 0)) (ty := .int) (C := RX0) (T := TX0) (N := 2) hx hb hts iX0 tyX0 tyX0_ok nmX0 hown hK hP hD hS 0 rfl rfl 1 (by decide) (hts _ m_28) (fun _ h9 => h9) rfl (by decide +kernel) rfl rfl (Nat.le_of_ble_eq_true rfl) dX0_empty_2 (fun H locs hP hD hS => ?_)
  have hP : va_P (dC, dI) vwCl [(h, .inr (0, [.ref a, .int (nI 0)])), (a, .inl (cA, n, .inl f))] H := hP
  have hD : va_D A [(h, .inr (0, [.ref a, .int (nI 0)])), (a, .inl (cA, n, .inl f))] := hD
  exact kend_v hx hb hr hlocks dX0_empty_5 hK hP hD hS (()) (trivial) [0, 1] [0] rfl (by decide) rfl

set_option maxHeartbeats 4000000 in
set_option maxRecDepth 100000 in
/-- Bytes.at(k) -/
theorem c_Bytes_at (l : Launch) (dC : Nat → ClassId) (dI : Nat → Nat → Nat) (sz : Nat) (h a : Nat) (cA : ClassId) (n : Nat) (f : Nat → Int32) (xs : List Nat) (x : Int32) (hf : bHas f xs) (hn : xs.length ≤ n) (hN : n < 2 ^ 31) : Met l yX0_at wsX0_at ({ frames := 0, cells := 0, slots := 0, locals := 0 }) (va_Pc [.ref h, .int x] (kB (dC, dI) vwCl [(cA, .byte)] [(h, .inr (0, [.ref a, .int (nI (List.length xs))])), (a, .inl (cA, n, .inl f))] sz)) (va_Qi (fun r (_ : Unit) => r = bAt xs x) (kE (dC, dI) vwCl (va_A [(h, .inr (0, [.ref a, .int (nI (List.length xs))])), (a, .inl (cA, n, .inl f))] sz) (fun _ => [(cA, .byte)]) (fun _ => [(h, .inr (0, [.ref a, .int (nI (List.length xs))])), (a, .inl (cA, n, .inl f))])) (va_A [(h, .inr (0, [.ref a, .int (nI (List.length xs))])), (a, .inl (cA, n, .inl f))] sz)) 0 0 (va_A [(h, .inr (0, [.ref a, .int (nI (List.length xs))])), (a, .inl (cA, n, .inl f))] sz) := by
  refine Met.ofW (cc := cX0_at) (maxL := 2) (ret := (some .int)) (by decide) rfl ?_
  intro p e s m args below meth c s₁ B hml hv
  obtain ⟨rfl, hsz, hP, hK, hD0, hNs⟩ := hv
  have hx := B.exec
  have hb := B.bytes
  have hr := B.returns
  have hts := fun w (h : w ∈ lw_g) => atoms_spec (ws := wsX0_at) B.pre w (List.mem_cons_of_mem _ h)
  have hown : s.vm.findClass RX0 = some m.cls := findClass_of_methodNamed B.named
  have hlocks := B.notSynchronized
  subst hsz
  have hD := hD0.self (sz := s.heap.size)
  generalize hAe : va_A [(h, .inr (0, [.ref a, .int (nI (List.length xs))])), (a, .inl (cA, n, .inl f))] s.heap.size = A at hD ⊢
  have hA : ∀ q : Nat, s.heap.size ≤ q → A q := fun q h => by rw [← hAe]; exact Or.inr h
  have hS : va_S A s.heap s.heap [] := va_S.rf
  have hP : va_P (dC, dI) vwCl [(h, .inr (0, [.ref a, .int (nI (List.length xs))])), (a, .inl (cA, n, .inl f))] s.heap := hP
  have hl := lv_entry ([.ref h, .int x]) (n := 2) (Nat.le_of_ble_eq_true rfl)
  rw [lg_entry_eq]
  generalize (lg_sl ([.ref h, .int x]) ++ List.replicate (2 - (lg_sl ([.ref h, .int x])).length) Slot.unset).toArray = ls at hl ⊢
  have hl : lv_has ls 2 [(0, .ref h), (1, .int x)] := hl
  refine lv_iload_n hx hb dX0_at_0 rfl (lv_at hl 1 rfl) ?_
  refine lv_if_lt (tgt := 21) hx hb dX0_at_1 (by decide) (fun c_1 => ?_) (fun c_1 => ?_)
  · refine lv_iconst (v := (-1)) hx hb dX0_at_21 (by decide) ?_
    exact kend_i hx hb hr hlocks dX0_at_22 (by decide) hK hP hD hS (()) ((bAt_out (Or.inl c_1)).symm) [0, 1] [0] rfl (by decide) rfl
  · refine lv_iload_n hx hb dX0_at_4 rfl (lv_at hl 1 rfl) ?_
    refine lv_aload_n hx hb dX0_at_5 rfl (lv_at hl 0 rfl) ?_
    refine va_get (D := (dC, dI)) (ci := 0) (v := .int (nI (List.length xs))) (C := RX0) (T := TX0) (N := 2) hx hb hts iX0 hown hK hP 0 rfl rfl 1 (by decide) (hts _ m_28) (fun _ h9 => h9) rfl dX0_at_6 ?_
    refine lv_icmp_ge (tgt := 21) hx hb dX0_at_9 (by decide) (fun c_9 => ?_) (fun c_9 => ?_)
    · refine lv_iconst (v := (-1)) hx hb dX0_at_21 (by decide) ?_
      exact kend_i hx hb hr hlocks dX0_at_22 (by decide) hK hP hD hS (()) ((bAt_out (Or.inr c_9)).symm) [0, 1] [0] rfl (by decide) rfl
    · obtain ⟨j, hj, rfl⟩ : ∃ j, j < xs.length ∧ x = nI j := by
        rcases pk_ix x (n := xs.length) (by omega) with q | q | q
        · exact absurd q c_1
        · exact absurd q c_9
        · exact q
      refine lv_iload_n hx hb dX0_at_12 rfl (lv_at hl 1 rfl) ?_
      refine lv_aload_n hx hb dX0_at_13 rfl (lv_at hl 0 rfl) ?_
      refine va_get (D := (dC, dI)) (ci := 0) (v := .ref a) (C := RX0) (T := TX0) (N := 2) hx hb hts iX0 hown hK hP 0 rfl rfl 0 (by decide) (hts _ m_27) (fun _ h9 => h9) rfl dX0_at_14 ?_
      refine va_alen (v := nI n) hx hb hK hP 1 0 rfl rfl rfl dX0_at_17 ?_
      refine lv_icmp_lt (tgt := 23) hx hb dX0_at_18 (by decide) (fun _ => ?_) (fun c_9 => absurd (nI_lt (by omega) (by omega)) c_9)
      refine lv_aload_n hx hb dX0_at_23 rfl (lv_at hl 0 rfl) ?_
      refine va_get (D := (dC, dI)) (ci := 0) (v := .ref a) (C := RX0) (T := TX0) (N := 2) hx hb hts iX0 hown hK hP 0 rfl rfl 0 (by decide) (hts _ m_27) (fun _ h9 => h9) rfl dX0_at_24 ?_
      refine lv_iload_n hx hb dX0_at_27 rfl (lv_at hl 1 rfl) ?_
      refine va_bald hx hb hK hP 1 0 rfl rfl (vp_in_nI (by omega) (by omega)) dX0_at_28 ?_
      refine tI_ (y := f j) (congrArg f (nI_clamp (by omega))) ?_
      refine lv_sipush (v := nI 255) hx hb dX0_at_29 (by decide) ?_
      refine lv_iand hx hb dX0_at_32 ?_
      refine tI_ (y := nI (xs.getD j 0)) (bHas_and hf hj) ?_
      exact kend_i hx hb hr hlocks dX0_at_33 (rfl) hK hP hD hS (()) ((bAt_in hj (by omega)).symm) [0, 1] [0] rfl (by decide) rfl

set_option maxHeartbeats 4000000 in
set_option maxRecDepth 100000 in
/-- Bytes.put(b) -/
theorem c_Bytes_put (l : Launch) (dC : Nat → ClassId) (dI : Nat → Nat → Nat) (sz : Nat) (h a : Nat) (cA : ClassId) (n : Nat) (f : Nat → Int32) (xs : List Nat) (x : Int32) (hf : bHas f xs) (hn : xs.length ≤ n) (hN : n < 2 ^ 31) : Met l yX0_put wsX0_put ({ frames := 0, cells := 0, slots := 0, locals := 0 }) (va_Pc [.ref h, .int x] (kB (dC, dI) vwCl [(cA, .byte)] [(h, .inr (0, [.ref a, .int (nI (List.length xs))])), (a, .inl (cA, n, .inl f))] sz)) (va_Qv (fun (u : Nat → Int32) => bHas u (ad n xs [uv x % 256])) (kE (dC, dI) vwCl (va_A [(h, .inr (0, [.ref a, .int (nI (List.length xs))])), (a, .inl (cA, n, .inl f))] sz) (fun _ => [(cA, .byte)]) (fun u => [(h, .inr (0, [.ref a, .int (nI (List.length (ad n xs [uv x % 256])))])), (a, .inl (cA, n, .inl u))])) (va_A [(h, .inr (0, [.ref a, .int (nI (List.length xs))])), (a, .inl (cA, n, .inl f))] sz)) 0 0 (va_A [(h, .inr (0, [.ref a, .int (nI (List.length xs))])), (a, .inl (cA, n, .inl f))] sz) := by
  refine Met.ofW (cc := cX0_put) (maxL := 2) (ret := none) (by decide) rfl ?_
  intro p e s m args below meth c s₁ B hml hv
  obtain ⟨rfl, hsz, hP, hK, hD0, hNs⟩ := hv
  have hx := B.exec
  have hb := B.bytes
  have hr := B.returns
  have hts := fun w (h : w ∈ lw_g) => atoms_spec (ws := wsX0_put) B.pre w (List.mem_cons_of_mem _ h)
  have hown : s.vm.findClass RX0 = some m.cls := findClass_of_methodNamed B.named
  have hlocks := B.notSynchronized
  subst hsz
  have hD := hD0.self (sz := s.heap.size)
  generalize hAe : va_A [(h, .inr (0, [.ref a, .int (nI (List.length xs))])), (a, .inl (cA, n, .inl f))] s.heap.size = A at hD ⊢
  have hA : ∀ q : Nat, s.heap.size ≤ q → A q := fun q h => by rw [← hAe]; exact Or.inr h
  have hS : va_S A s.heap s.heap [] := va_S.rf
  have hP : va_P (dC, dI) vwCl [(h, .inr (0, [.ref a, .int (nI (List.length xs))])), (a, .inl (cA, n, .inl f))] s.heap := hP
  have hl := lv_entry ([.ref h, .int x]) (n := 2) (Nat.le_of_ble_eq_true rfl)
  rw [lg_entry_eq]
  generalize (lg_sl ([.ref h, .int x]) ++ List.replicate (2 - (lg_sl ([.ref h, .int x])).length) Slot.unset).toArray = ls at hl ⊢
  have hl : lv_has ls 2 [(0, .ref h), (1, .int x)] := hl
  refine lv_aload_n hx hb dX0_put_0 rfl (lv_at hl 0 rfl) ?_
  refine va_get (D := (dC, dI)) (ci := 0) (v := .int (nI (List.length xs))) (C := RX0) (T := TX0) (N := 2) hx hb hts iX0 hown hK hP 0 rfl rfl 1 (by decide) (hts _ m_28) (fun _ h9 => h9) rfl dX0_put_1 ?_
  refine lv_if_lt (tgt := 40) hx hb dX0_put_4 (by decide) (fun c_9 => absurd c_9 (nI_pos (by omega))) (fun _ => ?_)
  refine lv_aload_n hx hb dX0_put_7 rfl (lv_at hl 0 rfl) ?_
  refine va_get (D := (dC, dI)) (ci := 0) (v := .int (nI (List.length xs))) (C := RX0) (T := TX0) (N := 2) hx hb hts iX0 hown hK hP 0 rfl rfl 1 (by decide) (hts _ m_28) (fun _ h9 => h9) rfl dX0_put_8 ?_
  refine lv_aload_n hx hb dX0_put_11 rfl (lv_at hl 0 rfl) ?_
  refine va_get (D := (dC, dI)) (ci := 0) (v := .ref a) (C := RX0) (T := TX0) (N := 2) hx hb hts iX0 hown hK hP 0 rfl rfl 0 (by decide) (hts _ m_27) (fun _ h9 => h9) rfl dX0_put_12 ?_
  refine va_alen (v := nI n) hx hb hK hP 1 0 rfl rfl rfl dX0_put_15 ?_
  refine lv_icmp_ge (tgt := 40) hx hb dX0_put_16 (by decide) (fun c_16 => ?_) (fun c_16 => ?_)
  · rw [nI_leI (a := n) (b := (List.length xs)) (by omega) (by omega)] at c_16
    have hz : ad n xs [uv x % 256] = xs := ad_full (by omega)
    rw [← hz] at hP hD
    exact kend_v hx hb hr hlocks dX0_put_40 hK hP hD hS (f) (by rw [hz]; exact hf) [0, 1] [0] rfl (by decide) rfl
  · rw [nI_leI (a := n) (b := (List.length xs)) (by omega) (by omega)] at c_16
    refine lv_aload_n hx hb dX0_put_19 rfl (lv_at hl 0 rfl) ?_
    refine va_get (D := (dC, dI)) (ci := 0) (v := .ref a) (C := RX0) (T := TX0) (N := 2) hx hb hts iX0 hown hK hP 0 rfl rfl 0 (by decide) (hts _ m_27) (fun _ h9 => h9) rfl dX0_put_20 ?_
    refine lv_aload_n hx hb dX0_put_23 rfl (lv_at hl 0 rfl) ?_
    refine va_get (D := (dC, dI)) (ci := 0) (v := .int (nI (List.length xs))) (C := RX0) (T := TX0) (N := 2) hx hb hts iX0 hown hK hP 0 rfl rfl 1 (by decide) (hts _ m_28) (fun _ h9 => h9) rfl dX0_put_24 ?_
    refine lv_iload_n hx hb dX0_put_27 rfl (lv_at hl 1 rfl) ?_
    refine lv_i2b (v := sb_b (uv x % 256)) hx hb dX0_put_28 (sb_uv x) ?_
    refine va_bast hx hb hK hP hD hS 1 0 rfl rfl (vp_in_nI (by omega) (by omega)) dX0_put_29 (fun H locs hP hD hS => ?_)
    rw [nI_clamp (n := (List.length xs)) (by omega)] at hP hD
    have hP : va_P (dC, dI) vwCl [(h, .inr (0, [.ref a, .int (nI (List.length xs))])), (a, .inl (cA, n, .inl (upd f (List.length xs) (vp_nar .byte (sb_b (uv x % 256))))))] H := hP
    have hD : va_D A [(h, .inr (0, [.ref a, .int (nI (List.length xs))])), (a, .inl (cA, n, .inl (upd f (List.length xs) (vp_nar .byte (sb_b (uv x % 256))))))] := hD
    refine lv_aload_n hx hb dX0_put_30 rfl (lv_at hl 0 rfl) ?_
    refine lv_dup hx hb dX0_put_31 rfl ?_
    refine va_get (D := (dC, dI)) (ci := 0) (v := .int (nI (List.length xs))) (C := RX0) (T := TX0) (N := 2) hx hb hts iX0 hown hK hP 0 rfl rfl 1 (by decide) (hts _ m_28) (fun _ h9 => h9) rfl dX0_put_32 ?_
    refine lv_iconst (v := nI 1) hx hb dX0_put_35 (by decide) ?_
    refine lv_iadd hx hb dX0_put_36 ?_
    refine tI_ (y := nI ((List.length xs) + 1)) (nI_add _ _) ?_
    have hz : ad n xs [uv x % 256] = xs ++ [uv x % 256] := ad_room (by simp; omega)
    refine tI_ (y := nI (List.length (ad n xs [uv x % 256]))) (by rw [hz]; simp) ?_
    refine va_put (D := (dC, dI)) (ci := 0) (v := .int (nI (List.length (ad n xs [uv x % 256])))) (ty := .int) (C := RX0) (T := TX0) (N := 2) hx hb hts iX0 tyX0 tyX0_ok nmX0 hown hK hP hD hS 0 rfl rfl 1 (by decide) (hts _ m_28) (fun _ h9 => h9) rfl (by decide +kernel) rfl rfl (Nat.le_of_ble_eq_true rfl) dX0_put_37 (fun H locs hP hD hS => ?_)
    have hP : va_P (dC, dI) vwCl [(h, .inr (0, [.ref a, .int (nI (List.length (ad n xs [uv x % 256])))])), (a, .inl (cA, n, .inl (upd f (List.length xs) (vp_nar .byte (sb_b (uv x % 256))))))] H := hP
    have hD : va_D A [(h, .inr (0, [.ref a, .int (nI (List.length (ad n xs [uv x % 256])))])), (a, .inl (cA, n, .inl (upd f (List.length xs) (vp_nar .byte (sb_b (uv x % 256))))))] := hD
    have hb8 : vp_nar .byte (sb_b (uv x % 256)) = sb_b (uv x % 256) := pk_vb _
    rw [hb8] at hP hD
    exact kend_v hx hb hr hlocks dX0_put_40 hK hP hD hS (upd f xs.length (sb_b (uv x % 256))) (by rw [hz]; exact bHas_push hf (by omega)) [0, 1] [0] rfl (by decide) rfl

set_option maxHeartbeats 4000000 in
set_option maxRecDepth 100000 in
/-- Bytes.putFour(number) -/
theorem c_Bytes_putFour (l : Launch) (dC : Nat → ClassId) (dI : Nat → Nat → Nat) (sz : Nat) (h a : Nat) (cA : ClassId) (n : Nat) (f : Nat → Int32) (xs : List Nat) (x : Int32) (hf : bHas f xs) (hn : xs.length ≤ n) (hN : n < 2 ^ 31) : Met l yX0_putFour wsX0_putFour ({ frames := 1, cells := 0, slots := 0, locals := 21 }) (va_Pc [.ref h, .int x] (kB (dC, dI) vwCl [(cA, .byte)] [(h, .inr (0, [.ref a, .int (nI (List.length xs))])), (a, .inl (cA, n, .inl f))] sz)) (va_Qv (fun (u : Nat → Int32) => bHas u (ad n xs (four x))) (kE (dC, dI) vwCl (va_A [(h, .inr (0, [.ref a, .int (nI (List.length xs))])), (a, .inl (cA, n, .inl f))] sz) (fun _ => [(cA, .byte)]) (fun u => [(h, .inr (0, [.ref a, .int (nI (List.length (ad n xs (four x))))])), (a, .inl (cA, n, .inl u))])) (va_A [(h, .inr (0, [.ref a, .int (nI (List.length xs))])), (a, .inl (cA, n, .inl f))] sz)) 0 0 (va_A [(h, .inr (0, [.ref a, .int (nI (List.length xs))])), (a, .inl (cA, n, .inl f))] sz) := by
  refine Met.ofW (cc := cX0_putFour) (maxL := 3) (ret := none) (by decide) rfl ?_
  intro p e s m args below meth c s₁ B hml hv
  obtain ⟨rfl, hsz, hP, hK, hD0, hNs⟩ := hv
  have hx := B.exec
  have hb := B.bytes
  have hr := B.returns
  have hts := fun w (h : w ∈ lw_g) => atoms_spec (ws := wsX0_putFour) B.pre w (List.mem_cons_of_mem _ h)
  have hown : s.vm.findClass RX0 = some m.cls := findClass_of_methodNamed B.named
  have hlocks := B.notSynchronized
  subst hsz
  have hD := hD0.self (sz := s.heap.size)
  generalize hAe : va_A [(h, .inr (0, [.ref a, .int (nI (List.length xs))])), (a, .inl (cA, n, .inl f))] s.heap.size = A at hD ⊢
  have hA : ∀ q : Nat, s.heap.size ≤ q → A q := fun q h => by rw [← hAe]; exact Or.inr h
  have hS : va_S A s.heap s.heap [] := va_S.rf
  have hP : va_P (dC, dI) vwCl [(h, .inr (0, [.ref a, .int (nI (List.length xs))])), (a, .inl (cA, n, .inl f))] s.heap := hP
  have hl := lv_entry ([.ref h, .int x]) (n := 3) (Nat.le_of_ble_eq_true rfl)
  rw [lg_entry_eq]
  generalize (lg_sl ([.ref h, .int x]) ++ List.replicate (3 - (lg_sl ([.ref h, .int x])).length) Slot.unset).toArray = ls at hl ⊢
  have hl : lv_has ls 3 [(0, .ref h), (1, .int x)] := hl
  refine lv_bipush (v := nI 24) hx hb dX0_putFour_0 (by decide) ?_
  refine lv_istore_n (lv' := [(2, .int (nI 24)), (0, .ref h), (1, .int x)]) hx hb dX0_putFour_2 rfl hl (by decide) rfl (fun ls hl => ?_)
  refine lv_iload_n hx hb dX0_putFour_3 rfl (lv_at hl 0 rfl) ?_
  refine lv_if_lt (tgt := 20) hx hb dX0_putFour_4 (by decide) (fun c_9 => absurd c_9 (by decide)) (fun _ => ?_)
  refine lv_aload_n hx hb dX0_putFour_7 rfl (lv_at hl 1 rfl) ?_
  refine lv_iload_n hx hb dX0_putFour_8 rfl (lv_at hl 2 rfl) ?_
  refine lv_iload_n hx hb dX0_putFour_9 rfl (lv_at hl 0 rfl) ?_
  refine lv_iushr (v := sh x 24) hx hb dX0_putFour_10 (rfl) ?_
  refine kret_v (wc := [(h, .inr (0, [.ref a, .int (nI (List.length xs))])), (a, .inl (cA, n, .inl f))]) (wr := []) (va_runV (As := [.int (sh x 24)]) (rest := []) ⟨hx, hb, hml, hown, hts⟩ (c_Bytes_put l dC dI _ h a cA n f xs (sh x 24) hf hn hN) (cwV 1 hts (gdV m_118 m_119 m_120 m_2 m_121) rfl rfl rfl (by decide +kernel) ⟨Nat.le_of_ble_eq_true rfl, Nat.le_of_ble_eq_true rfl⟩) (kpV hNs hK hP hD [0, 1] [0] rfl rfl (by decide) (ci := 0) rfl rfl) rfl rfl hl.1 rfl (lv_room (Nat.le_of_ble_eq_true rfl)) dX0_putFour_11 ⟨Nat.le_of_ble_eq_true rfl, Nat.le_of_ble_eq_true rfl⟩) hP hD hS hA [0, 1] [] rfl rfl (by decide) (by decide) (fun f1 H locs hpo hK1 hP hD hS => ?_)
  have hf1 := hpo
  have hP : va_P (dC, dI) vwCl [(h, .inr (0, [.ref a, .int (nI (List.length (ad n xs [uv (sh x 24) % 256])))])), (a, .inl (cA, n, .inl f1))] H := hP
  have hD : va_D A [(h, .inr (0, [.ref a, .int (nI (List.length (ad n xs [uv (sh x 24) % 256])))])), (a, .inl (cA, n, .inl f1))] := hD
  have hn1 : List.length (ad n xs [uv (sh x 24) % 256]) ≤ n := ad_len _ _
  generalize hys1 : ad n xs [uv (sh x 24) % 256] = ys1 at hP hD hf1 hn1
  refine lv_iinc (v := nI 16) (lv' := [(2, .int (nI 16)), (0, .ref h), (1, .int x)]) hx hb dX0_putFour_14 hl (k := 0) rfl (by decide) (by decide) rfl (fun ls hl => ?_)
  refine lv_goto (tgt := 3) hx hb dX0_putFour_17 (by decide) ?_
  refine lv_iload_n hx hb dX0_putFour_3 rfl (lv_at hl 0 rfl) ?_
  refine lv_if_lt (tgt := 20) hx hb dX0_putFour_4 (by decide) (fun c_9 => absurd c_9 (by decide)) (fun _ => ?_)
  refine lv_aload_n hx hb dX0_putFour_7 rfl (lv_at hl 1 rfl) ?_
  refine lv_iload_n hx hb dX0_putFour_8 rfl (lv_at hl 2 rfl) ?_
  refine lv_iload_n hx hb dX0_putFour_9 rfl (lv_at hl 0 rfl) ?_
  refine lv_iushr (v := sh x 16) hx hb dX0_putFour_10 (rfl) ?_
  refine kret_v (wc := [(h, .inr (0, [.ref a, .int (nI (List.length ys1))])), (a, .inl (cA, n, .inl f1))]) (wr := []) (va_runV (As := [.int (sh x 16)]) (rest := []) ⟨hx, hb, hml, hown, hts⟩ (c_Bytes_put l dC dI _ h a cA n f1 ys1 (sh x 16) hf1 hn1 hN) (cwV 1 hts (gdV m_118 m_119 m_120 m_2 m_121) rfl rfl rfl (by decide +kernel) ⟨Nat.le_of_ble_eq_true rfl, Nat.le_of_ble_eq_true rfl⟩) (kpV hNs hK hP hD [0, 1] [0] rfl rfl (by decide) (ci := 0) rfl rfl) rfl rfl hl.1 rfl (lv_room (Nat.le_of_ble_eq_true rfl)) dX0_putFour_11 ⟨Nat.le_of_ble_eq_true rfl, Nat.le_of_ble_eq_true rfl⟩) hP hD hS hA [0, 1] [] rfl rfl (by decide) (by decide) (fun f2 H locs hpo hK1 hP hD hS => ?_)
  have hf2 := hpo
  have hP : va_P (dC, dI) vwCl [(h, .inr (0, [.ref a, .int (nI (List.length (ad n ys1 [uv (sh x 16) % 256])))])), (a, .inl (cA, n, .inl f2))] H := hP
  have hD : va_D A [(h, .inr (0, [.ref a, .int (nI (List.length (ad n ys1 [uv (sh x 16) % 256])))])), (a, .inl (cA, n, .inl f2))] := hD
  have hn2 : List.length (ad n ys1 [uv (sh x 16) % 256]) ≤ n := ad_len _ _
  generalize hys2 : ad n ys1 [uv (sh x 16) % 256] = ys2 at hP hD hf2 hn2
  refine lv_iinc (v := nI 8) (lv' := [(2, .int (nI 8)), (0, .ref h), (1, .int x)]) hx hb dX0_putFour_14 hl (k := 0) rfl (by decide) (by decide) rfl (fun ls hl => ?_)
  refine lv_goto (tgt := 3) hx hb dX0_putFour_17 (by decide) ?_
  refine lv_iload_n hx hb dX0_putFour_3 rfl (lv_at hl 0 rfl) ?_
  refine lv_if_lt (tgt := 20) hx hb dX0_putFour_4 (by decide) (fun c_9 => absurd c_9 (by decide)) (fun _ => ?_)
  refine lv_aload_n hx hb dX0_putFour_7 rfl (lv_at hl 1 rfl) ?_
  refine lv_iload_n hx hb dX0_putFour_8 rfl (lv_at hl 2 rfl) ?_
  refine lv_iload_n hx hb dX0_putFour_9 rfl (lv_at hl 0 rfl) ?_
  refine lv_iushr (v := sh x 8) hx hb dX0_putFour_10 (rfl) ?_
  refine kret_v (wc := [(h, .inr (0, [.ref a, .int (nI (List.length ys2))])), (a, .inl (cA, n, .inl f2))]) (wr := []) (va_runV (As := [.int (sh x 8)]) (rest := []) ⟨hx, hb, hml, hown, hts⟩ (c_Bytes_put l dC dI _ h a cA n f2 ys2 (sh x 8) hf2 hn2 hN) (cwV 1 hts (gdV m_118 m_119 m_120 m_2 m_121) rfl rfl rfl (by decide +kernel) ⟨Nat.le_of_ble_eq_true rfl, Nat.le_of_ble_eq_true rfl⟩) (kpV hNs hK hP hD [0, 1] [0] rfl rfl (by decide) (ci := 0) rfl rfl) rfl rfl hl.1 rfl (lv_room (Nat.le_of_ble_eq_true rfl)) dX0_putFour_11 ⟨Nat.le_of_ble_eq_true rfl, Nat.le_of_ble_eq_true rfl⟩) hP hD hS hA [0, 1] [] rfl rfl (by decide) (by decide) (fun f3 H locs hpo hK1 hP hD hS => ?_)
  have hf3 := hpo
  have hP : va_P (dC, dI) vwCl [(h, .inr (0, [.ref a, .int (nI (List.length (ad n ys2 [uv (sh x 8) % 256])))])), (a, .inl (cA, n, .inl f3))] H := hP
  have hD : va_D A [(h, .inr (0, [.ref a, .int (nI (List.length (ad n ys2 [uv (sh x 8) % 256])))])), (a, .inl (cA, n, .inl f3))] := hD
  have hn3 : List.length (ad n ys2 [uv (sh x 8) % 256]) ≤ n := ad_len _ _
  generalize hys3 : ad n ys2 [uv (sh x 8) % 256] = ys3 at hP hD hf3 hn3
  refine lv_iinc (v := nI 0) (lv' := [(2, .int (nI 0)), (0, .ref h), (1, .int x)]) hx hb dX0_putFour_14 hl (k := 0) rfl (by decide) (by decide) rfl (fun ls hl => ?_)
  refine lv_goto (tgt := 3) hx hb dX0_putFour_17 (by decide) ?_
  refine lv_iload_n hx hb dX0_putFour_3 rfl (lv_at hl 0 rfl) ?_
  refine lv_if_lt (tgt := 20) hx hb dX0_putFour_4 (by decide) (fun c_9 => absurd c_9 (by decide)) (fun _ => ?_)
  refine lv_aload_n hx hb dX0_putFour_7 rfl (lv_at hl 1 rfl) ?_
  refine lv_iload_n hx hb dX0_putFour_8 rfl (lv_at hl 2 rfl) ?_
  refine lv_iload_n hx hb dX0_putFour_9 rfl (lv_at hl 0 rfl) ?_
  refine lv_iushr (v := sh x 0) hx hb dX0_putFour_10 (rfl) ?_
  refine kret_v (wc := [(h, .inr (0, [.ref a, .int (nI (List.length ys3))])), (a, .inl (cA, n, .inl f3))]) (wr := []) (va_runV (As := [.int (sh x 0)]) (rest := []) ⟨hx, hb, hml, hown, hts⟩ (c_Bytes_put l dC dI _ h a cA n f3 ys3 (sh x 0) hf3 hn3 hN) (cwV 1 hts (gdV m_118 m_119 m_120 m_2 m_121) rfl rfl rfl (by decide +kernel) ⟨Nat.le_of_ble_eq_true rfl, Nat.le_of_ble_eq_true rfl⟩) (kpV hNs hK hP hD [0, 1] [0] rfl rfl (by decide) (ci := 0) rfl rfl) rfl rfl hl.1 rfl (lv_room (Nat.le_of_ble_eq_true rfl)) dX0_putFour_11 ⟨Nat.le_of_ble_eq_true rfl, Nat.le_of_ble_eq_true rfl⟩) hP hD hS hA [0, 1] [] rfl rfl (by decide) (by decide) (fun f4 H locs hpo hK1 hP hD hS => ?_)
  have hf4 := hpo
  have hP : va_P (dC, dI) vwCl [(h, .inr (0, [.ref a, .int (nI (List.length (ad n ys3 [uv (sh x 0) % 256])))])), (a, .inl (cA, n, .inl f4))] H := hP
  have hD : va_D A [(h, .inr (0, [.ref a, .int (nI (List.length (ad n ys3 [uv (sh x 0) % 256])))])), (a, .inl (cA, n, .inl f4))] := hD
  have hn4 : List.length (ad n ys3 [uv (sh x 0) % 256]) ≤ n := ad_len _ _
  generalize hys4 : ad n ys3 [uv (sh x 0) % 256] = ys4 at hP hD hf4 hn4
  refine lv_iinc (v := (-8)) (lv' := [(2, .int (-8)), (0, .ref h), (1, .int x)]) hx hb dX0_putFour_14 hl (k := 0) rfl (by decide) (by decide) rfl (fun ls hl => ?_)
  refine lv_goto (tgt := 3) hx hb dX0_putFour_17 (by decide) ?_
  refine lv_iload_n hx hb dX0_putFour_3 rfl (lv_at hl 0 rfl) ?_
  refine lv_if_lt (tgt := 20) hx hb dX0_putFour_4 (by decide) (fun _ => ?_) (fun c_9 => absurd (by decide) c_9)
  have hz : ys4 = ad n xs (four x) := by rw [← hys4, ← hys3, ← hys2, ← hys1, ad_ad, ad_ad, ad_ad, uv_sh x (by decide), uv_sh x (by decide), uv_sh x (by decide), uv_sh x (by decide)]; rfl
  rw [hz] at hP hD hf4
  exact kend_v hx hb hr hlocks dX0_putFour_20 hK hP hD hS (f4) (hf4) [0, 1] [0] rfl (by decide) rfl

set_option maxHeartbeats 4000000 in
set_option maxRecDepth 100000 in
/-- Bytes.become(other, n) -/
theorem c_Bytes_become (l : Launch) (dC : Nat → ClassId) (dI : Nat → Nat → Nat) (sz : Nat) (h a : Nat) (cA : ClassId) (n : Nat) (f : Nat → Int32) (xs : List Nat) (h2 a2 : Nat) (cB : ClassId) (n2 : Nat) (g : Nat → Int32) (ys : List Nat) (x : Int32) (hf : bHas f xs) (hn : xs.length ≤ n) (hN : n < 2 ^ 31) (hg : bHas g ys) (hn2 : ys.length ≤ n2) (hN2 : n2 < 2 ^ 31) : Met l yX0_become wsX0_become ({ frames := 1, cells := 0, slots := 0, locals := 60 }) (va_Pc [.ref h, .ref h2, .int x] (kB (dC, dI) vwCl [(cA, .byte), (cB, .byte)] [(h, .inr (0, [.ref a, .int (nI (List.length xs))])), (a, .inl (cA, n, .inl f)), (h2, .inr (0, [.ref a2, .int (nI (List.length ys))])), (a2, .inl (cB, n2, .inl g))] sz)) (va_Qi (fun r (u : (Nat → Int32) × List Nat) => bHas u.1 u.2 ∧ bec n xs ys x r u.2) (kE (dC, dI) vwCl (va_A [(h, .inr (0, [.ref a, .int (nI (List.length xs))])), (a, .inl (cA, n, .inl f)), (h2, .inr (0, [.ref a2, .int (nI (List.length ys))])), (a2, .inl (cB, n2, .inl g))] sz) (fun _ => [(cA, .byte), (cB, .byte)]) (fun u => [(h, .inr (0, [.ref a, .int (nI (List.length u.2))])), (a, .inl (cA, n, .inl u.1)), (h2, .inr (0, [.ref a2, .int (nI (List.length ys))])), (a2, .inl (cB, n2, .inl g))])) (va_A [(h, .inr (0, [.ref a, .int (nI (List.length xs))])), (a, .inl (cA, n, .inl f)), (h2, .inr (0, [.ref a2, .int (nI (List.length ys))])), (a2, .inl (cB, n2, .inl g))] sz)) 0 0 (va_A [(h, .inr (0, [.ref a, .int (nI (List.length xs))])), (a, .inl (cA, n, .inl f)), (h2, .inr (0, [.ref a2, .int (nI (List.length ys))])), (a2, .inl (cB, n2, .inl g))] sz) := by
  refine Met.ofW (cc := cX0_become) (maxL := 3) (ret := (some .boolean)) (by decide) rfl ?_
  intro p e s m args below meth c s₁ B hml hv
  obtain ⟨rfl, hsz, hP, hK, hD0, hNs⟩ := hv
  have hx := B.exec
  have hb := B.bytes
  have hr := B.returns
  have hts := fun w (h : w ∈ lw_g) => atoms_spec (ws := wsX0_become) B.pre w (List.mem_cons_of_mem _ h)
  have hown : s.vm.findClass RX0 = some m.cls := findClass_of_methodNamed B.named
  have hlocks := B.notSynchronized
  subst hsz
  have hD := hD0.self (sz := s.heap.size)
  generalize hAe : va_A [(h, .inr (0, [.ref a, .int (nI (List.length xs))])), (a, .inl (cA, n, .inl f)), (h2, .inr (0, [.ref a2, .int (nI (List.length ys))])), (a2, .inl (cB, n2, .inl g))] s.heap.size = A at hD ⊢
  have hA : ∀ q : Nat, s.heap.size ≤ q → A q := fun q h => by rw [← hAe]; exact Or.inr h
  have hS : va_S A s.heap s.heap [] := va_S.rf
  have hP : va_P (dC, dI) vwCl [(h, .inr (0, [.ref a, .int (nI (List.length xs))])), (a, .inl (cA, n, .inl f)), (h2, .inr (0, [.ref a2, .int (nI (List.length ys))])), (a2, .inl (cB, n2, .inl g))] s.heap := hP
  have hl := lv_entry ([.ref h, .ref h2, .int x]) (n := 3) (Nat.le_of_ble_eq_true rfl)
  rw [lg_entry_eq]
  generalize (lg_sl ([.ref h, .ref h2, .int x]) ++ List.replicate (3 - (lg_sl ([.ref h, .ref h2, .int x])).length) Slot.unset).toArray = ls at hl ⊢
  have hl : lv_has ls 3 [(0, .ref h), (1, .ref h2), (2, .int x)] := hl
  refine lv_iload_n hx hb dX0_become_0 rfl (lv_at hl 2 rfl) ?_
  refine lv_if_lt (tgt := 30) hx hb dX0_become_1 (by decide) (fun c_1 => ?_) (fun c_1 => ?_)
  · refine lv_iconst (v := nI 0) hx hb dX0_become_30 (by decide) ?_
    exact kend_i hx hb hr hlocks dX0_become_31 (by decide) hK hP hD hS ((f, xs)) (⟨hf, bec_no (Or.inl c_1)⟩) [0, 1, 2, 3] [0, 1] rfl (by decide) rfl
  · refine lv_iload_n hx hb dX0_become_4 rfl (lv_at hl 2 rfl) ?_
    refine lv_aload_n hx hb dX0_become_5 rfl (lv_at hl 1 rfl) ?_
    refine va_get (D := (dC, dI)) (ci := 0) (v := .int (nI (List.length ys))) (C := RX0) (T := TX0) (N := 2) hx hb hts iX0 hown hK hP 2 rfl rfl 1 (by decide) (hts _ m_28) (fun _ h9 => h9) rfl dX0_become_6 ?_
    refine lv_icmp_gt (tgt := 30) hx hb dX0_become_9 (by decide) (fun c_9 => ?_) (fun c_9 => ?_)
    · refine lv_iconst (v := nI 0) hx hb dX0_become_30 (by decide) ?_
      exact kend_i hx hb hr hlocks dX0_become_31 (by decide) hK hP hD hS ((f, xs)) (⟨hf, bec_no (Or.inr (Or.inl c_9))⟩) [0, 1, 2, 3] [0, 1] rfl (by decide) rfl
    · obtain ⟨j, hj, rfl⟩ : ∃ j, j ≤ ys.length ∧ x = nI j := by
        obtain ⟨j, hj, rfl⟩ := nI_of c_1
        exact ⟨j, by rw [nI_ltI (by omega) hj] at c_9; omega, rfl⟩
      refine lv_iload_n hx hb dX0_become_12 rfl (lv_at hl 2 rfl) ?_
      refine lv_aload_n hx hb dX0_become_13 rfl (lv_at hl 1 rfl) ?_
      refine va_get (D := (dC, dI)) (ci := 0) (v := .ref a2) (C := RX0) (T := TX0) (N := 2) hx hb hts iX0 hown hK hP 2 rfl rfl 0 (by decide) (hts _ m_27) (fun _ h9 => h9) rfl dX0_become_14 ?_
      refine va_alen (v := nI n2) hx hb hK hP 3 1 rfl rfl rfl dX0_become_17 ?_
      refine lv_icmp_gt (tgt := 30) hx hb dX0_become_18 (by decide) (fun c_9 => absurd c_9 (nI_nlt (by omega) (by omega))) (fun _ => ?_)
      refine lv_iload_n hx hb dX0_become_21 rfl (lv_at hl 2 rfl) ?_
      refine lv_aload_n hx hb dX0_become_22 rfl (lv_at hl 0 rfl) ?_
      refine va_get (D := (dC, dI)) (ci := 0) (v := .ref a) (C := RX0) (T := TX0) (N := 2) hx hb hts iX0 hown hK hP 0 rfl rfl 0 (by decide) (hts _ m_27) (fun _ h9 => h9) rfl dX0_become_23 ?_
      refine va_alen (v := nI n) hx hb hK hP 1 0 rfl rfl rfl dX0_become_26 ?_
      refine lv_icmp_le (tgt := 32) hx hb dX0_become_27 (by decide) (fun c_27 => ?_) (fun c_27 => ?_)
      · rw [nI_leI (a := j) (b := n) (by omega) (by omega)] at c_27
        refine lv_aload_n hx hb dX0_become_32 rfl (lv_at hl 1 rfl) ?_
        refine va_get (D := (dC, dI)) (ci := 0) (v := .ref a2) (C := RX0) (T := TX0) (N := 2) hx hb hts iX0 hown hK hP 2 rfl rfl 0 (by decide) (hts _ m_27) (fun _ h9 => h9) rfl dX0_become_33 ?_
        refine lv_iconst (v := nI 0) hx hb dX0_become_36 (by decide) ?_
        refine lv_aload_n hx hb dX0_become_37 rfl (lv_at hl 0 rfl) ?_
        refine va_get (D := (dC, dI)) (ci := 0) (v := .ref a) (C := RX0) (T := TX0) (N := 2) hx hb hts iX0 hown hK hP 0 rfl rfl 0 (by decide) (hts _ m_27) (fun _ h9 => h9) rfl dX0_become_38 ?_
        refine lv_iconst (v := nI 0) hx hb dX0_become_41 (by decide) ?_
        refine lv_iload_n hx hb dX0_become_42 rfl (lv_at hl 2 rfl) ?_
        refine va_copyi (ty := .byte) hx hb (by rw [hml]; exact hl.1.symm) hown (hts _ m_130) (hts _ m_132) (hts _ m_131) (hts _ m_8) hK hP hD hS 3 1 1 0 rfl rfl rfl rfl (by decide) (nI_pos (by decide)) (nI_pos (by decide)) (nI_pos (by omega)) (by rw [nI_clamp (n := 0) (by decide), nI_clamp (n := j) (by omega)]; omega) (by rw [nI_clamp (n := 0) (by decide), nI_clamp (n := j) (by omega)]; omega) (fun i hi => by rw [nI_clamp (n := 0) (by decide), Nat.zero_add]; rw [nI_clamp (n := j) (by omega)] at hi; exact bHas_fit hg (by omega)) (Nat.le_of_ble_eq_true rfl) (Nat.le_of_ble_eq_true rfl) dX0_become_43 (fun H locs hP hD hS => ?_)
        rw [nI_clamp (n := 0) (by decide), nI_clamp (n := j) (by omega)] at hP hD
        have hP : va_P (dC, dI) vwCl [(h, .inr (0, [.ref a, .int (nI (List.length xs))])), (a, .inl (cA, n, .inl (va_cpy g f 0 0 j))), (h2, .inr (0, [.ref a2, .int (nI (List.length ys))])), (a2, .inl (cB, n2, .inl g))] H := hP
        have hD : va_D A [(h, .inr (0, [.ref a, .int (nI (List.length xs))])), (a, .inl (cA, n, .inl (va_cpy g f 0 0 j))), (h2, .inr (0, [.ref a2, .int (nI (List.length ys))])), (a2, .inl (cB, n2, .inl g))] := hD
        refine lv_aload_n hx hb dX0_become_46 rfl (lv_at hl 0 rfl) ?_
        refine lv_iload_n hx hb dX0_become_47 rfl (lv_at hl 2 rfl) ?_
        refine tI_ (y := nI (List.length (ys.take j))) (by rw [List.length_take, Nat.min_eq_left hj]) ?_
        refine va_put (D := (dC, dI)) (ci := 0) (v := .int (nI (List.length (ys.take j)))) (ty := .int) (C := RX0) (T := TX0) (N := 2) hx hb hts iX0 tyX0 tyX0_ok nmX0 hown hK hP hD hS 0 rfl rfl 1 (by decide) (hts _ m_28) (fun _ h9 => h9) rfl (by decide +kernel) rfl rfl (Nat.le_of_ble_eq_true rfl) dX0_become_48 (fun H locs hP hD hS => ?_)
        have hP : va_P (dC, dI) vwCl [(h, .inr (0, [.ref a, .int (nI (List.length (ys.take j)))])), (a, .inl (cA, n, .inl (va_cpy g f 0 0 j))), (h2, .inr (0, [.ref a2, .int (nI (List.length ys))])), (a2, .inl (cB, n2, .inl g))] H := hP
        have hD : va_D A [(h, .inr (0, [.ref a, .int (nI (List.length (ys.take j)))])), (a, .inl (cA, n, .inl (va_cpy g f 0 0 j))), (h2, .inr (0, [.ref a2, .int (nI (List.length ys))])), (a2, .inl (cB, n2, .inl g))] := hD
        refine lv_iconst (v := nI 1) hx hb dX0_become_51 (by decide) ?_
        exact kend_i hx hb hr hlocks dX0_become_52 (by decide) hK hP hD hS ((va_cpy g f 0 0 j, ys.take j)) (⟨bHas_cpy hg, bec_yes hj (by omega) (by omega)⟩) [0, 1, 2, 3] [0, 1] rfl (by decide) rfl
      · rw [nI_leI (a := j) (b := n) (by omega) (by omega)] at c_27
        refine lv_iconst (v := nI 0) hx hb dX0_become_30 (by decide) ?_
        exact kend_i hx hb hr hlocks dX0_become_31 (by decide) hK hP hD hS ((f, xs)) (⟨hf, bec_no (Or.inr (Or.inr (nI_lt (by omega) (by omega))))⟩) [0, 1, 2, 3] [0, 1] rfl (by decide) rfl

