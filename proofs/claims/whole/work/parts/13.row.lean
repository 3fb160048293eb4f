set_option maxHeartbeats 4000000 in
set_option maxRecDepth 100000 in
/-- Row.count() -/
theorem c_Row_count (l : Launch) (dC : Nat → ClassId) (dI : Nat → Nat → Nat) (sz : Nat) (h a : Nat) (cA : ClassId) (f : Nat → Int32) (r : List Int32)  : Met l yX2_count wsX2_count ({ frames := 0, cells := 0, slots := 0, locals := 0 }) (va_Pc [.ref h] (kB (dC, dI) vwCl [(cA, .int)] [(h, .inr (2, [.ref a, .int (nI (List.length r))])), (a, .inl (cA, 4096, .inl f))] sz)) (va_Qi (fun r0 (_ : Unit) => r0 = nI r.length) (kE (dC, dI) vwCl (va_A [(h, .inr (2, [.ref a, .int (nI (List.length r))])), (a, .inl (cA, 4096, .inl f))] sz) (fun _ => [(cA, .int)]) (fun _ => [(h, .inr (2, [.ref a, .int (nI (List.length r))])), (a, .inl (cA, 4096, .inl f))])) (va_A [(h, .inr (2, [.ref a, .int (nI (List.length r))])), (a, .inl (cA, 4096, .inl f))] sz)) 0 0 (va_A [(h, .inr (2, [.ref a, .int (nI (List.length r))])), (a, .inl (cA, 4096, .inl f))] sz) := by
  refine Met.ofW (cc := cX2_count) (maxL := 1) (ret := (some .int)) (by decide) rfl ?_
  intro p e s m args below meth c s₁ B hml hv
  obtain ⟨rfl, hsz, hP, hK, hD0, hNs⟩ := hv
  have hx := B.exec
  have hb := B.bytes
  have hr := B.returns
  have hts := fun w (h : w ∈ lw_g) => atoms_spec (ws := wsX2_count) B.pre w (List.mem_cons_of_mem _ h)
  have hown : s.vm.findClass RX2 = some m.cls := findClass_of_methodNamed B.named
  have hlocks := B.notSynchronized
  subst hsz
  have hD := hD0.self (sz := s.heap.size)
  generalize hAe : va_A [(h, .inr (2, [.ref a, .int (nI (List.length r))])), (a, .inl (cA, 4096, .inl f))] s.heap.size = A at hD ⊢
  have hA : ∀ q : Nat, s.heap.size ≤ q → A q := fun q h => by rw [← hAe]; exact Or.inr h
  have hS : va_S A s.heap s.heap [] := va_S.rf
  have hP : va_P (dC, dI) vwCl [(h, .inr (2, [.ref a, .int (nI (List.length r))])), (a, .inl (cA, 4096, .inl f))] s.heap := hP
  have hl := lv_entry ([.ref h]) (n := 1) (Nat.le_of_ble_eq_true rfl)
  rw [lg_entry_eq]
  generalize (lg_sl ([.ref h]) ++ List.replicate (1 - (lg_sl ([.ref h])).length) Slot.unset).toArray = ls at hl ⊢
  have hl : lv_has ls 1 [(0, .ref h)] := hl
  refine lv_aload_n hx hb dX2_count_0 rfl (lv_at hl 0 rfl) ?_
  refine va_get (D := (dC, dI)) (ci := 2) (v := .int (nI (List.length r))) (C := RX2) (T := TX2) (N := 2) hx hb hts iX2 hown hK hP 0 rfl rfl 1 (by decide) (hts _ m_74) (fun _ h9 => h9) rfl dX2_count_1 ?_
  exact kend_i hx hb hr hlocks dX2_count_4 (rfl) hK hP hD hS (()) (rfl) [0, 1] [0] rfl (by decide) rfl

set_option maxHeartbeats 4000000 in
set_option maxRecDepth 100000 in
/-- Row.empty() -/
theorem c_Row_empty (l : Launch) (dC : Nat → ClassId) (dI : Nat → Nat → Nat) (sz : Nat) (h a : Nat) (cA : ClassId) (f : Nat → Int32) (r : List Int32)  : Met l yX2_empty wsX2_empty ({ frames := 0, cells := 0, slots := 0, locals := 0 }) (va_Pc [.ref h] (kB (dC, dI) vwCl [(cA, .int)] [(h, .inr (2, [.ref a, .int (nI (List.length r))])), (a, .inl (cA, 4096, .inl f))] sz)) (va_Qv (fun (_ : Unit) => True) (kE (dC, dI) vwCl (va_A [(h, .inr (2, [.ref a, .int (nI (List.length r))])), (a, .inl (cA, 4096, .inl f))] sz) (fun _ => [(cA, .int)]) (fun _ => [(h, .inr (2, [.ref a, .int (nI (List.length ([] : List Int32)))])), (a, .inl (cA, 4096, .inl f))])) (va_A [(h, .inr (2, [.ref a, .int (nI (List.length r))])), (a, .inl (cA, 4096, .inl f))] sz)) 0 0 (va_A [(h, .inr (2, [.ref a, .int (nI (List.length r))])), (a, .inl (cA, 4096, .inl f))] sz) := by
  refine Met.ofW (cc := cX2_empty) (maxL := 1) (ret := none) (by decide) rfl ?_
  intro p e s m args below meth c s₁ B hml hv
  obtain ⟨rfl, hsz, hP, hK, hD0, hNs⟩ := hv
  have hx := B.exec
  have hb := B.bytes
  have hr := B.returns
  have hts := fun w (h : w ∈ lw_g) => atoms_spec (ws := wsX2_empty) B.pre w (List.mem_cons_of_mem _ h)
  have hown : s.vm.findClass RX2 = some m.cls := findClass_of_methodNamed B.named
  have hlocks := B.notSynchronized
  subst hsz
  have hD := hD0.self (sz := s.heap.size)
  generalize hAe : va_A [(h, .inr (2, [.ref a, .int (nI (List.length r))])), (a, .inl (cA, 4096, .inl f))] s.heap.size = A at hD ⊢
  have hA : ∀ q : Nat, s.heap.size ≤ q → A q := fun q h => by rw [← hAe]; exact Or.inr h
  have hS : va_S A s.heap s.heap [] := va_S.rf
  have hP : va_P (dC, dI) vwCl [(h, .inr (2, [.ref a, .int (nI (List.length r))])), (a, .inl (cA, 4096, .inl f))] s.heap := hP
  have hl := lv_entry ([.ref h]) (n := 1) (Nat.le_of_ble_eq_true rfl)
  rw [lg_entry_eq]
  generalize (lg_sl ([.ref h]) ++ List.replicate (1 - (lg_sl ([.ref h])).length) Slot.unset).toArray = ls at hl ⊢
  have hl : lv_has ls 1 [(0, .ref h)] := hl
  refine lv_aload_n hx hb dX2_empty_0 rfl (lv_at hl 0 rfl) ?_
  refine lv_iconst (v := nI 0) hx hb dX2_empty_1 (by decide) ?_
  refine va_put (D := (dC, dI)) (ci := 2) (v := .int (nI 0)) (ty := .int) (C := RX2) (T := TX2) (N := 2) hx hb hts iX2 tyX2 tyX2_ok nmX2 hown hK hP hD hS 0 rfl rfl 1 (by decide) (hts _ m_74) (fun _ h9 => h9) rfl (by decide +kernel) rfl rfl (Nat.le_of_ble_eq_true rfl) dX2_empty_2 (fun H locs hP hD hS => ?_)
  have hP : va_P (dC, dI) vwCl [(h, .inr (2, [.ref a, .int (nI 0)])), (a, .inl (cA, 4096, .inl f))] H := hP
  have hD : va_D A [(h, .inr (2, [.ref a, .int (nI 0)])), (a, .inl (cA, 4096, .inl f))] := hD
  exact kend_v hx hb hr hlocks dX2_empty_5 hK hP hD hS (()) (trivial) [0, 1] [0] rfl (by decide) rfl

set_option maxHeartbeats 4000000 in
set_option maxRecDepth 100000 in
/-- Row.at(k) -/
theorem c_Row_at (l : Launch) (dC : Nat → ClassId) (dI : Nat → Nat → Nat) (sz : Nat) (h a : Nat) (cA : ClassId) (f : Nat → Int32) (r : List Int32) (x : Int32) (hf : rHas f r) (hn : r.length ≤ 4096) : Met l yX2_at wsX2_at ({ frames := 0, cells := 0, slots := 0, locals := 0 }) (va_Pc [.ref h, .int x] (kB (dC, dI) vwCl [(cA, .int)] [(h, .inr (2, [.ref a, .int (nI (List.length r))])), (a, .inl (cA, 4096, .inl f))] sz)) (va_Qi (fun r0 (_ : Unit) => r0 = rAt r x) (kE (dC, dI) vwCl (va_A [(h, .inr (2, [.ref a, .int (nI (List.length r))])), (a, .inl (cA, 4096, .inl f))] sz) (fun _ => [(cA, .int)]) (fun _ => [(h, .inr (2, [.ref a, .int (nI (List.length r))])), (a, .inl (cA, 4096, .inl f))])) (va_A [(h, .inr (2, [.ref a, .int (nI (List.length r))])), (a, .inl (cA, 4096, .inl f))] sz)) 0 0 (va_A [(h, .inr (2, [.ref a, .int (nI (List.length r))])), (a, .inl (cA, 4096, .inl f))] sz) := by
  refine Met.ofW (cc := cX2_at) (maxL := 2) (ret := (some .int)) (by decide) rfl ?_
  intro p e s m args below meth c s₁ B hml hv
  obtain ⟨rfl, hsz, hP, hK, hD0, hNs⟩ := hv
  have hx := B.exec
  have hb := B.bytes
  have hr := B.returns
  have hts := fun w (h : w ∈ lw_g) => atoms_spec (ws := wsX2_at) B.pre w (List.mem_cons_of_mem _ h)
  have hown : s.vm.findClass RX2 = some m.cls := findClass_of_methodNamed B.named
  have hlocks := B.notSynchronized
  subst hsz
  have hD := hD0.self (sz := s.heap.size)
  generalize hAe : va_A [(h, .inr (2, [.ref a, .int (nI (List.length r))])), (a, .inl (cA, 4096, .inl f))] s.heap.size = A at hD ⊢
  have hA : ∀ q : Nat, s.heap.size ≤ q → A q := fun q h => by rw [← hAe]; exact Or.inr h
  have hS : va_S A s.heap s.heap [] := va_S.rf
  have hP : va_P (dC, dI) vwCl [(h, .inr (2, [.ref a, .int (nI (List.length r))])), (a, .inl (cA, 4096, .inl f))] s.heap := hP
  have hl := lv_entry ([.ref h, .int x]) (n := 2) (Nat.le_of_ble_eq_true rfl)
  rw [lg_entry_eq]
  generalize (lg_sl ([.ref h, .int x]) ++ List.replicate (2 - (lg_sl ([.ref h, .int x])).length) Slot.unset).toArray = ls at hl ⊢
  have hl : lv_has ls 2 [(0, .ref h), (1, .int x)] := hl
  refine lv_iload_n hx hb dX2_at_0 rfl (lv_at hl 1 rfl) ?_
  refine lv_if_lt (tgt := 21) hx hb dX2_at_1 (by decide) (fun c_1 => ?_) (fun c_1 => ?_)
  · refine lv_iconst (v := nI 0) hx hb dX2_at_21 (by decide) ?_
    exact kend_i hx hb hr hlocks dX2_at_22 (rfl) hK hP hD hS (()) ((rAt_out (Or.inl c_1)).symm) [0, 1] [0] rfl (by decide) rfl
  · refine lv_iload_n hx hb dX2_at_4 rfl (lv_at hl 1 rfl) ?_
    refine lv_aload_n hx hb dX2_at_5 rfl (lv_at hl 0 rfl) ?_
    refine va_get (D := (dC, dI)) (ci := 2) (v := .int (nI (List.length r))) (C := RX2) (T := TX2) (N := 2) hx hb hts iX2 hown hK hP 0 rfl rfl 1 (by decide) (hts _ m_74) (fun _ h9 => h9) rfl dX2_at_6 ?_
    refine lv_icmp_ge (tgt := 21) hx hb dX2_at_9 (by decide) (fun c_9 => ?_) (fun c_9 => ?_)
    · refine lv_iconst (v := nI 0) hx hb dX2_at_21 (by decide) ?_
      exact kend_i hx hb hr hlocks dX2_at_22 (rfl) hK hP hD hS (()) ((rAt_out (Or.inr c_9)).symm) [0, 1] [0] rfl (by decide) rfl
    · obtain ⟨j, hj, rfl⟩ : ∃ j, j < r.length ∧ x = nI j := by
        rcases pk_ix x (n := r.length) (by omega) with q | q | q
        · exact absurd q c_1
        · exact absurd q c_9
        · exact q
      refine lv_iload_n hx hb dX2_at_12 rfl (lv_at hl 1 rfl) ?_
      refine lv_aload_n hx hb dX2_at_13 rfl (lv_at hl 0 rfl) ?_
      refine va_get (D := (dC, dI)) (ci := 2) (v := .ref a) (C := RX2) (T := TX2) (N := 2) hx hb hts iX2 hown hK hP 0 rfl rfl 0 (by decide) (hts _ m_73) (fun _ h9 => h9) rfl dX2_at_14 ?_
      refine va_alen (v := nI 4096) hx hb hK hP 1 0 rfl rfl rfl dX2_at_17 ?_
      refine lv_icmp_lt (tgt := 23) hx hb dX2_at_18 (by decide) (fun _ => ?_) (fun c_9 => absurd (nI_lt (by omega) (by omega)) c_9)
      refine lv_aload_n hx hb dX2_at_23 rfl (lv_at hl 0 rfl) ?_
      refine va_get (D := (dC, dI)) (ci := 2) (v := .ref a) (C := RX2) (T := TX2) (N := 2) hx hb hts iX2 hown hK hP 0 rfl rfl 0 (by decide) (hts _ m_73) (fun _ h9 => h9) rfl dX2_at_24 ?_
      refine lv_iload_n hx hb dX2_at_27 rfl (lv_at hl 1 rfl) ?_
      refine va_iald hx hb hK hP 1 0 rfl rfl (vp_in_nI (by omega) (by omega)) dX2_at_28 ?_
      refine tI_ (y := f j) (congrArg f (nI_clamp (by omega))) ?_
      exact kend_i hx hb hr hlocks dX2_at_29 (rfl) hK hP hD hS (()) (by rw [rAt_nI (by omega) (by omega)]; exact hf j hj) [0, 1] [0] rfl (by decide) rfl

set_option maxHeartbeats 4000000 in
set_option maxRecDepth 100000 in
/-- Row.append(number, times) -/
theorem c_Row_append (l : Launch) (dC : Nat → ClassId) (dI : Nat → Nat → Nat) (sz : Nat) (h a : Nat) (cA : ClassId) (f : Nat → Int32) (r : List Int32) (v x : Int32) (hf : rHas f r) (hn : r.length ≤ 4096) : Met l yX2_append wsX2_append ({ frames := 2, cells := 0, slots := 0, locals := 46 }) (va_Pc [.ref h, .int v, .int x] (kB (dC, dI) vwCl [(cA, .int)] [(h, .inr (2, [.ref a, .int (nI (List.length r))])), (a, .inl (cA, 4096, .inl f))] sz)) (va_Qi (fun r0 (u : (Nat → Int32) × List Int32) => rHas u.1 u.2 ∧ app r v x r0 u.2) (kE (dC, dI) vwCl (va_A [(h, .inr (2, [.ref a, .int (nI (List.length r))])), (a, .inl (cA, 4096, .inl f))] sz) (fun _ => [(cA, .int)]) (fun u => [(h, .inr (2, [.ref a, .int (nI (List.length u.2))])), (a, .inl (cA, 4096, .inl u.1))])) (va_A [(h, .inr (2, [.ref a, .int (nI (List.length r))])), (a, .inl (cA, 4096, .inl f))] sz)) 0 0 (va_A [(h, .inr (2, [.ref a, .int (nI (List.length r))])), (a, .inl (cA, 4096, .inl f))] sz) := by
  refine Met.ofW (cc := cX2_append) (maxL := 3) (ret := (some .boolean)) (by decide) rfl ?_
  intro p e s m args below meth c s₁ B hml hv
  obtain ⟨rfl, hsz, hP, hK, hD0, hNs⟩ := hv
  have hx := B.exec
  have hb := B.bytes
  have hr := B.returns
  have hts := fun w (h : w ∈ lw_g) => atoms_spec (ws := wsX2_append) B.pre w (List.mem_cons_of_mem _ h)
  have hown : s.vm.findClass RX2 = some m.cls := findClass_of_methodNamed B.named
  have hlocks := B.notSynchronized
  subst hsz
  have hD := hD0.self (sz := s.heap.size)
  generalize hAe : va_A [(h, .inr (2, [.ref a, .int (nI (List.length r))])), (a, .inl (cA, 4096, .inl f))] s.heap.size = A at hD ⊢
  have hA : ∀ q : Nat, s.heap.size ≤ q → A q := fun q h => by rw [← hAe]; exact Or.inr h
  have hS : va_S A s.heap s.heap [] := va_S.rf
  have hP : va_P (dC, dI) vwCl [(h, .inr (2, [.ref a, .int (nI (List.length r))])), (a, .inl (cA, 4096, .inl f))] s.heap := hP
  have hl := lv_entry ([.ref h, .int v, .int x]) (n := 3) (Nat.le_of_ble_eq_true rfl)
  rw [lg_entry_eq]
  generalize (lg_sl ([.ref h, .int v, .int x]) ++ List.replicate (3 - (lg_sl ([.ref h, .int v, .int x])).length) Slot.unset).toArray = ls at hl ⊢
  have hl : lv_has ls 3 [(0, .ref h), (1, .int v), (2, .int x)] := hl
  refine lv_iload_n hx hb dX2_append_0 rfl (lv_at hl 2 rfl) ?_
  refine lv_iconst (v := nI 1) hx hb dX2_append_1 (by decide) ?_
  refine lv_icmp_lt (tgt := 26) hx hb dX2_append_2 (by decide) (fun c_2 => ?_) (fun c_2 => ?_)
  · refine lv_iconst (v := nI 0) hx hb dX2_append_26 (by decide) ?_
    exact kend_i hx hb hr hlocks dX2_append_27 (by decide) hK hP hD hS ((f, r)) (⟨hf, app_no (Or.inl c_2)⟩) [0, 1] [0] rfl (by decide) rfl
  · obtain ⟨t, ht31, rfl⟩ := nI_of (x := x) (fun q => c_2 (Int32.lt_trans q (by decide)))
    rw [nI_ltI (a := t) (b := 1) (by omega) (by decide)] at c_2
    refine lv_aload_n hx hb dX2_append_5 rfl (lv_at hl 0 rfl) ?_
    refine va_get (D := (dC, dI)) (ci := 2) (v := .int (nI (List.length r))) (C := RX2) (T := TX2) (N := 2) hx hb hts iX2 hown hK hP 0 rfl rfl 1 (by decide) (hts _ m_74) (fun _ h9 => h9) rfl dX2_append_6 ?_
    refine lv_if_lt (tgt := 26) hx hb dX2_append_9 (by decide) (fun c_9 => absurd c_9 (nI_pos (by omega))) (fun _ => ?_)
    refine lv_iload_n hx hb dX2_append_12 rfl (lv_at hl 2 rfl) ?_
    refine lv_aload_n hx hb dX2_append_13 rfl (lv_at hl 0 rfl) ?_
    refine va_get (D := (dC, dI)) (ci := 2) (v := .ref a) (C := RX2) (T := TX2) (N := 2) hx hb hts iX2 hown hK hP 0 rfl rfl 0 (by decide) (hts _ m_73) (fun _ h9 => h9) rfl dX2_append_14 ?_
    refine va_alen (v := nI 4096) hx hb hK hP 1 0 rfl rfl rfl dX2_append_17 ?_
    refine lv_aload_n hx hb dX2_append_18 rfl (lv_at hl 0 rfl) ?_
    refine va_get (D := (dC, dI)) (ci := 2) (v := .int (nI (List.length r))) (C := RX2) (T := TX2) (N := 2) hx hb hts iX2 hown hK hP 0 rfl rfl 1 (by decide) (hts _ m_74) (fun _ h9 => h9) rfl dX2_append_19 ?_
    refine lv_isub hx hb dX2_append_22 ?_
    refine tI_ (y := nI (4096 - (List.length r))) (pk_sub (by omega)) ?_
    refine lv_icmp_le (tgt := 28) hx hb dX2_append_23 (by decide) (fun c_23 => ?_) (fun c_23 => ?_)
    · rw [nI_leI (a := t) (b := (4096 - (List.length r))) (by omega) (by omega)] at c_23
      refine lv_aload_n hx hb dX2_append_28 rfl (lv_at hl 0 rfl) ?_
      refine va_get (D := (dC, dI)) (ci := 2) (v := .ref a) (C := RX2) (T := TX2) (N := 2) hx hb hts iX2 hown hK hP 0 rfl rfl 0 (by decide) (hts _ m_73) (fun _ h9 => h9) rfl dX2_append_29 ?_
      refine lv_aload_n hx hb dX2_append_32 rfl (lv_at hl 0 rfl) ?_
      refine va_get (D := (dC, dI)) (ci := 2) (v := .int (nI (List.length r))) (C := RX2) (T := TX2) (N := 2) hx hb hts iX2 hown hK hP 0 rfl rfl 1 (by decide) (hts _ m_74) (fun _ h9 => h9) rfl dX2_append_33 ?_
      refine lv_aload_n hx hb dX2_append_36 rfl (lv_at hl 0 rfl) ?_
      refine va_get (D := (dC, dI)) (ci := 2) (v := .int (nI (List.length r))) (C := RX2) (T := TX2) (N := 2) hx hb hts iX2 hown hK hP 0 rfl rfl 1 (by decide) (hts _ m_74) (fun _ h9 => h9) rfl dX2_append_37 ?_
      refine lv_iload_n hx hb dX2_append_40 rfl (lv_at hl 2 rfl) ?_
      refine lv_iadd hx hb dX2_append_41 ?_
      refine tI_ (y := nI ((List.length r) + t)) (nI_add _ _) ?_
      refine lv_iload_n hx hb dX2_append_42 rfl (lv_at hl 1 rfl) ?_
      refine kret_v (wc := [(a, .inl (cA, 4096, .inl f))]) (wr := [(h, .inr (2, [.ref a, .int (nI (List.length r))]))]) (va_runS (As := [.ref a, .int (nI (List.length r)), .int (nI ((List.length r) + t)), .int v]) (rest := []) ⟨hx, hb, hml, hown, hts⟩ (c_Arr_fill l dC dI _ a cA 4096 f r.length (r.length + t) v (by omega) (by omega) (by decide)) (va_cwS 4 hts (gdS m_149 m_150 m_9 m_151) rfl rfl rfl (by decide +kernel) ⟨Nat.le_of_ble_eq_true rfl, Nat.le_of_ble_eq_true rfl⟩) (kpS hNs hK hP hD [1] [0] rfl rfl (by decide)) rfl rfl hl.1 rfl (lv_room (Nat.le_of_ble_eq_true rfl)) dX2_append_43 ⟨Nat.le_of_ble_eq_true rfl, Nat.le_of_ble_eq_true rfl⟩) hP hD hS hA [1] [0] rfl rfl (by decide) (by decide) (fun u H locs hpo hK1 hP hD hS => ?_)
      obtain ⟨hu1, hu2⟩ := hpo
      have hP : va_P (dC, dI) vwCl [(h, .inr (2, [.ref a, .int (nI (List.length r))])), (a, .inl (cA, 4096, .inl u))] H := hP
      have hD : va_D A [(h, .inr (2, [.ref a, .int (nI (List.length r))])), (a, .inl (cA, 4096, .inl u))] := hD
      refine lv_aload_n hx hb dX2_append_46 rfl (lv_at hl 0 rfl) ?_
      refine lv_dup hx hb dX2_append_47 rfl ?_
      refine va_get (D := (dC, dI)) (ci := 2) (v := .int (nI (List.length r))) (C := RX2) (T := TX2) (N := 2) hx hb hts iX2 hown hK hP 0 rfl rfl 1 (by decide) (hts _ m_74) (fun _ h9 => h9) rfl dX2_append_48 ?_
      refine lv_iload_n hx hb dX2_append_51 rfl (lv_at hl 2 rfl) ?_
      refine lv_iadd hx hb dX2_append_52 ?_
      refine tI_ (y := nI ((List.length r) + t)) (nI_add _ _) ?_
      refine tI_ (y := nI (List.length (r ++ List.replicate t v))) (by simp) ?_
      refine va_put (D := (dC, dI)) (ci := 2) (v := .int (nI (List.length (r ++ List.replicate t v)))) (ty := .int) (C := RX2) (T := TX2) (N := 2) hx hb hts iX2 tyX2 tyX2_ok nmX2 hown hK hP hD hS 0 rfl rfl 1 (by decide) (hts _ m_74) (fun _ h9 => h9) rfl (by decide +kernel) rfl rfl (Nat.le_of_ble_eq_true rfl) dX2_append_53 (fun H locs hP hD hS => ?_)
      have hP : va_P (dC, dI) vwCl [(h, .inr (2, [.ref a, .int (nI (List.length (r ++ List.replicate t v)))])), (a, .inl (cA, 4096, .inl u))] H := hP
      have hD : va_D A [(h, .inr (2, [.ref a, .int (nI (List.length (r ++ List.replicate t v)))])), (a, .inl (cA, 4096, .inl u))] := hD
      refine lv_iconst (v := nI 1) hx hb dX2_append_56 (by decide) ?_
      exact kend_i hx hb hr hlocks dX2_append_57 (by decide) hK hP hD hS ((u, r ++ List.replicate t v)) (⟨rHas_fill hf (fun i hi => hu1 i (Or.inl hi)) hu2, app_yes (by omega) (by omega)⟩) [0, 1] [0] rfl (by decide) rfl
    · rw [nI_leI (a := t) (b := (4096 - (List.length r))) (by omega) (by omega)] at c_23
      refine lv_iconst (v := nI 0) hx hb dX2_append_26 (by decide) ?_
      exact kend_i hx hb hr hlocks dX2_append_27 (by decide) hK hP hD hS ((f, r)) (⟨hf, app_no (Or.inr (nI_lt (by omega) (by omega)))⟩) [0, 1] [0] rfl (by decide) rfl

set_option maxHeartbeats 4000000 in
set_option maxRecDepth 100000 in
/-- Row.fits(width) -/
theorem c_Row_fits (l : Launch) (dC : Nat → ClassId) (dI : Nat → Nat → Nat) (sz : Nat) (h a : Nat) (cA : ClassId) (f : Nat → Int32) (r : List Int32) (w : Nat) (hf : rHas f r) (hn : r.length ≤ 4096) (hw32 : w ≤ 32) : Met l yX2_fits wsX2_fits ({ frames := 1, cells := 0, slots := 0, locals := 21 }) (va_Pc [.ref h, .int (nI w)] (kB (dC, dI) vwCl [(cA, .int)] [(h, .inr (2, [.ref a, .int (nI (List.length r))])), (a, .inl (cA, 4096, .inl f))] sz)) (va_Qi (fun r0 (_ : Unit) => (r0 = nI 1 ∧ fitsW r w) ∨ (r0 = nI 0 ∧ ¬ fitsW r w)) (kE (dC, dI) vwCl (va_A [(h, .inr (2, [.ref a, .int (nI (List.length r))])), (a, .inl (cA, 4096, .inl f))] sz) (fun _ => [(cA, .int)]) (fun _ => [(h, .inr (2, [.ref a, .int (nI (List.length r))])), (a, .inl (cA, 4096, .inl f))])) (va_A [(h, .inr (2, [.ref a, .int (nI (List.length r))])), (a, .inl (cA, 4096, .inl f))] sz)) 0 0 (va_A [(h, .inr (2, [.ref a, .int (nI (List.length r))])), (a, .inl (cA, 4096, .inl f))] sz) := by
  refine Met.ofW (cc := cX2_fits) (maxL := 3) (ret := (some .boolean)) (by decide) rfl ?_
  intro p e s m args below meth c s₁ B hml hv
  obtain ⟨rfl, hsz, hP, hK, hD0, hNs⟩ := hv
  have hx := B.exec
  have hb := B.bytes
  have hr := B.returns
  have hts := fun w (h : w ∈ lw_g) => atoms_spec (ws := wsX2_fits) B.pre w (List.mem_cons_of_mem _ h)
  have hown : s.vm.findClass RX2 = some m.cls := findClass_of_methodNamed B.named
  have hlocks := B.notSynchronized
  subst hsz
  have hD := hD0.self (sz := s.heap.size)
  generalize hAe : va_A [(h, .inr (2, [.ref a, .int (nI (List.length r))])), (a, .inl (cA, 4096, .inl f))] s.heap.size = A at hD ⊢
  have hA : ∀ q : Nat, s.heap.size ≤ q → A q := fun q h => by rw [← hAe]; exact Or.inr h
  have hS : va_S A s.heap s.heap [] := va_S.rf
  have hP : va_P (dC, dI) vwCl [(h, .inr (2, [.ref a, .int (nI (List.length r))])), (a, .inl (cA, 4096, .inl f))] s.heap := hP
  have hl := lv_entry ([.ref h, .int (nI w)]) (n := 3) (Nat.le_of_ble_eq_true rfl)
  rw [lg_entry_eq]
  generalize (lg_sl ([.ref h, .int (nI w)]) ++ List.replicate (3 - (lg_sl ([.ref h, .int (nI w)])).length) Slot.unset).toArray = ls at hl ⊢
  have hl : lv_has ls 3 [(0, .ref h), (1, .int (nI w))] := hl
  refine lv_iconst (v := nI 0) hx hb dX2_fits_0 (by decide) ?_
  refine lv_istore_n (lv' := [(2, .int (nI 0)), (0, .ref h), (1, .int (nI w))]) hx hb dX2_fits_1 rfl hl (by decide) rfl (fun ls hl => ?_)
  refine k_loop (σ := Nat) (fun (z : Nat) H locs ls => match z with
        | k => k ≤ r.length ∧ (∀ j, j < k → uv (r.getD j 0) < 2 ^ w) ∧ va_P (dC, dI) vwCl [(h, .inr (2, [.ref a, .int (nI (List.length r))])), (a, .inl (cA, 4096, .inl f))] H ∧ va_D A [(h, .inr (2, [.ref a, .int (nI (List.length r))])), (a, .inl (cA, 4096, .inl f))] ∧ va_S A s.heap H locs ∧ lv_has ls 3 [(0, .ref h), (1, .int (nI w)), (2, .int (nI k))]) (fun z => match z with
        | k => r.length - k) ?_ (0) _ _ _ ⟨Nat.zero_le _, fun j hj => absurd hj (Nat.not_lt_zero j), hP.sub [0, 1] rfl, hD.sub [0, 1] (by decide) rfl, hS, lv_sub hl [1, 2, 0] rfl⟩
  intro z H locs ls hI ih
  obtain ⟨k, rfl⟩ : ∃ y, y = z := ⟨_, rfl⟩
  obtain ⟨hk, hkf, hP, hD, hS, hl⟩ := hI
  refine lv_iload_n hx hb dX2_fits_2 rfl (lv_at hl 2 rfl) ?_
  refine lv_aload_n hx hb dX2_fits_3 rfl (lv_at hl 0 rfl) ?_
  refine va_get (D := (dC, dI)) (ci := 2) (v := .int (nI (List.length r))) (C := RX2) (T := TX2) (N := 2) hx hb hts iX2 hown hK hP 0 rfl rfl 1 (by decide) (hts _ m_74) (fun _ h9 => h9) rfl dX2_fits_4 ?_
  refine lv_icmp_ge (tgt := 35) hx hb dX2_fits_7 (by decide) (fun c_7 => ?_) (fun c_7 => ?_)
  · rw [nI_leI (a := (List.length r)) (b := k) (by omega) (by omega)] at c_7
    refine lv_iconst (v := nI 1) hx hb dX2_fits_35 (by decide) ?_
    exact kend_i hx hb hr hlocks dX2_fits_36 (by decide) hK hP hD hS (()) (Or.inl ⟨rfl, fitsW_of (fun j hj => hkf j (by omega))⟩) [0, 1] [0] rfl (by decide) rfl
  · rw [nI_leI (a := (List.length r)) (b := k) (by omega) (by omega)] at c_7
    refine lv_aload_n hx hb dX2_fits_10 rfl (lv_at hl 0 rfl) ?_
    refine lv_iload_n hx hb dX2_fits_11 rfl (lv_at hl 2 rfl) ?_
    refine kret_i (wc := [(h, .inr (2, [.ref a, .int (nI (List.length r))])), (a, .inl (cA, 4096, .inl f))]) (wr := []) (va_runV (As := [.int (nI k)]) (rest := []) ⟨hx, hb, hml, hown, hts⟩ (c_Row_at l dC dI _ h a cA f r (nI k) hf hn) (cwV 1 hts (gdV m_171 m_172 m_173 m_6 m_174) rfl rfl rfl (by decide +kernel) ⟨Nat.le_of_ble_eq_true rfl, Nat.le_of_ble_eq_true rfl⟩) (kpV hNs hK hP hD [0, 1] [0] rfl rfl (by decide) (ci := 2) rfl rfl) rfl rfl hl.1 rfl (lv_room (Nat.le_of_ble_eq_true rfl)) dX2_fits_12 ⟨Nat.le_of_ble_eq_true rfl, Nat.le_of_ble_eq_true rfl⟩) hP hD hS hA [0, 1] [] rfl rfl (by decide) (by decide) (fun y _ H locs hpo hK1 hP hD hS => ?_)
    have hy := hpo
    have hP : va_P (dC, dI) vwCl [(h, .inr (2, [.ref a, .int (nI (List.length r))])), (a, .inl (cA, 4096, .inl f))] H := hP
    have hD : va_D A [(h, .inr (2, [.ref a, .int (nI (List.length r))])), (a, .inl (cA, 4096, .inl f))] := hD
    rw [rAt_nI (by omega) (by omega)] at hy
    subst hy
    refine lv_i2l (v := (r.getD k 0).toInt64) hx hb dX2_fits_15 (rfl) ?_
    refine lv_ldc2 (v := lN 4294967295) hx hb hown (hts _ m_175) dX2_fits_16 ?_
    refine lv_land hx hb dX2_fits_19 ?_
    refine tL_ (y := lN (uv (r.getD k 0))) (mask32 _) ?_
    refine lv_iload_n hx hb dX2_fits_20 rfl (lv_at hl 1 rfl) ?_
    refine lv_lushr (v := lN (uv (r.getD k 0) / 2 ^ w)) hx hb dX2_fits_21 (wb_shr (by have := uv_lt (r.getD k 0); omega) (by omega)) ?_
    refine lv_lconst (v := lN 0) hx hb dX2_fits_22 (by decide) ?_
    refine W.lcmp hx hb dX2_fits_23 ?_
    refine lv_if_eq (tgt := 29) hx hb dX2_fits_24 (by decide) (fun c_24 => ?_) (fun c_24 => ?_)
    · rw [cmpE (by have := uv_lt (r.getD k 0); exact Nat.lt_of_le_of_lt (Nat.div_le_self _ _) (by omega)) (by decide)] at c_24
      have hlt : uv (r.getD k 0) < 2 ^ w := by rcases Nat.lt_or_ge (uv (r.getD k 0)) (2 ^ w) with q | q; exact q; exact absurd (Nat.div_pos q (Nat.pow_pos (by decide))) (by omega)
      refine lv_iinc (v := nI (k + 1)) (lv' := [(2, .int (nI (k + 1))), (0, .ref h), (1, .int (nI w))]) hx hb dX2_fits_29 hl (k := 2) rfl (ii_add (c := 1) (k := 1) k (by decide)) (by decide) rfl (fun ls hl => ?_)
      refine lv_goto (tgt := 2) hx hb dX2_fits_32 (by decide) ?_
      exact ih (k + 1) _ _ _ ⟨by omega, fun j hj => by
        by_cases hjk : j = k
        · subst hjk; exact hlt
        · exact hkf j (by omega), hP.sub [0, 1] rfl, hD.sub [0, 1] (by decide) rfl, hS, lv_sub hl [1, 2, 0] rfl⟩ (by show r.length - (k + 1) < r.length - k; omega)
    · rw [cmpE (by have := uv_lt (r.getD k 0); exact Nat.lt_of_le_of_lt (Nat.div_le_self _ _) (by omega)) (by decide)] at c_24
      refine lv_iconst (v := nI 0) hx hb dX2_fits_27 (by decide) ?_
      exact kend_i hx hb hr hlocks dX2_fits_28 (by decide) hK hP hD hS (()) (Or.inr ⟨rfl, fun h => c_24 (Nat.div_eq_of_lt (h k))⟩) [0, 1] [0] rfl (by decide) rfl

set_option maxHeartbeats 4000000 in
set_option maxRecDepth 100000 in
/-- Row.sameFrom(from) -/
theorem c_Row_same (l : Launch) (dC : Nat → ClassId) (dI : Nat → Nat → Nat) (sz : Nat) (h a : Nat) (cA : ClassId) (f : Nat → Int32) (r : List Int32) (i : Nat) (hf : rHas f r) (hn : r.length ≤ 4096) (hi : i < r.length) : Met l yX2_sameFrom wsX2_sameFrom ({ frames := 1, cells := 0, slots := 0, locals := 21 }) (va_Pc [.ref h, .int (nI i)] (kB (dC, dI) vwCl [(cA, .int)] [(h, .inr (2, [.ref a, .int (nI (List.length r))])), (a, .inl (cA, 4096, .inl f))] sz)) (va_Qi (fun r0 (_ : Unit) => r0 = nI (same r i)) (kE (dC, dI) vwCl (va_A [(h, .inr (2, [.ref a, .int (nI (List.length r))])), (a, .inl (cA, 4096, .inl f))] sz) (fun _ => [(cA, .int)]) (fun _ => [(h, .inr (2, [.ref a, .int (nI (List.length r))])), (a, .inl (cA, 4096, .inl f))])) (va_A [(h, .inr (2, [.ref a, .int (nI (List.length r))])), (a, .inl (cA, 4096, .inl f))] sz)) 0 0 (va_A [(h, .inr (2, [.ref a, .int (nI (List.length r))])), (a, .inl (cA, 4096, .inl f))] sz) := by
  refine Met.ofW (cc := cX2_sameFrom) (maxL := 4) (ret := (some .int)) (by decide) rfl ?_
  intro p e s m args below meth c s₁ B hml hv
  obtain ⟨rfl, hsz, hP, hK, hD0, hNs⟩ := hv
  have hx := B.exec
  have hb := B.bytes
  have hr := B.returns
  have hts := fun w (h : w ∈ lw_g) => atoms_spec (ws := wsX2_sameFrom) B.pre w (List.mem_cons_of_mem _ h)
  have hown : s.vm.findClass RX2 = some m.cls := findClass_of_methodNamed B.named
  have hlocks := B.notSynchronized
  subst hsz
  have hD := hD0.self (sz := s.heap.size)
  generalize hAe : va_A [(h, .inr (2, [.ref a, .int (nI (List.length r))])), (a, .inl (cA, 4096, .inl f))] s.heap.size = A at hD ⊢
  have hA : ∀ q : Nat, s.heap.size ≤ q → A q := fun q h => by rw [← hAe]; exact Or.inr h
  have hS : va_S A s.heap s.heap [] := va_S.rf
  have hP : va_P (dC, dI) vwCl [(h, .inr (2, [.ref a, .int (nI (List.length r))])), (a, .inl (cA, 4096, .inl f))] s.heap := hP
  have hl := lv_entry ([.ref h, .int (nI i)]) (n := 4) (Nat.le_of_ble_eq_true rfl)
  rw [lg_entry_eq]
  generalize (lg_sl ([.ref h, .int (nI i)]) ++ List.replicate (4 - (lg_sl ([.ref h, .int (nI i)])).length) Slot.unset).toArray = ls at hl ⊢
  have hl : lv_has ls 4 [(0, .ref h), (1, .int (nI i))] := hl
  refine lv_aload_n hx hb dX2_sameFrom_0 rfl (lv_at hl 0 rfl) ?_
  refine lv_iload_n hx hb dX2_sameFrom_1 rfl (lv_at hl 1 rfl) ?_
  refine kret_i (wc := [(h, .inr (2, [.ref a, .int (nI (List.length r))])), (a, .inl (cA, 4096, .inl f))]) (wr := []) (va_runV (As := [.int (nI i)]) (rest := []) ⟨hx, hb, hml, hown, hts⟩ (c_Row_at l dC dI _ h a cA f r (nI i) hf hn) (cwV 1 hts (gdV m_171 m_172 m_173 m_6 m_174) rfl rfl rfl (by decide +kernel) ⟨Nat.le_of_ble_eq_true rfl, Nat.le_of_ble_eq_true rfl⟩) (kpV hNs hK hP hD [0, 1] [0] rfl rfl (by decide) (ci := 2) rfl rfl) rfl rfl hl.1 rfl (lv_room (Nat.le_of_ble_eq_true rfl)) dX2_sameFrom_2 ⟨Nat.le_of_ble_eq_true rfl, Nat.le_of_ble_eq_true rfl⟩) hP hD hS hA [0, 1] [] rfl rfl (by decide) (by decide) (fun y _ H locs hpo hK1 hP hD hS => ?_)
  have hy := hpo
  have hP : va_P (dC, dI) vwCl [(h, .inr (2, [.ref a, .int (nI (List.length r))])), (a, .inl (cA, 4096, .inl f))] H := hP
  have hD : va_D A [(h, .inr (2, [.ref a, .int (nI (List.length r))])), (a, .inl (cA, 4096, .inl f))] := hD
  rw [rAt_nI (by omega) (by omega)] at hy
  subst hy
  refine lv_istore_n (lv' := [(2, .int (r.getD i 0)), (0, .ref h), (1, .int (nI i))]) hx hb dX2_sameFrom_5 rfl hl (by decide) rfl (fun ls hl => ?_)
  refine lv_iload_n hx hb dX2_sameFrom_6 rfl (lv_at hl 2 rfl) ?_
  refine lv_istore_n (lv' := [(3, .int (nI i)), (2, .int (r.getD i 0)), (0, .ref h), (1, .int (nI i))]) hx hb dX2_sameFrom_7 rfl hl (by decide) rfl (fun ls hl => ?_)
  refine k_loop (σ := Nat) (fun (z : Nat) H locs ls => match z with
        | k => i ≤ k ∧ k ≤ r.length ∧ (∀ j, j < k - i → r.getD (i + j) 0 = r.getD i 0) ∧ va_P (dC, dI) vwCl [(h, .inr (2, [.ref a, .int (nI (List.length r))])), (a, .inl (cA, 4096, .inl f))] H ∧ va_D A [(h, .inr (2, [.ref a, .int (nI (List.length r))])), (a, .inl (cA, 4096, .inl f))] ∧ va_S A s.heap H locs ∧ lv_has ls 4 [(0, .ref h), (1, .int (nI i)), (2, .int (r.getD i 0)), (3, .int (nI k))]) (fun z => match z with
        | k => r.length - k) ?_ (i) _ _ _ ⟨Nat.le_refl i, by omega, fun j hj => absurd hj (by omega), hP.sub [0, 1] rfl, hD.sub [0, 1] (by decide) rfl, hS, lv_sub hl [2, 3, 1, 0] rfl⟩
  intro z H locs ls hI ih
  obtain ⟨k, rfl⟩ : ∃ y, y = z := ⟨_, rfl⟩
  obtain ⟨hik, hk, hks, hP, hD, hS, hl⟩ := hI
  refine lv_iload_n hx hb dX2_sameFrom_8 rfl (lv_at hl 3 rfl) ?_
  refine lv_aload_n hx hb dX2_sameFrom_9 rfl (lv_at hl 0 rfl) ?_
  refine va_get (D := (dC, dI)) (ci := 2) (v := .int (nI (List.length r))) (C := RX2) (T := TX2) (N := 2) hx hb hts iX2 hown hK hP 0 rfl rfl 1 (by decide) (hts _ m_74) (fun _ h9 => h9) rfl dX2_sameFrom_10 ?_
  refine lv_icmp_ge (tgt := 31) hx hb dX2_sameFrom_13 (by decide) (fun c_13 => ?_) (fun c_13 => ?_)
  · rw [nI_leI (a := (List.length r)) (b := k) (by omega) (by omega)] at c_13
    refine lv_iload_n hx hb dX2_sameFrom_31 rfl (lv_at hl 3 rfl) ?_
    refine lv_iload_n hx hb dX2_sameFrom_32 rfl (lv_at hl 1 rfl) ?_
    refine lv_isub hx hb dX2_sameFrom_33 ?_
    refine tI_ (y := nI (k - i)) (pk_sub (by omega)) ?_
    exact kend_i hx hb hr hlocks dX2_sameFrom_34 (rfl) hK hP hD hS (()) ((congrArg nI (same_of (d := k - i) (by omega) hks (fun h9 => absurd h9 (by omega)))).symm) [0, 1] [0] rfl (by decide) rfl
  · rw [nI_leI (a := (List.length r)) (b := k) (by omega) (by omega)] at c_13
    refine lv_aload_n hx hb dX2_sameFrom_16 rfl (lv_at hl 0 rfl) ?_
    refine lv_iload_n hx hb dX2_sameFrom_17 rfl (lv_at hl 3 rfl) ?_
    refine kret_i (wc := [(h, .inr (2, [.ref a, .int (nI (List.length r))])), (a, .inl (cA, 4096, .inl f))]) (wr := []) (va_runV (As := [.int (nI k)]) (rest := []) ⟨hx, hb, hml, hown, hts⟩ (c_Row_at l dC dI _ h a cA f r (nI k) hf hn) (cwV 1 hts (gdV m_171 m_172 m_173 m_6 m_174) rfl rfl rfl (by decide +kernel) ⟨Nat.le_of_ble_eq_true rfl, Nat.le_of_ble_eq_true rfl⟩) (kpV hNs hK hP hD [0, 1] [0] rfl rfl (by decide) (ci := 2) rfl rfl) rfl rfl hl.1 rfl (lv_room (Nat.le_of_ble_eq_true rfl)) dX2_sameFrom_18 ⟨Nat.le_of_ble_eq_true rfl, Nat.le_of_ble_eq_true rfl⟩) hP hD hS hA [0, 1] [] rfl rfl (by decide) (by decide) (fun y _ H locs hpo hK1 hP hD hS => ?_)
    have hy := hpo
    have hP : va_P (dC, dI) vwCl [(h, .inr (2, [.ref a, .int (nI (List.length r))])), (a, .inl (cA, 4096, .inl f))] H := hP
    have hD : va_D A [(h, .inr (2, [.ref a, .int (nI (List.length r))])), (a, .inl (cA, 4096, .inl f))] := hD
    rw [rAt_nI (by omega) (by omega)] at hy
    subst hy
    refine lv_iload_n hx hb dX2_sameFrom_21 rfl (lv_at hl 2 rfl) ?_
    refine lv_icmp_ne (tgt := 31) hx hb dX2_sameFrom_22 (by decide) (fun c_22 => ?_) (fun c_22 => ?_)
    · refine lv_iload_n hx hb dX2_sameFrom_31 rfl (lv_at hl 3 rfl) ?_
      refine lv_iload_n hx hb dX2_sameFrom_32 rfl (lv_at hl 1 rfl) ?_
      refine lv_isub hx hb dX2_sameFrom_33 ?_
      refine tI_ (y := nI (k - i)) (pk_sub (by omega)) ?_
      exact kend_i hx hb hr hlocks dX2_sameFrom_34 (rfl) hK hP hD hS (()) ((congrArg nI (same_of (d := k - i) (by omega) hks (fun _ => by rw [show i + (k - i) = k by omega]; exact c_22))).symm) [0, 1] [0] rfl (by decide) rfl
    · refine lv_iinc (v := nI (k + 1)) (lv' := [(3, .int (nI (k + 1))), (0, .ref h), (1, .int (nI i)), (2, .int (r.getD i 0))]) hx hb dX2_sameFrom_25 hl (k := 3) rfl (ii_add (c := 1) (k := 1) k (by decide)) (by decide) rfl (fun ls hl => ?_)
      refine lv_goto (tgt := 8) hx hb dX2_sameFrom_28 (by decide) ?_
      exact ih (k + 1) _ _ _ ⟨by omega, by omega, fun j hj => by
        by_cases hjk : j = k - i
        · rw [hjk, show i + (k - i) = k by omega]; exact c_22
        · exact hks j (by omega), hP.sub [0, 1] rfl, hD.sub [0, 1] (by decide) rfl, hS, lv_sub hl [1, 2, 3, 0] rfl⟩ (by show r.length - (k + 1) < r.length - k; omega)

