set_option maxHeartbeats 4000000 in
set_option maxRecDepth 100000 in
/-- Bytes(most) -/
theorem c_Bytes_init (l : Launch) (dC : Nat → ClassId) (dI : Nat → Nat → Nat) (sz : Nat) (h N : Nat) (hN0 : 0 < N) (hN : N ≤ 16386) : Met l yX0_init wsX0_init ({ frames := 1, cells := 1, slots := N, locals := 20 }) (va_Pc [.ref h, .int (nI N)] (kB (dC, dI) vwCl [] [(h, .inr (0, [.null, .int 0]))] sz)) (va_Qv (fun (_ : Nat × ClassId) => True) (kE (dC, dI) vwCl (va_A [(h, .inr (0, [.null, .int 0]))] sz) (fun u => [(u.2, .byte)]) (fun u => [(h, .inr (0, [.ref u.1, .int (nI (List.length ([] : List Nat)))])), (u.1, .inl (u.2, N, .inl (fun _ => (0 : Int32))))])) (va_A [(h, .inr (0, [.null, .int 0]))] sz)) 1 N (va_A [(h, .inr (0, [.null, .int 0]))] sz) := by
  refine Met.ofW (cc := cX0_init) (maxL := 2) (ret := none) (by decide) rfl ?_
  intro p e s m args below meth c s₁ B hml hv
  obtain ⟨rfl, hsz, hP, hK, hD0, hNs⟩ := hv
  have hx := B.exec
  have hb := B.bytes
  have hr := B.returns
  have hts := fun w (h : w ∈ lw_g) => atoms_spec (ws := wsX0_init) B.pre w (List.mem_cons_of_mem _ h)
  have hown : s.vm.findClass RX0 = some m.cls := findClass_of_methodNamed B.named
  have hlocks := B.notSynchronized
  have hin : meth.name = "<init>" := (name_of_methodNamed B.named B.method).1
  subst hsz
  have hD := hD0.self (sz := s.heap.size)
  generalize hAe : va_A [(h, .inr (0, [.null, .int 0]))] s.heap.size = A at hD ⊢
  have hA : ∀ q : Nat, s.heap.size ≤ q → A q := fun q h => by rw [← hAe]; exact Or.inr h
  have hS : va_S A s.heap s.heap [] := va_S.rf
  have hP : va_P (dC, dI) vwCl [(h, .inr (0, [.null, .int 0]))] s.heap := hP
  have hl := lv_entry ([.ref h, .int (nI N)]) (n := 2) (Nat.le_of_ble_eq_true rfl)
  rw [lg_entry_eq]
  generalize (lg_sl ([.ref h, .int (nI N)]) ++ List.replicate (2 - (lg_sl ([.ref h, .int (nI N)])).length) Slot.unset).toArray = ls at hl ⊢
  have hl : lv_has ls 2 [(0, .ref h), (1, .int (nI N))] := hl
  refine lv_aload_n hx hb dX0_init_0 rfl (lv_at hl 0 rfl) ?_
  refine W.objInit hx hb hown (hts _ m_23) (hts _ m_16) (hts _ m_17) rfl (by rw [hml]; exact hl.1) rfl dX0_init_1 (Nat.le_of_ble_eq_true rfl) (Nat.le_of_ble_eq_true rfl) ?_
  refine W.eq (g2 := F0 m 4 ls []) rfl ?_
  refine lv_aload_n hx hb dX0_init_4 rfl (lv_at hl 0 rfl) ?_
  refine lv_iconst (v := nI 0) hx hb dX0_init_5 (by decide) ?_
  refine va_put (D := (dC, dI)) (ci := 0) (v := .int (nI 0)) (ty := .int) (C := RX0) (T := TX0) (N := 2) hx hb hts iX0 tyX0 tyX0_ok nmX0 hown hK hP hD hS 0 rfl rfl 1 (by decide) (hts _ m_28) (fun _ h9 => h9) rfl (by decide +kernel) rfl rfl (Nat.le_of_ble_eq_true rfl) dX0_init_6 (fun H locs hP hD hS => ?_)
  have hP : va_P (dC, dI) vwCl [(h, .inr (0, [.null, .int (nI 0)]))] H := hP
  have hD : va_D A [(h, .inr (0, [.null, .int (nI 0)]))] := hD
  refine lv_aload_n hx hb dX0_init_9 rfl (lv_at hl 0 rfl) ?_
  refine lv_iconst (v := nI 0) hx hb dX0_init_10 (by decide) ?_
  refine lv_iload_n hx hb dX0_init_11 rfl (lv_at hl 1 rfl) ?_
  refine va_mmax hx hb (by rw [hml]; exact hl.1.symm) hown (hts _ m_24) (hts _ m_25) (hts _ m_3) (hts _ m_26) (Nat.le_of_ble_eq_true rfl) (Nat.le_of_ble_eq_true rfl) (Nat.zero_le _) (Nat.zero_le _) dX0_init_12 ?_
  refine tI_ (y := nI N) (if_pos (nI_lt hN0 (by omega))) ?_
  refine va_newa (atype := .byte) (ty := .byte) (N' := N) (a0 := (N, .inl (fun _ => 0))) hx hb (hts _ m_34) rfl hK hP hD hS hA (fun _ => rfl) (nI_pos (by omega)) (nI_clamp (by omega)) (by show N * 1 ≤ 536870912; omega) (Nat.le_of_ble_eq_true rfl) (by show 0 + N ≤ N; omega) dX0_init_15 (fun a cA H hK hP hD hS => ?_)
  have hK : va_K (dC, dI) vwCl [(cA, .byte)] s := hK
  have hP : va_P (dC, dI) vwCl [(h, .inr (0, [.null, .int (nI 0)])), (a, .inl (cA, N, .inl (fun _ => 0)))] H := hP
  have hD : va_D A [(h, .inr (0, [.null, .int (nI 0)])), (a, .inl (cA, N, .inl (fun _ => 0)))] := hD
  have hP : va_P (dC, dI) vwCl [(h, .inr (0, [.null, .int (nI 0)])), (a, .inl (cA, N, .inl (fun _ => (0 : Int32))))] H := hP
  have hD : va_D A [(h, .inr (0, [.null, .int (nI 0)])), (a, .inl (cA, N, .inl (fun _ => (0 : Int32))))] := hD
  refine va_putF (D := (dC, dI)) (ci := 0) (v := .ref a) (ty := .array .byte) (C := RX0) (T := TX0) (N := 2) hx hb hts iX0 tyX0 tyX0_ok nmX0 hown hK hP hD hS 0 rfl rfl 0 (by decide) (hts _ m_27) (fun _ h9 => h9) rfl hin rfl (by decide +kernel) rfl rfl (Nat.le_of_ble_eq_true rfl) dX0_init_17 (fun H locs hP hD hS => ?_)
  have hP : va_P (dC, dI) vwCl [(h, .inr (0, [.ref a, .int (nI 0)])), (a, .inl (cA, N, .inl (fun _ => (0 : Int32))))] H := hP
  have hD : va_D A [(h, .inr (0, [.ref a, .int (nI 0)])), (a, .inl (cA, N, .inl (fun _ => (0 : Int32))))] := hD
  refine W.widen (k := 1) (n := N) (by omega) (by omega) ?_
  exact kend_v hx hb hr hlocks dX0_init_20 hK hP hD hS ((a, cA)) (trivial) [0, 1] [0] rfl (by decide) rfl

set_option maxHeartbeats 4000000 in
set_option maxRecDepth 100000 in
/-- Row() -/
theorem c_Row_init (l : Launch) (dC : Nat → ClassId) (dI : Nat → Nat → Nat) (sz : Nat) (h : Nat)  : Met l yX2_init wsX2_init ({ frames := 1, cells := 1, slots := 4096, locals := 12 }) (va_Pc [.ref h] (kB (dC, dI) vwCl [] [(h, .inr (2, [.null, .int 0]))] sz)) (va_Qv (fun (_ : Nat × ClassId) => True) (kE (dC, dI) vwCl (va_A [(h, .inr (2, [.null, .int 0]))] sz) (fun u => [(u.2, .int)]) (fun u => [(h, .inr (2, [.ref u.1, .int (nI (List.length ([] : List Int32)))])), (u.1, .inl (u.2, 4096, .inl (fun _ => (0 : Int32))))])) (va_A [(h, .inr (2, [.null, .int 0]))] sz)) 1 4096 (va_A [(h, .inr (2, [.null, .int 0]))] sz) := by
  refine Met.ofW (cc := cX2_init) (maxL := 1) (ret := none) (by decide) rfl ?_
  intro p e s m args below meth c s₁ B hml hv
  obtain ⟨rfl, hsz, hP, hK, hD0, hNs⟩ := hv
  have hx := B.exec
  have hb := B.bytes
  have hr := B.returns
  have hts := fun w (h : w ∈ lw_g) => atoms_spec (ws := wsX2_init) B.pre w (List.mem_cons_of_mem _ h)
  have hown : s.vm.findClass RX2 = some m.cls := findClass_of_methodNamed B.named
  have hlocks := B.notSynchronized
  have hin : meth.name = "<init>" := (name_of_methodNamed B.named B.method).1
  subst hsz
  have hD := hD0.self (sz := s.heap.size)
  generalize hAe : va_A [(h, .inr (2, [.null, .int 0]))] s.heap.size = A at hD ⊢
  have hA : ∀ q : Nat, s.heap.size ≤ q → A q := fun q h => by rw [← hAe]; exact Or.inr h
  have hS : va_S A s.heap s.heap [] := va_S.rf
  have hP : va_P (dC, dI) vwCl [(h, .inr (2, [.null, .int 0]))] s.heap := hP
  have hl := lv_entry ([.ref h]) (n := 1) (Nat.le_of_ble_eq_true rfl)
  rw [lg_entry_eq]
  generalize (lg_sl ([.ref h]) ++ List.replicate (1 - (lg_sl ([.ref h])).length) Slot.unset).toArray = ls at hl ⊢
  have hl : lv_has ls 1 [(0, .ref h)] := hl
  refine lv_aload_n hx hb dX2_init_0 rfl (lv_at hl 0 rfl) ?_
  refine W.objInit hx hb hown (hts _ m_72) (hts _ m_16) (hts _ m_17) rfl (by rw [hml]; exact hl.1) rfl dX2_init_1 (Nat.le_of_ble_eq_true rfl) (Nat.le_of_ble_eq_true rfl) ?_
  refine W.eq (g2 := F0 m 4 ls []) rfl ?_
  refine lv_aload_n hx hb dX2_init_4 rfl (lv_at hl 0 rfl) ?_
  refine lv_sipush (v := nI 4096) hx hb dX2_init_5 (by decide) ?_
  refine va_newa (atype := .int) (ty := .int) (N' := 4096) (a0 := (4096, .inl (fun _ => 0))) hx hb (hts _ m_80) rfl hK hP hD hS hA (fun _ => rfl) (nI_pos (by decide)) (nI_clamp (by decide)) (by decide) (Nat.le_of_ble_eq_true rfl) (Nat.le_of_ble_eq_true rfl) dX2_init_8 (fun a cA H hK hP hD hS => ?_)
  have hK : va_K (dC, dI) vwCl [(cA, .int)] s := hK
  have hP : va_P (dC, dI) vwCl [(h, .inr (2, [.null, .int 0])), (a, .inl (cA, 4096, .inl (fun _ => 0)))] H := hP
  have hD : va_D A [(h, .inr (2, [.null, .int 0])), (a, .inl (cA, 4096, .inl (fun _ => 0)))] := hD
  have hP : va_P (dC, dI) vwCl [(h, .inr (2, [.null, .int 0])), (a, .inl (cA, 4096, .inl (fun _ => (0 : Int32))))] H := hP
  have hD : va_D A [(h, .inr (2, [.null, .int 0])), (a, .inl (cA, 4096, .inl (fun _ => (0 : Int32))))] := hD
  refine va_putF (D := (dC, dI)) (ci := 2) (v := .ref a) (ty := .array .int) (C := RX2) (T := TX2) (N := 2) hx hb hts iX2 tyX2 tyX2_ok nmX2 hown hK hP hD hS 0 rfl rfl 0 (by decide) (hts _ m_73) (fun _ h9 => h9) rfl hin rfl (by decide +kernel) rfl rfl (Nat.le_of_ble_eq_true rfl) dX2_init_10 (fun H locs hP hD hS => ?_)
  have hP : va_P (dC, dI) vwCl [(h, .inr (2, [.ref a, .int 0])), (a, .inl (cA, 4096, .inl (fun _ => (0 : Int32))))] H := hP
  have hD : va_D A [(h, .inr (2, [.ref a, .int 0])), (a, .inl (cA, 4096, .inl (fun _ => (0 : Int32))))] := hD
  refine lv_aload_n hx hb dX2_init_13 rfl (lv_at hl 0 rfl) ?_
  refine lv_iconst (v := nI 0) hx hb dX2_init_14 (by decide) ?_
  refine va_put (D := (dC, dI)) (ci := 2) (v := .int (nI 0)) (ty := .int) (C := RX2) (T := TX2) (N := 2) hx hb hts iX2 tyX2 tyX2_ok nmX2 hown hK hP hD hS 0 rfl rfl 1 (by decide) (hts _ m_74) (fun _ h9 => h9) rfl (by decide +kernel) rfl rfl (Nat.le_of_ble_eq_true rfl) dX2_init_15 (fun H locs hP hD hS => ?_)
  have hP : va_P (dC, dI) vwCl [(h, .inr (2, [.ref a, .int (nI 0)])), (a, .inl (cA, 4096, .inl (fun _ => (0 : Int32))))] H := hP
  have hD : va_D A [(h, .inr (2, [.ref a, .int (nI 0)])), (a, .inl (cA, 4096, .inl (fun _ => (0 : Int32))))] := hD
  refine W.widen (k := 1) (n := 4096) (by omega) (by omega) ?_
  exact kend_v hx hb hr hlocks dX2_init_18 hK hP hD hS ((a, cA)) (trivial) [0, 1] [0] rfl (by decide) rfl

set_option maxHeartbeats 4000000 in
set_option maxRecDepth 100000 in
/-- Writer() -/
theorem c_Writer_init (l : Launch) (dC : Nat → ClassId) (dI : Nat → Nat → Nat) (sz : Nat) (h : Nat)  : Met l yX3_init wsX3_init ({ frames := 2, cells := 2, slots := 16388, locals := 41 }) (va_Pc [.ref h] (kB (dC, dI) vwCl [] [(h, .inr (3, [.null]))] sz)) (va_Qv (fun (_ : Nat × Nat × ClassId) => True) (kE (dC, dI) vwCl (va_A [(h, .inr (3, [.null]))] sz) (fun u => [(u.2.2, .byte)]) (fun u => [(h, .inr (3, [.ref u.1])), (u.1, .inr (0, [.ref u.2.1, .int (nI (List.length ([] : List Nat)))])), (u.2.1, .inl (u.2.2, 16386, .inl (fun _ => (0 : Int32))))])) (va_A [(h, .inr (3, [.null]))] sz)) 2 16388 (va_A [(h, .inr (3, [.null]))] sz) := by
  refine Met.ofW (cc := cX3_init) (maxL := 1) (ret := none) (by decide) rfl ?_
  intro p e s m args below meth c s₁ B hml hv
  obtain ⟨rfl, hsz, hP, hK, hD0, hNs⟩ := hv
  have hx := B.exec
  have hb := B.bytes
  have hr := B.returns
  have hts := fun w (h : w ∈ lw_g) => atoms_spec (ws := wsX3_init) B.pre w (List.mem_cons_of_mem _ h)
  have hown : s.vm.findClass RX3 = some m.cls := findClass_of_methodNamed B.named
  have hlocks := B.notSynchronized
  have hin : meth.name = "<init>" := (name_of_methodNamed B.named B.method).1
  subst hsz
  have hD := hD0.self (sz := s.heap.size)
  generalize hAe : va_A [(h, .inr (3, [.null]))] s.heap.size = A at hD ⊢
  have hA : ∀ q : Nat, s.heap.size ≤ q → A q := fun q h => by rw [← hAe]; exact Or.inr h
  have hS : va_S A s.heap s.heap [] := va_S.rf
  have hP : va_P (dC, dI) vwCl [(h, .inr (3, [.null]))] s.heap := hP
  have hl := lv_entry ([.ref h]) (n := 1) (Nat.le_of_ble_eq_true rfl)
  rw [lg_entry_eq]
  generalize (lg_sl ([.ref h]) ++ List.replicate (1 - (lg_sl ([.ref h])).length) Slot.unset).toArray = ls at hl ⊢
  have hl : lv_has ls 1 [(0, .ref h)] := hl
  refine lv_aload_n hx hb dX3_init_0 rfl (lv_at hl 0 rfl) ?_
  refine W.objInit hx hb hown (hts _ m_40) (hts _ m_16) (hts _ m_17) rfl (by rw [hml]; exact hl.1) rfl dX3_init_1 (Nat.le_of_ble_eq_true rfl) (Nat.le_of_ble_eq_true rfl) ?_
  refine W.eq (g2 := F0 m 4 ls []) rfl ?_
  refine lv_aload_n hx hb dX3_init_4 rfl (lv_at hl 0 rfl) ?_
  refine va_new (ci := 0) (fs := [.null, .int 0]) (C := RX0) (T := TX0) (N := 2) hx hb hts iX0 tyX0 tyX0_ok hown (hts _ m_41) (hts _ m_19) (hts _ m_2) hK hP hD hS hA rfl (fun j hj => by rcases (show j = 0 ∨ j = 1 by omega) with rfl | rfl <;> rfl) (Nat.le_of_ble_eq_true rfl) (Nat.le_of_ble_eq_true rfl) dX3_init_5 (fun b H hP hD hS => ?_)
  have hP : va_P (dC, dI) vwCl [(h, .inr (3, [.null])), (b, .inr (0, [.null, .int 0]))] H := hP
  have hD : va_D A [(h, .inr (3, [.null])), (b, .inr (0, [.null, .int 0]))] := hD
  refine W.widen (k := 1) (n := 2) (by omega) (by omega) ?_
  refine lv_dup hx hb dX3_init_8 rfl ?_
  refine lv_sipush (v := nI 16386) hx hb dX3_init_9 (by decide) ?_
  refine kret_v (wc := [(b, .inr (0, [.null, .int 0]))]) (wr := [(h, .inr (3, [.null]))]) (va_runI (As := [.int (nI 16386)]) (rest := [.ref b, .ref h]) ⟨hx, hb, hml, hown, hts⟩ (c_Bytes_init l dC dI _ b 16386 (by decide) (by decide)) (cwI 1 hts (gdC m_22) rfl rfl rfl (hts _ m_2) (hts _ m_42) (hts _ m_21) rfl (by decide +kernel) ⟨Nat.le_of_ble_eq_true rfl, Nat.le_of_ble_eq_true rfl⟩) (kpS hNs hK hP hD [1] [] rfl rfl (by decide)) rfl rfl hl.1 rfl (lv_room (Nat.le_of_ble_eq_true rfl)) dX3_init_12 ⟨Nat.le_of_ble_eq_true rfl, Nat.le_of_ble_eq_true rfl⟩) hP hD hS hA [1] [0] rfl rfl (by decide) (by decide) (fun u H locs hpo hK1 hP hD hS => ?_)
  have hP : va_P (dC, dI) vwCl [(h, .inr (3, [.null])), (b, .inr (0, [.ref u.1, .int (nI (List.length ([] : List Nat)))])), (u.1, .inl (u.2, 16386, .inl (fun _ => (0 : Int32))))] H := hP
  have hD : va_D A [(h, .inr (3, [.null])), (b, .inr (0, [.ref u.1, .int (nI (List.length ([] : List Nat)))])), (u.1, .inl (u.2, 16386, .inl (fun _ => (0 : Int32))))] := hD
  obtain ⟨a, cA⟩ := u
  have hP : va_P (dC, dI) vwCl [(h, .inr (3, [.null])), (b, .inr (0, [.ref a, .int (nI (List.length ([] : List Nat)))])), (a, .inl (cA, 16386, .inl (fun _ => (0 : Int32))))] H := hP
  have hD : va_D A [(h, .inr (3, [.null])), (b, .inr (0, [.ref a, .int (nI (List.length ([] : List Nat)))])), (a, .inl (cA, 16386, .inl (fun _ => (0 : Int32))))] := hD
  have hK : va_K (dC, dI) vwCl [(cA, .byte)] s := hK.app hK1
  refine W.widen (k := 2) (n := 16388) (by omega) (by omega) ?_
  refine va_putF (D := (dC, dI)) (ci := 3) (v := .ref b) (ty := .object "RunRows$Bytes") (C := RX3) (T := TX3) (N := 1) hx hb hts iX3 tyX3 tyX3_ok nmX3 hown hK hP hD hS 0 rfl rfl 0 (by decide) (hts _ m_43) (fun _ h9 => h9) rfl hin rfl (by decide +kernel) rfl rfl (Nat.le_of_ble_eq_true rfl) dX3_init_15 (fun H locs hP hD hS => ?_)
  have hP : va_P (dC, dI) vwCl [(h, .inr (3, [.ref b])), (b, .inr (0, [.ref a, .int (nI (List.length ([] : List Nat)))])), (a, .inl (cA, 16386, .inl (fun _ => (0 : Int32))))] H := hP
  have hD : va_D A [(h, .inr (3, [.ref b])), (b, .inr (0, [.ref a, .int (nI (List.length ([] : List Nat)))])), (a, .inl (cA, 16386, .inl (fun _ => (0 : Int32))))] := hD
  exact kend_v hx hb hr hlocks dX3_init_18 hK hP hD hS ((b, a, cA)) (trivial) [0, 1, 2] [0] rfl (by decide) rfl

set_option maxHeartbeats 4000000 in
set_option maxRecDepth 100000 in
/-- Reader() -/
theorem c_Reader_init (l : Launch) (dC : Nat → ClassId) (dI : Nat → Nat → Nat) (sz : Nat) (h : Nat)  : Met l yX1_init wsX1_init ({ frames := 2, cells := 2, slots := 8194, locals := 41 }) (va_Pc [.ref h] (kB (dC, dI) vwCl [] [(h, .inr (1, [.null, .int 0, .long 0]))] sz)) (va_Qv (fun (_ : Nat × Nat × ClassId) => True) (kE (dC, dI) vwCl (va_A [(h, .inr (1, [.null, .int 0, .long 0]))] sz) (fun u => [(u.2.2, .byte)]) (fun u => [(h, .inr (1, [.ref u.1, .int (nI 0), .long (lN 0)])), (u.1, .inr (0, [.ref u.2.1, .int (nI (List.length ([] : List Nat)))])), (u.2.1, .inl (u.2.2, 8192, .inl (fun _ => (0 : Int32))))])) (va_A [(h, .inr (1, [.null, .int 0, .long 0]))] sz)) 2 8194 (va_A [(h, .inr (1, [.null, .int 0, .long 0]))] sz) := by
  refine Met.ofW (cc := cX1_init) (maxL := 1) (ret := none) (by decide) rfl ?_
  intro p e s m args below meth c s₁ B hml hv
  obtain ⟨rfl, hsz, hP, hK, hD0, hNs⟩ := hv
  have hx := B.exec
  have hb := B.bytes
  have hr := B.returns
  have hts := fun w (h : w ∈ lw_g) => atoms_spec (ws := wsX1_init) B.pre w (List.mem_cons_of_mem _ h)
  have hown : s.vm.findClass RX1 = some m.cls := findClass_of_methodNamed B.named
  have hlocks := B.notSynchronized
  have hin : meth.name = "<init>" := (name_of_methodNamed B.named B.method).1
  subst hsz
  have hD := hD0.self (sz := s.heap.size)
  generalize hAe : va_A [(h, .inr (1, [.null, .int 0, .long 0]))] s.heap.size = A at hD ⊢
  have hA : ∀ q : Nat, s.heap.size ≤ q → A q := fun q h => by rw [← hAe]; exact Or.inr h
  have hS : va_S A s.heap s.heap [] := va_S.rf
  have hP : va_P (dC, dI) vwCl [(h, .inr (1, [.null, .int 0, .long 0]))] s.heap := hP
  have hl := lv_entry ([.ref h]) (n := 1) (Nat.le_of_ble_eq_true rfl)
  rw [lg_entry_eq]
  generalize (lg_sl ([.ref h]) ++ List.replicate (1 - (lg_sl ([.ref h])).length) Slot.unset).toArray = ls at hl ⊢
  have hl : lv_has ls 1 [(0, .ref h)] := hl
  refine lv_aload_n hx hb dX1_init_0 rfl (lv_at hl 0 rfl) ?_
  refine W.objInit hx hb hown (hts _ m_53) (hts _ m_16) (hts _ m_17) rfl (by rw [hml]; exact hl.1) rfl dX1_init_1 (Nat.le_of_ble_eq_true rfl) (Nat.le_of_ble_eq_true rfl) ?_
  refine W.eq (g2 := F0 m 4 ls []) rfl ?_
  refine lv_aload_n hx hb dX1_init_4 rfl (lv_at hl 0 rfl) ?_
  refine va_new (ci := 0) (fs := [.null, .int 0]) (C := RX0) (T := TX0) (N := 2) hx hb hts iX0 tyX0 tyX0_ok hown (hts _ m_54) (hts _ m_19) (hts _ m_2) hK hP hD hS hA rfl (fun j hj => by rcases (show j = 0 ∨ j = 1 by omega) with rfl | rfl <;> rfl) (Nat.le_of_ble_eq_true rfl) (Nat.le_of_ble_eq_true rfl) dX1_init_5 (fun b H hP hD hS => ?_)
  have hP : va_P (dC, dI) vwCl [(h, .inr (1, [.null, .int 0, .long 0])), (b, .inr (0, [.null, .int 0]))] H := hP
  have hD : va_D A [(h, .inr (1, [.null, .int 0, .long 0])), (b, .inr (0, [.null, .int 0]))] := hD
  refine W.widen (k := 1) (n := 2) (by omega) (by omega) ?_
  refine lv_dup hx hb dX1_init_8 rfl ?_
  refine lv_sipush (v := nI 8192) hx hb dX1_init_9 (by decide) ?_
  refine kret_v (wc := [(b, .inr (0, [.null, .int 0]))]) (wr := [(h, .inr (1, [.null, .int 0, .long 0]))]) (va_runI (As := [.int (nI 8192)]) (rest := [.ref b, .ref h]) ⟨hx, hb, hml, hown, hts⟩ (c_Bytes_init l dC dI _ b 8192 (by decide) (by decide)) (cwI 1 hts (gdC m_22) rfl rfl rfl (hts _ m_2) (hts _ m_55) (hts _ m_21) rfl (by decide +kernel) ⟨Nat.le_of_ble_eq_true rfl, Nat.le_of_ble_eq_true rfl⟩) (kpS hNs hK hP hD [1] [] rfl rfl (by decide)) rfl rfl hl.1 rfl (lv_room (Nat.le_of_ble_eq_true rfl)) dX1_init_12 ⟨Nat.le_of_ble_eq_true rfl, Nat.le_of_ble_eq_true rfl⟩) hP hD hS hA [1] [0] rfl rfl (by decide) (by decide) (fun u H locs hpo hK1 hP hD hS => ?_)
  have hP : va_P (dC, dI) vwCl [(h, .inr (1, [.null, .int 0, .long 0])), (b, .inr (0, [.ref u.1, .int (nI (List.length ([] : List Nat)))])), (u.1, .inl (u.2, 8192, .inl (fun _ => (0 : Int32))))] H := hP
  have hD : va_D A [(h, .inr (1, [.null, .int 0, .long 0])), (b, .inr (0, [.ref u.1, .int (nI (List.length ([] : List Nat)))])), (u.1, .inl (u.2, 8192, .inl (fun _ => (0 : Int32))))] := hD
  obtain ⟨a, cA⟩ := u
  have hP : va_P (dC, dI) vwCl [(h, .inr (1, [.null, .int 0, .long 0])), (b, .inr (0, [.ref a, .int (nI (List.length ([] : List Nat)))])), (a, .inl (cA, 8192, .inl (fun _ => (0 : Int32))))] H := hP
  have hD : va_D A [(h, .inr (1, [.null, .int 0, .long 0])), (b, .inr (0, [.ref a, .int (nI (List.length ([] : List Nat)))])), (a, .inl (cA, 8192, .inl (fun _ => (0 : Int32))))] := hD
  have hK : va_K (dC, dI) vwCl [(cA, .byte)] s := hK.app hK1
  refine W.widen (k := 2) (n := 8194) (by omega) (by omega) ?_
  refine va_putF (D := (dC, dI)) (ci := 1) (v := .ref b) (ty := .object "RunRows$Bytes") (C := RX1) (T := TX1) (N := 3) hx hb hts iX1 tyX1 tyX1_ok nmX1 hown hK hP hD hS 0 rfl rfl 0 (by decide) (hts _ m_56) (fun _ h9 => h9) rfl hin rfl (by decide +kernel) rfl rfl (Nat.le_of_ble_eq_true rfl) dX1_init_15 (fun H locs hP hD hS => ?_)
  have hP : va_P (dC, dI) vwCl [(h, .inr (1, [.ref b, .int 0, .long 0])), (b, .inr (0, [.ref a, .int (nI (List.length ([] : List Nat)))])), (a, .inl (cA, 8192, .inl (fun _ => (0 : Int32))))] H := hP
  have hD : va_D A [(h, .inr (1, [.ref b, .int 0, .long 0])), (b, .inr (0, [.ref a, .int (nI (List.length ([] : List Nat)))])), (a, .inl (cA, 8192, .inl (fun _ => (0 : Int32))))] := hD
  refine lv_aload_n hx hb dX1_init_18 rfl (lv_at hl 0 rfl) ?_
  refine lv_iconst (v := nI 0) hx hb dX1_init_19 (by decide) ?_
  refine va_put (D := (dC, dI)) (ci := 1) (v := .int (nI 0)) (ty := .int) (C := RX1) (T := TX1) (N := 3) hx hb hts iX1 tyX1 tyX1_ok nmX1 hown hK hP hD hS 0 rfl rfl 1 (by decide) (hts _ m_58) (fun _ h9 => h9) rfl (by decide +kernel) rfl rfl (Nat.le_of_ble_eq_true rfl) dX1_init_20 (fun H locs hP hD hS => ?_)
  have hP : va_P (dC, dI) vwCl [(h, .inr (1, [.ref b, .int (nI 0), .long 0])), (b, .inr (0, [.ref a, .int (nI (List.length ([] : List Nat)))])), (a, .inl (cA, 8192, .inl (fun _ => (0 : Int32))))] H := hP
  have hD : va_D A [(h, .inr (1, [.ref b, .int (nI 0), .long 0])), (b, .inr (0, [.ref a, .int (nI (List.length ([] : List Nat)))])), (a, .inl (cA, 8192, .inl (fun _ => (0 : Int32))))] := hD
  refine lv_aload_n hx hb dX1_init_23 rfl (lv_at hl 0 rfl) ?_
  refine lv_lconst (v := lN 0) hx hb dX1_init_24 (by decide) ?_
  refine va_put (D := (dC, dI)) (ci := 1) (v := .long (lN 0)) (ty := .long) (C := RX1) (T := TX1) (N := 3) hx hb hts iX1 tyX1 tyX1_ok nmX1 hown hK hP hD hS 0 rfl rfl 2 (by decide) (hts _ m_59) (fun _ h9 => h9) rfl (by decide +kernel) rfl rfl (Nat.le_of_ble_eq_true rfl) dX1_init_25 (fun H locs hP hD hS => ?_)
  have hP : va_P (dC, dI) vwCl [(h, .inr (1, [.ref b, .int (nI 0), .long (lN 0)])), (b, .inr (0, [.ref a, .int (nI (List.length ([] : List Nat)))])), (a, .inl (cA, 8192, .inl (fun _ => (0 : Int32))))] H := hP
  have hD : va_D A [(h, .inr (1, [.ref b, .int (nI 0), .long (lN 0)])), (b, .inr (0, [.ref a, .int (nI (List.length ([] : List Nat)))])), (a, .inl (cA, 8192, .inl (fun _ => (0 : Int32))))] := hD
  exact kend_v hx hb hr hlocks dX1_init_28 hK hP hD hS ((b, a, cA)) (trivial) [0, 1, 2] [0] rfl (by decide) rfl

set_option maxHeartbeats 4000000 in
set_option maxRecDepth 100000 in
/-- RunRows() -/
theorem c_RunRows_init (l : Launch) (dC : Nat → ClassId) (dI : Nat → Nat → Nat) (sz : Nat) (x0 : Nat)  : Met l yX4_init wsX4_init ({ frames := 3, cells := 12, slots := 40976, locals := 61 }) (va_Pc [.ref x0] (kB (dC, dI) vwCl [] [(x0, .inr (4, [.null, .null, .null, .null, .null, .null, .null, .int 0]))] sz)) (va_Qv (fun (_ : (Nat × Nat × Nat × Nat × Nat × Nat × Nat) × (Nat × Nat × Nat × Nat × Nat) × (ClassId × ClassId × ClassId × ClassId × ClassId)) => True) (kE (dC, dI) vwCl (va_A [(x0, .inr (4, [.null, .null, .null, .null, .null, .null, .null, .int 0]))] sz) (fun u => match u with
  | ((t0, i0, o0, w0, d0, r0, p0), (t1, i1, o1, r1, p1), (cT, cI, cO, cR, cP)) => [(cT, .byte), (cI, .byte), (cO, .byte), (cR, .int), (cP, .int)]) (fun u => match u with
  | ((t0, i0, o0, w0, d0, r0, p0), (t1, i1, o1, r1, p1), (cT, cI, cO, cR, cP)) => [(x0, .inr (4, [.ref t0, .ref w0, .ref d0, .ref o0, .ref i0, .ref r0, .ref p0, .int (nI 0)])), (t0, .inr (0, [.ref t1, .int (nI (List.length ([] : List Nat)))])), (t1, .inl (cT, 8192, .inl (fun _ => (0 : Int32)))), (i0, .inr (0, [.ref i1, .int (nI (List.length ([] : List Nat)))])), (i1, .inl (cI, 8192, .inl (fun _ => (0 : Int32)))), (o0, .inr (0, [.ref o1, .int (nI (List.length ([] : List Nat)))])), (o1, .inl (cO, 16386, .inl (fun _ => (0 : Int32)))), (w0, .inr (3, [.ref o0])), (d0, .inr (1, [.ref i0, .int (nI 0), .long (lN 0)])), (r0, .inr (2, [.ref r1, .int (nI (List.length ([] : List Int32)))])), (r1, .inl (cR, 4096, .inl (fun _ => (0 : Int32)))), (p0, .inr (2, [.ref p1, .int (nI (List.length ([] : List Int32)))])), (p1, .inl (cP, 4096, .inl (fun _ => (0 : Int32))))])) (va_A [(x0, .inr (4, [.null, .null, .null, .null, .null, .null, .null, .int 0]))] sz)) 12 40976 (va_A [(x0, .inr (4, [.null, .null, .null, .null, .null, .null, .null, .int 0]))] sz) := by
  refine Met.ofW (cc := cX4_init) (maxL := 1) (ret := none) (by decide) rfl ?_
  intro p e s m args below meth c s₁ B hml hv
  obtain ⟨rfl, hsz, hP, hK, hD0, hNs⟩ := hv
  have hx := B.exec
  have hb := B.bytes
  have hr := B.returns
  have hts := fun w (h : w ∈ lw_g) => atoms_spec (ws := wsX4_init) B.pre w (List.mem_cons_of_mem _ h)
  have hown : s.vm.findClass RX4 = some m.cls := findClass_of_methodNamed B.named
  have hlocks := B.notSynchronized
  have hin : meth.name = "<init>" := (name_of_methodNamed B.named B.method).1
  subst hsz
  have hD := hD0.self (sz := s.heap.size)
  generalize hAe : va_A [(x0, .inr (4, [.null, .null, .null, .null, .null, .null, .null, .int 0]))] s.heap.size = A at hD ⊢
  have hA : ∀ q : Nat, s.heap.size ≤ q → A q := fun q h => by rw [← hAe]; exact Or.inr h
  have hS : va_S A s.heap s.heap [] := va_S.rf
  have hP : va_P (dC, dI) vwCl [(x0, .inr (4, [.null, .null, .null, .null, .null, .null, .null, .int 0]))] s.heap := hP
  have hl := lv_entry ([.ref x0]) (n := 1) (Nat.le_of_ble_eq_true rfl)
  rw [lg_entry_eq]
  generalize (lg_sl ([.ref x0]) ++ List.replicate (1 - (lg_sl ([.ref x0])).length) Slot.unset).toArray = ls at hl ⊢
  have hl : lv_has ls 1 [(0, .ref x0)] := hl
  refine lv_aload_n hx hb dX4_init_0 rfl (lv_at hl 0 rfl) ?_
  refine W.objInit hx hb hown (hts _ m_15) (hts _ m_16) (hts _ m_17) rfl (by rw [hml]; exact hl.1) rfl dX4_init_1 (Nat.le_of_ble_eq_true rfl) (Nat.le_of_ble_eq_true rfl) ?_
  refine W.eq (g2 := F0 m 4 ls []) rfl ?_
  refine lv_aload_n hx hb dX4_init_4 rfl (lv_at hl 0 rfl) ?_
  refine va_new (ci := 0) (fs := [.null, .int 0]) (C := RX0) (T := TX0) (N := 2) hx hb hts iX0 tyX0 tyX0_ok hown (hts _ m_18) (hts _ m_19) (hts _ m_2) hK hP hD hS hA rfl (fun j hj => by rcases (show j = 0 ∨ j = 1 by omega) with rfl | rfl <;> rfl) (Nat.le_of_ble_eq_true rfl) (Nat.le_of_ble_eq_true rfl) dX4_init_5 (fun t0 H hP hD hS => ?_)
  have hP : va_P (dC, dI) vwCl [(x0, .inr (4, [.null, .null, .null, .null, .null, .null, .null, .int 0])), (t0, .inr (0, [.null, .int 0]))] H := hP
  have hD : va_D A [(x0, .inr (4, [.null, .null, .null, .null, .null, .null, .null, .int 0])), (t0, .inr (0, [.null, .int 0]))] := hD
  refine W.widen (k := 1) (n := 2) (by omega) (by omega) ?_
  refine lv_dup hx hb dX4_init_8 rfl ?_
  refine lv_sipush (v := nI 8192) hx hb dX4_init_9 (by decide) ?_
  refine kret_v (wc := [(t0, .inr (0, [.null, .int 0]))]) (wr := [(x0, .inr (4, [.null, .null, .null, .null, .null, .null, .null, .int 0]))]) (va_runI (As := [.int (nI 8192)]) (rest := [.ref t0, .ref x0]) ⟨hx, hb, hml, hown, hts⟩ (c_Bytes_init l dC dI _ t0 8192 (by decide) (by decide)) (cwI 1 hts (gdC m_22) rfl rfl rfl (hts _ m_2) (hts _ m_20) (hts _ m_21) rfl (by decide +kernel) ⟨Nat.le_of_ble_eq_true rfl, Nat.le_of_ble_eq_true rfl⟩) (kpS hNs hK hP hD [1] [] rfl rfl (by decide)) rfl rfl hl.1 rfl (lv_room (Nat.le_of_ble_eq_true rfl)) dX4_init_12 ⟨Nat.le_of_ble_eq_true rfl, Nat.le_of_ble_eq_true rfl⟩) hP hD hS hA [1] [0] rfl rfl (by decide) (by decide) (fun u H locs hpo hK1 hP hD hS => ?_)
  have hP : va_P (dC, dI) vwCl [(x0, .inr (4, [.null, .null, .null, .null, .null, .null, .null, .int 0])), (t0, .inr (0, [.ref u.1, .int (nI (List.length ([] : List Nat)))])), (u.1, .inl (u.2, 8192, .inl (fun _ => (0 : Int32))))] H := hP
  have hD : va_D A [(x0, .inr (4, [.null, .null, .null, .null, .null, .null, .null, .int 0])), (t0, .inr (0, [.ref u.1, .int (nI (List.length ([] : List Nat)))])), (u.1, .inl (u.2, 8192, .inl (fun _ => (0 : Int32))))] := hD
  obtain ⟨t1, cT⟩ := u
  have hP : va_P (dC, dI) vwCl [(x0, .inr (4, [.null, .null, .null, .null, .null, .null, .null, .int 0])), (t0, .inr (0, [.ref t1, .int (nI (List.length ([] : List Nat)))])), (t1, .inl (cT, 8192, .inl (fun _ => (0 : Int32))))] H := hP
  have hD : va_D A [(x0, .inr (4, [.null, .null, .null, .null, .null, .null, .null, .int 0])), (t0, .inr (0, [.ref t1, .int (nI (List.length ([] : List Nat)))])), (t1, .inl (cT, 8192, .inl (fun _ => (0 : Int32))))] := hD
  have hK : va_K (dC, dI) vwCl [(cT, .byte)] s := hK.app hK1
  refine W.widen (k := 2) (n := 8194) (by omega) (by omega) ?_
  refine va_putF (D := (dC, dI)) (ci := 4) (v := .ref t0) (ty := .object "RunRows$Bytes") (C := RX4) (T := TX4) (N := 8) hx hb hts iX4 tyX4 tyX4_ok nmX4 hown hK hP hD hS 0 rfl rfl 0 (by decide) (hts _ m_81) (fun _ h9 => h9) rfl hin rfl (by decide +kernel) rfl rfl (Nat.le_of_ble_eq_true rfl) dX4_init_15 (fun H locs hP hD hS => ?_)
  have hP : va_P (dC, dI) vwCl [(x0, .inr (4, [.ref t0, .null, .null, .null, .null, .null, .null, .int 0])), (t0, .inr (0, [.ref t1, .int (nI (List.length ([] : List Nat)))])), (t1, .inl (cT, 8192, .inl (fun _ => (0 : Int32))))] H := hP
  have hD : va_D A [(x0, .inr (4, [.ref t0, .null, .null, .null, .null, .null, .null, .int 0])), (t0, .inr (0, [.ref t1, .int (nI (List.length ([] : List Nat)))])), (t1, .inl (cT, 8192, .inl (fun _ => (0 : Int32))))] := hD
  refine lv_aload_n hx hb dX4_init_18 rfl (lv_at hl 0 rfl) ?_
  refine va_new (ci := 3) (fs := [.null]) (C := RX3) (T := TX3) (N := 1) hx hb hts iX3 tyX3 tyX3_ok hown (hts _ m_35) (hts _ m_36) (hts _ m_4) hK hP hD hS hA rfl (fun j hj => by rcases (show j = 0 by omega) with rfl <;> rfl) (Nat.le_of_ble_eq_true rfl) (Nat.le_of_ble_eq_true rfl) dX4_init_19 (fun w0 H hP hD hS => ?_)
  have hP : va_P (dC, dI) vwCl [(x0, .inr (4, [.ref t0, .null, .null, .null, .null, .null, .null, .int 0])), (t0, .inr (0, [.ref t1, .int (nI (List.length ([] : List Nat)))])), (t1, .inl (cT, 8192, .inl (fun _ => (0 : Int32)))), (w0, .inr (3, [.null]))] H := hP
  have hD : va_D A [(x0, .inr (4, [.ref t0, .null, .null, .null, .null, .null, .null, .int 0])), (t0, .inr (0, [.ref t1, .int (nI (List.length ([] : List Nat)))])), (t1, .inl (cT, 8192, .inl (fun _ => (0 : Int32)))), (w0, .inr (3, [.null]))] := hD
  refine W.widen (k := 3) (n := 8195) (by omega) (by omega) ?_
  refine lv_dup hx hb dX4_init_22 rfl ?_
  refine kret_v (wc := [(w0, .inr (3, [.null]))]) (wr := [(x0, .inr (4, [.ref t0, .null, .null, .null, .null, .null, .null, .int 0])), (t0, .inr (0, [.ref t1, .int (nI (List.length ([] : List Nat)))])), (t1, .inl (cT, 8192, .inl (fun _ => (0 : Int32))))]) (va_runIN (As := []) (rest := [.ref w0, .ref x0]) ⟨hx, hb, hml, hown, hts⟩ (c_Writer_init l dC dI _ w0) (⟨va_cnB 0 hts (gdC m_39) rfl rfl rfl hNs.1 (hts _ m_4) (by decide +kernel) ⟨Nat.le_of_ble_eq_true rfl, Nat.le_of_ble_eq_true rfl⟩, rfl, hts _ m_38⟩) (kpS hNs hK hP hD [3] [] rfl rfl (by decide)) rfl rfl hl.1 rfl (lv_room (Nat.le_of_ble_eq_true rfl)) dX4_init_23 ⟨Nat.le_of_ble_eq_true rfl, Nat.le_of_ble_eq_true rfl⟩) hP hD hS hA [3] [0, 1, 2] rfl rfl (by decide) (by decide) (fun u H locs hpo hK1 hP hD hS => ?_)
  have hP : va_P (dC, dI) vwCl [(x0, .inr (4, [.ref t0, .null, .null, .null, .null, .null, .null, .int 0])), (t0, .inr (0, [.ref t1, .int (nI (List.length ([] : List Nat)))])), (t1, .inl (cT, 8192, .inl (fun _ => (0 : Int32)))), (w0, .inr (3, [.ref u.1])), (u.1, .inr (0, [.ref u.2.1, .int (nI (List.length ([] : List Nat)))])), (u.2.1, .inl (u.2.2, 16386, .inl (fun _ => (0 : Int32))))] H := hP
  have hD : va_D A [(x0, .inr (4, [.ref t0, .null, .null, .null, .null, .null, .null, .int 0])), (t0, .inr (0, [.ref t1, .int (nI (List.length ([] : List Nat)))])), (t1, .inl (cT, 8192, .inl (fun _ => (0 : Int32)))), (w0, .inr (3, [.ref u.1])), (u.1, .inr (0, [.ref u.2.1, .int (nI (List.length ([] : List Nat)))])), (u.2.1, .inl (u.2.2, 16386, .inl (fun _ => (0 : Int32))))] := hD
  obtain ⟨o0, o1, cO⟩ := u
  have hP : va_P (dC, dI) vwCl [(x0, .inr (4, [.ref t0, .null, .null, .null, .null, .null, .null, .int 0])), (t0, .inr (0, [.ref t1, .int (nI (List.length ([] : List Nat)))])), (t1, .inl (cT, 8192, .inl (fun _ => (0 : Int32)))), (w0, .inr (3, [.ref o0])), (o0, .inr (0, [.ref o1, .int (nI (List.length ([] : List Nat)))])), (o1, .inl (cO, 16386, .inl (fun _ => (0 : Int32))))] H := hP
  have hD : va_D A [(x0, .inr (4, [.ref t0, .null, .null, .null, .null, .null, .null, .int 0])), (t0, .inr (0, [.ref t1, .int (nI (List.length ([] : List Nat)))])), (t1, .inl (cT, 8192, .inl (fun _ => (0 : Int32)))), (w0, .inr (3, [.ref o0])), (o0, .inr (0, [.ref o1, .int (nI (List.length ([] : List Nat)))])), (o1, .inl (cO, 16386, .inl (fun _ => (0 : Int32))))] := hD
  have hK : va_K (dC, dI) vwCl [(cT, .byte), (cO, .byte)] s := hK.app hK1
  refine W.widen (k := 5) (n := 24583) (by omega) (by omega) ?_
  refine va_putF (D := (dC, dI)) (ci := 4) (v := .ref w0) (ty := .object "RunRows$Writer") (C := RX4) (T := TX4) (N := 8) hx hb hts iX4 tyX4 tyX4_ok nmX4 hown hK hP hD hS 0 rfl rfl 1 (by decide) (hts _ m_82) (fun _ h9 => h9) rfl hin rfl (by decide +kernel) rfl rfl (Nat.le_of_ble_eq_true rfl) dX4_init_26 (fun H locs hP hD hS => ?_)
  have hP : va_P (dC, dI) vwCl [(x0, .inr (4, [.ref t0, .ref w0, .null, .null, .null, .null, .null, .int 0])), (t0, .inr (0, [.ref t1, .int (nI (List.length ([] : List Nat)))])), (t1, .inl (cT, 8192, .inl (fun _ => (0 : Int32)))), (w0, .inr (3, [.ref o0])), (o0, .inr (0, [.ref o1, .int (nI (List.length ([] : List Nat)))])), (o1, .inl (cO, 16386, .inl (fun _ => (0 : Int32))))] H := hP
  have hD : va_D A [(x0, .inr (4, [.ref t0, .ref w0, .null, .null, .null, .null, .null, .int 0])), (t0, .inr (0, [.ref t1, .int (nI (List.length ([] : List Nat)))])), (t1, .inl (cT, 8192, .inl (fun _ => (0 : Int32)))), (w0, .inr (3, [.ref o0])), (o0, .inr (0, [.ref o1, .int (nI (List.length ([] : List Nat)))])), (o1, .inl (cO, 16386, .inl (fun _ => (0 : Int32))))] := hD
  refine lv_aload_n hx hb dX4_init_29 rfl (lv_at hl 0 rfl) ?_
  refine va_new (ci := 1) (fs := [.null, .int 0, .long 0]) (C := RX1) (T := TX1) (N := 3) hx hb hts iX1 tyX1 tyX1_ok hown (hts _ m_48) (hts _ m_49) (hts _ m_5) hK hP hD hS hA rfl (fun j hj => by rcases (show j = 0 ∨ j = 1 ∨ j = 2 by omega) with rfl | rfl | rfl <;> rfl) (Nat.le_of_ble_eq_true rfl) (Nat.le_of_ble_eq_true rfl) dX4_init_30 (fun d0 H hP hD hS => ?_)
  have hP : va_P (dC, dI) vwCl [(x0, .inr (4, [.ref t0, .ref w0, .null, .null, .null, .null, .null, .int 0])), (t0, .inr (0, [.ref t1, .int (nI (List.length ([] : List Nat)))])), (t1, .inl (cT, 8192, .inl (fun _ => (0 : Int32)))), (w0, .inr (3, [.ref o0])), (o0, .inr (0, [.ref o1, .int (nI (List.length ([] : List Nat)))])), (o1, .inl (cO, 16386, .inl (fun _ => (0 : Int32)))), (d0, .inr (1, [.null, .int 0, .long 0]))] H := hP
  have hD : va_D A [(x0, .inr (4, [.ref t0, .ref w0, .null, .null, .null, .null, .null, .int 0])), (t0, .inr (0, [.ref t1, .int (nI (List.length ([] : List Nat)))])), (t1, .inl (cT, 8192, .inl (fun _ => (0 : Int32)))), (w0, .inr (3, [.ref o0])), (o0, .inr (0, [.ref o1, .int (nI (List.length ([] : List Nat)))])), (o1, .inl (cO, 16386, .inl (fun _ => (0 : Int32)))), (d0, .inr (1, [.null, .int 0, .long 0]))] := hD
  refine W.widen (k := 6) (n := 24586) (by omega) (by omega) ?_
  refine lv_dup hx hb dX4_init_33 rfl ?_
  refine kret_v (wc := [(d0, .inr (1, [.null, .int 0, .long 0]))]) (wr := [(x0, .inr (4, [.ref t0, .ref w0, .null, .null, .null, .null, .null, .int 0])), (t0, .inr (0, [.ref t1, .int (nI (List.length ([] : List Nat)))])), (t1, .inl (cT, 8192, .inl (fun _ => (0 : Int32)))), (w0, .inr (3, [.ref o0])), (o0, .inr (0, [.ref o1, .int (nI (List.length ([] : List Nat)))])), (o1, .inl (cO, 16386, .inl (fun _ => (0 : Int32))))]) (va_runIN (As := []) (rest := [.ref d0, .ref x0]) ⟨hx, hb, hml, hown, hts⟩ (c_Reader_init l dC dI _ d0) (⟨va_cnB 0 hts (gdC m_52) rfl rfl rfl hNs.2.2.1 (hts _ m_5) (by decide +kernel) ⟨Nat.le_of_ble_eq_true rfl, Nat.le_of_ble_eq_true rfl⟩, rfl, hts _ m_51⟩) (kpS hNs hK hP hD [6] [] rfl rfl (by decide)) rfl rfl hl.1 rfl (lv_room (Nat.le_of_ble_eq_true rfl)) dX4_init_34 ⟨Nat.le_of_ble_eq_true rfl, Nat.le_of_ble_eq_true rfl⟩) hP hD hS hA [6] [0, 1, 2, 3, 4, 5] rfl rfl (by decide) (by decide) (fun u H locs hpo hK1 hP hD hS => ?_)
  have hP : va_P (dC, dI) vwCl [(x0, .inr (4, [.ref t0, .ref w0, .null, .null, .null, .null, .null, .int 0])), (t0, .inr (0, [.ref t1, .int (nI (List.length ([] : List Nat)))])), (t1, .inl (cT, 8192, .inl (fun _ => (0 : Int32)))), (w0, .inr (3, [.ref o0])), (o0, .inr (0, [.ref o1, .int (nI (List.length ([] : List Nat)))])), (o1, .inl (cO, 16386, .inl (fun _ => (0 : Int32)))), (d0, .inr (1, [.ref u.1, .int (nI 0), .long (lN 0)])), (u.1, .inr (0, [.ref u.2.1, .int (nI (List.length ([] : List Nat)))])), (u.2.1, .inl (u.2.2, 8192, .inl (fun _ => (0 : Int32))))] H := hP
  have hD : va_D A [(x0, .inr (4, [.ref t0, .ref w0, .null, .null, .null, .null, .null, .int 0])), (t0, .inr (0, [.ref t1, .int (nI (List.length ([] : List Nat)))])), (t1, .inl (cT, 8192, .inl (fun _ => (0 : Int32)))), (w0, .inr (3, [.ref o0])), (o0, .inr (0, [.ref o1, .int (nI (List.length ([] : List Nat)))])), (o1, .inl (cO, 16386, .inl (fun _ => (0 : Int32)))), (d0, .inr (1, [.ref u.1, .int (nI 0), .long (lN 0)])), (u.1, .inr (0, [.ref u.2.1, .int (nI (List.length ([] : List Nat)))])), (u.2.1, .inl (u.2.2, 8192, .inl (fun _ => (0 : Int32))))] := hD
  obtain ⟨i0, i1, cI⟩ := u
  have hP : va_P (dC, dI) vwCl [(x0, .inr (4, [.ref t0, .ref w0, .null, .null, .null, .null, .null, .int 0])), (t0, .inr (0, [.ref t1, .int (nI (List.length ([] : List Nat)))])), (t1, .inl (cT, 8192, .inl (fun _ => (0 : Int32)))), (w0, .inr (3, [.ref o0])), (o0, .inr (0, [.ref o1, .int (nI (List.length ([] : List Nat)))])), (o1, .inl (cO, 16386, .inl (fun _ => (0 : Int32)))), (d0, .inr (1, [.ref i0, .int (nI 0), .long (lN 0)])), (i0, .inr (0, [.ref i1, .int (nI (List.length ([] : List Nat)))])), (i1, .inl (cI, 8192, .inl (fun _ => (0 : Int32))))] H := hP
  have hD : va_D A [(x0, .inr (4, [.ref t0, .ref w0, .null, .null, .null, .null, .null, .int 0])), (t0, .inr (0, [.ref t1, .int (nI (List.length ([] : List Nat)))])), (t1, .inl (cT, 8192, .inl (fun _ => (0 : Int32)))), (w0, .inr (3, [.ref o0])), (o0, .inr (0, [.ref o1, .int (nI (List.length ([] : List Nat)))])), (o1, .inl (cO, 16386, .inl (fun _ => (0 : Int32)))), (d0, .inr (1, [.ref i0, .int (nI 0), .long (lN 0)])), (i0, .inr (0, [.ref i1, .int (nI (List.length ([] : List Nat)))])), (i1, .inl (cI, 8192, .inl (fun _ => (0 : Int32))))] := hD
  have hK : va_K (dC, dI) vwCl [(cT, .byte), (cO, .byte), (cI, .byte)] s := hK.app hK1
  refine W.widen (k := 8) (n := 32780) (by omega) (by omega) ?_
  refine va_putF (D := (dC, dI)) (ci := 4) (v := .ref d0) (ty := .object "RunRows$Reader") (C := RX4) (T := TX4) (N := 8) hx hb hts iX4 tyX4 tyX4_ok nmX4 hown hK hP hD hS 0 rfl rfl 2 (by decide) (hts _ m_83) (fun _ h9 => h9) rfl hin rfl (by decide +kernel) rfl rfl (Nat.le_of_ble_eq_true rfl) dX4_init_37 (fun H locs hP hD hS => ?_)
  have hP : va_P (dC, dI) vwCl [(x0, .inr (4, [.ref t0, .ref w0, .ref d0, .null, .null, .null, .null, .int 0])), (t0, .inr (0, [.ref t1, .int (nI (List.length ([] : List Nat)))])), (t1, .inl (cT, 8192, .inl (fun _ => (0 : Int32)))), (w0, .inr (3, [.ref o0])), (o0, .inr (0, [.ref o1, .int (nI (List.length ([] : List Nat)))])), (o1, .inl (cO, 16386, .inl (fun _ => (0 : Int32)))), (d0, .inr (1, [.ref i0, .int (nI 0), .long (lN 0)])), (i0, .inr (0, [.ref i1, .int (nI (List.length ([] : List Nat)))])), (i1, .inl (cI, 8192, .inl (fun _ => (0 : Int32))))] H := hP
  have hD : va_D A [(x0, .inr (4, [.ref t0, .ref w0, .ref d0, .null, .null, .null, .null, .int 0])), (t0, .inr (0, [.ref t1, .int (nI (List.length ([] : List Nat)))])), (t1, .inl (cT, 8192, .inl (fun _ => (0 : Int32)))), (w0, .inr (3, [.ref o0])), (o0, .inr (0, [.ref o1, .int (nI (List.length ([] : List Nat)))])), (o1, .inl (cO, 16386, .inl (fun _ => (0 : Int32)))), (d0, .inr (1, [.ref i0, .int (nI 0), .long (lN 0)])), (i0, .inr (0, [.ref i1, .int (nI (List.length ([] : List Nat)))])), (i1, .inl (cI, 8192, .inl (fun _ => (0 : Int32))))] := hD
  refine lv_aload_n hx hb dX4_init_40 rfl (lv_at hl 0 rfl) ?_
  refine lv_aload_n hx hb dX4_init_41 rfl (lv_at hl 0 rfl) ?_
  refine va_get (D := (dC, dI)) (ci := 4) (v := .ref w0) (C := RX4) (T := TX4) (N := 8) hx hb hts iX4 hown hK hP 0 rfl rfl 1 (by decide) (hts _ m_82) (fun _ h9 => h9) rfl dX4_init_42 ?_
  refine va_getN (D := (dC, dI)) (ci := 3) (v := .ref o0) (C := RX3) (T := TX3) (N := 1) hx hb hts iX3 hown hK hP 3 rfl rfl 0 (by decide) (va_Nw.use rfl hNs.2.1) (fun _ h9 => h9) rfl dX4_init_45 ?_
  refine va_putF (D := (dC, dI)) (ci := 4) (v := .ref o0) (ty := .object "RunRows$Bytes") (C := RX4) (T := TX4) (N := 8) hx hb hts iX4 tyX4 tyX4_ok nmX4 hown hK hP hD hS 0 rfl rfl 3 (by decide) (hts _ m_84) (fun _ h9 => h9) rfl hin rfl (by decide +kernel) rfl rfl (Nat.le_of_ble_eq_true rfl) dX4_init_48 (fun H locs hP hD hS => ?_)
  have hP : va_P (dC, dI) vwCl [(x0, .inr (4, [.ref t0, .ref w0, .ref d0, .ref o0, .null, .null, .null, .int 0])), (t0, .inr (0, [.ref t1, .int (nI (List.length ([] : List Nat)))])), (t1, .inl (cT, 8192, .inl (fun _ => (0 : Int32)))), (w0, .inr (3, [.ref o0])), (o0, .inr (0, [.ref o1, .int (nI (List.length ([] : List Nat)))])), (o1, .inl (cO, 16386, .inl (fun _ => (0 : Int32)))), (d0, .inr (1, [.ref i0, .int (nI 0), .long (lN 0)])), (i0, .inr (0, [.ref i1, .int (nI (List.length ([] : List Nat)))])), (i1, .inl (cI, 8192, .inl (fun _ => (0 : Int32))))] H := hP
  have hD : va_D A [(x0, .inr (4, [.ref t0, .ref w0, .ref d0, .ref o0, .null, .null, .null, .int 0])), (t0, .inr (0, [.ref t1, .int (nI (List.length ([] : List Nat)))])), (t1, .inl (cT, 8192, .inl (fun _ => (0 : Int32)))), (w0, .inr (3, [.ref o0])), (o0, .inr (0, [.ref o1, .int (nI (List.length ([] : List Nat)))])), (o1, .inl (cO, 16386, .inl (fun _ => (0 : Int32)))), (d0, .inr (1, [.ref i0, .int (nI 0), .long (lN 0)])), (i0, .inr (0, [.ref i1, .int (nI (List.length ([] : List Nat)))])), (i1, .inl (cI, 8192, .inl (fun _ => (0 : Int32))))] := hD
  refine lv_aload_n hx hb dX4_init_51 rfl (lv_at hl 0 rfl) ?_
  refine lv_aload_n hx hb dX4_init_52 rfl (lv_at hl 0 rfl) ?_
  refine va_get (D := (dC, dI)) (ci := 4) (v := .ref d0) (C := RX4) (T := TX4) (N := 8) hx hb hts iX4 hown hK hP 0 rfl rfl 2 (by decide) (hts _ m_83) (fun _ h9 => h9) rfl dX4_init_53 ?_
  refine va_getN (D := (dC, dI)) (ci := 1) (v := .ref i0) (C := RX1) (T := TX1) (N := 3) hx hb hts iX1 hown hK hP 6 rfl rfl 0 (by decide) (va_Nw.use rfl hNs.2.2.2.1) (fun _ h9 => h9) rfl dX4_init_56 ?_
  refine va_putF (D := (dC, dI)) (ci := 4) (v := .ref i0) (ty := .object "RunRows$Bytes") (C := RX4) (T := TX4) (N := 8) hx hb hts iX4 tyX4 tyX4_ok nmX4 hown hK hP hD hS 0 rfl rfl 4 (by decide) (hts _ m_85) (fun _ h9 => h9) rfl hin rfl (by decide +kernel) rfl rfl (Nat.le_of_ble_eq_true rfl) dX4_init_59 (fun H locs hP hD hS => ?_)
  have hP : va_P (dC, dI) vwCl [(x0, .inr (4, [.ref t0, .ref w0, .ref d0, .ref o0, .ref i0, .null, .null, .int 0])), (t0, .inr (0, [.ref t1, .int (nI (List.length ([] : List Nat)))])), (t1, .inl (cT, 8192, .inl (fun _ => (0 : Int32)))), (w0, .inr (3, [.ref o0])), (o0, .inr (0, [.ref o1, .int (nI (List.length ([] : List Nat)))])), (o1, .inl (cO, 16386, .inl (fun _ => (0 : Int32)))), (d0, .inr (1, [.ref i0, .int (nI 0), .long (lN 0)])), (i0, .inr (0, [.ref i1, .int (nI (List.length ([] : List Nat)))])), (i1, .inl (cI, 8192, .inl (fun _ => (0 : Int32))))] H := hP
  have hD : va_D A [(x0, .inr (4, [.ref t0, .ref w0, .ref d0, .ref o0, .ref i0, .null, .null, .int 0])), (t0, .inr (0, [.ref t1, .int (nI (List.length ([] : List Nat)))])), (t1, .inl (cT, 8192, .inl (fun _ => (0 : Int32)))), (w0, .inr (3, [.ref o0])), (o0, .inr (0, [.ref o1, .int (nI (List.length ([] : List Nat)))])), (o1, .inl (cO, 16386, .inl (fun _ => (0 : Int32)))), (d0, .inr (1, [.ref i0, .int (nI 0), .long (lN 0)])), (i0, .inr (0, [.ref i1, .int (nI (List.length ([] : List Nat)))])), (i1, .inl (cI, 8192, .inl (fun _ => (0 : Int32))))] := hD
  refine lv_aload_n hx hb dX4_init_62 rfl (lv_at hl 0 rfl) ?_
  refine va_new (ci := 2) (fs := [.null, .int 0]) (C := RX2) (T := TX2) (N := 2) hx hb hts iX2 tyX2 tyX2_ok hown (hts _ m_67) (hts _ m_68) (hts _ m_6) hK hP hD hS hA rfl (fun j hj => by rcases (show j = 0 ∨ j = 1 by omega) with rfl | rfl <;> rfl) (Nat.le_of_ble_eq_true rfl) (Nat.le_of_ble_eq_true rfl) dX4_init_63 (fun r0 H hP hD hS => ?_)
  have hP : va_P (dC, dI) vwCl [(x0, .inr (4, [.ref t0, .ref w0, .ref d0, .ref o0, .ref i0, .null, .null, .int 0])), (t0, .inr (0, [.ref t1, .int (nI (List.length ([] : List Nat)))])), (t1, .inl (cT, 8192, .inl (fun _ => (0 : Int32)))), (w0, .inr (3, [.ref o0])), (o0, .inr (0, [.ref o1, .int (nI (List.length ([] : List Nat)))])), (o1, .inl (cO, 16386, .inl (fun _ => (0 : Int32)))), (d0, .inr (1, [.ref i0, .int (nI 0), .long (lN 0)])), (i0, .inr (0, [.ref i1, .int (nI (List.length ([] : List Nat)))])), (i1, .inl (cI, 8192, .inl (fun _ => (0 : Int32)))), (r0, .inr (2, [.null, .int 0]))] H := hP
  have hD : va_D A [(x0, .inr (4, [.ref t0, .ref w0, .ref d0, .ref o0, .ref i0, .null, .null, .int 0])), (t0, .inr (0, [.ref t1, .int (nI (List.length ([] : List Nat)))])), (t1, .inl (cT, 8192, .inl (fun _ => (0 : Int32)))), (w0, .inr (3, [.ref o0])), (o0, .inr (0, [.ref o1, .int (nI (List.length ([] : List Nat)))])), (o1, .inl (cO, 16386, .inl (fun _ => (0 : Int32)))), (d0, .inr (1, [.ref i0, .int (nI 0), .long (lN 0)])), (i0, .inr (0, [.ref i1, .int (nI (List.length ([] : List Nat)))])), (i1, .inl (cI, 8192, .inl (fun _ => (0 : Int32)))), (r0, .inr (2, [.null, .int 0]))] := hD
  refine W.widen (k := 9) (n := 32782) (by omega) (by omega) ?_
  refine lv_dup hx hb dX4_init_66 rfl ?_
  refine kret_v (wc := [(r0, .inr (2, [.null, .int 0]))]) (wr := [(x0, .inr (4, [.ref t0, .ref w0, .ref d0, .ref o0, .ref i0, .null, .null, .int 0])), (t0, .inr (0, [.ref t1, .int (nI (List.length ([] : List Nat)))])), (t1, .inl (cT, 8192, .inl (fun _ => (0 : Int32)))), (w0, .inr (3, [.ref o0])), (o0, .inr (0, [.ref o1, .int (nI (List.length ([] : List Nat)))])), (o1, .inl (cO, 16386, .inl (fun _ => (0 : Int32)))), (d0, .inr (1, [.ref i0, .int (nI 0), .long (lN 0)])), (i0, .inr (0, [.ref i1, .int (nI (List.length ([] : List Nat)))])), (i1, .inl (cI, 8192, .inl (fun _ => (0 : Int32))))]) (va_runIN (As := []) (rest := [.ref r0, .ref x0]) ⟨hx, hb, hml, hown, hts⟩ (c_Row_init l dC dI _ r0) (⟨va_cnB 0 hts (gdC m_71) rfl rfl rfl hNs.2.2.2.2.1 (hts _ m_6) (by decide +kernel) ⟨Nat.le_of_ble_eq_true rfl, Nat.le_of_ble_eq_true rfl⟩, rfl, hts _ m_70⟩) (kpS hNs hK hP hD [9] [] rfl rfl (by decide)) rfl rfl hl.1 rfl (lv_room (Nat.le_of_ble_eq_true rfl)) dX4_init_67 ⟨Nat.le_of_ble_eq_true rfl, Nat.le_of_ble_eq_true rfl⟩) hP hD hS hA [9] [0, 1, 2, 3, 4, 5, 6, 7, 8] rfl rfl (by decide) (by decide) (fun u H locs hpo hK1 hP hD hS => ?_)
  have hP : va_P (dC, dI) vwCl [(x0, .inr (4, [.ref t0, .ref w0, .ref d0, .ref o0, .ref i0, .null, .null, .int 0])), (t0, .inr (0, [.ref t1, .int (nI (List.length ([] : List Nat)))])), (t1, .inl (cT, 8192, .inl (fun _ => (0 : Int32)))), (w0, .inr (3, [.ref o0])), (o0, .inr (0, [.ref o1, .int (nI (List.length ([] : List Nat)))])), (o1, .inl (cO, 16386, .inl (fun _ => (0 : Int32)))), (d0, .inr (1, [.ref i0, .int (nI 0), .long (lN 0)])), (i0, .inr (0, [.ref i1, .int (nI (List.length ([] : List Nat)))])), (i1, .inl (cI, 8192, .inl (fun _ => (0 : Int32)))), (r0, .inr (2, [.ref u.1, .int (nI (List.length ([] : List Int32)))])), (u.1, .inl (u.2, 4096, .inl (fun _ => (0 : Int32))))] H := hP
  have hD : va_D A [(x0, .inr (4, [.ref t0, .ref w0, .ref d0, .ref o0, .ref i0, .null, .null, .int 0])), (t0, .inr (0, [.ref t1, .int (nI (List.length ([] : List Nat)))])), (t1, .inl (cT, 8192, .inl (fun _ => (0 : Int32)))), (w0, .inr (3, [.ref o0])), (o0, .inr (0, [.ref o1, .int (nI (List.length ([] : List Nat)))])), (o1, .inl (cO, 16386, .inl (fun _ => (0 : Int32)))), (d0, .inr (1, [.ref i0, .int (nI 0), .long (lN 0)])), (i0, .inr (0, [.ref i1, .int (nI (List.length ([] : List Nat)))])), (i1, .inl (cI, 8192, .inl (fun _ => (0 : Int32)))), (r0, .inr (2, [.ref u.1, .int (nI (List.length ([] : List Int32)))])), (u.1, .inl (u.2, 4096, .inl (fun _ => (0 : Int32))))] := hD
  obtain ⟨r1, cR⟩ := u
  have hP : va_P (dC, dI) vwCl [(x0, .inr (4, [.ref t0, .ref w0, .ref d0, .ref o0, .ref i0, .null, .null, .int 0])), (t0, .inr (0, [.ref t1, .int (nI (List.length ([] : List Nat)))])), (t1, .inl (cT, 8192, .inl (fun _ => (0 : Int32)))), (w0, .inr (3, [.ref o0])), (o0, .inr (0, [.ref o1, .int (nI (List.length ([] : List Nat)))])), (o1, .inl (cO, 16386, .inl (fun _ => (0 : Int32)))), (d0, .inr (1, [.ref i0, .int (nI 0), .long (lN 0)])), (i0, .inr (0, [.ref i1, .int (nI (List.length ([] : List Nat)))])), (i1, .inl (cI, 8192, .inl (fun _ => (0 : Int32)))), (r0, .inr (2, [.ref r1, .int (nI (List.length ([] : List Int32)))])), (r1, .inl (cR, 4096, .inl (fun _ => (0 : Int32))))] H := hP
  have hD : va_D A [(x0, .inr (4, [.ref t0, .ref w0, .ref d0, .ref o0, .ref i0, .null, .null, .int 0])), (t0, .inr (0, [.ref t1, .int (nI (List.length ([] : List Nat)))])), (t1, .inl (cT, 8192, .inl (fun _ => (0 : Int32)))), (w0, .inr (3, [.ref o0])), (o0, .inr (0, [.ref o1, .int (nI (List.length ([] : List Nat)))])), (o1, .inl (cO, 16386, .inl (fun _ => (0 : Int32)))), (d0, .inr (1, [.ref i0, .int (nI 0), .long (lN 0)])), (i0, .inr (0, [.ref i1, .int (nI (List.length ([] : List Nat)))])), (i1, .inl (cI, 8192, .inl (fun _ => (0 : Int32)))), (r0, .inr (2, [.ref r1, .int (nI (List.length ([] : List Int32)))])), (r1, .inl (cR, 4096, .inl (fun _ => (0 : Int32))))] := hD
  have hK : va_K (dC, dI) vwCl [(cT, .byte), (cO, .byte), (cI, .byte), (cR, .int)] s := hK.app hK1
  refine W.widen (k := 10) (n := 36878) (by omega) (by omega) ?_
  refine va_put (D := (dC, dI)) (ci := 4) (v := .ref r0) (ty := .object "RunRows$Row") (C := RX4) (T := TX4) (N := 8) hx hb hts iX4 tyX4 tyX4_ok nmX4 hown hK hP hD hS 0 rfl rfl 5 (by decide) (hts _ m_86) (fun _ h9 => h9) rfl (by decide +kernel) rfl rfl (Nat.le_of_ble_eq_true rfl) dX4_init_70 (fun H locs hP hD hS => ?_)
  have hP : va_P (dC, dI) vwCl [(x0, .inr (4, [.ref t0, .ref w0, .ref d0, .ref o0, .ref i0, .ref r0, .null, .int 0])), (t0, .inr (0, [.ref t1, .int (nI (List.length ([] : List Nat)))])), (t1, .inl (cT, 8192, .inl (fun _ => (0 : Int32)))), (w0, .inr (3, [.ref o0])), (o0, .inr (0, [.ref o1, .int (nI (List.length ([] : List Nat)))])), (o1, .inl (cO, 16386, .inl (fun _ => (0 : Int32)))), (d0, .inr (1, [.ref i0, .int (nI 0), .long (lN 0)])), (i0, .inr (0, [.ref i1, .int (nI (List.length ([] : List Nat)))])), (i1, .inl (cI, 8192, .inl (fun _ => (0 : Int32)))), (r0, .inr (2, [.ref r1, .int (nI (List.length ([] : List Int32)))])), (r1, .inl (cR, 4096, .inl (fun _ => (0 : Int32))))] H := hP
  have hD : va_D A [(x0, .inr (4, [.ref t0, .ref w0, .ref d0, .ref o0, .ref i0, .ref r0, .null, .int 0])), (t0, .inr (0, [.ref t1, .int (nI (List.length ([] : List Nat)))])), (t1, .inl (cT, 8192, .inl (fun _ => (0 : Int32)))), (w0, .inr (3, [.ref o0])), (o0, .inr (0, [.ref o1, .int (nI (List.length ([] : List Nat)))])), (o1, .inl (cO, 16386, .inl (fun _ => (0 : Int32)))), (d0, .inr (1, [.ref i0, .int (nI 0), .long (lN 0)])), (i0, .inr (0, [.ref i1, .int (nI (List.length ([] : List Nat)))])), (i1, .inl (cI, 8192, .inl (fun _ => (0 : Int32)))), (r0, .inr (2, [.ref r1, .int (nI (List.length ([] : List Int32)))])), (r1, .inl (cR, 4096, .inl (fun _ => (0 : Int32))))] := hD
  refine lv_aload_n hx hb dX4_init_73 rfl (lv_at hl 0 rfl) ?_
  refine va_new (ci := 2) (fs := [.null, .int 0]) (C := RX2) (T := TX2) (N := 2) hx hb hts iX2 tyX2 tyX2_ok hown (hts _ m_67) (hts _ m_68) (hts _ m_6) hK hP hD hS hA rfl (fun j hj => by rcases (show j = 0 ∨ j = 1 by omega) with rfl | rfl <;> rfl) (Nat.le_of_ble_eq_true rfl) (Nat.le_of_ble_eq_true rfl) dX4_init_74 (fun p0 H hP hD hS => ?_)
  have hP : va_P (dC, dI) vwCl [(x0, .inr (4, [.ref t0, .ref w0, .ref d0, .ref o0, .ref i0, .ref r0, .null, .int 0])), (t0, .inr (0, [.ref t1, .int (nI (List.length ([] : List Nat)))])), (t1, .inl (cT, 8192, .inl (fun _ => (0 : Int32)))), (w0, .inr (3, [.ref o0])), (o0, .inr (0, [.ref o1, .int (nI (List.length ([] : List Nat)))])), (o1, .inl (cO, 16386, .inl (fun _ => (0 : Int32)))), (d0, .inr (1, [.ref i0, .int (nI 0), .long (lN 0)])), (i0, .inr (0, [.ref i1, .int (nI (List.length ([] : List Nat)))])), (i1, .inl (cI, 8192, .inl (fun _ => (0 : Int32)))), (r0, .inr (2, [.ref r1, .int (nI (List.length ([] : List Int32)))])), (r1, .inl (cR, 4096, .inl (fun _ => (0 : Int32)))), (p0, .inr (2, [.null, .int 0]))] H := hP
  have hD : va_D A [(x0, .inr (4, [.ref t0, .ref w0, .ref d0, .ref o0, .ref i0, .ref r0, .null, .int 0])), (t0, .inr (0, [.ref t1, .int (nI (List.length ([] : List Nat)))])), (t1, .inl (cT, 8192, .inl (fun _ => (0 : Int32)))), (w0, .inr (3, [.ref o0])), (o0, .inr (0, [.ref o1, .int (nI (List.length ([] : List Nat)))])), (o1, .inl (cO, 16386, .inl (fun _ => (0 : Int32)))), (d0, .inr (1, [.ref i0, .int (nI 0), .long (lN 0)])), (i0, .inr (0, [.ref i1, .int (nI (List.length ([] : List Nat)))])), (i1, .inl (cI, 8192, .inl (fun _ => (0 : Int32)))), (r0, .inr (2, [.ref r1, .int (nI (List.length ([] : List Int32)))])), (r1, .inl (cR, 4096, .inl (fun _ => (0 : Int32)))), (p0, .inr (2, [.null, .int 0]))] := hD
  refine W.widen (k := 11) (n := 36880) (by omega) (by omega) ?_
  refine lv_dup hx hb dX4_init_77 rfl ?_
  refine kret_v (wc := [(p0, .inr (2, [.null, .int 0]))]) (wr := [(x0, .inr (4, [.ref t0, .ref w0, .ref d0, .ref o0, .ref i0, .ref r0, .null, .int 0])), (t0, .inr (0, [.ref t1, .int (nI (List.length ([] : List Nat)))])), (t1, .inl (cT, 8192, .inl (fun _ => (0 : Int32)))), (w0, .inr (3, [.ref o0])), (o0, .inr (0, [.ref o1, .int (nI (List.length ([] : List Nat)))])), (o1, .inl (cO, 16386, .inl (fun _ => (0 : Int32)))), (d0, .inr (1, [.ref i0, .int (nI 0), .long (lN 0)])), (i0, .inr (0, [.ref i1, .int (nI (List.length ([] : List Nat)))])), (i1, .inl (cI, 8192, .inl (fun _ => (0 : Int32)))), (r0, .inr (2, [.ref r1, .int (nI (List.length ([] : List Int32)))])), (r1, .inl (cR, 4096, .inl (fun _ => (0 : Int32))))]) (va_runIN (As := []) (rest := [.ref p0, .ref x0]) ⟨hx, hb, hml, hown, hts⟩ (c_Row_init l dC dI _ p0) (⟨va_cnB 0 hts (gdC m_71) rfl rfl rfl hNs.2.2.2.2.1 (hts _ m_6) (by decide +kernel) ⟨Nat.le_of_ble_eq_true rfl, Nat.le_of_ble_eq_true rfl⟩, rfl, hts _ m_70⟩) (kpS hNs hK hP hD [11] [] rfl rfl (by decide)) rfl rfl hl.1 rfl (lv_room (Nat.le_of_ble_eq_true rfl)) dX4_init_78 ⟨Nat.le_of_ble_eq_true rfl, Nat.le_of_ble_eq_true rfl⟩) hP hD hS hA [11] [0, 1, 2, 3, 4, 5, 6, 7, 8, 9, 10] rfl rfl (by decide) (by decide) (fun u H locs hpo hK1 hP hD hS => ?_)
  have hP : va_P (dC, dI) vwCl [(x0, .inr (4, [.ref t0, .ref w0, .ref d0, .ref o0, .ref i0, .ref r0, .null, .int 0])), (t0, .inr (0, [.ref t1, .int (nI (List.length ([] : List Nat)))])), (t1, .inl (cT, 8192, .inl (fun _ => (0 : Int32)))), (w0, .inr (3, [.ref o0])), (o0, .inr (0, [.ref o1, .int (nI (List.length ([] : List Nat)))])), (o1, .inl (cO, 16386, .inl (fun _ => (0 : Int32)))), (d0, .inr (1, [.ref i0, .int (nI 0), .long (lN 0)])), (i0, .inr (0, [.ref i1, .int (nI (List.length ([] : List Nat)))])), (i1, .inl (cI, 8192, .inl (fun _ => (0 : Int32)))), (r0, .inr (2, [.ref r1, .int (nI (List.length ([] : List Int32)))])), (r1, .inl (cR, 4096, .inl (fun _ => (0 : Int32)))), (p0, .inr (2, [.ref u.1, .int (nI (List.length ([] : List Int32)))])), (u.1, .inl (u.2, 4096, .inl (fun _ => (0 : Int32))))] H := hP
  have hD : va_D A [(x0, .inr (4, [.ref t0, .ref w0, .ref d0, .ref o0, .ref i0, .ref r0, .null, .int 0])), (t0, .inr (0, [.ref t1, .int (nI (List.length ([] : List Nat)))])), (t1, .inl (cT, 8192, .inl (fun _ => (0 : Int32)))), (w0, .inr (3, [.ref o0])), (o0, .inr (0, [.ref o1, .int (nI (List.length ([] : List Nat)))])), (o1, .inl (cO, 16386, .inl (fun _ => (0 : Int32)))), (d0, .inr (1, [.ref i0, .int (nI 0), .long (lN 0)])), (i0, .inr (0, [.ref i1, .int (nI (List.length ([] : List Nat)))])), (i1, .inl (cI, 8192, .inl (fun _ => (0 : Int32)))), (r0, .inr (2, [.ref r1, .int (nI (List.length ([] : List Int32)))])), (r1, .inl (cR, 4096, .inl (fun _ => (0 : Int32)))), (p0, .inr (2, [.ref u.1, .int (nI (List.length ([] : List Int32)))])), (u.1, .inl (u.2, 4096, .inl (fun _ => (0 : Int32))))] := hD
  obtain ⟨p1, cP⟩ := u
  have hP : va_P (dC, dI) vwCl [(x0, .inr (4, [.ref t0, .ref w0, .ref d0, .ref o0, .ref i0, .ref r0, .null, .int 0])), (t0, .inr (0, [.ref t1, .int (nI (List.length ([] : List Nat)))])), (t1, .inl (cT, 8192, .inl (fun _ => (0 : Int32)))), (w0, .inr (3, [.ref o0])), (o0, .inr (0, [.ref o1, .int (nI (List.length ([] : List Nat)))])), (o1, .inl (cO, 16386, .inl (fun _ => (0 : Int32)))), (d0, .inr (1, [.ref i0, .int (nI 0), .long (lN 0)])), (i0, .inr (0, [.ref i1, .int (nI (List.length ([] : List Nat)))])), (i1, .inl (cI, 8192, .inl (fun _ => (0 : Int32)))), (r0, .inr (2, [.ref r1, .int (nI (List.length ([] : List Int32)))])), (r1, .inl (cR, 4096, .inl (fun _ => (0 : Int32)))), (p0, .inr (2, [.ref p1, .int (nI (List.length ([] : List Int32)))])), (p1, .inl (cP, 4096, .inl (fun _ => (0 : Int32))))] H := hP
  have hD : va_D A [(x0, .inr (4, [.ref t0, .ref w0, .ref d0, .ref o0, .ref i0, .ref r0, .null, .int 0])), (t0, .inr (0, [.ref t1, .int (nI (List.length ([] : List Nat)))])), (t1, .inl (cT, 8192, .inl (fun _ => (0 : Int32)))), (w0, .inr (3, [.ref o0])), (o0, .inr (0, [.ref o1, .int (nI (List.length ([] : List Nat)))])), (o1, .inl (cO, 16386, .inl (fun _ => (0 : Int32)))), (d0, .inr (1, [.ref i0, .int (nI 0), .long (lN 0)])), (i0, .inr (0, [.ref i1, .int (nI (List.length ([] : List Nat)))])), (i1, .inl (cI, 8192, .inl (fun _ => (0 : Int32)))), (r0, .inr (2, [.ref r1, .int (nI (List.length ([] : List Int32)))])), (r1, .inl (cR, 4096, .inl (fun _ => (0 : Int32)))), (p0, .inr (2, [.ref p1, .int (nI (List.length ([] : List Int32)))])), (p1, .inl (cP, 4096, .inl (fun _ => (0 : Int32))))] := hD
  have hK : va_K (dC, dI) vwCl [(cT, .byte), (cO, .byte), (cI, .byte), (cR, .int), (cP, .int)] s := hK.app hK1
  refine W.widen (k := 12) (n := 40976) (by omega) (by omega) ?_
  refine va_put (D := (dC, dI)) (ci := 4) (v := .ref p0) (ty := .object "RunRows$Row") (C := RX4) (T := TX4) (N := 8) hx hb hts iX4 tyX4 tyX4_ok nmX4 hown hK hP hD hS 0 rfl rfl 6 (by decide) (hts _ m_87) (fun _ h9 => h9) rfl (by decide +kernel) rfl rfl (Nat.le_of_ble_eq_true rfl) dX4_init_81 (fun H locs hP hD hS => ?_)
  have hP : va_P (dC, dI) vwCl [(x0, .inr (4, [.ref t0, .ref w0, .ref d0, .ref o0, .ref i0, .ref r0, .ref p0, .int 0])), (t0, .inr (0, [.ref t1, .int (nI (List.length ([] : List Nat)))])), (t1, .inl (cT, 8192, .inl (fun _ => (0 : Int32)))), (w0, .inr (3, [.ref o0])), (o0, .inr (0, [.ref o1, .int (nI (List.length ([] : List Nat)))])), (o1, .inl (cO, 16386, .inl (fun _ => (0 : Int32)))), (d0, .inr (1, [.ref i0, .int (nI 0), .long (lN 0)])), (i0, .inr (0, [.ref i1, .int (nI (List.length ([] : List Nat)))])), (i1, .inl (cI, 8192, .inl (fun _ => (0 : Int32)))), (r0, .inr (2, [.ref r1, .int (nI (List.length ([] : List Int32)))])), (r1, .inl (cR, 4096, .inl (fun _ => (0 : Int32)))), (p0, .inr (2, [.ref p1, .int (nI (List.length ([] : List Int32)))])), (p1, .inl (cP, 4096, .inl (fun _ => (0 : Int32))))] H := hP
  have hD : va_D A [(x0, .inr (4, [.ref t0, .ref w0, .ref d0, .ref o0, .ref i0, .ref r0, .ref p0, .int 0])), (t0, .inr (0, [.ref t1, .int (nI (List.length ([] : List Nat)))])), (t1, .inl (cT, 8192, .inl (fun _ => (0 : Int32)))), (w0, .inr (3, [.ref o0])), (o0, .inr (0, [.ref o1, .int (nI (List.length ([] : List Nat)))])), (o1, .inl (cO, 16386, .inl (fun _ => (0 : Int32)))), (d0, .inr (1, [.ref i0, .int (nI 0), .long (lN 0)])), (i0, .inr (0, [.ref i1, .int (nI (List.length ([] : List Nat)))])), (i1, .inl (cI, 8192, .inl (fun _ => (0 : Int32)))), (r0, .inr (2, [.ref r1, .int (nI (List.length ([] : List Int32)))])), (r1, .inl (cR, 4096, .inl (fun _ => (0 : Int32)))), (p0, .inr (2, [.ref p1, .int (nI (List.length ([] : List Int32)))])), (p1, .inl (cP, 4096, .inl (fun _ => (0 : Int32))))] := hD
  refine lv_aload_n hx hb dX4_init_84 rfl (lv_at hl 0 rfl) ?_
  refine lv_iconst (v := nI 0) hx hb dX4_init_85 (by decide) ?_
  refine va_put (D := (dC, dI)) (ci := 4) (v := .int (nI 0)) (ty := .int) (C := RX4) (T := TX4) (N := 8) hx hb hts iX4 tyX4 tyX4_ok nmX4 hown hK hP hD hS 0 rfl rfl 7 (by decide) (hts _ m_88) (fun _ h9 => h9) rfl (by decide +kernel) rfl rfl (Nat.le_of_ble_eq_true rfl) dX4_init_86 (fun H locs hP hD hS => ?_)
  have hP : va_P (dC, dI) vwCl [(x0, .inr (4, [.ref t0, .ref w0, .ref d0, .ref o0, .ref i0, .ref r0, .ref p0, .int (nI 0)])), (t0, .inr (0, [.ref t1, .int (nI (List.length ([] : List Nat)))])), (t1, .inl (cT, 8192, .inl (fun _ => (0 : Int32)))), (w0, .inr (3, [.ref o0])), (o0, .inr (0, [.ref o1, .int (nI (List.length ([] : List Nat)))])), (o1, .inl (cO, 16386, .inl (fun _ => (0 : Int32)))), (d0, .inr (1, [.ref i0, .int (nI 0), .long (lN 0)])), (i0, .inr (0, [.ref i1, .int (nI (List.length ([] : List Nat)))])), (i1, .inl (cI, 8192, .inl (fun _ => (0 : Int32)))), (r0, .inr (2, [.ref r1, .int (nI (List.length ([] : List Int32)))])), (r1, .inl (cR, 4096, .inl (fun _ => (0 : Int32)))), (p0, .inr (2, [.ref p1, .int (nI (List.length ([] : List Int32)))])), (p1, .inl (cP, 4096, .inl (fun _ => (0 : Int32))))] H := hP
  have hD : va_D A [(x0, .inr (4, [.ref t0, .ref w0, .ref d0, .ref o0, .ref i0, .ref r0, .ref p0, .int (nI 0)])), (t0, .inr (0, [.ref t1, .int (nI (List.length ([] : List Nat)))])), (t1, .inl (cT, 8192, .inl (fun _ => (0 : Int32)))), (w0, .inr (3, [.ref o0])), (o0, .inr (0, [.ref o1, .int (nI (List.length ([] : List Nat)))])), (o1, .inl (cO, 16386, .inl (fun _ => (0 : Int32)))), (d0, .inr (1, [.ref i0, .int (nI 0), .long (lN 0)])), (i0, .inr (0, [.ref i1, .int (nI (List.length ([] : List Nat)))])), (i1, .inl (cI, 8192, .inl (fun _ => (0 : Int32)))), (r0, .inr (2, [.ref r1, .int (nI (List.length ([] : List Int32)))])), (r1, .inl (cR, 4096, .inl (fun _ => (0 : Int32)))), (p0, .inr (2, [.ref p1, .int (nI (List.length ([] : List Int32)))])), (p1, .inl (cP, 4096, .inl (fun _ => (0 : Int32))))] := hD
  refine W.widen (k := 12) (n := 40976) (by omega) (by omega) ?_
  exact kend_v hx hb hr hlocks dX4_init_89 hK hP hD hS (((t0, i0, o0, w0, d0, r0, p0), (t1, i1, o1, r1, p1), (cT, cI, cO, cR, cP))) (trivial) [0, 1, 2, 7, 8, 4, 5, 3, 6, 9, 10, 11, 12] [0, 2, 1, 3, 4] rfl (by decide) rfl

