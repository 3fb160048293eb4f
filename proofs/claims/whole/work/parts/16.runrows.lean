set_option maxHeartbeats 4000000 in
set_option maxRecDepth 100000 in
/-- feed -/
theorem c_feed (l : Launch) (dC : Nat → ClassId) (dI : Nat → Nat → Nat) (sz : Nat) (x0 t0 i0 o0 w0 d0 r0 p0 wd : Nat) (t1 : Nat) (cT : ClassId) (ft : Nat → Int32) (tp : List Nat) (a1 a2 a3 a4 a5 : Int32) (htp : bHas ft tp) (htn : tp.length ≤ 8192) : Met l yX4_feed wsX4_feed ({ frames := 2, cells := 0, slots := 0, locals := 43 }) (va_Pc [.ref x0, .int a1, .int a2, .int a3, .int a4, .int a5] (kB (dC, dI) vwCl [(cT, .byte)] [(x0, .inr (4, [.ref t0, .ref w0, .ref d0, .ref o0, .ref i0, .ref r0, .ref p0, .int (nI wd)])), (t0, .inr (0, [.ref t1, .int (nI (List.length tp))])), (t1, .inl (cT, 8192, .inl ft))] sz)) (va_Qi (fun r (u : (Nat → Int32) × List Nat) => bHas u.1 u.2 ∧ u.2.length ≤ 8192 ∧ ((8192 - tp.length < 20 ∧ r = nI 0 ∧ u.2 = tp) ∨ (¬ 8192 - tp.length < 20 ∧ r = nI 1 ∧ u.2 = tp ++ (four a1 ++ (four a2 ++ (four a3 ++ (four a4 ++ four a5))))))) (kE (dC, dI) vwCl (va_A [(x0, .inr (4, [.ref t0, .ref w0, .ref d0, .ref o0, .ref i0, .ref r0, .ref p0, .int (nI wd)])), (t0, .inr (0, [.ref t1, .int (nI (List.length tp))])), (t1, .inl (cT, 8192, .inl ft))] sz) (fun _ => [(cT, .byte)]) (fun u => [(x0, .inr (4, [.ref t0, .ref w0, .ref d0, .ref o0, .ref i0, .ref r0, .ref p0, .int (nI wd)])), (t0, .inr (0, [.ref t1, .int (nI (List.length u.2))])), (t1, .inl (cT, 8192, .inl u.1))])) (va_A [(x0, .inr (4, [.ref t0, .ref w0, .ref d0, .ref o0, .ref i0, .ref r0, .ref p0, .int (nI wd)])), (t0, .inr (0, [.ref t1, .int (nI (List.length tp))])), (t1, .inl (cT, 8192, .inl ft))] sz)) 0 0 (va_A [(x0, .inr (4, [.ref t0, .ref w0, .ref d0, .ref o0, .ref i0, .ref r0, .ref p0, .int (nI wd)])), (t0, .inr (0, [.ref t1, .int (nI (List.length tp))])), (t1, .inl (cT, 8192, .inl ft))] sz) := by
  refine Met.ofW (cc := cX4_feed) (maxL := 6) (ret := (some .boolean)) (by decide) rfl ?_
  intro p e s m args below meth c s₁ B hml hv
  obtain ⟨rfl, hsz, hP, hK, hD0, hNs⟩ := hv
  have hx := B.exec
  have hb := B.bytes
  have hr := B.returns
  have hts := fun w (h : w ∈ lw_g) => atoms_spec (ws := wsX4_feed) B.pre w (List.mem_cons_of_mem _ h)
  have hown : s.vm.findClass RX4 = some m.cls := findClass_of_methodNamed B.named
  have hlocks := B.notSynchronized
  subst hsz
  have hD := hD0.self (sz := s.heap.size)
  generalize hAe : va_A [(x0, .inr (4, [.ref t0, .ref w0, .ref d0, .ref o0, .ref i0, .ref r0, .ref p0, .int (nI wd)])), (t0, .inr (0, [.ref t1, .int (nI (List.length tp))])), (t1, .inl (cT, 8192, .inl ft))] s.heap.size = A at hD ⊢
  have hA : ∀ q : Nat, s.heap.size ≤ q → A q := fun q h => by rw [← hAe]; exact Or.inr h
  have hS : va_S A s.heap s.heap [] := va_S.rf
  have hP : va_P (dC, dI) vwCl [(x0, .inr (4, [.ref t0, .ref w0, .ref d0, .ref o0, .ref i0, .ref r0, .ref p0, .int (nI wd)])), (t0, .inr (0, [.ref t1, .int (nI (List.length tp))])), (t1, .inl (cT, 8192, .inl ft))] s.heap := hP
  have hl := lv_entry ([.ref x0, .int a1, .int a2, .int a3, .int a4, .int a5]) (n := 6) (Nat.le_of_ble_eq_true rfl)
  rw [lg_entry_eq]
  generalize (lg_sl ([.ref x0, .int a1, .int a2, .int a3, .int a4, .int a5]) ++ List.replicate (6 - (lg_sl ([.ref x0, .int a1, .int a2, .int a3, .int a4, .int a5])).length) Slot.unset).toArray = ls at hl ⊢
  have hl : lv_has ls 6 [(0, .ref x0), (1, .int a1), (2, .int a2), (3, .int a3), (4, .int a4), (5, .int a5)] := hl
  refine lv_aload_n hx hb dX4_feed_0 rfl (lv_at hl 0 rfl) ?_
  refine va_get (D := (dC, dI)) (ci := 4) (v := .ref t0) (C := RX4) (T := TX4) (N := 8) hx hb hts iX4 hown hK hP 0 rfl rfl 0 (by decide) (hts _ m_81) (fun _ h9 => h9) rfl dX4_feed_1 ?_
  refine kret_i (wc := [(t0, .inr (0, [.ref t1, .int (nI (List.length tp))])), (t1, .inl (cT, 8192, .inl ft))]) (wr := [(x0, .inr (4, [.ref t0, .ref w0, .ref d0, .ref o0, .ref i0, .ref r0, .ref p0, .int (nI wd)]))]) (va_runV (As := []) (rest := []) ⟨hx, hb, hml, hown, hts⟩ (c_Bytes_room l dC dI _ t0 t1 cT 8192 ft tp htn) (cwV 0 hts (gdV m_110 m_111 m_112 m_2 m_113) rfl rfl rfl (by decide +kernel) ⟨Nat.le_of_ble_eq_true rfl, Nat.le_of_ble_eq_true rfl⟩) (kpV hNs hK hP hD [1, 2] [0] rfl rfl (by decide) (ci := 0) rfl rfl) rfl rfl hl.1 rfl (lv_room (Nat.le_of_ble_eq_true rfl)) dX4_feed_4 ⟨Nat.le_of_ble_eq_true rfl, Nat.le_of_ble_eq_true rfl⟩) hP hD hS hA [1, 2] [0] rfl rfl (by decide) (by decide) (fun y _ H locs hpo hK1 hP hD hS => ?_)
  have hy := hpo
  have hP : va_P (dC, dI) vwCl [(x0, .inr (4, [.ref t0, .ref w0, .ref d0, .ref o0, .ref i0, .ref r0, .ref p0, .int (nI wd)])), (t0, .inr (0, [.ref t1, .int (nI (List.length tp))])), (t1, .inl (cT, 8192, .inl ft))] H := hP
  have hD : va_D A [(x0, .inr (4, [.ref t0, .ref w0, .ref d0, .ref o0, .ref i0, .ref r0, .ref p0, .int (nI wd)])), (t0, .inr (0, [.ref t1, .int (nI (List.length tp))])), (t1, .inl (cT, 8192, .inl ft))] := hD
  subst hy
  refine lv_bipush (v := nI 20) hx hb dX4_feed_7 (by decide) ?_
  refine lv_icmp_ge (tgt := 14) hx hb dX4_feed_9 (by decide) (fun c_9 => ?_) (fun c_9 => ?_)
  · rw [nI_leI (a := 20) (b := (8192 - (List.length tp))) (by omega) (by omega)] at c_9
    refine lv_aload_n hx hb dX4_feed_14 rfl (lv_at hl 0 rfl) ?_
    refine va_get (D := (dC, dI)) (ci := 4) (v := .ref t0) (C := RX4) (T := TX4) (N := 8) hx hb hts iX4 hown hK hP 0 rfl rfl 0 (by decide) (hts _ m_81) (fun _ h9 => h9) rfl dX4_feed_15 ?_
    refine lv_iload_n hx hb dX4_feed_18 rfl (lv_at hl 1 rfl) ?_
    refine kret_v (wc := [(t0, .inr (0, [.ref t1, .int (nI (List.length tp))])), (t1, .inl (cT, 8192, .inl ft))]) (wr := [(x0, .inr (4, [.ref t0, .ref w0, .ref d0, .ref o0, .ref i0, .ref r0, .ref p0, .int (nI wd)]))]) (va_runV (As := [.int a1]) (rest := []) ⟨hx, hb, hml, hown, hts⟩ (c_Bytes_putFour l dC dI _ t0 t1 cT 8192 ft tp a1 htp htn (by decide)) (cwV 1 hts (gdV m_114 m_115 m_116 m_2 m_117) rfl rfl rfl (by decide +kernel) ⟨Nat.le_of_ble_eq_true rfl, Nat.le_of_ble_eq_true rfl⟩) (kpV hNs hK hP hD [1, 2] [0] rfl rfl (by decide) (ci := 0) rfl rfl) rfl rfl hl.1 rfl (lv_room (Nat.le_of_ble_eq_true rfl)) dX4_feed_19 ⟨Nat.le_of_ble_eq_true rfl, Nat.le_of_ble_eq_true rfl⟩) hP hD hS hA [1, 2] [0] rfl rfl (by decide) (by decide) (fun f1 H locs hpo hK1 hP hD hS => ?_)
    have hf1 := hpo
    have hP : va_P (dC, dI) vwCl [(x0, .inr (4, [.ref t0, .ref w0, .ref d0, .ref o0, .ref i0, .ref r0, .ref p0, .int (nI wd)])), (t0, .inr (0, [.ref t1, .int (nI (List.length (ad 8192 tp (four a1))))])), (t1, .inl (cT, 8192, .inl f1))] H := hP
    have hD : va_D A [(x0, .inr (4, [.ref t0, .ref w0, .ref d0, .ref o0, .ref i0, .ref r0, .ref p0, .int (nI wd)])), (t0, .inr (0, [.ref t1, .int (nI (List.length (ad 8192 tp (four a1))))])), (t1, .inl (cT, 8192, .inl f1))] := hD
    have hn1 : List.length (ad 8192 tp (four a1)) ≤ 8192 := ad_len _ _
    generalize hys1 : ad 8192 tp (four a1) = ys1 at hP hD hf1 hn1
    refine lv_aload_n hx hb dX4_feed_22 rfl (lv_at hl 0 rfl) ?_
    refine va_get (D := (dC, dI)) (ci := 4) (v := .ref t0) (C := RX4) (T := TX4) (N := 8) hx hb hts iX4 hown hK hP 0 rfl rfl 0 (by decide) (hts _ m_81) (fun _ h9 => h9) rfl dX4_feed_23 ?_
    refine lv_iload_n hx hb dX4_feed_26 rfl (lv_at hl 2 rfl) ?_
    refine kret_v (wc := [(t0, .inr (0, [.ref t1, .int (nI (List.length ys1))])), (t1, .inl (cT, 8192, .inl f1))]) (wr := [(x0, .inr (4, [.ref t0, .ref w0, .ref d0, .ref o0, .ref i0, .ref r0, .ref p0, .int (nI wd)]))]) (va_runV (As := [.int a2]) (rest := []) ⟨hx, hb, hml, hown, hts⟩ (c_Bytes_putFour l dC dI _ t0 t1 cT 8192 f1 ys1 a2 hf1 hn1 (by decide)) (cwV 1 hts (gdV m_114 m_115 m_116 m_2 m_117) rfl rfl rfl (by decide +kernel) ⟨Nat.le_of_ble_eq_true rfl, Nat.le_of_ble_eq_true rfl⟩) (kpV hNs hK hP hD [1, 2] [0] rfl rfl (by decide) (ci := 0) rfl rfl) rfl rfl hl.1 rfl (lv_room (Nat.le_of_ble_eq_true rfl)) dX4_feed_27 ⟨Nat.le_of_ble_eq_true rfl, Nat.le_of_ble_eq_true rfl⟩) hP hD hS hA [1, 2] [0] rfl rfl (by decide) (by decide) (fun f2 H locs hpo hK1 hP hD hS => ?_)
    have hf2 := hpo
    have hP : va_P (dC, dI) vwCl [(x0, .inr (4, [.ref t0, .ref w0, .ref d0, .ref o0, .ref i0, .ref r0, .ref p0, .int (nI wd)])), (t0, .inr (0, [.ref t1, .int (nI (List.length (ad 8192 ys1 (four a2))))])), (t1, .inl (cT, 8192, .inl f2))] H := hP
    have hD : va_D A [(x0, .inr (4, [.ref t0, .ref w0, .ref d0, .ref o0, .ref i0, .ref r0, .ref p0, .int (nI wd)])), (t0, .inr (0, [.ref t1, .int (nI (List.length (ad 8192 ys1 (four a2))))])), (t1, .inl (cT, 8192, .inl f2))] := hD
    have hn2 : List.length (ad 8192 ys1 (four a2)) ≤ 8192 := ad_len _ _
    generalize hys2 : ad 8192 ys1 (four a2) = ys2 at hP hD hf2 hn2
    refine lv_aload_n hx hb dX4_feed_30 rfl (lv_at hl 0 rfl) ?_
    refine va_get (D := (dC, dI)) (ci := 4) (v := .ref t0) (C := RX4) (T := TX4) (N := 8) hx hb hts iX4 hown hK hP 0 rfl rfl 0 (by decide) (hts _ m_81) (fun _ h9 => h9) rfl dX4_feed_31 ?_
    refine lv_iload_n hx hb dX4_feed_34 rfl (lv_at hl 3 rfl) ?_
    refine kret_v (wc := [(t0, .inr (0, [.ref t1, .int (nI (List.length ys2))])), (t1, .inl (cT, 8192, .inl f2))]) (wr := [(x0, .inr (4, [.ref t0, .ref w0, .ref d0, .ref o0, .ref i0, .ref r0, .ref p0, .int (nI wd)]))]) (va_runV (As := [.int a3]) (rest := []) ⟨hx, hb, hml, hown, hts⟩ (c_Bytes_putFour l dC dI _ t0 t1 cT 8192 f2 ys2 a3 hf2 hn2 (by decide)) (cwV 1 hts (gdV m_114 m_115 m_116 m_2 m_117) rfl rfl rfl (by decide +kernel) ⟨Nat.le_of_ble_eq_true rfl, Nat.le_of_ble_eq_true rfl⟩) (kpV hNs hK hP hD [1, 2] [0] rfl rfl (by decide) (ci := 0) rfl rfl) rfl rfl hl.1 rfl (lv_room (Nat.le_of_ble_eq_true rfl)) dX4_feed_35 ⟨Nat.le_of_ble_eq_true rfl, Nat.le_of_ble_eq_true rfl⟩) hP hD hS hA [1, 2] [0] rfl rfl (by decide) (by decide) (fun f3 H locs hpo hK1 hP hD hS => ?_)
    have hf3 := hpo
    have hP : va_P (dC, dI) vwCl [(x0, .inr (4, [.ref t0, .ref w0, .ref d0, .ref o0, .ref i0, .ref r0, .ref p0, .int (nI wd)])), (t0, .inr (0, [.ref t1, .int (nI (List.length (ad 8192 ys2 (four a3))))])), (t1, .inl (cT, 8192, .inl f3))] H := hP
    have hD : va_D A [(x0, .inr (4, [.ref t0, .ref w0, .ref d0, .ref o0, .ref i0, .ref r0, .ref p0, .int (nI wd)])), (t0, .inr (0, [.ref t1, .int (nI (List.length (ad 8192 ys2 (four a3))))])), (t1, .inl (cT, 8192, .inl f3))] := hD
    have hn3 : List.length (ad 8192 ys2 (four a3)) ≤ 8192 := ad_len _ _
    generalize hys3 : ad 8192 ys2 (four a3) = ys3 at hP hD hf3 hn3
    refine lv_aload_n hx hb dX4_feed_38 rfl (lv_at hl 0 rfl) ?_
    refine va_get (D := (dC, dI)) (ci := 4) (v := .ref t0) (C := RX4) (T := TX4) (N := 8) hx hb hts iX4 hown hK hP 0 rfl rfl 0 (by decide) (hts _ m_81) (fun _ h9 => h9) rfl dX4_feed_39 ?_
    refine lv_iload hx hb dX4_feed_42 (lv_at hl 4 rfl) ?_
    refine kret_v (wc := [(t0, .inr (0, [.ref t1, .int (nI (List.length ys3))])), (t1, .inl (cT, 8192, .inl f3))]) (wr := [(x0, .inr (4, [.ref t0, .ref w0, .ref d0, .ref o0, .ref i0, .ref r0, .ref p0, .int (nI wd)]))]) (va_runV (As := [.int a4]) (rest := []) ⟨hx, hb, hml, hown, hts⟩ (c_Bytes_putFour l dC dI _ t0 t1 cT 8192 f3 ys3 a4 hf3 hn3 (by decide)) (cwV 1 hts (gdV m_114 m_115 m_116 m_2 m_117) rfl rfl rfl (by decide +kernel) ⟨Nat.le_of_ble_eq_true rfl, Nat.le_of_ble_eq_true rfl⟩) (kpV hNs hK hP hD [1, 2] [0] rfl rfl (by decide) (ci := 0) rfl rfl) rfl rfl hl.1 rfl (lv_room (Nat.le_of_ble_eq_true rfl)) dX4_feed_44 ⟨Nat.le_of_ble_eq_true rfl, Nat.le_of_ble_eq_true rfl⟩) hP hD hS hA [1, 2] [0] rfl rfl (by decide) (by decide) (fun f4 H locs hpo hK1 hP hD hS => ?_)
    have hf4 := hpo
    have hP : va_P (dC, dI) vwCl [(x0, .inr (4, [.ref t0, .ref w0, .ref d0, .ref o0, .ref i0, .ref r0, .ref p0, .int (nI wd)])), (t0, .inr (0, [.ref t1, .int (nI (List.length (ad 8192 ys3 (four a4))))])), (t1, .inl (cT, 8192, .inl f4))] H := hP
    have hD : va_D A [(x0, .inr (4, [.ref t0, .ref w0, .ref d0, .ref o0, .ref i0, .ref r0, .ref p0, .int (nI wd)])), (t0, .inr (0, [.ref t1, .int (nI (List.length (ad 8192 ys3 (four a4))))])), (t1, .inl (cT, 8192, .inl f4))] := hD
    have hn4 : List.length (ad 8192 ys3 (four a4)) ≤ 8192 := ad_len _ _
    generalize hys4 : ad 8192 ys3 (four a4) = ys4 at hP hD hf4 hn4
    refine lv_aload_n hx hb dX4_feed_47 rfl (lv_at hl 0 rfl) ?_
    refine va_get (D := (dC, dI)) (ci := 4) (v := .ref t0) (C := RX4) (T := TX4) (N := 8) hx hb hts iX4 hown hK hP 0 rfl rfl 0 (by decide) (hts _ m_81) (fun _ h9 => h9) rfl dX4_feed_48 ?_
    refine lv_iload hx hb dX4_feed_51 (lv_at hl 5 rfl) ?_
    refine kret_v (wc := [(t0, .inr (0, [.ref t1, .int (nI (List.length ys4))])), (t1, .inl (cT, 8192, .inl f4))]) (wr := [(x0, .inr (4, [.ref t0, .ref w0, .ref d0, .ref o0, .ref i0, .ref r0, .ref p0, .int (nI wd)]))]) (va_runV (As := [.int a5]) (rest := []) ⟨hx, hb, hml, hown, hts⟩ (c_Bytes_putFour l dC dI _ t0 t1 cT 8192 f4 ys4 a5 hf4 hn4 (by decide)) (cwV 1 hts (gdV m_114 m_115 m_116 m_2 m_117) rfl rfl rfl (by decide +kernel) ⟨Nat.le_of_ble_eq_true rfl, Nat.le_of_ble_eq_true rfl⟩) (kpV hNs hK hP hD [1, 2] [0] rfl rfl (by decide) (ci := 0) rfl rfl) rfl rfl hl.1 rfl (lv_room (Nat.le_of_ble_eq_true rfl)) dX4_feed_53 ⟨Nat.le_of_ble_eq_true rfl, Nat.le_of_ble_eq_true rfl⟩) hP hD hS hA [1, 2] [0] rfl rfl (by decide) (by decide) (fun f5 H locs hpo hK1 hP hD hS => ?_)
    have hf5 := hpo
    have hP : va_P (dC, dI) vwCl [(x0, .inr (4, [.ref t0, .ref w0, .ref d0, .ref o0, .ref i0, .ref r0, .ref p0, .int (nI wd)])), (t0, .inr (0, [.ref t1, .int (nI (List.length (ad 8192 ys4 (four a5))))])), (t1, .inl (cT, 8192, .inl f5))] H := hP
    have hD : va_D A [(x0, .inr (4, [.ref t0, .ref w0, .ref d0, .ref o0, .ref i0, .ref r0, .ref p0, .int (nI wd)])), (t0, .inr (0, [.ref t1, .int (nI (List.length (ad 8192 ys4 (four a5))))])), (t1, .inl (cT, 8192, .inl f5))] := hD
    have hn5 : List.length (ad 8192 ys4 (four a5)) ≤ 8192 := ad_len _ _
    generalize hys5 : ad 8192 ys4 (four a5) = ys5 at hP hD hf5 hn5
    have hz : ys5 = tp ++ (four a1 ++ (four a2 ++ (four a3 ++ (four a4 ++ four a5)))) := by rw [← hys5, ← hys4, ← hys3, ← hys2, ← hys1, ad_ad, ad_ad, ad_ad, ad_ad]; exact ad_room (by simp [four]; omega)
    refine lv_iconst (v := nI 1) hx hb dX4_feed_56 (by decide) ?_
    exact kend_i hx hb hr hlocks dX4_feed_57 (rfl) hK hP hD hS ((f5, ys5)) (⟨hf5, hn5, Or.inr ⟨by omega, rfl, hz⟩⟩) [0, 1, 2] [0] rfl (by decide) rfl
  · rw [nI_leI (a := 20) (b := (8192 - (List.length tp))) (by omega) (by omega)] at c_9
    refine lv_iconst (v := nI 0) hx hb dX4_feed_12 (by decide) ?_
    exact kend_i hx hb hr hlocks dX4_feed_13 (rfl) hK hP hD hS ((ft, tp)) (⟨htp, htn, Or.inl ⟨by omega, rfl, rfl⟩⟩) [0, 1, 2] [0] rfl (by decide) rfl

set_option maxHeartbeats 4000000 in
set_option maxRecDepth 100000 in
/-- end -/
theorem c_end (l : Launch) (dC : Nat → ClassId) (dI : Nat → Nat → Nat) (sz : Nat) (x0 t0 i0 o0 w0 d0 r0 p0 wd : Nat) (t1 : Nat) (cT : ClassId) (ft : Nat → Int32) (tp : List Nat) (i1 : Nat) (cI : ClassId) (fi : Nat → Int32) (inp : List Nat) (x : Int32) (htp : bHas ft tp) (htn : tp.length ≤ 8192) (hip : bHas fi inp) (hin_ : inp.length ≤ 8192) : Met l yX4_end wsX4_end ({ frames := 2, cells := 0, slots := 0, locals := 82 }) (va_Pc [.ref x0, .int x] (kB (dC, dI) vwCl [(cT, .byte), (cI, .byte)] [(x0, .inr (4, [.ref t0, .ref w0, .ref d0, .ref o0, .ref i0, .ref r0, .ref p0, .int (nI wd)])), (t0, .inr (0, [.ref t1, .int (nI (List.length tp))])), (t1, .inl (cT, 8192, .inl ft)), (i0, .inr (0, [.ref i1, .int (nI (List.length inp))])), (i1, .inl (cI, 8192, .inl fi))] sz)) (va_Qi (fun r (u : (Nat → Int32) × List Nat × List Nat) => bHas u.1 u.2.1 ∧ u.2.1.length ≤ 8192 ∧ ((r = nI 0 ∧ bec 8192 inp tp x 0 u.2.1 ∧ u.2.2 = tp) ∨ (r = nI 1 ∧ bec 8192 inp tp x 1 u.2.1 ∧ u.2.2 = []))) (kE (dC, dI) vwCl (va_A [(x0, .inr (4, [.ref t0, .ref w0, .ref d0, .ref o0, .ref i0, .ref r0, .ref p0, .int (nI wd)])), (t0, .inr (0, [.ref t1, .int (nI (List.length tp))])), (t1, .inl (cT, 8192, .inl ft)), (i0, .inr (0, [.ref i1, .int (nI (List.length inp))])), (i1, .inl (cI, 8192, .inl fi))] sz) (fun _ => [(cT, .byte), (cI, .byte)]) (fun u => [(x0, .inr (4, [.ref t0, .ref w0, .ref d0, .ref o0, .ref i0, .ref r0, .ref p0, .int (nI wd)])), (t0, .inr (0, [.ref t1, .int (nI (List.length u.2.2))])), (t1, .inl (cT, 8192, .inl ft)), (i0, .inr (0, [.ref i1, .int (nI (List.length u.2.1))])), (i1, .inl (cI, 8192, .inl u.1))])) (va_A [(x0, .inr (4, [.ref t0, .ref w0, .ref d0, .ref o0, .ref i0, .ref r0, .ref p0, .int (nI wd)])), (t0, .inr (0, [.ref t1, .int (nI (List.length tp))])), (t1, .inl (cT, 8192, .inl ft)), (i0, .inr (0, [.ref i1, .int (nI (List.length inp))])), (i1, .inl (cI, 8192, .inl fi))] sz)) 0 0 (va_A [(x0, .inr (4, [.ref t0, .ref w0, .ref d0, .ref o0, .ref i0, .ref r0, .ref p0, .int (nI wd)])), (t0, .inr (0, [.ref t1, .int (nI (List.length tp))])), (t1, .inl (cT, 8192, .inl ft)), (i0, .inr (0, [.ref i1, .int (nI (List.length inp))])), (i1, .inl (cI, 8192, .inl fi))] sz) := by
  refine Met.ofW (cc := cX4_end) (maxL := 2) (ret := (some .boolean)) (by decide) rfl ?_
  intro p e s m args below meth c s₁ B hml hv
  obtain ⟨rfl, hsz, hP, hK, hD0, hNs⟩ := hv
  have hx := B.exec
  have hb := B.bytes
  have hr := B.returns
  have hts := fun w (h : w ∈ lw_g) => atoms_spec (ws := wsX4_end) B.pre w (List.mem_cons_of_mem _ h)
  have hown : s.vm.findClass RX4 = some m.cls := findClass_of_methodNamed B.named
  have hlocks := B.notSynchronized
  subst hsz
  have hD := hD0.self (sz := s.heap.size)
  generalize hAe : va_A [(x0, .inr (4, [.ref t0, .ref w0, .ref d0, .ref o0, .ref i0, .ref r0, .ref p0, .int (nI wd)])), (t0, .inr (0, [.ref t1, .int (nI (List.length tp))])), (t1, .inl (cT, 8192, .inl ft)), (i0, .inr (0, [.ref i1, .int (nI (List.length inp))])), (i1, .inl (cI, 8192, .inl fi))] s.heap.size = A at hD ⊢
  have hA : ∀ q : Nat, s.heap.size ≤ q → A q := fun q h => by rw [← hAe]; exact Or.inr h
  have hS : va_S A s.heap s.heap [] := va_S.rf
  have hP : va_P (dC, dI) vwCl [(x0, .inr (4, [.ref t0, .ref w0, .ref d0, .ref o0, .ref i0, .ref r0, .ref p0, .int (nI wd)])), (t0, .inr (0, [.ref t1, .int (nI (List.length tp))])), (t1, .inl (cT, 8192, .inl ft)), (i0, .inr (0, [.ref i1, .int (nI (List.length inp))])), (i1, .inl (cI, 8192, .inl fi))] s.heap := hP
  have hl := lv_entry ([.ref x0, .int x]) (n := 2) (Nat.le_of_ble_eq_true rfl)
  rw [lg_entry_eq]
  generalize (lg_sl ([.ref x0, .int x]) ++ List.replicate (2 - (lg_sl ([.ref x0, .int x])).length) Slot.unset).toArray = ls at hl ⊢
  have hl : lv_has ls 2 [(0, .ref x0), (1, .int x)] := hl
  refine lv_aload_n hx hb dX4_end_0 rfl (lv_at hl 0 rfl) ?_
  refine va_get (D := (dC, dI)) (ci := 4) (v := .ref i0) (C := RX4) (T := TX4) (N := 8) hx hb hts iX4 hown hK hP 0 rfl rfl 4 (by decide) (hts _ m_85) (fun _ h9 => h9) rfl dX4_end_1 ?_
  refine lv_aload_n hx hb dX4_end_4 rfl (lv_at hl 0 rfl) ?_
  refine va_get (D := (dC, dI)) (ci := 4) (v := .ref t0) (C := RX4) (T := TX4) (N := 8) hx hb hts iX4 hown hK hP 0 rfl rfl 0 (by decide) (hts _ m_81) (fun _ h9 => h9) rfl dX4_end_5 ?_
  refine lv_iload_n hx hb dX4_end_8 rfl (lv_at hl 1 rfl) ?_
  refine kret_i (wc := [(i0, .inr (0, [.ref i1, .int (nI (List.length inp))])), (i1, .inl (cI, 8192, .inl fi)), (t0, .inr (0, [.ref t1, .int (nI (List.length tp))])), (t1, .inl (cT, 8192, .inl ft))]) (wr := [(x0, .inr (4, [.ref t0, .ref w0, .ref d0, .ref o0, .ref i0, .ref r0, .ref p0, .int (nI wd)]))]) (va_runV (As := [.ref t0, .int x]) (rest := []) ⟨hx, hb, hml, hown, hts⟩ (c_Bytes_become l dC dI _ i0 i1 cI 8192 fi inp t0 t1 cT 8192 ft tp x hip hin_ (by decide) htp htn (by decide)) (cwV 2 hts (gdV m_126 m_127 m_128 m_2 m_129) rfl rfl rfl (by decide +kernel) ⟨Nat.le_of_ble_eq_true rfl, Nat.le_of_ble_eq_true rfl⟩) (kpV hNs hK hP hD [3, 4, 1, 2] [1, 0] rfl rfl (by decide) (ci := 0) rfl rfl) rfl rfl hl.1 rfl (lv_room (Nat.le_of_ble_eq_true rfl)) dX4_end_9 ⟨Nat.le_of_ble_eq_true rfl, Nat.le_of_ble_eq_true rfl⟩) hP hD hS hA [3, 4, 1, 2] [0] rfl rfl (by decide) (by decide) (fun y u H locs hpo hK1 hP hD hS => ?_)
  obtain ⟨hu1, hu2⟩ := hpo
  have hP : va_P (dC, dI) vwCl [(x0, .inr (4, [.ref t0, .ref w0, .ref d0, .ref o0, .ref i0, .ref r0, .ref p0, .int (nI wd)])), (i0, .inr (0, [.ref i1, .int (nI (List.length u.2))])), (i1, .inl (cI, 8192, .inl u.1)), (t0, .inr (0, [.ref t1, .int (nI (List.length tp))])), (t1, .inl (cT, 8192, .inl ft))] H := hP
  have hD : va_D A [(x0, .inr (4, [.ref t0, .ref w0, .ref d0, .ref o0, .ref i0, .ref r0, .ref p0, .int (nI wd)])), (i0, .inr (0, [.ref i1, .int (nI (List.length u.2))])), (i1, .inl (cI, 8192, .inl u.1)), (t0, .inr (0, [.ref t1, .int (nI (List.length tp))])), (t1, .inl (cT, 8192, .inl ft))] := hD
  obtain ⟨f2, in2⟩ := u
  dsimp only at hu1 hu2
  have hl2 : in2.length ≤ 8192 := bec_len hin_ htn hu2
  have hP : va_P (dC, dI) vwCl [(x0, .inr (4, [.ref t0, .ref w0, .ref d0, .ref o0, .ref i0, .ref r0, .ref p0, .int (nI wd)])), (i0, .inr (0, [.ref i1, .int (nI (List.length in2))])), (i1, .inl (cI, 8192, .inl f2)), (t0, .inr (0, [.ref t1, .int (nI (List.length tp))])), (t1, .inl (cT, 8192, .inl ft))] H := hP
  have hD : va_D A [(x0, .inr (4, [.ref t0, .ref w0, .ref d0, .ref o0, .ref i0, .ref r0, .ref p0, .int (nI wd)])), (i0, .inr (0, [.ref i1, .int (nI (List.length in2))])), (i1, .inl (cI, 8192, .inl f2)), (t0, .inr (0, [.ref t1, .int (nI (List.length tp))])), (t1, .inl (cT, 8192, .inl ft))] := hD
  refine lv_if_ne (tgt := 17) hx hb dX4_end_12 (by decide) (fun c_12 => ?_) (fun c_12 => ?_)
  · have hy1 : y = 1 := (bec_01 hu2).resolve_left c_12
    subst hy1
    refine lv_aload_n hx hb dX4_end_17 rfl (lv_at hl 0 rfl) ?_
    refine va_get (D := (dC, dI)) (ci := 4) (v := .ref t0) (C := RX4) (T := TX4) (N := 8) hx hb hts iX4 hown hK hP 0 rfl rfl 0 (by decide) (hts _ m_81) (fun _ h9 => h9) rfl dX4_end_18 ?_
    refine kret_v (wc := [(t0, .inr (0, [.ref t1, .int (nI (List.length tp))])), (t1, .inl (cT, 8192, .inl ft))]) (wr := [(x0, .inr (4, [.ref t0, .ref w0, .ref d0, .ref o0, .ref i0, .ref r0, .ref p0, .int (nI wd)])), (i0, .inr (0, [.ref i1, .int (nI (List.length in2))])), (i1, .inl (cI, 8192, .inl f2))]) (va_runV (As := []) (rest := []) ⟨hx, hb, hml, hown, hts⟩ (c_Bytes_empty l dC dI _ t0 t1 cT 8192 ft tp) (cwV 0 hts (gdV m_133 m_134 m_135 m_2 m_136) rfl rfl rfl (by decide +kernel) ⟨Nat.le_of_ble_eq_true rfl, Nat.le_of_ble_eq_true rfl⟩) (kpV hNs hK hP hD [3, 4] [0] rfl rfl (by decide) (ci := 0) rfl rfl) rfl rfl hl.1 rfl (lv_room (Nat.le_of_ble_eq_true rfl)) dX4_end_21 ⟨Nat.le_of_ble_eq_true rfl, Nat.le_of_ble_eq_true rfl⟩) hP hD hS hA [3, 4] [0, 1, 2] rfl rfl (by decide) (by decide) (fun _ H locs hpo hK1 hP hD hS => ?_)
    have hP : va_P (dC, dI) vwCl [(x0, .inr (4, [.ref t0, .ref w0, .ref d0, .ref o0, .ref i0, .ref r0, .ref p0, .int (nI wd)])), (i0, .inr (0, [.ref i1, .int (nI (List.length in2))])), (i1, .inl (cI, 8192, .inl f2)), (t0, .inr (0, [.ref t1, .int (nI (List.length ([] : List Nat)))])), (t1, .inl (cT, 8192, .inl ft))] H := hP
    have hD : va_D A [(x0, .inr (4, [.ref t0, .ref w0, .ref d0, .ref o0, .ref i0, .ref r0, .ref p0, .int (nI wd)])), (i0, .inr (0, [.ref i1, .int (nI (List.length in2))])), (i1, .inl (cI, 8192, .inl f2)), (t0, .inr (0, [.ref t1, .int (nI (List.length ([] : List Nat)))])), (t1, .inl (cT, 8192, .inl ft))] := hD
    refine lv_iconst (v := nI 1) hx hb dX4_end_24 (by decide) ?_
    exact kend_i hx hb hr hlocks dX4_end_25 (rfl) hK hP hD hS ((f2, in2, [])) (⟨hu1, hl2, Or.inr ⟨rfl, hu2, rfl⟩⟩) [0, 3, 4, 1, 2] [0, 1] rfl (by decide) rfl
  · subst c_12
    refine lv_iconst (v := nI 0) hx hb dX4_end_15 (by decide) ?_
    exact kend_i hx hb hr hlocks dX4_end_16 (rfl) hK hP hD hS ((f2, in2, tp)) (⟨hu1, hl2, Or.inl ⟨rfl, hu2, rfl⟩⟩) [0, 3, 4, 1, 2] [0, 1] rfl (by decide) rfl

set_option maxHeartbeats 4000000 in
set_option maxRecDepth 100000 in
/-- width -/
theorem c_width (l : Launch) (dC : Nat → ClassId) (dI : Nat → Nat → Nat) (sz : Nat) (x0 t0 i0 o0 w0 d0 r0 p0 wd : Nat) (x : Int32)  : Met l yX4_width wsX4_width ({ frames := 0, cells := 0, slots := 0, locals := 0 }) (va_Pc [.ref x0, .int x] (kB (dC, dI) vwCl [] [(x0, .inr (4, [.ref t0, .ref w0, .ref d0, .ref o0, .ref i0, .ref r0, .ref p0, .int (nI wd)]))] sz)) (va_Qi (fun r (u : Nat) => ((x < 0 ∨ nI 32 < x) ∧ r = nI 0 ∧ u = wd) ∨ (¬ (x < 0 ∨ nI 32 < x) ∧ r = nI 1 ∧ u = x.toNatClampNeg ∧ u ≤ 32)) (kE (dC, dI) vwCl (va_A [(x0, .inr (4, [.ref t0, .ref w0, .ref d0, .ref o0, .ref i0, .ref r0, .ref p0, .int (nI wd)]))] sz) (fun _ => []) (fun u => [(x0, .inr (4, [.ref t0, .ref w0, .ref d0, .ref o0, .ref i0, .ref r0, .ref p0, .int (nI u)]))])) (va_A [(x0, .inr (4, [.ref t0, .ref w0, .ref d0, .ref o0, .ref i0, .ref r0, .ref p0, .int (nI wd)]))] sz)) 0 0 (va_A [(x0, .inr (4, [.ref t0, .ref w0, .ref d0, .ref o0, .ref i0, .ref r0, .ref p0, .int (nI wd)]))] sz) := by
  refine Met.ofW (cc := cX4_width) (maxL := 2) (ret := (some .boolean)) (by decide) rfl ?_
  intro p e s m args below meth c s₁ B hml hv
  obtain ⟨rfl, hsz, hP, hK, hD0, hNs⟩ := hv
  have hx := B.exec
  have hb := B.bytes
  have hr := B.returns
  have hts := fun w (h : w ∈ lw_g) => atoms_spec (ws := wsX4_width) B.pre w (List.mem_cons_of_mem _ h)
  have hown : s.vm.findClass RX4 = some m.cls := findClass_of_methodNamed B.named
  have hlocks := B.notSynchronized
  subst hsz
  have hD := hD0.self (sz := s.heap.size)
  generalize hAe : va_A [(x0, .inr (4, [.ref t0, .ref w0, .ref d0, .ref o0, .ref i0, .ref r0, .ref p0, .int (nI wd)]))] s.heap.size = A at hD ⊢
  have hA : ∀ q : Nat, s.heap.size ≤ q → A q := fun q h => by rw [← hAe]; exact Or.inr h
  have hS : va_S A s.heap s.heap [] := va_S.rf
  have hP : va_P (dC, dI) vwCl [(x0, .inr (4, [.ref t0, .ref w0, .ref d0, .ref o0, .ref i0, .ref r0, .ref p0, .int (nI wd)]))] s.heap := hP
  have hl := lv_entry ([.ref x0, .int x]) (n := 2) (Nat.le_of_ble_eq_true rfl)
  rw [lg_entry_eq]
  generalize (lg_sl ([.ref x0, .int x]) ++ List.replicate (2 - (lg_sl ([.ref x0, .int x])).length) Slot.unset).toArray = ls at hl ⊢
  have hl : lv_has ls 2 [(0, .ref x0), (1, .int x)] := hl
  refine lv_iload_n hx hb dX4_width_0 rfl (lv_at hl 1 rfl) ?_
  refine lv_if_lt (tgt := 10) hx hb dX4_width_1 (by decide) (fun c_1 => ?_) (fun c_1 => ?_)
  · refine lv_iconst (v := nI 0) hx hb dX4_width_10 (by decide) ?_
    exact kend_i hx hb hr hlocks dX4_width_11 (rfl) hK hP hD hS (wd) (Or.inl ⟨Or.inl c_1, rfl, rfl⟩) [0] [] rfl (by decide) rfl
  · refine lv_iload_n hx hb dX4_width_4 rfl (lv_at hl 1 rfl) ?_
    refine lv_bipush (v := nI 32) hx hb dX4_width_5 (by decide) ?_
    refine lv_icmp_le (tgt := 12) hx hb dX4_width_7 (by decide) (fun c_7 => ?_) (fun c_7 => ?_)
    · obtain ⟨j, hj, rfl⟩ := nI_of c_1
      rw [nI_leI (by omega) (by decide)] at c_7
      refine lv_aload_n hx hb dX4_width_12 rfl (lv_at hl 0 rfl) ?_
      refine lv_iload_n hx hb dX4_width_13 rfl (lv_at hl 1 rfl) ?_
      refine va_put (D := (dC, dI)) (ci := 4) (v := .int (nI j)) (ty := .int) (C := RX4) (T := TX4) (N := 8) hx hb hts iX4 tyX4 tyX4_ok nmX4 hown hK hP hD hS 0 rfl rfl 7 (by decide) (hts _ m_88) (fun _ h9 => h9) rfl (by decide +kernel) rfl rfl (Nat.le_of_ble_eq_true rfl) dX4_width_14 (fun H locs hP hD hS => ?_)
      have hP : va_P (dC, dI) vwCl [(x0, .inr (4, [.ref t0, .ref w0, .ref d0, .ref o0, .ref i0, .ref r0, .ref p0, .int (nI j)]))] H := hP
      have hD : va_D A [(x0, .inr (4, [.ref t0, .ref w0, .ref d0, .ref o0, .ref i0, .ref r0, .ref p0, .int (nI j)]))] := hD
      refine lv_iconst (v := nI 1) hx hb dX4_width_17 (by decide) ?_
      exact kend_i hx hb hr hlocks dX4_width_18 (rfl) hK hP hD hS (j) (Or.inr ⟨by rintro (q | q); exact c_1 q; exact nI_nlt (by omega) (by omega) q, rfl, (nI_clamp hj).symm, c_7⟩) [0] [] rfl (by decide) rfl
    · refine lv_iconst (v := nI 0) hx hb dX4_width_10 (by decide) ?_
      exact kend_i hx hb hr hlocks dX4_width_11 (rfl) hK hP hD hS (wd) (Or.inl ⟨Or.inr (Int32.not_le.mp c_7), rfl, rfl⟩) [0] [] rfl (by decide) rfl

set_option maxHeartbeats 4000000 in
set_option maxRecDepth 100000 in
/-- add -/
theorem c_add (l : Launch) (dC : Nat → ClassId) (dI : Nat → Nat → Nat) (sz : Nat) (x0 t0 i0 o0 w0 d0 r0 p0 wd : Nat) (r1 : Nat) (cR : ClassId) (fr : Nat → Int32) (row : List Int32) (v x : Int32) (hrp : rHas fr row) (hrn : row.length ≤ 4096) : Met l yX4_add wsX4_add ({ frames := 3, cells := 0, slots := 0, locals := 68 }) (va_Pc [.ref x0, .int v, .int x] (kB (dC, dI) vwCl [(cR, .int)] [(x0, .inr (4, [.ref t0, .ref w0, .ref d0, .ref o0, .ref i0, .ref r0, .ref p0, .int (nI wd)])), (r0, .inr (2, [.ref r1, .int (nI (List.length row))])), (r1, .inl (cR, 4096, .inl fr))] sz)) (va_Qi (fun r (u : (Nat → Int32) × List Int32) => rHas u.1 u.2 ∧ app row v x r u.2 ∧ u.2.length ≤ 4096) (kE (dC, dI) vwCl (va_A [(x0, .inr (4, [.ref t0, .ref w0, .ref d0, .ref o0, .ref i0, .ref r0, .ref p0, .int (nI wd)])), (r0, .inr (2, [.ref r1, .int (nI (List.length row))])), (r1, .inl (cR, 4096, .inl fr))] sz) (fun _ => [(cR, .int)]) (fun u => [(x0, .inr (4, [.ref t0, .ref w0, .ref d0, .ref o0, .ref i0, .ref r0, .ref p0, .int (nI wd)])), (r0, .inr (2, [.ref r1, .int (nI (List.length u.2))])), (r1, .inl (cR, 4096, .inl u.1))])) (va_A [(x0, .inr (4, [.ref t0, .ref w0, .ref d0, .ref o0, .ref i0, .ref r0, .ref p0, .int (nI wd)])), (r0, .inr (2, [.ref r1, .int (nI (List.length row))])), (r1, .inl (cR, 4096, .inl fr))] sz)) 0 0 (va_A [(x0, .inr (4, [.ref t0, .ref w0, .ref d0, .ref o0, .ref i0, .ref r0, .ref p0, .int (nI wd)])), (r0, .inr (2, [.ref r1, .int (nI (List.length row))])), (r1, .inl (cR, 4096, .inl fr))] sz) := by
  refine Met.ofW (cc := cX4_add) (maxL := 3) (ret := (some .boolean)) (by decide) rfl ?_
  intro p e s m args below meth c s₁ B hml hv
  obtain ⟨rfl, hsz, hP, hK, hD0, hNs⟩ := hv
  have hx := B.exec
  have hb := B.bytes
  have hr := B.returns
  have hts := fun w (h : w ∈ lw_g) => atoms_spec (ws := wsX4_add) B.pre w (List.mem_cons_of_mem _ h)
  have hown : s.vm.findClass RX4 = some m.cls := findClass_of_methodNamed B.named
  have hlocks := B.notSynchronized
  subst hsz
  have hD := hD0.self (sz := s.heap.size)
  generalize hAe : va_A [(x0, .inr (4, [.ref t0, .ref w0, .ref d0, .ref o0, .ref i0, .ref r0, .ref p0, .int (nI wd)])), (r0, .inr (2, [.ref r1, .int (nI (List.length row))])), (r1, .inl (cR, 4096, .inl fr))] s.heap.size = A at hD ⊢
  have hA : ∀ q : Nat, s.heap.size ≤ q → A q := fun q h => by rw [← hAe]; exact Or.inr h
  have hS : va_S A s.heap s.heap [] := va_S.rf
  have hP : va_P (dC, dI) vwCl [(x0, .inr (4, [.ref t0, .ref w0, .ref d0, .ref o0, .ref i0, .ref r0, .ref p0, .int (nI wd)])), (r0, .inr (2, [.ref r1, .int (nI (List.length row))])), (r1, .inl (cR, 4096, .inl fr))] s.heap := hP
  have hl := lv_entry ([.ref x0, .int v, .int x]) (n := 3) (Nat.le_of_ble_eq_true rfl)
  rw [lg_entry_eq]
  generalize (lg_sl ([.ref x0, .int v, .int x]) ++ List.replicate (3 - (lg_sl ([.ref x0, .int v, .int x])).length) Slot.unset).toArray = ls at hl ⊢
  have hl : lv_has ls 3 [(0, .ref x0), (1, .int v), (2, .int x)] := hl
  refine lv_aload_n hx hb dX4_add_0 rfl (lv_at hl 0 rfl) ?_
  refine va_get (D := (dC, dI)) (ci := 4) (v := .ref r0) (C := RX4) (T := TX4) (N := 8) hx hb hts iX4 hown hK hP 0 rfl rfl 5 (by decide) (hts _ m_86) (fun _ h9 => h9) rfl dX4_add_1 ?_
  refine lv_iload_n hx hb dX4_add_4 rfl (lv_at hl 1 rfl) ?_
  refine lv_iload_n hx hb dX4_add_5 rfl (lv_at hl 2 rfl) ?_
  refine kret_i (wc := [(r0, .inr (2, [.ref r1, .int (nI (List.length row))])), (r1, .inl (cR, 4096, .inl fr))]) (wr := [(x0, .inr (4, [.ref t0, .ref w0, .ref d0, .ref o0, .ref i0, .ref r0, .ref p0, .int (nI wd)]))]) (va_runV (As := [.int v, .int x]) (rest := []) ⟨hx, hb, hml, hown, hts⟩ (c_Row_append l dC dI _ r0 r1 cR fr row v x hrp hrn) (cwV 2 hts (gdV m_145 m_146 m_147 m_6 m_148) rfl rfl rfl (by decide +kernel) ⟨Nat.le_of_ble_eq_true rfl, Nat.le_of_ble_eq_true rfl⟩) (kpV hNs hK hP hD [1, 2] [0] rfl rfl (by decide) (ci := 2) rfl rfl) rfl rfl hl.1 rfl (lv_room (Nat.le_of_ble_eq_true rfl)) dX4_add_6 ⟨Nat.le_of_ble_eq_true rfl, Nat.le_of_ble_eq_true rfl⟩) hP hD hS hA [1, 2] [0] rfl rfl (by decide) (by decide) (fun y u H locs hpo hK1 hP hD hS => ?_)
  obtain ⟨hu1, hu2⟩ := hpo
  have hP : va_P (dC, dI) vwCl [(x0, .inr (4, [.ref t0, .ref w0, .ref d0, .ref o0, .ref i0, .ref r0, .ref p0, .int (nI wd)])), (r0, .inr (2, [.ref r1, .int (nI (List.length u.2))])), (r1, .inl (cR, 4096, .inl u.1))] H := hP
  have hD : va_D A [(x0, .inr (4, [.ref t0, .ref w0, .ref d0, .ref o0, .ref i0, .ref r0, .ref p0, .int (nI wd)])), (r0, .inr (2, [.ref r1, .int (nI (List.length u.2))])), (r1, .inl (cR, 4096, .inl u.1))] := hD
  exact kend_i hx hb hr hlocks dX4_add_9 (bool_n (app_01 hu2)) hK hP hD hS (u) (⟨hu1, hu2, app_len hrn hu2⟩) [0, 1, 2] [0] rfl (by decide) rfl

set_option maxHeartbeats 4000000 in
set_option maxRecDepth 100000 in
/-- clear -/
theorem c_clear (l : Launch) (dC : Nat → ClassId) (dI : Nat → Nat → Nat) (sz : Nat) (x0 t0 i0 o0 w0 d0 r0 p0 wd : Nat) (r1 : Nat) (cR : ClassId) (fr : Nat → Int32) (row : List Int32)  : Met l yX4_clear wsX4_clear ({ frames := 1, cells := 0, slots := 0, locals := 20 }) (va_Pc [.ref x0] (kB (dC, dI) vwCl [(cR, .int)] [(x0, .inr (4, [.ref t0, .ref w0, .ref d0, .ref o0, .ref i0, .ref r0, .ref p0, .int (nI wd)])), (r0, .inr (2, [.ref r1, .int (nI (List.length row))])), (r1, .inl (cR, 4096, .inl fr))] sz)) (va_Qv (fun (_ : Unit) => True) (kE (dC, dI) vwCl (va_A [(x0, .inr (4, [.ref t0, .ref w0, .ref d0, .ref o0, .ref i0, .ref r0, .ref p0, .int (nI wd)])), (r0, .inr (2, [.ref r1, .int (nI (List.length row))])), (r1, .inl (cR, 4096, .inl fr))] sz) (fun _ => [(cR, .int)]) (fun _ => [(x0, .inr (4, [.ref t0, .ref w0, .ref d0, .ref o0, .ref i0, .ref r0, .ref p0, .int (nI wd)])), (r0, .inr (2, [.ref r1, .int (nI (List.length ([] : List Int32)))])), (r1, .inl (cR, 4096, .inl fr))])) (va_A [(x0, .inr (4, [.ref t0, .ref w0, .ref d0, .ref o0, .ref i0, .ref r0, .ref p0, .int (nI wd)])), (r0, .inr (2, [.ref r1, .int (nI (List.length row))])), (r1, .inl (cR, 4096, .inl fr))] sz)) 0 0 (va_A [(x0, .inr (4, [.ref t0, .ref w0, .ref d0, .ref o0, .ref i0, .ref r0, .ref p0, .int (nI wd)])), (r0, .inr (2, [.ref r1, .int (nI (List.length row))])), (r1, .inl (cR, 4096, .inl fr))] sz) := by
  refine Met.ofW (cc := cX4_clear) (maxL := 1) (ret := none) (by decide) rfl ?_
  intro p e s m args below meth c s₁ B hml hv
  obtain ⟨rfl, hsz, hP, hK, hD0, hNs⟩ := hv
  have hx := B.exec
  have hb := B.bytes
  have hr := B.returns
  have hts := fun w (h : w ∈ lw_g) => atoms_spec (ws := wsX4_clear) B.pre w (List.mem_cons_of_mem _ h)
  have hown : s.vm.findClass RX4 = some m.cls := findClass_of_methodNamed B.named
  have hlocks := B.notSynchronized
  subst hsz
  have hD := hD0.self (sz := s.heap.size)
  generalize hAe : va_A [(x0, .inr (4, [.ref t0, .ref w0, .ref d0, .ref o0, .ref i0, .ref r0, .ref p0, .int (nI wd)])), (r0, .inr (2, [.ref r1, .int (nI (List.length row))])), (r1, .inl (cR, 4096, .inl fr))] s.heap.size = A at hD ⊢
  have hA : ∀ q : Nat, s.heap.size ≤ q → A q := fun q h => by rw [← hAe]; exact Or.inr h
  have hS : va_S A s.heap s.heap [] := va_S.rf
  have hP : va_P (dC, dI) vwCl [(x0, .inr (4, [.ref t0, .ref w0, .ref d0, .ref o0, .ref i0, .ref r0, .ref p0, .int (nI wd)])), (r0, .inr (2, [.ref r1, .int (nI (List.length row))])), (r1, .inl (cR, 4096, .inl fr))] s.heap := hP
  have hl := lv_entry ([.ref x0]) (n := 1) (Nat.le_of_ble_eq_true rfl)
  rw [lg_entry_eq]
  generalize (lg_sl ([.ref x0]) ++ List.replicate (1 - (lg_sl ([.ref x0])).length) Slot.unset).toArray = ls at hl ⊢
  have hl : lv_has ls 1 [(0, .ref x0)] := hl
  refine lv_aload_n hx hb dX4_clear_0 rfl (lv_at hl 0 rfl) ?_
  refine va_get (D := (dC, dI)) (ci := 4) (v := .ref r0) (C := RX4) (T := TX4) (N := 8) hx hb hts iX4 hown hK hP 0 rfl rfl 5 (by decide) (hts _ m_86) (fun _ h9 => h9) rfl dX4_clear_1 ?_
  refine kret_v (wc := [(r0, .inr (2, [.ref r1, .int (nI (List.length row))])), (r1, .inl (cR, 4096, .inl fr))]) (wr := [(x0, .inr (4, [.ref t0, .ref w0, .ref d0, .ref o0, .ref i0, .ref r0, .ref p0, .int (nI wd)]))]) (va_runV (As := []) (rest := []) ⟨hx, hb, hml, hown, hts⟩ (c_Row_empty l dC dI _ r0 r1 cR fr row) (cwV 0 hts (gdV m_159 m_160 m_161 m_6 m_162) rfl rfl rfl (by decide +kernel) ⟨Nat.le_of_ble_eq_true rfl, Nat.le_of_ble_eq_true rfl⟩) (kpV hNs hK hP hD [1, 2] [0] rfl rfl (by decide) (ci := 2) rfl rfl) rfl rfl hl.1 rfl (lv_room (Nat.le_of_ble_eq_true rfl)) dX4_clear_4 ⟨Nat.le_of_ble_eq_true rfl, Nat.le_of_ble_eq_true rfl⟩) hP hD hS hA [1, 2] [0] rfl rfl (by decide) (by decide) (fun _ H locs hpo hK1 hP hD hS => ?_)
  have hP : va_P (dC, dI) vwCl [(x0, .inr (4, [.ref t0, .ref w0, .ref d0, .ref o0, .ref i0, .ref r0, .ref p0, .int (nI wd)])), (r0, .inr (2, [.ref r1, .int (nI (List.length ([] : List Int32)))])), (r1, .inl (cR, 4096, .inl fr))] H := hP
  have hD : va_D A [(x0, .inr (4, [.ref t0, .ref w0, .ref d0, .ref o0, .ref i0, .ref r0, .ref p0, .int (nI wd)])), (r0, .inr (2, [.ref r1, .int (nI (List.length ([] : List Int32)))])), (r1, .inl (cR, 4096, .inl fr))] := hD
  exact kend_v hx hb hr hlocks dX4_clear_7 hK hP hD hS (()) (trivial) [0, 1, 2] [0] rfl (by decide) rfl

set_option maxHeartbeats 4000000 in
set_option maxRecDepth 100000 in
/-- size -/
theorem c_size (l : Launch) (dC : Nat → ClassId) (dI : Nat → Nat → Nat) (sz : Nat) (x0 t0 i0 o0 w0 d0 r0 p0 wd : Nat) (r1 : Nat) (cR : ClassId) (fr : Nat → Int32) (row : List Int32)  : Met l yX4_size wsX4_size ({ frames := 1, cells := 0, slots := 0, locals := 20 }) (va_Pc [.ref x0] (kB (dC, dI) vwCl [(cR, .int)] [(x0, .inr (4, [.ref t0, .ref w0, .ref d0, .ref o0, .ref i0, .ref r0, .ref p0, .int (nI wd)])), (r0, .inr (2, [.ref r1, .int (nI (List.length row))])), (r1, .inl (cR, 4096, .inl fr))] sz)) (va_Qi (fun r (_ : Unit) => r = nI row.length) (kE (dC, dI) vwCl (va_A [(x0, .inr (4, [.ref t0, .ref w0, .ref d0, .ref o0, .ref i0, .ref r0, .ref p0, .int (nI wd)])), (r0, .inr (2, [.ref r1, .int (nI (List.length row))])), (r1, .inl (cR, 4096, .inl fr))] sz) (fun _ => [(cR, .int)]) (fun _ => [(x0, .inr (4, [.ref t0, .ref w0, .ref d0, .ref o0, .ref i0, .ref r0, .ref p0, .int (nI wd)])), (r0, .inr (2, [.ref r1, .int (nI (List.length row))])), (r1, .inl (cR, 4096, .inl fr))])) (va_A [(x0, .inr (4, [.ref t0, .ref w0, .ref d0, .ref o0, .ref i0, .ref r0, .ref p0, .int (nI wd)])), (r0, .inr (2, [.ref r1, .int (nI (List.length row))])), (r1, .inl (cR, 4096, .inl fr))] sz)) 0 0 (va_A [(x0, .inr (4, [.ref t0, .ref w0, .ref d0, .ref o0, .ref i0, .ref r0, .ref p0, .int (nI wd)])), (r0, .inr (2, [.ref r1, .int (nI (List.length row))])), (r1, .inl (cR, 4096, .inl fr))] sz) := by
  refine Met.ofW (cc := cX4_size) (maxL := 1) (ret := (some .int)) (by decide) rfl ?_
  intro p e s m args below meth c s₁ B hml hv
  obtain ⟨rfl, hsz, hP, hK, hD0, hNs⟩ := hv
  have hx := B.exec
  have hb := B.bytes
  have hr := B.returns
  have hts := fun w (h : w ∈ lw_g) => atoms_spec (ws := wsX4_size) B.pre w (List.mem_cons_of_mem _ h)
  have hown : s.vm.findClass RX4 = some m.cls := findClass_of_methodNamed B.named
  have hlocks := B.notSynchronized
  subst hsz
  have hD := hD0.self (sz := s.heap.size)
  generalize hAe : va_A [(x0, .inr (4, [.ref t0, .ref w0, .ref d0, .ref o0, .ref i0, .ref r0, .ref p0, .int (nI wd)])), (r0, .inr (2, [.ref r1, .int (nI (List.length row))])), (r1, .inl (cR, 4096, .inl fr))] s.heap.size = A at hD ⊢
  have hA : ∀ q : Nat, s.heap.size ≤ q → A q := fun q h => by rw [← hAe]; exact Or.inr h
  have hS : va_S A s.heap s.heap [] := va_S.rf
  have hP : va_P (dC, dI) vwCl [(x0, .inr (4, [.ref t0, .ref w0, .ref d0, .ref o0, .ref i0, .ref r0, .ref p0, .int (nI wd)])), (r0, .inr (2, [.ref r1, .int (nI (List.length row))])), (r1, .inl (cR, 4096, .inl fr))] s.heap := hP
  have hl := lv_entry ([.ref x0]) (n := 1) (Nat.le_of_ble_eq_true rfl)
  rw [lg_entry_eq]
  generalize (lg_sl ([.ref x0]) ++ List.replicate (1 - (lg_sl ([.ref x0])).length) Slot.unset).toArray = ls at hl ⊢
  have hl : lv_has ls 1 [(0, .ref x0)] := hl
  refine lv_aload_n hx hb dX4_size_0 rfl (lv_at hl 0 rfl) ?_
  refine va_get (D := (dC, dI)) (ci := 4) (v := .ref r0) (C := RX4) (T := TX4) (N := 8) hx hb hts iX4 hown hK hP 0 rfl rfl 5 (by decide) (hts _ m_86) (fun _ h9 => h9) rfl dX4_size_1 ?_
  refine kret_i (wc := [(r0, .inr (2, [.ref r1, .int (nI (List.length row))])), (r1, .inl (cR, 4096, .inl fr))]) (wr := [(x0, .inr (4, [.ref t0, .ref w0, .ref d0, .ref o0, .ref i0, .ref r0, .ref p0, .int (nI wd)]))]) (va_runV (As := []) (rest := []) ⟨hx, hb, hml, hown, hts⟩ (c_Row_count l dC dI _ r0 r1 cR fr row) (cwV 0 hts (gdV m_267 m_181 m_182 m_6 m_183) rfl rfl rfl (by decide +kernel) ⟨Nat.le_of_ble_eq_true rfl, Nat.le_of_ble_eq_true rfl⟩) (kpV hNs hK hP hD [1, 2] [0] rfl rfl (by decide) (ci := 2) rfl rfl) rfl rfl hl.1 rfl (lv_room (Nat.le_of_ble_eq_true rfl)) dX4_size_4 ⟨Nat.le_of_ble_eq_true rfl, Nat.le_of_ble_eq_true rfl⟩) hP hD hS hA [1, 2] [0] rfl rfl (by decide) (by decide) (fun y _ H locs hpo hK1 hP hD hS => ?_)
  have hy := hpo
  have hP : va_P (dC, dI) vwCl [(x0, .inr (4, [.ref t0, .ref w0, .ref d0, .ref o0, .ref i0, .ref r0, .ref p0, .int (nI wd)])), (r0, .inr (2, [.ref r1, .int (nI (List.length row))])), (r1, .inl (cR, 4096, .inl fr))] H := hP
  have hD : va_D A [(x0, .inr (4, [.ref t0, .ref w0, .ref d0, .ref o0, .ref i0, .ref r0, .ref p0, .int (nI wd)])), (r0, .inr (2, [.ref r1, .int (nI (List.length row))])), (r1, .inl (cR, 4096, .inl fr))] := hD
  exact kend_i hx hb hr hlocks dX4_size_7 (rfl) hK hP hD hS (()) (hy) [0, 1, 2] [0] rfl (by decide) rfl

set_option maxHeartbeats 4000000 in
set_option maxRecDepth 100000 in
/-- value -/
theorem c_value (l : Launch) (dC : Nat → ClassId) (dI : Nat → Nat → Nat) (sz : Nat) (x0 t0 i0 o0 w0 d0 r0 p0 wd : Nat) (r1 : Nat) (cR : ClassId) (fr : Nat → Int32) (row : List Int32) (x : Int32) (hrp : rHas fr row) (hrn : row.length ≤ 4096) : Met l yX4_value wsX4_value ({ frames := 1, cells := 0, slots := 0, locals := 21 }) (va_Pc [.ref x0, .int x] (kB (dC, dI) vwCl [(cR, .int)] [(x0, .inr (4, [.ref t0, .ref w0, .ref d0, .ref o0, .ref i0, .ref r0, .ref p0, .int (nI wd)])), (r0, .inr (2, [.ref r1, .int (nI (List.length row))])), (r1, .inl (cR, 4096, .inl fr))] sz)) (va_Qi (fun r (_ : Unit) => r = rAt row x) (kE (dC, dI) vwCl (va_A [(x0, .inr (4, [.ref t0, .ref w0, .ref d0, .ref o0, .ref i0, .ref r0, .ref p0, .int (nI wd)])), (r0, .inr (2, [.ref r1, .int (nI (List.length row))])), (r1, .inl (cR, 4096, .inl fr))] sz) (fun _ => [(cR, .int)]) (fun _ => [(x0, .inr (4, [.ref t0, .ref w0, .ref d0, .ref o0, .ref i0, .ref r0, .ref p0, .int (nI wd)])), (r0, .inr (2, [.ref r1, .int (nI (List.length row))])), (r1, .inl (cR, 4096, .inl fr))])) (va_A [(x0, .inr (4, [.ref t0, .ref w0, .ref d0, .ref o0, .ref i0, .ref r0, .ref p0, .int (nI wd)])), (r0, .inr (2, [.ref r1, .int (nI (List.length row))])), (r1, .inl (cR, 4096, .inl fr))] sz)) 0 0 (va_A [(x0, .inr (4, [.ref t0, .ref w0, .ref d0, .ref o0, .ref i0, .ref r0, .ref p0, .int (nI wd)])), (r0, .inr (2, [.ref r1, .int (nI (List.length row))])), (r1, .inl (cR, 4096, .inl fr))] sz) := by
  refine Met.ofW (cc := cX4_value) (maxL := 2) (ret := (some .int)) (by decide) rfl ?_
  intro p e s m args below meth c s₁ B hml hv
  obtain ⟨rfl, hsz, hP, hK, hD0, hNs⟩ := hv
  have hx := B.exec
  have hb := B.bytes
  have hr := B.returns
  have hts := fun w (h : w ∈ lw_g) => atoms_spec (ws := wsX4_value) B.pre w (List.mem_cons_of_mem _ h)
  have hown : s.vm.findClass RX4 = some m.cls := findClass_of_methodNamed B.named
  have hlocks := B.notSynchronized
  subst hsz
  have hD := hD0.self (sz := s.heap.size)
  generalize hAe : va_A [(x0, .inr (4, [.ref t0, .ref w0, .ref d0, .ref o0, .ref i0, .ref r0, .ref p0, .int (nI wd)])), (r0, .inr (2, [.ref r1, .int (nI (List.length row))])), (r1, .inl (cR, 4096, .inl fr))] s.heap.size = A at hD ⊢
  have hA : ∀ q : Nat, s.heap.size ≤ q → A q := fun q h => by rw [← hAe]; exact Or.inr h
  have hS : va_S A s.heap s.heap [] := va_S.rf
  have hP : va_P (dC, dI) vwCl [(x0, .inr (4, [.ref t0, .ref w0, .ref d0, .ref o0, .ref i0, .ref r0, .ref p0, .int (nI wd)])), (r0, .inr (2, [.ref r1, .int (nI (List.length row))])), (r1, .inl (cR, 4096, .inl fr))] s.heap := hP
  have hl := lv_entry ([.ref x0, .int x]) (n := 2) (Nat.le_of_ble_eq_true rfl)
  rw [lg_entry_eq]
  generalize (lg_sl ([.ref x0, .int x]) ++ List.replicate (2 - (lg_sl ([.ref x0, .int x])).length) Slot.unset).toArray = ls at hl ⊢
  have hl : lv_has ls 2 [(0, .ref x0), (1, .int x)] := hl
  refine lv_aload_n hx hb dX4_value_0 rfl (lv_at hl 0 rfl) ?_
  refine va_get (D := (dC, dI)) (ci := 4) (v := .ref r0) (C := RX4) (T := TX4) (N := 8) hx hb hts iX4 hown hK hP 0 rfl rfl 5 (by decide) (hts _ m_86) (fun _ h9 => h9) rfl dX4_value_1 ?_
  refine lv_iload_n hx hb dX4_value_4 rfl (lv_at hl 1 rfl) ?_
  refine kret_i (wc := [(r0, .inr (2, [.ref r1, .int (nI (List.length row))])), (r1, .inl (cR, 4096, .inl fr))]) (wr := [(x0, .inr (4, [.ref t0, .ref w0, .ref d0, .ref o0, .ref i0, .ref r0, .ref p0, .int (nI wd)]))]) (va_runV (As := [.int x]) (rest := []) ⟨hx, hb, hml, hown, hts⟩ (c_Row_at l dC dI _ r0 r1 cR fr row x hrp hrn) (cwV 1 hts (gdV m_272 m_172 m_173 m_6 m_174) rfl rfl rfl (by decide +kernel) ⟨Nat.le_of_ble_eq_true rfl, Nat.le_of_ble_eq_true rfl⟩) (kpV hNs hK hP hD [1, 2] [0] rfl rfl (by decide) (ci := 2) rfl rfl) rfl rfl hl.1 rfl (lv_room (Nat.le_of_ble_eq_true rfl)) dX4_value_5 ⟨Nat.le_of_ble_eq_true rfl, Nat.le_of_ble_eq_true rfl⟩) hP hD hS hA [1, 2] [0] rfl rfl (by decide) (by decide) (fun y _ H locs hpo hK1 hP hD hS => ?_)
  have hy := hpo
  have hP : va_P (dC, dI) vwCl [(x0, .inr (4, [.ref t0, .ref w0, .ref d0, .ref o0, .ref i0, .ref r0, .ref p0, .int (nI wd)])), (r0, .inr (2, [.ref r1, .int (nI (List.length row))])), (r1, .inl (cR, 4096, .inl fr))] H := hP
  have hD : va_D A [(x0, .inr (4, [.ref t0, .ref w0, .ref d0, .ref o0, .ref i0, .ref r0, .ref p0, .int (nI wd)])), (r0, .inr (2, [.ref r1, .int (nI (List.length row))])), (r1, .inl (cR, 4096, .inl fr))] := hD
  exact kend_i hx hb hr hlocks dX4_value_8 (rfl) hK hP hD hS (()) (hy) [0, 1, 2] [0] rfl (by decide) rfl

set_option maxHeartbeats 4000000 in
set_option maxRecDepth 100000 in
/-- output -/
theorem c_output (l : Launch) (dC : Nat → ClassId) (dI : Nat → Nat → Nat) (sz : Nat) (x0 t0 i0 o0 w0 d0 r0 p0 wd : Nat) (o1 : Nat) (cO : ClassId) (fo : Nat → Int32) (out : List Nat) (x : Int32) (hop : bHas fo out) (hon : out.length ≤ 16386) : Met l yX4_output wsX4_output ({ frames := 1, cells := 0, slots := 0, locals := 21 }) (va_Pc [.ref x0, .int x] (kB (dC, dI) vwCl [(cO, .byte)] [(x0, .inr (4, [.ref t0, .ref w0, .ref d0, .ref o0, .ref i0, .ref r0, .ref p0, .int (nI wd)])), (o0, .inr (0, [.ref o1, .int (nI (List.length out))])), (o1, .inl (cO, 16386, .inl fo))] sz)) (va_Qi (fun r (_ : Unit) => r = bAt out x) (kE (dC, dI) vwCl (va_A [(x0, .inr (4, [.ref t0, .ref w0, .ref d0, .ref o0, .ref i0, .ref r0, .ref p0, .int (nI wd)])), (o0, .inr (0, [.ref o1, .int (nI (List.length out))])), (o1, .inl (cO, 16386, .inl fo))] sz) (fun _ => [(cO, .byte)]) (fun _ => [(x0, .inr (4, [.ref t0, .ref w0, .ref d0, .ref o0, .ref i0, .ref r0, .ref p0, .int (nI wd)])), (o0, .inr (0, [.ref o1, .int (nI (List.length out))])), (o1, .inl (cO, 16386, .inl fo))])) (va_A [(x0, .inr (4, [.ref t0, .ref w0, .ref d0, .ref o0, .ref i0, .ref r0, .ref p0, .int (nI wd)])), (o0, .inr (0, [.ref o1, .int (nI (List.length out))])), (o1, .inl (cO, 16386, .inl fo))] sz)) 0 0 (va_A [(x0, .inr (4, [.ref t0, .ref w0, .ref d0, .ref o0, .ref i0, .ref r0, .ref p0, .int (nI wd)])), (o0, .inr (0, [.ref o1, .int (nI (List.length out))])), (o1, .inl (cO, 16386, .inl fo))] sz) := by
  refine Met.ofW (cc := cX4_output) (maxL := 2) (ret := (some .int)) (by decide) rfl ?_
  intro p e s m args below meth c s₁ B hml hv
  obtain ⟨rfl, hsz, hP, hK, hD0, hNs⟩ := hv
  have hx := B.exec
  have hb := B.bytes
  have hr := B.returns
  have hts := fun w (h : w ∈ lw_g) => atoms_spec (ws := wsX4_output) B.pre w (List.mem_cons_of_mem _ h)
  have hown : s.vm.findClass RX4 = some m.cls := findClass_of_methodNamed B.named
  have hlocks := B.notSynchronized
  subst hsz
  have hD := hD0.self (sz := s.heap.size)
  generalize hAe : va_A [(x0, .inr (4, [.ref t0, .ref w0, .ref d0, .ref o0, .ref i0, .ref r0, .ref p0, .int (nI wd)])), (o0, .inr (0, [.ref o1, .int (nI (List.length out))])), (o1, .inl (cO, 16386, .inl fo))] s.heap.size = A at hD ⊢
  have hA : ∀ q : Nat, s.heap.size ≤ q → A q := fun q h => by rw [← hAe]; exact Or.inr h
  have hS : va_S A s.heap s.heap [] := va_S.rf
  have hP : va_P (dC, dI) vwCl [(x0, .inr (4, [.ref t0, .ref w0, .ref d0, .ref o0, .ref i0, .ref r0, .ref p0, .int (nI wd)])), (o0, .inr (0, [.ref o1, .int (nI (List.length out))])), (o1, .inl (cO, 16386, .inl fo))] s.heap := hP
  have hl := lv_entry ([.ref x0, .int x]) (n := 2) (Nat.le_of_ble_eq_true rfl)
  rw [lg_entry_eq]
  generalize (lg_sl ([.ref x0, .int x]) ++ List.replicate (2 - (lg_sl ([.ref x0, .int x])).length) Slot.unset).toArray = ls at hl ⊢
  have hl : lv_has ls 2 [(0, .ref x0), (1, .int x)] := hl
  refine lv_aload_n hx hb dX4_output_0 rfl (lv_at hl 0 rfl) ?_
  refine va_get (D := (dC, dI)) (ci := 4) (v := .ref o0) (C := RX4) (T := TX4) (N := 8) hx hb hts iX4 hown hK hP 0 rfl rfl 3 (by decide) (hts _ m_84) (fun _ h9 => h9) rfl dX4_output_1 ?_
  refine lv_iload_n hx hb dX4_output_4 rfl (lv_at hl 1 rfl) ?_
  refine kret_i (wc := [(o0, .inr (0, [.ref o1, .int (nI (List.length out))])), (o1, .inl (cO, 16386, .inl fo))]) (wr := [(x0, .inr (4, [.ref t0, .ref w0, .ref d0, .ref o0, .ref i0, .ref r0, .ref p0, .int (nI wd)]))]) (va_runV (As := [.int x]) (rest := []) ⟨hx, hb, hml, hown, hts⟩ (c_Bytes_at l dC dI _ o0 o1 cO 16386 fo out x hop hon (by decide)) (cwV 1 hts (gdV m_277 m_237 m_238 m_2 m_239) rfl rfl rfl (by decide +kernel) ⟨Nat.le_of_ble_eq_true rfl, Nat.le_of_ble_eq_true rfl⟩) (kpV hNs hK hP hD [1, 2] [0] rfl rfl (by decide) (ci := 0) rfl rfl) rfl rfl hl.1 rfl (lv_room (Nat.le_of_ble_eq_true rfl)) dX4_output_5 ⟨Nat.le_of_ble_eq_true rfl, Nat.le_of_ble_eq_true rfl⟩) hP hD hS hA [1, 2] [0] rfl rfl (by decide) (by decide) (fun y _ H locs hpo hK1 hP hD hS => ?_)
  have hy := hpo
  have hP : va_P (dC, dI) vwCl [(x0, .inr (4, [.ref t0, .ref w0, .ref d0, .ref o0, .ref i0, .ref r0, .ref p0, .int (nI wd)])), (o0, .inr (0, [.ref o1, .int (nI (List.length out))])), (o1, .inl (cO, 16386, .inl fo))] H := hP
  have hD : va_D A [(x0, .inr (4, [.ref t0, .ref w0, .ref d0, .ref o0, .ref i0, .ref r0, .ref p0, .int (nI wd)])), (o0, .inr (0, [.ref o1, .int (nI (List.length out))])), (o1, .inl (cO, 16386, .inl fo))] := hD
  exact kend_i hx hb hr hlocks dX4_output_8 (rfl) hK hP hD hS (()) (hy) [0, 1, 2] [0] rfl (by decide) rfl

set_option maxHeartbeats 4000000 in
set_option maxRecDepth 100000 in
/-- turn -/
theorem c_turn (l : Launch) (dC : Nat → ClassId) (dI : Nat → Nat → Nat) (sz : Nat) (x0 t0 i0 o0 w0 d0 r0 p0 wd : Nat) (i1 : Nat) (cI : ClassId) (fi : Nat → Int32) (inp : List Nat) (o1 : Nat) (cO : ClassId) (fo : Nat → Int32) (out : List Nat) (hip : bHas fi inp) (hin_ : inp.length ≤ 8192) (hop : bHas fo out) (hon : out.length ≤ 16386) : Met l yX4_turn wsX4_turn ({ frames := 2, cells := 0, slots := 0, locals := 82 }) (va_Pc [.ref x0] (kB (dC, dI) vwCl [(cI, .byte), (cO, .byte)] [(x0, .inr (4, [.ref t0, .ref w0, .ref d0, .ref o0, .ref i0, .ref r0, .ref p0, .int (nI wd)])), (i0, .inr (0, [.ref i1, .int (nI (List.length inp))])), (i1, .inl (cI, 8192, .inl fi)), (o0, .inr (0, [.ref o1, .int (nI (List.length out))])), (o1, .inl (cO, 16386, .inl fo))] sz)) (va_Qi (fun r (u : (Nat → Int32) × List Nat) => bHas u.1 u.2 ∧ u.2.length ≤ 8192 ∧ bec 8192 inp out (nI out.length) r u.2) (kE (dC, dI) vwCl (va_A [(x0, .inr (4, [.ref t0, .ref w0, .ref d0, .ref o0, .ref i0, .ref r0, .ref p0, .int (nI wd)])), (i0, .inr (0, [.ref i1, .int (nI (List.length inp))])), (i1, .inl (cI, 8192, .inl fi)), (o0, .inr (0, [.ref o1, .int (nI (List.length out))])), (o1, .inl (cO, 16386, .inl fo))] sz) (fun _ => [(cI, .byte), (cO, .byte)]) (fun u => [(x0, .inr (4, [.ref t0, .ref w0, .ref d0, .ref o0, .ref i0, .ref r0, .ref p0, .int (nI wd)])), (i0, .inr (0, [.ref i1, .int (nI (List.length u.2))])), (i1, .inl (cI, 8192, .inl u.1)), (o0, .inr (0, [.ref o1, .int (nI (List.length out))])), (o1, .inl (cO, 16386, .inl fo))])) (va_A [(x0, .inr (4, [.ref t0, .ref w0, .ref d0, .ref o0, .ref i0, .ref r0, .ref p0, .int (nI wd)])), (i0, .inr (0, [.ref i1, .int (nI (List.length inp))])), (i1, .inl (cI, 8192, .inl fi)), (o0, .inr (0, [.ref o1, .int (nI (List.length out))])), (o1, .inl (cO, 16386, .inl fo))] sz)) 0 0 (va_A [(x0, .inr (4, [.ref t0, .ref w0, .ref d0, .ref o0, .ref i0, .ref r0, .ref p0, .int (nI wd)])), (i0, .inr (0, [.ref i1, .int (nI (List.length inp))])), (i1, .inl (cI, 8192, .inl fi)), (o0, .inr (0, [.ref o1, .int (nI (List.length out))])), (o1, .inl (cO, 16386, .inl fo))] sz) := by
  refine Met.ofW (cc := cX4_turn) (maxL := 1) (ret := (some .boolean)) (by decide) rfl ?_
  intro p e s m args below meth c s₁ B hml hv
  obtain ⟨rfl, hsz, hP, hK, hD0, hNs⟩ := hv
  have hx := B.exec
  have hb := B.bytes
  have hr := B.returns
  have hts := fun w (h : w ∈ lw_g) => atoms_spec (ws := wsX4_turn) B.pre w (List.mem_cons_of_mem _ h)
  have hown : s.vm.findClass RX4 = some m.cls := findClass_of_methodNamed B.named
  have hlocks := B.notSynchronized
  subst hsz
  have hD := hD0.self (sz := s.heap.size)
  generalize hAe : va_A [(x0, .inr (4, [.ref t0, .ref w0, .ref d0, .ref o0, .ref i0, .ref r0, .ref p0, .int (nI wd)])), (i0, .inr (0, [.ref i1, .int (nI (List.length inp))])), (i1, .inl (cI, 8192, .inl fi)), (o0, .inr (0, [.ref o1, .int (nI (List.length out))])), (o1, .inl (cO, 16386, .inl fo))] s.heap.size = A at hD ⊢
  have hA : ∀ q : Nat, s.heap.size ≤ q → A q := fun q h => by rw [← hAe]; exact Or.inr h
  have hS : va_S A s.heap s.heap [] := va_S.rf
  have hP : va_P (dC, dI) vwCl [(x0, .inr (4, [.ref t0, .ref w0, .ref d0, .ref o0, .ref i0, .ref r0, .ref p0, .int (nI wd)])), (i0, .inr (0, [.ref i1, .int (nI (List.length inp))])), (i1, .inl (cI, 8192, .inl fi)), (o0, .inr (0, [.ref o1, .int (nI (List.length out))])), (o1, .inl (cO, 16386, .inl fo))] s.heap := hP
  have hl := lv_entry ([.ref x0]) (n := 1) (Nat.le_of_ble_eq_true rfl)
  rw [lg_entry_eq]
  generalize (lg_sl ([.ref x0]) ++ List.replicate (1 - (lg_sl ([.ref x0])).length) Slot.unset).toArray = ls at hl ⊢
  have hl : lv_has ls 1 [(0, .ref x0)] := hl
  refine lv_aload_n hx hb dX4_turn_0 rfl (lv_at hl 0 rfl) ?_
  refine va_get (D := (dC, dI)) (ci := 4) (v := .ref i0) (C := RX4) (T := TX4) (N := 8) hx hb hts iX4 hown hK hP 0 rfl rfl 4 (by decide) (hts _ m_85) (fun _ h9 => h9) rfl dX4_turn_1 ?_
  refine lv_aload_n hx hb dX4_turn_4 rfl (lv_at hl 0 rfl) ?_
  refine va_get (D := (dC, dI)) (ci := 4) (v := .ref o0) (C := RX4) (T := TX4) (N := 8) hx hb hts iX4 hown hK hP 0 rfl rfl 3 (by decide) (hts _ m_84) (fun _ h9 => h9) rfl dX4_turn_5 ?_
  refine lv_aload_n hx hb dX4_turn_8 rfl (lv_at hl 0 rfl) ?_
  refine va_get (D := (dC, dI)) (ci := 4) (v := .ref o0) (C := RX4) (T := TX4) (N := 8) hx hb hts iX4 hown hK hP 0 rfl rfl 3 (by decide) (hts _ m_84) (fun _ h9 => h9) rfl dX4_turn_9 ?_
  refine kret_i (wc := [(o0, .inr (0, [.ref o1, .int (nI (List.length out))])), (o1, .inl (cO, 16386, .inl fo))]) (wr := [(x0, .inr (4, [.ref t0, .ref w0, .ref d0, .ref o0, .ref i0, .ref r0, .ref p0, .int (nI wd)])), (i0, .inr (0, [.ref i1, .int (nI (List.length inp))])), (i1, .inl (cI, 8192, .inl fi))]) (va_runV (As := []) (rest := [.ref o0, .ref i0]) ⟨hx, hb, hml, hown, hts⟩ (c_Bytes_count l dC dI _ o0 o1 cO 16386 fo out) (cwV 0 hts (gdV m_214 m_215 m_216 m_2 m_217) rfl rfl rfl (by decide +kernel) ⟨Nat.le_of_ble_eq_true rfl, Nat.le_of_ble_eq_true rfl⟩) (kpV hNs hK hP hD [3, 4] [1] rfl rfl (by decide) (ci := 0) rfl rfl) rfl rfl hl.1 rfl (lv_room (Nat.le_of_ble_eq_true rfl)) dX4_turn_12 ⟨Nat.le_of_ble_eq_true rfl, Nat.le_of_ble_eq_true rfl⟩) hP hD hS hA [3, 4] [0, 1, 2] rfl rfl (by decide) (by decide) (fun y _ H locs hpo hK1 hP hD hS => ?_)
  have hy := hpo
  have hP : va_P (dC, dI) vwCl [(x0, .inr (4, [.ref t0, .ref w0, .ref d0, .ref o0, .ref i0, .ref r0, .ref p0, .int (nI wd)])), (i0, .inr (0, [.ref i1, .int (nI (List.length inp))])), (i1, .inl (cI, 8192, .inl fi)), (o0, .inr (0, [.ref o1, .int (nI (List.length out))])), (o1, .inl (cO, 16386, .inl fo))] H := hP
  have hD : va_D A [(x0, .inr (4, [.ref t0, .ref w0, .ref d0, .ref o0, .ref i0, .ref r0, .ref p0, .int (nI wd)])), (i0, .inr (0, [.ref i1, .int (nI (List.length inp))])), (i1, .inl (cI, 8192, .inl fi)), (o0, .inr (0, [.ref o1, .int (nI (List.length out))])), (o1, .inl (cO, 16386, .inl fo))] := hD
  subst hy
  refine kret_i (wc := [(i0, .inr (0, [.ref i1, .int (nI (List.length inp))])), (i1, .inl (cI, 8192, .inl fi)), (o0, .inr (0, [.ref o1, .int (nI (List.length out))])), (o1, .inl (cO, 16386, .inl fo))]) (wr := [(x0, .inr (4, [.ref t0, .ref w0, .ref d0, .ref o0, .ref i0, .ref r0, .ref p0, .int (nI wd)]))]) (va_runV (As := [.ref o0, .int (nI (List.length out))]) (rest := []) ⟨hx, hb, hml, hown, hts⟩ (c_Bytes_become l dC dI _ i0 i1 cI 8192 fi inp o0 o1 cO 16386 fo out (nI out.length) hip hin_ (by decide) hop hon (by decide)) (cwV 2 hts (gdV m_126 m_127 m_128 m_2 m_129) rfl rfl rfl (by decide +kernel) ⟨Nat.le_of_ble_eq_true rfl, Nat.le_of_ble_eq_true rfl⟩) (kpV hNs hK hP hD [1, 2, 3, 4] [0, 1] rfl rfl (by decide) (ci := 0) rfl rfl) rfl rfl hl.1 rfl (lv_room (Nat.le_of_ble_eq_true rfl)) dX4_turn_15 ⟨Nat.le_of_ble_eq_true rfl, Nat.le_of_ble_eq_true rfl⟩) hP hD hS hA [1, 2, 3, 4] [0] rfl rfl (by decide) (by decide) (fun y u H locs hpo hK1 hP hD hS => ?_)
  obtain ⟨hu1, hu2⟩ := hpo
  have hP : va_P (dC, dI) vwCl [(x0, .inr (4, [.ref t0, .ref w0, .ref d0, .ref o0, .ref i0, .ref r0, .ref p0, .int (nI wd)])), (i0, .inr (0, [.ref i1, .int (nI (List.length u.2))])), (i1, .inl (cI, 8192, .inl u.1)), (o0, .inr (0, [.ref o1, .int (nI (List.length out))])), (o1, .inl (cO, 16386, .inl fo))] H := hP
  have hD : va_D A [(x0, .inr (4, [.ref t0, .ref w0, .ref d0, .ref o0, .ref i0, .ref r0, .ref p0, .int (nI wd)])), (i0, .inr (0, [.ref i1, .int (nI (List.length u.2))])), (i1, .inl (cI, 8192, .inl u.1)), (o0, .inr (0, [.ref o1, .int (nI (List.length out))])), (o1, .inl (cO, 16386, .inl fo))] := hD
  exact kend_i hx hb hr hlocks dX4_turn_18 (bool_n (bec_01 hu2)) hK hP hD hS (u) (⟨hu1, bec_len2 hin_ (by omega) hu2, hu2⟩) [0, 1, 2, 3, 4] [0, 1] rfl (by decide) rfl

set_option maxHeartbeats 4000000 in
set_option maxRecDepth 100000 in
/-- encode -/
theorem c_encode (l : Launch) (dC : Nat → ClassId) (dI : Nat → Nat → Nat) (sz : Nat) (x0 t0 i0 o0 w0 d0 r0 p0 wd : Nat) (o1 : Nat) (cO : ClassId) (fo : Nat → Int32) (out : List Nat) (r1 : Nat) (cR : ClassId) (fr : Nat → Int32) (row : List Int32) (hop : bHas fo out) (hon : out.length ≤ 16386) (hrp : rHas fr row) (hrn : row.length ≤ 4096) (hwd : wd ≤ 32) : Met l yX4_encode wsX4_encode ({ frames := 4, cells := 0, slots := 0, locals := 99 }) (va_Pc [.ref x0] (kB (dC, dI) vwCl [(cO, .byte), (cR, .int)] [(x0, .inr (4, [.ref t0, .ref w0, .ref d0, .ref o0, .ref i0, .ref r0, .ref p0, .int (nI wd)])), (o0, .inr (0, [.ref o1, .int (nI (List.length out))])), (o1, .inl (cO, 16386, .inl fo)), (w0, .inr (3, [.ref o0])), (r0, .inr (2, [.ref r1, .int (nI (List.length row))])), (r1, .inl (cR, 4096, .inl fr))] sz)) (va_Qi (fun r (u : (Nat → Int32) × List Nat) => bHas u.1 u.2 ∧ u.2.length ≤ 16386 ∧ ((¬ fitsW row wd ∧ r = -1 ∧ u.2 = []) ∨ (fitsW row wd ∧ r = nI u.2.length ∧ u.2 = ad 16386 [] (wrF row wd 4096 0)))) (kE (dC, dI) vwCl (va_A [(x0, .inr (4, [.ref t0, .ref w0, .ref d0, .ref o0, .ref i0, .ref r0, .ref p0, .int (nI wd)])), (o0, .inr (0, [.ref o1, .int (nI (List.length out))])), (o1, .inl (cO, 16386, .inl fo)), (w0, .inr (3, [.ref o0])), (r0, .inr (2, [.ref r1, .int (nI (List.length row))])), (r1, .inl (cR, 4096, .inl fr))] sz) (fun _ => [(cO, .byte), (cR, .int)]) (fun u => [(x0, .inr (4, [.ref t0, .ref w0, .ref d0, .ref o0, .ref i0, .ref r0, .ref p0, .int (nI wd)])), (o0, .inr (0, [.ref o1, .int (nI (List.length u.2))])), (o1, .inl (cO, 16386, .inl u.1)), (w0, .inr (3, [.ref o0])), (r0, .inr (2, [.ref r1, .int (nI (List.length row))])), (r1, .inl (cR, 4096, .inl fr))])) (va_A [(x0, .inr (4, [.ref t0, .ref w0, .ref d0, .ref o0, .ref i0, .ref r0, .ref p0, .int (nI wd)])), (o0, .inr (0, [.ref o1, .int (nI (List.length out))])), (o1, .inl (cO, 16386, .inl fo)), (w0, .inr (3, [.ref o0])), (r0, .inr (2, [.ref r1, .int (nI (List.length row))])), (r1, .inl (cR, 4096, .inl fr))] sz)) 0 0 (va_A [(x0, .inr (4, [.ref t0, .ref w0, .ref d0, .ref o0, .ref i0, .ref r0, .ref p0, .int (nI wd)])), (o0, .inr (0, [.ref o1, .int (nI (List.length out))])), (o1, .inl (cO, 16386, .inl fo)), (w0, .inr (3, [.ref o0])), (r0, .inr (2, [.ref r1, .int (nI (List.length row))])), (r1, .inl (cR, 4096, .inl fr))] sz) := by
  refine Met.ofW (cc := cX4_encode) (maxL := 1) (ret := (some .int)) (by decide) rfl ?_
  intro p e s m args below meth c s₁ B hml hv
  obtain ⟨rfl, hsz, hP, hK, hD0, hNs⟩ := hv
  have hx := B.exec
  have hb := B.bytes
  have hr := B.returns
  have hts := fun w (h : w ∈ lw_g) => atoms_spec (ws := wsX4_encode) B.pre w (List.mem_cons_of_mem _ h)
  have hown : s.vm.findClass RX4 = some m.cls := findClass_of_methodNamed B.named
  have hlocks := B.notSynchronized
  subst hsz
  have hD := hD0.self (sz := s.heap.size)
  generalize hAe : va_A [(x0, .inr (4, [.ref t0, .ref w0, .ref d0, .ref o0, .ref i0, .ref r0, .ref p0, .int (nI wd)])), (o0, .inr (0, [.ref o1, .int (nI (List.length out))])), (o1, .inl (cO, 16386, .inl fo)), (w0, .inr (3, [.ref o0])), (r0, .inr (2, [.ref r1, .int (nI (List.length row))])), (r1, .inl (cR, 4096, .inl fr))] s.heap.size = A at hD ⊢
  have hA : ∀ q : Nat, s.heap.size ≤ q → A q := fun q h => by rw [← hAe]; exact Or.inr h
  have hS : va_S A s.heap s.heap [] := va_S.rf
  have hP : va_P (dC, dI) vwCl [(x0, .inr (4, [.ref t0, .ref w0, .ref d0, .ref o0, .ref i0, .ref r0, .ref p0, .int (nI wd)])), (o0, .inr (0, [.ref o1, .int (nI (List.length out))])), (o1, .inl (cO, 16386, .inl fo)), (w0, .inr (3, [.ref o0])), (r0, .inr (2, [.ref r1, .int (nI (List.length row))])), (r1, .inl (cR, 4096, .inl fr))] s.heap := hP
  have hl := lv_entry ([.ref x0]) (n := 1) (Nat.le_of_ble_eq_true rfl)
  rw [lg_entry_eq]
  generalize (lg_sl ([.ref x0]) ++ List.replicate (1 - (lg_sl ([.ref x0])).length) Slot.unset).toArray = ls at hl ⊢
  have hl : lv_has ls 1 [(0, .ref x0)] := hl
  refine lv_aload_n hx hb dX4_encode_0 rfl (lv_at hl 0 rfl) ?_
  refine va_get (D := (dC, dI)) (ci := 4) (v := .ref o0) (C := RX4) (T := TX4) (N := 8) hx hb hts iX4 hown hK hP 0 rfl rfl 3 (by decide) (hts _ m_84) (fun _ h9 => h9) rfl dX4_encode_1 ?_
  refine kret_v (wc := [(o0, .inr (0, [.ref o1, .int (nI (List.length out))])), (o1, .inl (cO, 16386, .inl fo))]) (wr := [(x0, .inr (4, [.ref t0, .ref w0, .ref d0, .ref o0, .ref i0, .ref r0, .ref p0, .int (nI wd)])), (w0, .inr (3, [.ref o0])), (r0, .inr (2, [.ref r1, .int (nI (List.length row))])), (r1, .inl (cR, 4096, .inl fr))]) (va_runV (As := []) (rest := []) ⟨hx, hb, hml, hown, hts⟩ (c_Bytes_empty l dC dI _ o0 o1 cO 16386 fo out) (cwV 0 hts (gdV m_133 m_134 m_135 m_2 m_136) rfl rfl rfl (by decide +kernel) ⟨Nat.le_of_ble_eq_true rfl, Nat.le_of_ble_eq_true rfl⟩) (kpV hNs hK hP hD [1, 2] [0] rfl rfl (by decide) (ci := 0) rfl rfl) rfl rfl hl.1 rfl (lv_room (Nat.le_of_ble_eq_true rfl)) dX4_encode_4 ⟨Nat.le_of_ble_eq_true rfl, Nat.le_of_ble_eq_true rfl⟩) hP hD hS hA [1, 2] [0, 3, 4, 5] rfl rfl (by decide) (by decide) (fun _ H locs hpo hK1 hP hD hS => ?_)
  have hP : va_P (dC, dI) vwCl [(x0, .inr (4, [.ref t0, .ref w0, .ref d0, .ref o0, .ref i0, .ref r0, .ref p0, .int (nI wd)])), (w0, .inr (3, [.ref o0])), (r0, .inr (2, [.ref r1, .int (nI (List.length row))])), (r1, .inl (cR, 4096, .inl fr)), (o0, .inr (0, [.ref o1, .int (nI (List.length ([] : List Nat)))])), (o1, .inl (cO, 16386, .inl fo))] H := hP
  have hD : va_D A [(x0, .inr (4, [.ref t0, .ref w0, .ref d0, .ref o0, .ref i0, .ref r0, .ref p0, .int (nI wd)])), (w0, .inr (3, [.ref o0])), (r0, .inr (2, [.ref r1, .int (nI (List.length row))])), (r1, .inl (cR, 4096, .inl fr)), (o0, .inr (0, [.ref o1, .int (nI (List.length ([] : List Nat)))])), (o1, .inl (cO, 16386, .inl fo))] := hD
  refine lv_aload_n hx hb dX4_encode_7 rfl (lv_at hl 0 rfl) ?_
  refine va_get (D := (dC, dI)) (ci := 4) (v := .ref r0) (C := RX4) (T := TX4) (N := 8) hx hb hts iX4 hown hK hP 0 rfl rfl 5 (by decide) (hts _ m_86) (fun _ h9 => h9) rfl dX4_encode_8 ?_
  refine lv_aload_n hx hb dX4_encode_11 rfl (lv_at hl 0 rfl) ?_
  refine va_get (D := (dC, dI)) (ci := 4) (v := .int (nI wd)) (C := RX4) (T := TX4) (N := 8) hx hb hts iX4 hown hK hP 0 rfl rfl 7 (by decide) (hts _ m_88) (fun _ h9 => h9) rfl dX4_encode_12 ?_
  refine kret_i (wc := [(r0, .inr (2, [.ref r1, .int (nI (List.length row))])), (r1, .inl (cR, 4096, .inl fr))]) (wr := [(x0, .inr (4, [.ref t0, .ref w0, .ref d0, .ref o0, .ref i0, .ref r0, .ref p0, .int (nI wd)])), (w0, .inr (3, [.ref o0])), (o0, .inr (0, [.ref o1, .int (nI (List.length ([] : List Nat)))])), (o1, .inl (cO, 16386, .inl fo))]) (va_runV (As := [.int (nI wd)]) (rest := []) ⟨hx, hb, hml, hown, hts⟩ (c_Row_fits l dC dI _ r0 r1 cR fr row wd hrp hrn hwd) (cwV 1 hts (gdV m_167 m_168 m_169 m_6 m_170) rfl rfl rfl (by decide +kernel) ⟨Nat.le_of_ble_eq_true rfl, Nat.le_of_ble_eq_true rfl⟩) (kpV hNs hK hP hD [2, 3] [1] rfl rfl (by decide) (ci := 2) rfl rfl) rfl rfl hl.1 rfl (lv_room (Nat.le_of_ble_eq_true rfl)) dX4_encode_15 ⟨Nat.le_of_ble_eq_true rfl, Nat.le_of_ble_eq_true rfl⟩) hP hD hS hA [2, 3] [0, 1, 4, 5] rfl rfl (by decide) (by decide) (fun y _ H locs hpo hK1 hP hD hS => ?_)
  have hy := hpo
  have hP : va_P (dC, dI) vwCl [(x0, .inr (4, [.ref t0, .ref w0, .ref d0, .ref o0, .ref i0, .ref r0, .ref p0, .int (nI wd)])), (w0, .inr (3, [.ref o0])), (o0, .inr (0, [.ref o1, .int (nI (List.length ([] : List Nat)))])), (o1, .inl (cO, 16386, .inl fo)), (r0, .inr (2, [.ref r1, .int (nI (List.length row))])), (r1, .inl (cR, 4096, .inl fr))] H := hP
  have hD : va_D A [(x0, .inr (4, [.ref t0, .ref w0, .ref d0, .ref o0, .ref i0, .ref r0, .ref p0, .int (nI wd)])), (w0, .inr (3, [.ref o0])), (o0, .inr (0, [.ref o1, .int (nI (List.length ([] : List Nat)))])), (o1, .inl (cO, 16386, .inl fo)), (r0, .inr (2, [.ref r1, .int (nI (List.length row))])), (r1, .inl (cR, 4096, .inl fr))] := hD
  refine lv_if_ne (tgt := 23) hx hb dX4_encode_18 (by decide) (fun c_18 => ?_) (fun c_18 => ?_)
  · obtain ⟨hy, hfit⟩ := hy.resolve_right (fun q => c_18 (by rw [q.1]; rfl))
    refine lv_aload_n hx hb dX4_encode_23 rfl (lv_at hl 0 rfl) ?_
    refine va_get (D := (dC, dI)) (ci := 4) (v := .ref w0) (C := RX4) (T := TX4) (N := 8) hx hb hts iX4 hown hK hP 0 rfl rfl 1 (by decide) (hts _ m_82) (fun _ h9 => h9) rfl dX4_encode_24 ?_
    refine lv_aload_n hx hb dX4_encode_27 rfl (lv_at hl 0 rfl) ?_
    refine va_get (D := (dC, dI)) (ci := 4) (v := .ref r0) (C := RX4) (T := TX4) (N := 8) hx hb hts iX4 hown hK hP 0 rfl rfl 5 (by decide) (hts _ m_86) (fun _ h9 => h9) rfl dX4_encode_28 ?_
    refine lv_aload_n hx hb dX4_encode_31 rfl (lv_at hl 0 rfl) ?_
    refine va_get (D := (dC, dI)) (ci := 4) (v := .int (nI wd)) (C := RX4) (T := TX4) (N := 8) hx hb hts iX4 hown hK hP 0 rfl rfl 7 (by decide) (hts _ m_88) (fun _ h9 => h9) rfl dX4_encode_32 ?_
    refine kret_v (wc := [(w0, .inr (3, [.ref o0])), (o0, .inr (0, [.ref o1, .int (nI (List.length ([] : List Nat)))])), (o1, .inl (cO, 16386, .inl fo)), (r0, .inr (2, [.ref r1, .int (nI (List.length row))])), (r1, .inl (cR, 4096, .inl fr))]) (wr := [(x0, .inr (4, [.ref t0, .ref w0, .ref d0, .ref o0, .ref i0, .ref r0, .ref p0, .int (nI wd)]))]) (va_runV (As := [.ref r0, .int (nI wd)]) (rest := []) ⟨hx, hb, hml, hown, hts⟩ (c_write l dC dI _ w0 o0 o1 cO 16386 fo [] r0 r1 cR fr row wd (bHas_nil _) (Nat.zero_le _) (by decide) hrp hrn hwd hfit) (cwV 2 hts (gdV m_176 m_177 m_178 m_4 m_179) rfl rfl rfl (by decide +kernel) ⟨Nat.le_of_ble_eq_true rfl, Nat.le_of_ble_eq_true rfl⟩) (kpV hNs hK hP hD [1, 2, 3, 4, 5] [0, 1] rfl rfl (by decide) (ci := 3) rfl rfl) rfl rfl hl.1 rfl (lv_room (Nat.le_of_ble_eq_true rfl)) dX4_encode_35 ⟨Nat.le_of_ble_eq_true rfl, Nat.le_of_ble_eq_true rfl⟩) hP hD hS hA [1, 2, 3, 4, 5] [0] rfl rfl (by decide) (by decide) (fun u H locs hpo hK1 hP hD hS => ?_)
    have hu := hpo
    have hP : va_P (dC, dI) vwCl [(x0, .inr (4, [.ref t0, .ref w0, .ref d0, .ref o0, .ref i0, .ref r0, .ref p0, .int (nI wd)])), (w0, .inr (3, [.ref o0])), (o0, .inr (0, [.ref o1, .int (nI (List.length (ad 16386 [] (wrF row wd 4096 0))))])), (o1, .inl (cO, 16386, .inl u)), (r0, .inr (2, [.ref r1, .int (nI (List.length row))])), (r1, .inl (cR, 4096, .inl fr))] H := hP
    have hD : va_D A [(x0, .inr (4, [.ref t0, .ref w0, .ref d0, .ref o0, .ref i0, .ref r0, .ref p0, .int (nI wd)])), (w0, .inr (3, [.ref o0])), (o0, .inr (0, [.ref o1, .int (nI (List.length (ad 16386 [] (wrF row wd 4096 0))))])), (o1, .inl (cO, 16386, .inl u)), (r0, .inr (2, [.ref r1, .int (nI (List.length row))])), (r1, .inl (cR, 4096, .inl fr))] := hD
    refine lv_aload_n hx hb dX4_encode_38 rfl (lv_at hl 0 rfl) ?_
    refine va_get (D := (dC, dI)) (ci := 4) (v := .ref o0) (C := RX4) (T := TX4) (N := 8) hx hb hts iX4 hown hK hP 0 rfl rfl 3 (by decide) (hts _ m_84) (fun _ h9 => h9) rfl dX4_encode_39 ?_
    refine kret_i (wc := [(o0, .inr (0, [.ref o1, .int (nI (List.length (ad 16386 [] (wrF row wd 4096 0))))])), (o1, .inl (cO, 16386, .inl u))]) (wr := [(x0, .inr (4, [.ref t0, .ref w0, .ref d0, .ref o0, .ref i0, .ref r0, .ref p0, .int (nI wd)])), (w0, .inr (3, [.ref o0])), (r0, .inr (2, [.ref r1, .int (nI (List.length row))])), (r1, .inl (cR, 4096, .inl fr))]) (va_runV (As := []) (rest := []) ⟨hx, hb, hml, hown, hts⟩ (c_Bytes_count l dC dI _ o0 o1 cO 16386 u (ad 16386 [] (wrF row wd 4096 0))) (cwV 0 hts (gdV m_214 m_215 m_216 m_2 m_217) rfl rfl rfl (by decide +kernel) ⟨Nat.le_of_ble_eq_true rfl, Nat.le_of_ble_eq_true rfl⟩) (kpV hNs hK hP hD [2, 3] [0] rfl rfl (by decide) (ci := 0) rfl rfl) rfl rfl hl.1 rfl (lv_room (Nat.le_of_ble_eq_true rfl)) dX4_encode_42 ⟨Nat.le_of_ble_eq_true rfl, Nat.le_of_ble_eq_true rfl⟩) hP hD hS hA [2, 3] [0, 1, 4, 5] rfl rfl (by decide) (by decide) (fun y _ H locs hpo hK1 hP hD hS => ?_)
    have hy2 := hpo
    have hP : va_P (dC, dI) vwCl [(x0, .inr (4, [.ref t0, .ref w0, .ref d0, .ref o0, .ref i0, .ref r0, .ref p0, .int (nI wd)])), (w0, .inr (3, [.ref o0])), (r0, .inr (2, [.ref r1, .int (nI (List.length row))])), (r1, .inl (cR, 4096, .inl fr)), (o0, .inr (0, [.ref o1, .int (nI (List.length (ad 16386 [] (wrF row wd 4096 0))))])), (o1, .inl (cO, 16386, .inl u))] H := hP
    have hD : va_D A [(x0, .inr (4, [.ref t0, .ref w0, .ref d0, .ref o0, .ref i0, .ref r0, .ref p0, .int (nI wd)])), (w0, .inr (3, [.ref o0])), (r0, .inr (2, [.ref r1, .int (nI (List.length row))])), (r1, .inl (cR, 4096, .inl fr)), (o0, .inr (0, [.ref o1, .int (nI (List.length (ad 16386 [] (wrF row wd 4096 0))))])), (o1, .inl (cO, 16386, .inl u))] := hD
    exact kend_i hx hb hr hlocks dX4_encode_45 (rfl) hK hP hD hS ((u, ad 16386 [] (wrF row wd 4096 0))) (⟨hu, ad_len _ _, Or.inr ⟨hfit, hy2, rfl⟩⟩) [0, 4, 5, 1, 2, 3] [0, 1] rfl (by decide) rfl
  · obtain ⟨hy, hfit⟩ := hy.resolve_left (fun q => absurd (q.1.symm.trans c_18) (by decide))
    refine lv_iconst (v := (-1)) hx hb dX4_encode_21 (by decide) ?_
    exact kend_i hx hb hr hlocks dX4_encode_22 (rfl) hK hP hD hS ((fo, [])) (⟨bHas_nil _, Nat.zero_le _, Or.inl ⟨hfit, rfl, rfl⟩⟩) [0, 2, 3, 1, 4, 5] [0, 1] rfl (by decide) rfl

set_option maxHeartbeats 4000000 in
set_option maxRecDepth 100000 in
/-- exchangeRows -/
theorem c_exchange (l : Launch) (dC : Nat → ClassId) (dI : Nat → Nat → Nat) (sz : Nat) (x0 t0 i0 o0 w0 d0 r0 p0 wd : Nat)  : Met l yX4_exchangeRows wsX4_exchangeRows ({ frames := 0, cells := 0, slots := 0, locals := 0 }) (va_Pc [.ref x0] (kB (dC, dI) vwCl [] [(x0, .inr (4, [.ref t0, .ref w0, .ref d0, .ref o0, .ref i0, .ref r0, .ref p0, .int (nI wd)]))] sz)) (va_Qv (fun (_ : Unit) => True) (kE (dC, dI) vwCl (va_A [(x0, .inr (4, [.ref t0, .ref w0, .ref d0, .ref o0, .ref i0, .ref r0, .ref p0, .int (nI wd)]))] sz) (fun _ => []) (fun _ => [(x0, .inr (4, [.ref t0, .ref w0, .ref d0, .ref o0, .ref i0, .ref p0, .ref r0, .int (nI wd)]))])) (va_A [(x0, .inr (4, [.ref t0, .ref w0, .ref d0, .ref o0, .ref i0, .ref r0, .ref p0, .int (nI wd)]))] sz)) 0 0 (va_A [(x0, .inr (4, [.ref t0, .ref w0, .ref d0, .ref o0, .ref i0, .ref r0, .ref p0, .int (nI wd)]))] sz) := by
  refine Met.ofW (cc := cX4_exchangeRows) (maxL := 2) (ret := none) (by decide) rfl ?_
  intro p e s m args below meth c s₁ B hml hv
  obtain ⟨rfl, hsz, hP, hK, hD0, hNs⟩ := hv
  have hx := B.exec
  have hb := B.bytes
  have hr := B.returns
  have hts := fun w (h : w ∈ lw_g) => atoms_spec (ws := wsX4_exchangeRows) B.pre w (List.mem_cons_of_mem _ h)
  have hown : s.vm.findClass RX4 = some m.cls := findClass_of_methodNamed B.named
  have hlocks := B.notSynchronized
  subst hsz
  have hD := hD0.self (sz := s.heap.size)
  generalize hAe : va_A [(x0, .inr (4, [.ref t0, .ref w0, .ref d0, .ref o0, .ref i0, .ref r0, .ref p0, .int (nI wd)]))] s.heap.size = A at hD ⊢
  have hA : ∀ q : Nat, s.heap.size ≤ q → A q := fun q h => by rw [← hAe]; exact Or.inr h
  have hS : va_S A s.heap s.heap [] := va_S.rf
  have hP : va_P (dC, dI) vwCl [(x0, .inr (4, [.ref t0, .ref w0, .ref d0, .ref o0, .ref i0, .ref r0, .ref p0, .int (nI wd)]))] s.heap := hP
  have hl := lv_entry ([.ref x0]) (n := 2) (Nat.le_of_ble_eq_true rfl)
  rw [lg_entry_eq]
  generalize (lg_sl ([.ref x0]) ++ List.replicate (2 - (lg_sl ([.ref x0])).length) Slot.unset).toArray = ls at hl ⊢
  have hl : lv_has ls 2 [(0, .ref x0)] := hl
  refine lv_aload_n hx hb dX4_exchangeRows_0 rfl (lv_at hl 0 rfl) ?_
  refine va_get (D := (dC, dI)) (ci := 4) (v := .ref p0) (C := RX4) (T := TX4) (N := 8) hx hb hts iX4 hown hK hP 0 rfl rfl 6 (by decide) (hts _ m_87) (fun _ h9 => h9) rfl dX4_exchangeRows_1 ?_
  refine lv_astore_n (lv' := [(1, .ref p0), (0, .ref x0)]) hx hb dX4_exchangeRows_4 rfl hl (by decide) rfl (fun ls hl => ?_)
  refine lv_aload_n hx hb dX4_exchangeRows_5 rfl (lv_at hl 1 rfl) ?_
  refine lv_aload_n hx hb dX4_exchangeRows_6 rfl (lv_at hl 1 rfl) ?_
  refine va_get (D := (dC, dI)) (ci := 4) (v := .ref r0) (C := RX4) (T := TX4) (N := 8) hx hb hts iX4 hown hK hP 0 rfl rfl 5 (by decide) (hts _ m_86) (fun _ h9 => h9) rfl dX4_exchangeRows_7 ?_
  refine va_put (D := (dC, dI)) (ci := 4) (v := .ref r0) (ty := .object "RunRows$Row") (C := RX4) (T := TX4) (N := 8) hx hb hts iX4 tyX4 tyX4_ok nmX4 hown hK hP hD hS 0 rfl rfl 6 (by decide) (hts _ m_87) (fun _ h9 => h9) rfl (by decide +kernel) rfl rfl (Nat.le_of_ble_eq_true rfl) dX4_exchangeRows_10 (fun H locs hP hD hS => ?_)
  have hP : va_P (dC, dI) vwCl [(x0, .inr (4, [.ref t0, .ref w0, .ref d0, .ref o0, .ref i0, .ref r0, .ref r0, .int (nI wd)]))] H := hP
  have hD : va_D A [(x0, .inr (4, [.ref t0, .ref w0, .ref d0, .ref o0, .ref i0, .ref r0, .ref r0, .int (nI wd)]))] := hD
  refine lv_aload_n hx hb dX4_exchangeRows_13 rfl (lv_at hl 1 rfl) ?_
  refine lv_aload_n hx hb dX4_exchangeRows_14 rfl (lv_at hl 0 rfl) ?_
  refine va_put (D := (dC, dI)) (ci := 4) (v := .ref p0) (ty := .object "RunRows$Row") (C := RX4) (T := TX4) (N := 8) hx hb hts iX4 tyX4 tyX4_ok nmX4 hown hK hP hD hS 0 rfl rfl 5 (by decide) (hts _ m_86) (fun _ h9 => h9) rfl (by decide +kernel) rfl rfl (Nat.le_of_ble_eq_true rfl) dX4_exchangeRows_15 (fun H locs hP hD hS => ?_)
  have hP : va_P (dC, dI) vwCl [(x0, .inr (4, [.ref t0, .ref w0, .ref d0, .ref o0, .ref i0, .ref p0, .ref r0, .int (nI wd)]))] H := hP
  have hD : va_D A [(x0, .inr (4, [.ref t0, .ref w0, .ref d0, .ref o0, .ref i0, .ref p0, .ref r0, .int (nI wd)]))] := hD
  exact kend_v hx hb hr hlocks dX4_exchangeRows_18 hK hP hD hS (()) (trivial) [0] [] rfl (by decide) rfl

set_option maxHeartbeats 4000000 in
set_option maxRecDepth 100000 in
/-- decode -/
theorem c_decode (l : Launch) (dC : Nat → ClassId) (dI : Nat → Nat → Nat) (sz : Nat) (x0 t0 i0 o0 w0 d0 r0 p0 wd : Nat) (i1 : Nat) (cI : ClassId) (fi : Nat → Int32) (inp : List Nat) (p1 : Nat) (cP : ClassId) (fp : Nat → Int32) (spr : List Int32) (at_ : Nat) (hd : Int64) (x : Int32) (hip : bHas fi inp) (hin_ : inp.length ≤ 8192) (hpp : rHas fp spr) (hpn : spr.length ≤ 4096) (hwd : wd ≤ 32) : Met l yX4_decode wsX4_decode ({ frames := 6, cells := 0, slots := 0, locals := 155 }) (va_Pc [.ref x0, .int x] (kB (dC, dI) vwCl [(cI, .byte), (cP, .int)] [(x0, .inr (4, [.ref t0, .ref w0, .ref d0, .ref o0, .ref i0, .ref r0, .ref p0, .int (nI wd)])), (i0, .inr (0, [.ref i1, .int (nI (List.length inp))])), (i1, .inl (cI, 8192, .inl fi)), (d0, .inr (1, [.ref i0, .int (nI at_), .long hd])), (p0, .inr (2, [.ref p1, .int (nI (List.length spr))])), (p1, .inl (cP, 4096, .inl fp))] sz)) (va_Qi (fun r (u : (Nat × Nat) × (Nat × Int64) × (Nat → Int32) × List Int32) => rHas u.2.2.1 u.2.2.2 ∧ u.2.2.2.length ≤ 4096 ∧ (((x < 0 ∨ nI 4096 < x) ∧ r = -1 ∧ u.1 = (r0, p0)) ∨ (∃ j, j ≤ 4096 ∧ x = nI j ∧ r = nI (rdF inp wd j j 0 []).1 ∧ ((¬ (rdF inp wd j j 0 []).1 = 0 ∧ u.1 = (r0, p0)) ∨ ((rdF inp wd j j 0 []).1 = 0 ∧ u.1 = (p0, r0) ∧ u.2.2.2 = (rdF inp wd j j 0 []).2))))) (kE (dC, dI) vwCl (va_A [(x0, .inr (4, [.ref t0, .ref w0, .ref d0, .ref o0, .ref i0, .ref r0, .ref p0, .int (nI wd)])), (i0, .inr (0, [.ref i1, .int (nI (List.length inp))])), (i1, .inl (cI, 8192, .inl fi)), (d0, .inr (1, [.ref i0, .int (nI at_), .long hd])), (p0, .inr (2, [.ref p1, .int (nI (List.length spr))])), (p1, .inl (cP, 4096, .inl fp))] sz) (fun _ => [(cI, .byte), (cP, .int)]) (fun u => [(x0, .inr (4, [.ref t0, .ref w0, .ref d0, .ref o0, .ref i0, .ref u.1.1, .ref u.1.2, .int (nI wd)])), (i0, .inr (0, [.ref i1, .int (nI (List.length inp))])), (i1, .inl (cI, 8192, .inl fi)), (d0, .inr (1, [.ref i0, .int (nI u.2.1.1), .long u.2.1.2])), (p0, .inr (2, [.ref p1, .int (nI (List.length u.2.2.2))])), (p1, .inl (cP, 4096, .inl u.2.2.1))])) (va_A [(x0, .inr (4, [.ref t0, .ref w0, .ref d0, .ref o0, .ref i0, .ref r0, .ref p0, .int (nI wd)])), (i0, .inr (0, [.ref i1, .int (nI (List.length inp))])), (i1, .inl (cI, 8192, .inl fi)), (d0, .inr (1, [.ref i0, .int (nI at_), .long hd])), (p0, .inr (2, [.ref p1, .int (nI (List.length spr))])), (p1, .inl (cP, 4096, .inl fp))] sz)) 0 0 (va_A [(x0, .inr (4, [.ref t0, .ref w0, .ref d0, .ref o0, .ref i0, .ref r0, .ref p0, .int (nI wd)])), (i0, .inr (0, [.ref i1, .int (nI (List.length inp))])), (i1, .inl (cI, 8192, .inl fi)), (d0, .inr (1, [.ref i0, .int (nI at_), .long hd])), (p0, .inr (2, [.ref p1, .int (nI (List.length spr))])), (p1, .inl (cP, 4096, .inl fp))] sz) := by
  refine Met.ofW (cc := cX4_decode) (maxL := 3) (ret := (some .int)) (by decide) rfl ?_
  intro p e s m args below meth c s₁ B hml hv
  obtain ⟨rfl, hsz, hP, hK, hD0, hNs⟩ := hv
  have hx := B.exec
  have hb := B.bytes
  have hr := B.returns
  have hts := fun w (h : w ∈ lw_g) => atoms_spec (ws := wsX4_decode) B.pre w (List.mem_cons_of_mem _ h)
  have hown : s.vm.findClass RX4 = some m.cls := findClass_of_methodNamed B.named
  have hlocks := B.notSynchronized
  subst hsz
  have hD := hD0.self (sz := s.heap.size)
  generalize hAe : va_A [(x0, .inr (4, [.ref t0, .ref w0, .ref d0, .ref o0, .ref i0, .ref r0, .ref p0, .int (nI wd)])), (i0, .inr (0, [.ref i1, .int (nI (List.length inp))])), (i1, .inl (cI, 8192, .inl fi)), (d0, .inr (1, [.ref i0, .int (nI at_), .long hd])), (p0, .inr (2, [.ref p1, .int (nI (List.length spr))])), (p1, .inl (cP, 4096, .inl fp))] s.heap.size = A at hD ⊢
  have hA : ∀ q : Nat, s.heap.size ≤ q → A q := fun q h => by rw [← hAe]; exact Or.inr h
  have hS : va_S A s.heap s.heap [] := va_S.rf
  have hP : va_P (dC, dI) vwCl [(x0, .inr (4, [.ref t0, .ref w0, .ref d0, .ref o0, .ref i0, .ref r0, .ref p0, .int (nI wd)])), (i0, .inr (0, [.ref i1, .int (nI (List.length inp))])), (i1, .inl (cI, 8192, .inl fi)), (d0, .inr (1, [.ref i0, .int (nI at_), .long hd])), (p0, .inr (2, [.ref p1, .int (nI (List.length spr))])), (p1, .inl (cP, 4096, .inl fp))] s.heap := hP
  have hl := lv_entry ([.ref x0, .int x]) (n := 3) (Nat.le_of_ble_eq_true rfl)
  rw [lg_entry_eq]
  generalize (lg_sl ([.ref x0, .int x]) ++ List.replicate (3 - (lg_sl ([.ref x0, .int x])).length) Slot.unset).toArray = ls at hl ⊢
  have hl : lv_has ls 3 [(0, .ref x0), (1, .int x)] := hl
  refine lv_iload_n hx hb dX4_decode_0 rfl (lv_at hl 1 rfl) ?_
  refine lv_if_lt (tgt := 11) hx hb dX4_decode_1 (by decide) (fun c_1 => ?_) (fun c_1 => ?_)
  · refine lv_iconst (v := (-1)) hx hb dX4_decode_11 (by decide) ?_
    exact kend_i hx hb hr hlocks dX4_decode_12 (rfl) hK hP hD hS (((r0, p0), (at_, hd), fp, spr)) (⟨hpp, hpn, Or.inl ⟨Or.inl c_1, rfl, rfl⟩⟩) [0, 1, 2, 3, 4, 5] [0, 1] rfl (by decide) rfl
  · refine lv_iload_n hx hb dX4_decode_4 rfl (lv_at hl 1 rfl) ?_
    refine lv_sipush (v := nI 4096) hx hb dX4_decode_5 (by decide) ?_
    refine lv_icmp_le (tgt := 13) hx hb dX4_decode_8 (by decide) (fun c_8 => ?_) (fun c_8 => ?_)
    · obtain ⟨j, hj, rfl⟩ := nI_of c_1
      rw [nI_leI (by omega) (by decide)] at c_8
      refine lv_aload_n hx hb dX4_decode_13 rfl (lv_at hl 0 rfl) ?_
      refine va_get (D := (dC, dI)) (ci := 4) (v := .ref d0) (C := RX4) (T := TX4) (N := 8) hx hb hts iX4 hown hK hP 0 rfl rfl 2 (by decide) (hts _ m_83) (fun _ h9 => h9) rfl dX4_decode_14 ?_
      refine lv_aload_n hx hb dX4_decode_17 rfl (lv_at hl 0 rfl) ?_
      refine va_get (D := (dC, dI)) (ci := 4) (v := .ref p0) (C := RX4) (T := TX4) (N := 8) hx hb hts iX4 hown hK hP 0 rfl rfl 6 (by decide) (hts _ m_87) (fun _ h9 => h9) rfl dX4_decode_18 ?_
      refine lv_aload_n hx hb dX4_decode_21 rfl (lv_at hl 0 rfl) ?_
      refine va_get (D := (dC, dI)) (ci := 4) (v := .int (nI wd)) (C := RX4) (T := TX4) (N := 8) hx hb hts iX4 hown hK hP 0 rfl rfl 7 (by decide) (hts _ m_88) (fun _ h9 => h9) rfl dX4_decode_22 ?_
      refine lv_iload_n hx hb dX4_decode_25 rfl (lv_at hl 1 rfl) ?_
      refine kret_i (wc := [(d0, .inr (1, [.ref i0, .int (nI at_), .long hd])), (i0, .inr (0, [.ref i1, .int (nI (List.length inp))])), (i1, .inl (cI, 8192, .inl fi)), (p0, .inr (2, [.ref p1, .int (nI (List.length spr))])), (p1, .inl (cP, 4096, .inl fp))]) (wr := [(x0, .inr (4, [.ref t0, .ref w0, .ref d0, .ref o0, .ref i0, .ref r0, .ref p0, .int (nI wd)]))]) (va_runV (As := [.ref p0, .int (nI wd), .int (nI j)]) (rest := []) ⟨hx, hb, hml, hown, hts⟩ (c_read l dC dI _ d0 i0 i1 cI 8192 fi inp at_ hd p0 p1 cP fp spr wd j hip hin_ (by decide) hpp hpn hwd c_8) (cwV 3 hts (gdV m_222 m_223 m_224 m_5 m_225) rfl rfl rfl (by decide +kernel) ⟨Nat.le_of_ble_eq_true rfl, Nat.le_of_ble_eq_true rfl⟩) (kpV hNs hK hP hD [3, 1, 2, 4, 5] [0, 1] rfl rfl (by decide) (ci := 1) rfl rfl) rfl rfl hl.1 rfl (lv_room (Nat.le_of_ble_eq_true rfl)) dX4_decode_26 ⟨Nat.le_of_ble_eq_true rfl, Nat.le_of_ble_eq_true rfl⟩) hP hD hS hA [3, 1, 2, 4, 5] [0] rfl rfl (by decide) (by decide) (fun y u H locs hpo hK1 hP hD hS => ?_)
      obtain ⟨hu1, hu2, hy, hy6, hu3⟩ := hpo
      have hP : va_P (dC, dI) vwCl [(x0, .inr (4, [.ref t0, .ref w0, .ref d0, .ref o0, .ref i0, .ref r0, .ref p0, .int (nI wd)])), (d0, .inr (1, [.ref i0, .int (nI u.1.1), .long u.1.2])), (i0, .inr (0, [.ref i1, .int (nI (List.length inp))])), (i1, .inl (cI, 8192, .inl fi)), (p0, .inr (2, [.ref p1, .int (nI (List.length u.2.2))])), (p1, .inl (cP, 4096, .inl u.2.1))] H := hP
      have hD : va_D A [(x0, .inr (4, [.ref t0, .ref w0, .ref d0, .ref o0, .ref i0, .ref r0, .ref p0, .int (nI wd)])), (d0, .inr (1, [.ref i0, .int (nI u.1.1), .long u.1.2])), (i0, .inr (0, [.ref i1, .int (nI (List.length inp))])), (i1, .inl (cI, 8192, .inl fi)), (p0, .inr (2, [.ref p1, .int (nI (List.length u.2.2))])), (p1, .inl (cP, 4096, .inl u.2.1))] := hD
      obtain ⟨⟨a2, hd2⟩, f2, r2⟩ := u
      dsimp only at hu1 hu2 hu3
      subst hy
      have hP : va_P (dC, dI) vwCl [(x0, .inr (4, [.ref t0, .ref w0, .ref d0, .ref o0, .ref i0, .ref r0, .ref p0, .int (nI wd)])), (d0, .inr (1, [.ref i0, .int (nI a2), .long hd2])), (i0, .inr (0, [.ref i1, .int (nI (List.length inp))])), (i1, .inl (cI, 8192, .inl fi)), (p0, .inr (2, [.ref p1, .int (nI (List.length r2))])), (p1, .inl (cP, 4096, .inl f2))] H := hP
      have hD : va_D A [(x0, .inr (4, [.ref t0, .ref w0, .ref d0, .ref o0, .ref i0, .ref r0, .ref p0, .int (nI wd)])), (d0, .inr (1, [.ref i0, .int (nI a2), .long hd2])), (i0, .inr (0, [.ref i1, .int (nI (List.length inp))])), (i1, .inl (cI, 8192, .inl fi)), (p0, .inr (2, [.ref p1, .int (nI (List.length r2))])), (p1, .inl (cP, 4096, .inl f2))] := hD
      refine lv_istore_n (lv' := [(2, .int (nI (rdF inp wd j j 0 []).1)), (0, .ref x0), (1, .int (nI j))]) hx hb dX4_decode_29 rfl hl (by decide) rfl (fun ls hl => ?_)
      refine lv_iload_n hx hb dX4_decode_30 rfl (lv_at hl 0 rfl) ?_
      refine lv_if_ne (tgt := 38) hx hb dX4_decode_31 (by decide) (fun c_31 => ?_) (fun c_31 => ?_)
      · rw [z_eq (by omega)] at c_31
        refine lv_iload_n hx hb dX4_decode_38 rfl (lv_at hl 0 rfl) ?_
        exact kend_i hx hb hr hlocks dX4_decode_39 (rfl) hK hP hD hS (((r0, p0), (a2, hd2), f2, r2)) (⟨hu1, hu2, Or.inr ⟨j, c_8, rfl, rfl, Or.inl ⟨c_31, rfl⟩⟩⟩) [0, 2, 3, 1, 4, 5] [0, 1] rfl (by decide) rfl
      · rw [z_eq (by omega)] at c_31
        refine lv_aload_n hx hb dX4_decode_34 rfl (lv_at hl 1 rfl) ?_
        refine kret_v (wc := [(x0, .inr (4, [.ref t0, .ref w0, .ref d0, .ref o0, .ref i0, .ref r0, .ref p0, .int (nI wd)]))]) (wr := [(d0, .inr (1, [.ref i0, .int (nI a2), .long hd2])), (i0, .inr (0, [.ref i1, .int (nI (List.length inp))])), (i1, .inl (cI, 8192, .inl fi)), (p0, .inr (2, [.ref p1, .int (nI (List.length r2))])), (p1, .inl (cP, 4096, .inl f2))]) (va_runV (As := []) (rest := []) ⟨hx, hb, hml, hown, hts⟩ (c_exchange l dC dI _ x0 t0 i0 o0 w0 d0 r0 p0 wd) (cwV 0 hts (gdV m_255 m_257 mp_10 m_1 m_258) rfl rfl rfl (by decide +kernel) ⟨Nat.le_of_ble_eq_true rfl, Nat.le_of_ble_eq_true rfl⟩) (kpV hNs hK hP hD [0] [] rfl rfl (by decide) (ci := 4) rfl rfl) rfl rfl hl.1 rfl (lv_room (Nat.le_of_ble_eq_true rfl)) dX4_decode_35 ⟨Nat.le_of_ble_eq_true rfl, Nat.le_of_ble_eq_true rfl⟩) hP hD hS hA [0] [1, 2, 3, 4, 5] rfl rfl (by decide) (by decide) (fun _ H locs hpo hK1 hP hD hS => ?_)
        have hP : va_P (dC, dI) vwCl [(d0, .inr (1, [.ref i0, .int (nI a2), .long hd2])), (i0, .inr (0, [.ref i1, .int (nI (List.length inp))])), (i1, .inl (cI, 8192, .inl fi)), (p0, .inr (2, [.ref p1, .int (nI (List.length r2))])), (p1, .inl (cP, 4096, .inl f2)), (x0, .inr (4, [.ref t0, .ref w0, .ref d0, .ref o0, .ref i0, .ref p0, .ref r0, .int (nI wd)]))] H := hP
        have hD : va_D A [(d0, .inr (1, [.ref i0, .int (nI a2), .long hd2])), (i0, .inr (0, [.ref i1, .int (nI (List.length inp))])), (i1, .inl (cI, 8192, .inl fi)), (p0, .inr (2, [.ref p1, .int (nI (List.length r2))])), (p1, .inl (cP, 4096, .inl f2)), (x0, .inr (4, [.ref t0, .ref w0, .ref d0, .ref o0, .ref i0, .ref p0, .ref r0, .int (nI wd)]))] := hD
        refine lv_iload_n hx hb dX4_decode_38 rfl (lv_at hl 0 rfl) ?_
        exact kend_i hx hb hr hlocks dX4_decode_39 (rfl) hK hP hD hS (((p0, r0), (a2, hd2), f2, r2)) (⟨hu1, hu2, Or.inr ⟨j, c_8, rfl, rfl, Or.inr ⟨c_31, rfl, hu3 c_31⟩⟩⟩) [5, 1, 2, 0, 3, 4] [0, 1] rfl (by decide) rfl
    · refine lv_iconst (v := (-1)) hx hb dX4_decode_11 (by decide) ?_
      exact kend_i hx hb hr hlocks dX4_decode_12 (rfl) hK hP hD hS (((r0, p0), (at_, hd), fp, spr)) (⟨hpp, hpn, Or.inl ⟨Or.inr (Int32.not_le.mp c_8), rfl, rfl⟩⟩) [0, 1, 2, 3, 4, 5] [0, 1] rfl (by decide) rfl

