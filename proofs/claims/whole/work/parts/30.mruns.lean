set_option maxHeartbeats 4000000 in
set_option maxRecDepth 100000 in
/-- readRuns -/
theorem m_readRuns (l : Launch) (dC : Nat → ClassId) (dI : Nat → Nat → Nat) (sz : Nat) (mo q1 q2 q3 q4 q5 : Nat) (cd z3 z4 z5 z6 z7 : Int32) (c2 : ClassId) (f2 : Nat → Int32) (c4 : ClassId) (f4 : Nat → Int32) (inp : List Nat) (n_ w : Nat) (hf : mB f4 inp) (hn : inp.length ≤ 8192) (hn4 : n_ ≤ 4096) (hw32 : w ≤ 32) : Met l yX5_readRuns wsX5_readRuns ({ frames := 2, cells := 0, slots := 0, locals := 55 }) (va_Pc [.ref mo, .ref q2, .int (nI n_), .int (nI w), .int (nI (List.length inp))] (kB (dC, dI) vwCl [(c2, .int), (c4, .int)] [(mo, .inr (5, [.int cd, .ref q1, .ref q2, .int z3, .int z4, .int z5, .int z6, .int z7, .int (nI 0), .int (nI 0), .ref q3, .ref q4, .ref q5])), (q2, .inl (c2, 4104, .inl f2)), (q4, .inl (c4, 8192, .inl f4))] sz)) (va_Qv (fun (u : Nat × Nat × (Nat → Int32)) => (u.2.1 = 0 ∧ u.1 ≤ inp.length ∧ ∃ r, rdF inp w n_ n_ 0 [] = ((if u.1 < inp.length then 6 else 0), r) ∧ rHas u.2.2 r ∧ r.length = n_) ∨ (¬ u.2.1 = 0 ∧ u.2.1 ≤ 5 ∧ (rdF inp w n_ n_ 0 []).1 = u.2.1)) (kE (dC, dI) vwCl (va_A [(mo, .inr (5, [.int cd, .ref q1, .ref q2, .int z3, .int z4, .int z5, .int z6, .int z7, .int (nI 0), .int (nI 0), .ref q3, .ref q4, .ref q5])), (q2, .inl (c2, 4104, .inl f2)), (q4, .inl (c4, 8192, .inl f4))] sz) (fun _ => [(c2, .int), (c4, .int)]) (fun u => [(mo, .inr (5, [.int cd, .ref q1, .ref q2, .int z3, .int z4, .int z5, .int z6, .int z7, .int (nI u.1), .int (nI u.2.1), .ref q3, .ref q4, .ref q5])), (q2, .inl (c2, 4104, .inl u.2.2)), (q4, .inl (c4, 8192, .inl f4))])) (va_A [(mo, .inr (5, [.int cd, .ref q1, .ref q2, .int z3, .int z4, .int z5, .int z6, .int z7, .int (nI 0), .int (nI 0), .ref q3, .ref q4, .ref q5])), (q2, .inl (c2, 4104, .inl f2)), (q4, .inl (c4, 8192, .inl f4))] sz)) 0 0 (va_A [(mo, .inr (5, [.int cd, .ref q1, .ref q2, .int z3, .int z4, .int z5, .int z6, .int z7, .int (nI 0), .int (nI 0), .ref q3, .ref q4, .ref q5])), (q2, .inl (c2, 4104, .inl f2)), (q4, .inl (c4, 8192, .inl f4))] sz) := by
  refine Met.ofW (cc := cX5_readRuns) (maxL := 10) (ret := none) (by decide) rfl ?_
  intro p e s m args below meth c s₁ B hml hv
  obtain ⟨rfl, hsz, hP, hK, hD0, hNs⟩ := hv
  have hx := B.exec
  have hb := B.bytes
  have hr := B.returns
  have hts := fun w (h : w ∈ lw_g) => atoms_spec (ws := wsX5_readRuns) B.pre w (List.mem_cons_of_mem _ h)
  have hown : s.vm.findClass RX5 = some m.cls := findClass_of_methodNamed B.named
  have hlocks := B.notSynchronized
  subst hsz
  have hD := hD0.self (sz := s.heap.size)
  generalize hAe : va_A [(mo, .inr (5, [.int cd, .ref q1, .ref q2, .int z3, .int z4, .int z5, .int z6, .int z7, .int (nI 0), .int (nI 0), .ref q3, .ref q4, .ref q5])), (q2, .inl (c2, 4104, .inl f2)), (q4, .inl (c4, 8192, .inl f4))] s.heap.size = A at hD ⊢
  have hA : ∀ q : Nat, s.heap.size ≤ q → A q := fun q h => by rw [← hAe]; exact Or.inr h
  have hS : va_S A s.heap s.heap [] := va_S.rf
  have hP : va_P (dC, dI) vwCl [(mo, .inr (5, [.int cd, .ref q1, .ref q2, .int z3, .int z4, .int z5, .int z6, .int z7, .int (nI 0), .int (nI 0), .ref q3, .ref q4, .ref q5])), (q2, .inl (c2, 4104, .inl f2)), (q4, .inl (c4, 8192, .inl f4))] s.heap := hP
  have hl := lv_entry ([.ref mo, .ref q2, .int (nI n_), .int (nI w), .int (nI (List.length inp))]) (n := 10) (Nat.le_of_ble_eq_true rfl)
  rw [lg_entry_eq]
  generalize (lg_sl ([.ref mo, .ref q2, .int (nI n_), .int (nI w), .int (nI (List.length inp))]) ++ List.replicate (10 - (lg_sl ([.ref mo, .ref q2, .int (nI n_), .int (nI w), .int (nI (List.length inp))])).length) Slot.unset).toArray = ls at hl ⊢
  have hl : lv_has ls 10 [(0, .ref mo), (1, .ref q2), (2, .int (nI n_)), (3, .int (nI w)), (4, .int (nI (List.length inp)))] := hl
  refine lv_iconst (v := nI 0) hx hb dX5_readRuns_0 (by decide) ?_
  refine lv_istore (lv' := [(5, .int (nI 0)), (0, .ref mo), (1, .ref q2), (2, .int (nI n_)), (3, .int (nI w)), (4, .int (nI (List.length inp)))]) hx hb dX5_readRuns_1 hl (by decide) rfl (fun ls hl => ?_)
  refine k_loop (σ := Nat × Nat × (Nat → Int32) × List Int32 × Nat) (fun (z : Nat × Nat × (Nat → Int32) × List Int32 × Nat) H locs ls => match z with
        | (m9, a, u, r, kk) => a ≤ inp.length ∧ rHas u r ∧ r.length = min kk n_ ∧ kk ≤ n_ + 7 ∧ n_ ≤ r.length + m9 ∧ rdF inp w n_ n_ 0 [] = rdF inp w n_ m9 a r ∧ va_P (dC, dI) vwCl [(mo, .inr (5, [.int cd, .ref q1, .ref q2, .int z3, .int z4, .int z5, .int z6, .int z7, .int (nI a), .int (nI 0), .ref q3, .ref q4, .ref q5])), (q2, .inl (c2, 4104, .inl u)), (q4, .inl (c4, 8192, .inl f4))] H ∧ va_D A [(mo, .inr (5, [.int cd, .ref q1, .ref q2, .int z3, .int z4, .int z5, .int z6, .int z7, .int (nI a), .int (nI 0), .ref q3, .ref q4, .ref q5])), (q2, .inl (c2, 4104, .inl u)), (q4, .inl (c4, 8192, .inl f4))] ∧ va_S A s.heap H locs ∧ lv_has ls 10 [(0, .ref mo), (1, .ref q2), (2, .int (nI n_)), (3, .int (nI w)), (4, .int (nI (List.length inp))), (5, .int (nI kk))]) (fun z => match z with
        | (m9, a, u, r, kk) => n_ + 8 - kk) ?_ ((n_, 0, f2, [], 0)) _ _ _ ⟨Nat.zero_le _, rHas_nil _, by simp, by omega, by simp, rfl, hP.sub [0, 1, 2] rfl, hD.sub [0, 1, 2] (by decide) rfl, hS, lv_sub hl [1, 2, 3, 4, 5, 0] rfl⟩
  intro z H locs ls hI ih
  obtain ⟨m9, a, u, r, kk⟩ := z
  obtain ⟨ha, hu, hrk, hkk, hm9, hinv, hP, hD, hS, hl⟩ := hI
  refine lv_iload hx hb dX5_readRuns_3 (lv_at hl 5 rfl) ?_
  refine lv_iload_n hx hb dX5_readRuns_5 rfl (lv_at hl 2 rfl) ?_
  refine lv_icmp_ge (tgt := 98) hx hb dX5_readRuns_6 (by decide) (fun c_6 => ?_) (fun c_6 => ?_)
  · rw [nI_leI (a := n_) (b := kk) (by omega) (by omega)] at c_6
    exact kend_v hx hb hr hlocks dX5_readRuns_98 hK hP hD hS ((a, 0, u)) (Or.inl ⟨rfl, ha, r, by rw [hinv]; exact rdF_full (by omega), hu, by omega⟩) [0, 1, 2] [0, 1] rfl (by decide) rfl
  · rw [nI_leI (a := n_) (b := kk) (by omega) (by omega)] at c_6
    obtain ⟨m1, rfl⟩ : ∃ m1, m9 = m1 + 1 := ⟨m9 - 1, by omega⟩
    obtain rfl : r.length = kk := by omega
    have hlt : r.length < n_ := by omega
    refine lv_aload_n hx hb dX5_readRuns_9 rfl (lv_at hl 0 rfl) ?_
    refine va_get (D := (dC, dI)) (ci := 5) (v := .int (nI 0)) (C := RX5) (T := TX5) (N := 13) hx hb hts iX5 hown hK hP 0 rfl rfl 9 (by decide) (hts _ m_293) (fun _ h9 => h9) rfl dX5_readRuns_10 ?_
    refine lv_if_ne (tgt := 98) hx hb dX5_readRuns_13 (by decide) (fun c_9 => absurd (by decide) c_9) (fun _ => ?_)
    refine lv_aload_n hx hb dX5_readRuns_16 rfl (lv_at hl 0 rfl) ?_
    refine lv_iload hx hb dX5_readRuns_17 (lv_at hl 4 rfl) ?_
    refine kret_l (wc := [(mo, .inr (5, [.int cd, .ref q1, .ref q2, .int z3, .int z4, .int z5, .int z6, .int z7, .int (nI a), .int (nI 0), .ref q3, .ref q4, .ref q5])), (q4, .inl (c4, 8192, .inl f4))]) (wr := [(q2, .inl (c2, 4104, .inl u))]) (va_runV (As := [.int (nI (List.length inp))]) (rest := []) ⟨hx, hb, hml, hown, hts⟩ (m_varint l dC dI _ mo q1 q2 q3 q4 q5 cd z3 z4 z5 z6 z7 c4 f4 inp a hf hn ha) (cwV 1 hts (gdV m_373 m_375 mp_15 m_7 m_376) rfl rfl rfl (by decide +kernel) ⟨Nat.le_of_ble_eq_true rfl, Nat.le_of_ble_eq_true rfl⟩) (kpV hNs hK hP hD [0, 2] [1] rfl rfl (by decide) (ci := 5) rfl rfl) rfl rfl hl.1 rfl (lv_room (Nat.le_of_ble_eq_true rfl)) dX5_readRuns_19 ⟨Nat.le_of_ble_eq_true rfl, Nat.le_of_ble_eq_true rfl⟩) hP hD hS hA [0, 2] [1] rfl rfl (by decide) (by decide) (fun y v H locs hpo hK1 hP hD hS => ?_)
    obtain ⟨hv, hh, hq2, ha1, hy⟩ := hpo
    have hP : va_P (dC, dI) vwCl [(q2, .inl (c2, 4104, .inl u)), (mo, .inr (5, [.int cd, .ref q1, .ref q2, .int z3, .int z4, .int z5, .int z6, .int z7, .int (nI v.1), .int (nI v.2), .ref q3, .ref q4, .ref q5])), (q4, .inl (c4, 8192, .inl f4))] H := hP
    have hD : va_D A [(q2, .inl (c2, 4104, .inl u)), (mo, .inr (5, [.int cd, .ref q1, .ref q2, .int z3, .int z4, .int z5, .int z6, .int z7, .int (nI v.1), .int (nI v.2), .ref q3, .ref q4, .ref q5])), (q4, .inl (c4, 8192, .inl f4))] := hD
    obtain ⟨a1, q⟩ := v
    dsimp only at hh hq2 ha1 hy
    have hP : va_P (dC, dI) vwCl [(q2, .inl (c2, 4104, .inl u)), (mo, .inr (5, [.int cd, .ref q1, .ref q2, .int z3, .int z4, .int z5, .int z6, .int z7, .int (nI a1), .int (nI q), .ref q3, .ref q4, .ref q5])), (q4, .inl (c4, 8192, .inl f4))] H := hP
    have hD : va_D A [(q2, .inl (c2, 4104, .inl u)), (mo, .inr (5, [.int cd, .ref q1, .ref q2, .int z3, .int z4, .int z5, .int z6, .int z7, .int (nI a1), .int (nI q), .ref q3, .ref q4, .ref q5])), (q4, .inl (c4, 8192, .inl f4))] := hD
    refine lv_lstore (lv' := [(6, .long y), (0, .ref mo), (1, .ref q2), (2, .int (nI n_)), (3, .int (nI w)), (4, .int (nI (List.length inp))), (5, .int (nI (List.length r)))]) hx hb dX5_readRuns_22 hl (by decide) rfl (fun ls hl => ?_)
    refine lv_aload_n hx hb dX5_readRuns_24 rfl (lv_at hl 1 rfl) ?_
    refine va_get (D := (dC, dI)) (ci := 5) (v := .int (nI q)) (C := RX5) (T := TX5) (N := 13) hx hb hts iX5 hown hK hP 1 rfl rfl 9 (by decide) (hts _ m_293) (fun _ h9 => h9) rfl dX5_readRuns_25 ?_
    refine lv_if_eq (tgt := 32) hx hb dX5_readRuns_28 (by decide) (fun c_28 => ?_) (fun c_28 => ?_)
    · rw [z_eq (by omega)] at c_28
      subst c_28
      obtain ⟨hy, h64⟩ := hy rfl
      subst hy
      refine lv_lload hx hb dX5_readRuns_32 (lv_at hl 0 rfl) ?_
      refine lv_iconst (v := nI 1) hx hb dX5_readRuns_34 (by decide) ?_
      refine lv_lushr (v := lN (hv / 2)) hx hb dX5_readRuns_35 (wb_shr (k := 1) h64 (by decide)) ?_
      refine lv_lstore (lv' := [(8, .long (lN (hv / 2))), (6, .long (lN hv)), (0, .ref mo), (1, .ref q2), (2, .int (nI n_)), (3, .int (nI w)), (4, .int (nI (List.length inp))), (5, .int (nI (List.length r)))]) hx hb dX5_readRuns_36 hl (by decide) rfl (fun ls hl => ?_)
      refine lv_lload hx hb dX5_readRuns_38 (lv_at hl 0 rfl) ?_
      refine lv_lconst (v := lN 0) hx hb dX5_readRuns_40 (by decide) ?_
      refine W.lcmp hx hb dX5_readRuns_41 ?_
      refine lv_if_ne (tgt := 53) hx hb dX5_readRuns_42 (by decide) (fun c_42 => ?_) (fun c_42 => ?_)
      · rw [cmpE (by omega) (by decide)] at c_42
        refine lv_lload hx hb dX5_readRuns_53 (lv_at hl 1 rfl) ?_
        refine lv_lconst (v := lN 1) hx hb dX5_readRuns_55 (by decide) ?_
        refine lv_land hx hb dX5_readRuns_56 ?_
        refine tL_ (y := lN (hv % 2)) (wb_mask (k := 1) h64 (by decide)) ?_
        refine lv_lconst (v := lN 0) hx hb dX5_readRuns_57 (by decide) ?_
        refine W.lcmp hx hb dX5_readRuns_58 ?_
        refine lv_if_ne (tgt := 80) hx hb dX5_readRuns_59 (by decide) (fun c_59 => ?_) (fun c_59 => ?_)
        · rw [cmpE (by omega) (by decide)] at c_59
          refine lv_aload_n hx hb dX5_readRuns_80 rfl (lv_at hl 2 rfl) ?_
          refine lv_aload_n hx hb dX5_readRuns_81 rfl (lv_at hl 3 rfl) ?_
          refine lv_iload hx hb dX5_readRuns_82 (lv_at hl 7 rfl) ?_
          refine lv_iload_n hx hb dX5_readRuns_84 rfl (lv_at hl 4 rfl) ?_
          refine lv_iload_n hx hb dX5_readRuns_85 rfl (lv_at hl 5 rfl) ?_
          refine lv_iload hx hb dX5_readRuns_86 (lv_at hl 6 rfl) ?_
          refine lv_lload hx hb dX5_readRuns_88 (lv_at hl 0 rfl) ?_
          refine kret_i (wc := [(mo, .inr (5, [.int cd, .ref q1, .ref q2, .int z3, .int z4, .int z5, .int z6, .int z7, .int (nI a1), .int (nI 0), .ref q3, .ref q4, .ref q5])), (q2, .inl (c2, 4104, .inl u)), (q4, .inl (c4, 8192, .inl f4))]) (wr := []) (va_runV (As := [.ref q2, .int (nI (List.length r)), .int (nI n_), .int (nI w), .int (nI (List.length inp)), .long (lN (hv / 2))]) (rest := []) ⟨hx, hb, hml, hown, hts⟩ (m_readGroups l dC dI _ mo q1 q2 q3 q4 q5 cd z3 z4 z5 z6 z7 c2 u c4 f4 inp a1 (List.length r) n_ w (hv / 2) hf hn ha1 (by omega) hn4 hw32 (by omega)) (cwV 6 hts (gdV m_385 m_387 mp_18 m_7 m_388) rfl rfl rfl (by decide +kernel) ⟨Nat.le_of_ble_eq_true rfl, Nat.le_of_ble_eq_true rfl⟩) (kpV hNs hK hP hD [1, 0, 2] [0, 1] rfl rfl (by decide) (ci := 5) rfl rfl) rfl rfl hl.1 rfl (lv_room (Nat.le_of_ble_eq_true rfl)) dX5_readRuns_90 ⟨Nat.le_of_ble_eq_true rfl, Nat.le_of_ble_eq_true rfl⟩) hP hD hS hA [1, 0, 2] [] rfl rfl (by decide) (by decide) (fun y v H locs hpo hK1 hP hD hS => ?_)
          have hp := hpo
          have hP : va_P (dC, dI) vwCl [(mo, .inr (5, [.int cd, .ref q1, .ref q2, .int z3, .int z4, .int z5, .int z6, .int z7, .int (nI v.1), .int (nI v.2.1), .ref q3, .ref q4, .ref q5])), (q2, .inl (c2, 4104, .inl v.2.2)), (q4, .inl (c4, 8192, .inl f4))] H := hP
          have hD : va_D A [(mo, .inr (5, [.int cd, .ref q1, .ref q2, .int z3, .int z4, .int z5, .int z6, .int z7, .int (nI v.1), .int (nI v.2.1), .ref q3, .ref q4, .ref q5])), (q2, .inl (c2, 4104, .inl v.2.2)), (q4, .inl (c4, 8192, .inl f4))] := hD
          obtain ⟨a2, qf, u2⟩ := v
          dsimp only at hp
          have hP : va_P (dC, dI) vwCl [(mo, .inr (5, [.int cd, .ref q1, .ref q2, .int z3, .int z4, .int z5, .int z6, .int z7, .int (nI a2), .int (nI qf), .ref q3, .ref q4, .ref q5])), (q2, .inl (c2, 4104, .inl u2)), (q4, .inl (c4, 8192, .inl f4))] H := hP
          have hD : va_D A [(mo, .inr (5, [.int cd, .ref q1, .ref q2, .int z3, .int z4, .int z5, .int z6, .int z7, .int (nI a2), .int (nI qf), .ref q3, .ref q4, .ref q5])), (q2, .inl (c2, 4104, .inl u2)), (q4, .inl (c4, 8192, .inl f4))] := hD
          rcases hp with ⟨h1, hq⟩ | ⟨h1, h2, hq⟩ | ⟨h1, h2, h3, hq⟩ | ⟨h1, h2, h3, hq, he, hy, hk1, hk2⟩
          · subst hq
            refine lv_istore (lv' := [(5, .int y), (8, .long (lN (hv / 2))), (6, .long (lN hv)), (0, .ref mo), (1, .ref q2), (2, .int (nI n_)), (3, .int (nI w)), (4, .int (nI (List.length inp)))]) hx hb dX5_readRuns_93 hl (by decide) rfl (fun ls hl => ?_)
            refine lv_goto (tgt := 3) hx hb dX5_readRuns_95 (by decide) ?_
            refine lv_iload hx hb dX5_readRuns_3 (lv_at hl 0 rfl) ?_
            refine lv_iload_n hx hb dX5_readRuns_5 rfl (lv_at hl 5 rfl) ?_
            refine lv_icmp_ge (tgt := 98) hx hb dX5_readRuns_6 (by decide) (fun c_6b => ?_) (fun c_6b => ?_)
            · exact kend_v hx hb hr hlocks dX5_readRuns_98 hK hP hD hS ((a2, 4, u2)) (Or.inr ⟨(by show ¬ 4 = 0; decide), (by show 4 ≤ 5; decide), by rw [hinv]; exact rd_fault hlt (run_grp_many hh (by omega) c_59 h1) (by show ¬ 4 = 0; decide)⟩) [0, 1, 2] [0, 1] rfl (by decide) rfl
            · refine lv_aload_n hx hb dX5_readRuns_9 rfl (lv_at hl 3 rfl) ?_
              refine va_get (D := (dC, dI)) (ci := 5) (v := .int (nI 4)) (C := RX5) (T := TX5) (N := 13) hx hb hts iX5 hown hK hP 0 rfl rfl 9 (by decide) (hts _ m_293) (fun _ h9 => h9) rfl dX5_readRuns_10 ?_
              refine lv_if_ne (tgt := 98) hx hb dX5_readRuns_13 (by decide) (fun _ => ?_) (fun c_9 => absurd c_9 (by decide))
              exact kend_v hx hb hr hlocks dX5_readRuns_98 hK hP hD hS ((a2, 4, u2)) (Or.inr ⟨(by show ¬ 4 = 0; decide), (by show 4 ≤ 5; decide), by rw [hinv]; exact rd_fault hlt (run_grp_many hh (by omega) c_59 h1) (by show ¬ 4 = 0; decide)⟩) [0, 1, 2] [0, 1] rfl (by decide) rfl
          · subst hq
            refine lv_istore (lv' := [(5, .int y), (8, .long (lN (hv / 2))), (6, .long (lN hv)), (0, .ref mo), (1, .ref q2), (2, .int (nI n_)), (3, .int (nI w)), (4, .int (nI (List.length inp)))]) hx hb dX5_readRuns_93 hl (by decide) rfl (fun ls hl => ?_)
            refine lv_goto (tgt := 3) hx hb dX5_readRuns_95 (by decide) ?_
            refine lv_iload hx hb dX5_readRuns_3 (lv_at hl 0 rfl) ?_
            refine lv_iload_n hx hb dX5_readRuns_5 rfl (lv_at hl 5 rfl) ?_
            refine lv_icmp_ge (tgt := 98) hx hb dX5_readRuns_6 (by decide) (fun c_6b => ?_) (fun c_6b => ?_)
            · exact kend_v hx hb hr hlocks dX5_readRuns_98 hK hP hD hS ((a2, 1, u2)) (Or.inr ⟨(by show ¬ 1 = 0; decide), (by show 1 ≤ 5; decide), by rw [hinv]; exact rd_fault hlt (run_grp_cut hh (by omega) c_59 h1 h2) (by show ¬ 1 = 0; decide)⟩) [0, 1, 2] [0, 1] rfl (by decide) rfl
            · refine lv_aload_n hx hb dX5_readRuns_9 rfl (lv_at hl 3 rfl) ?_
              refine va_get (D := (dC, dI)) (ci := 5) (v := .int (nI 1)) (C := RX5) (T := TX5) (N := 13) hx hb hts iX5 hown hK hP 0 rfl rfl 9 (by decide) (hts _ m_293) (fun _ h9 => h9) rfl dX5_readRuns_10 ?_
              refine lv_if_ne (tgt := 98) hx hb dX5_readRuns_13 (by decide) (fun _ => ?_) (fun c_9 => absurd c_9 (by decide))
              exact kend_v hx hb hr hlocks dX5_readRuns_98 hK hP hD hS ((a2, 1, u2)) (Or.inr ⟨(by show ¬ 1 = 0; decide), (by show 1 ≤ 5; decide), by rw [hinv]; exact rd_fault hlt (run_grp_cut hh (by omega) c_59 h1 h2) (by show ¬ 1 = 0; decide)⟩) [0, 1, 2] [0, 1] rfl (by decide) rfl
          · subst hq
            refine lv_istore (lv' := [(5, .int y), (8, .long (lN (hv / 2))), (6, .long (lN hv)), (0, .ref mo), (1, .ref q2), (2, .int (nI n_)), (3, .int (nI w)), (4, .int (nI (List.length inp)))]) hx hb dX5_readRuns_93 hl (by decide) rfl (fun ls hl => ?_)
            refine lv_goto (tgt := 3) hx hb dX5_readRuns_95 (by decide) ?_
            refine lv_iload hx hb dX5_readRuns_3 (lv_at hl 0 rfl) ?_
            refine lv_iload_n hx hb dX5_readRuns_5 rfl (lv_at hl 5 rfl) ?_
            refine lv_icmp_ge (tgt := 98) hx hb dX5_readRuns_6 (by decide) (fun c_6b => ?_) (fun c_6b => ?_)
            · exact kend_v hx hb hr hlocks dX5_readRuns_98 hK hP hD hS ((a2, 5, u2)) (Or.inr ⟨(by show ¬ 5 = 0; decide), (by show 5 ≤ 5; decide), by rw [hinv]; exact rd_fault hlt (run_grp_bits hh (by omega) c_59 h1 h2 h3) (by show ¬ 5 = 0; decide)⟩) [0, 1, 2] [0, 1] rfl (by decide) rfl
            · refine lv_aload_n hx hb dX5_readRuns_9 rfl (lv_at hl 3 rfl) ?_
              refine va_get (D := (dC, dI)) (ci := 5) (v := .int (nI 5)) (C := RX5) (T := TX5) (N := 13) hx hb hts iX5 hown hK hP 0 rfl rfl 9 (by decide) (hts _ m_293) (fun _ h9 => h9) rfl dX5_readRuns_10 ?_
              refine lv_if_ne (tgt := 98) hx hb dX5_readRuns_13 (by decide) (fun _ => ?_) (fun c_9 => absurd c_9 (by decide))
              exact kend_v hx hb hr hlocks dX5_readRuns_98 hK hP hD hS ((a2, 5, u2)) (Or.inr ⟨(by show ¬ 5 = 0; decide), (by show 5 ≤ 5; decide), by rw [hinv]; exact rd_fault hlt (run_grp_bits hh (by omega) c_59 h1 h2 h3) (by show ¬ 5 = 0; decide)⟩) [0, 1, 2] [0, 1] rfl (by decide) rfl
          · subst hq
            subst he
            subst hy
            refine lv_istore (lv' := [(5, .int (nI ((List.length r) + 8 * (hv / 2)))), (8, .long (lN (hv / 2))), (6, .long (lN hv)), (0, .ref mo), (1, .ref q2), (2, .int (nI n_)), (3, .int (nI w)), (4, .int (nI (List.length inp)))]) hx hb dX5_readRuns_93 hl (by decide) rfl (fun ls hl => ?_)
            refine lv_goto (tgt := 3) hx hb dX5_readRuns_95 (by decide) ?_
            exact ih (m1, a1 + hv / 2 * w, u2, r ++ (gn inp a1 w (hv / 2 * w) (hv / 2 * 8)).take (n_ - r.length), r.length + 8 * (hv / 2)) _ _ _ ⟨by omega, rHas_app hu hk1 (fun i hi => by
              rw [List.length_take, gn_len] at hi
              rw [gn_take (by omega) (by omega)]
              exact hk2 i (by omega) (by omega)), by rw [List.length_append, List.length_take, gn_len]; omega, by omega, by rw [List.length_append, List.length_take, gn_len]; omega, by rw [hinv]; exact rd_ok hlt (run_grp_ok hh (by omega) c_59 h1 h2 h3), hP.sub [0, 1, 2] rfl, hD.sub [0, 1, 2] (by decide) rfl, hS, lv_sub hl [3, 4, 5, 6, 7, 0] rfl⟩ (by show n_ + 8 - (r.length + 8 * (hv / 2)) < n_ + 8 - r.length; omega)
        · rw [cmpE (by omega) (by decide)] at c_59
          refine lv_aload_n hx hb dX5_readRuns_62 rfl (lv_at hl 2 rfl) ?_
          refine lv_aload_n hx hb dX5_readRuns_63 rfl (lv_at hl 3 rfl) ?_
          refine lv_iload hx hb dX5_readRuns_64 (lv_at hl 7 rfl) ?_
          refine lv_iload_n hx hb dX5_readRuns_66 rfl (lv_at hl 4 rfl) ?_
          refine lv_iload_n hx hb dX5_readRuns_67 rfl (lv_at hl 5 rfl) ?_
          refine lv_iload hx hb dX5_readRuns_68 (lv_at hl 6 rfl) ?_
          refine lv_lload hx hb dX5_readRuns_70 (lv_at hl 0 rfl) ?_
          refine kret_i (wc := [(mo, .inr (5, [.int cd, .ref q1, .ref q2, .int z3, .int z4, .int z5, .int z6, .int z7, .int (nI a1), .int (nI 0), .ref q3, .ref q4, .ref q5])), (q2, .inl (c2, 4104, .inl u)), (q4, .inl (c4, 8192, .inl f4))]) (wr := []) (va_runV (As := [.ref q2, .int (nI (List.length r)), .int (nI n_), .int (nI w), .int (nI (List.length inp)), .long (lN (hv / 2))]) (rest := []) ⟨hx, hb, hml, hown, hts⟩ (m_readOne l dC dI _ mo q1 q2 q3 q4 q5 cd z3 z4 z5 z6 z7 c2 u c4 f4 inp a1 (List.length r) n_ w (hv / 2) hf hn ha1 (by omega) hn4 hw32 (by omega)) (cwV 6 hts (gdV m_377 m_379 mp_16 m_7 m_380) rfl rfl rfl (by decide +kernel) ⟨Nat.le_of_ble_eq_true rfl, Nat.le_of_ble_eq_true rfl⟩) (kpV hNs hK hP hD [1, 0, 2] [0, 1] rfl rfl (by decide) (ci := 5) rfl rfl) rfl rfl hl.1 rfl (lv_room (Nat.le_of_ble_eq_true rfl)) dX5_readRuns_72 ⟨Nat.le_of_ble_eq_true rfl, Nat.le_of_ble_eq_true rfl⟩) hP hD hS hA [1, 0, 2] [] rfl rfl (by decide) (by decide) (fun y v H locs hpo hK1 hP hD hS => ?_)
          have hp := hpo
          have hP : va_P (dC, dI) vwCl [(mo, .inr (5, [.int cd, .ref q1, .ref q2, .int z3, .int z4, .int z5, .int z6, .int z7, .int (nI v.1), .int (nI v.2.1), .ref q3, .ref q4, .ref q5])), (q2, .inl (c2, 4104, .inl v.2.2)), (q4, .inl (c4, 8192, .inl f4))] H := hP
          have hD : va_D A [(mo, .inr (5, [.int cd, .ref q1, .ref q2, .int z3, .int z4, .int z5, .int z6, .int z7, .int (nI v.1), .int (nI v.2.1), .ref q3, .ref q4, .ref q5])), (q2, .inl (c2, 4104, .inl v.2.2)), (q4, .inl (c4, 8192, .inl f4))] := hD
          obtain ⟨a2, qf, u2⟩ := v
          dsimp only at hp
          have hP : va_P (dC, dI) vwCl [(mo, .inr (5, [.int cd, .ref q1, .ref q2, .int z3, .int z4, .int z5, .int z6, .int z7, .int (nI a2), .int (nI qf), .ref q3, .ref q4, .ref q5])), (q2, .inl (c2, 4104, .inl u2)), (q4, .inl (c4, 8192, .inl f4))] H := hP
          have hD : va_D A [(mo, .inr (5, [.int cd, .ref q1, .ref q2, .int z3, .int z4, .int z5, .int z6, .int z7, .int (nI a2), .int (nI qf), .ref q3, .ref q4, .ref q5])), (q2, .inl (c2, 4104, .inl u2)), (q4, .inl (c4, 8192, .inl f4))] := hD
          rcases hp with ⟨h1, hq⟩ | ⟨h1, h2, hq⟩ | ⟨h1, h2, h3, hq⟩ | ⟨h1, h2, h3, hq, he, hy, hk1, hk2⟩
          · subst hq
            refine lv_istore (lv' := [(5, .int y), (8, .long (lN (hv / 2))), (6, .long (lN hv)), (0, .ref mo), (1, .ref q2), (2, .int (nI n_)), (3, .int (nI w)), (4, .int (nI (List.length inp)))]) hx hb dX5_readRuns_75 hl (by decide) rfl (fun ls hl => ?_)
            refine lv_goto (tgt := 95) hx hb dX5_readRuns_77 (by decide) ?_
            refine lv_goto (tgt := 3) hx hb dX5_readRuns_95 (by decide) ?_
            refine lv_iload hx hb dX5_readRuns_3 (lv_at hl 0 rfl) ?_
            refine lv_iload_n hx hb dX5_readRuns_5 rfl (lv_at hl 5 rfl) ?_
            refine lv_icmp_ge (tgt := 98) hx hb dX5_readRuns_6 (by decide) (fun c_6b => ?_) (fun c_6b => ?_)
            · exact kend_v hx hb hr hlocks dX5_readRuns_98 hK hP hD hS ((a2, 4, u2)) (Or.inr ⟨(by show ¬ 4 = 0; decide), (by show 4 ≤ 5; decide), by rw [hinv]; exact rd_fault hlt (run_one_many hh (by omega) c_59 h1) (by show ¬ 4 = 0; decide)⟩) [0, 1, 2] [0, 1] rfl (by decide) rfl
            · refine lv_aload_n hx hb dX5_readRuns_9 rfl (lv_at hl 3 rfl) ?_
              refine va_get (D := (dC, dI)) (ci := 5) (v := .int (nI 4)) (C := RX5) (T := TX5) (N := 13) hx hb hts iX5 hown hK hP 0 rfl rfl 9 (by decide) (hts _ m_293) (fun _ h9 => h9) rfl dX5_readRuns_10 ?_
              refine lv_if_ne (tgt := 98) hx hb dX5_readRuns_13 (by decide) (fun _ => ?_) (fun c_9 => absurd c_9 (by decide))
              exact kend_v hx hb hr hlocks dX5_readRuns_98 hK hP hD hS ((a2, 4, u2)) (Or.inr ⟨(by show ¬ 4 = 0; decide), (by show 4 ≤ 5; decide), by rw [hinv]; exact rd_fault hlt (run_one_many hh (by omega) c_59 h1) (by show ¬ 4 = 0; decide)⟩) [0, 1, 2] [0, 1] rfl (by decide) rfl
          · subst hq
            refine lv_istore (lv' := [(5, .int y), (8, .long (lN (hv / 2))), (6, .long (lN hv)), (0, .ref mo), (1, .ref q2), (2, .int (nI n_)), (3, .int (nI w)), (4, .int (nI (List.length inp)))]) hx hb dX5_readRuns_75 hl (by decide) rfl (fun ls hl => ?_)
            refine lv_goto (tgt := 95) hx hb dX5_readRuns_77 (by decide) ?_
            refine lv_goto (tgt := 3) hx hb dX5_readRuns_95 (by decide) ?_
            refine lv_iload hx hb dX5_readRuns_3 (lv_at hl 0 rfl) ?_
            refine lv_iload_n hx hb dX5_readRuns_5 rfl (lv_at hl 5 rfl) ?_
            refine lv_icmp_ge (tgt := 98) hx hb dX5_readRuns_6 (by decide) (fun c_6b => ?_) (fun c_6b => ?_)
            · exact kend_v hx hb hr hlocks dX5_readRuns_98 hK hP hD hS ((a2, 1, u2)) (Or.inr ⟨(by show ¬ 1 = 0; decide), (by show 1 ≤ 5; decide), by rw [hinv]; exact rd_fault hlt (run_one_cut hh (by omega) c_59 h1 h2) (by show ¬ 1 = 0; decide)⟩) [0, 1, 2] [0, 1] rfl (by decide) rfl
            · refine lv_aload_n hx hb dX5_readRuns_9 rfl (lv_at hl 3 rfl) ?_
              refine va_get (D := (dC, dI)) (ci := 5) (v := .int (nI 1)) (C := RX5) (T := TX5) (N := 13) hx hb hts iX5 hown hK hP 0 rfl rfl 9 (by decide) (hts _ m_293) (fun _ h9 => h9) rfl dX5_readRuns_10 ?_
              refine lv_if_ne (tgt := 98) hx hb dX5_readRuns_13 (by decide) (fun _ => ?_) (fun c_9 => absurd c_9 (by decide))
              exact kend_v hx hb hr hlocks dX5_readRuns_98 hK hP hD hS ((a2, 1, u2)) (Or.inr ⟨(by show ¬ 1 = 0; decide), (by show 1 ≤ 5; decide), by rw [hinv]; exact rd_fault hlt (run_one_cut hh (by omega) c_59 h1 h2) (by show ¬ 1 = 0; decide)⟩) [0, 1, 2] [0, 1] rfl (by decide) rfl
          · subst hq
            refine lv_istore (lv' := [(5, .int y), (8, .long (lN (hv / 2))), (6, .long (lN hv)), (0, .ref mo), (1, .ref q2), (2, .int (nI n_)), (3, .int (nI w)), (4, .int (nI (List.length inp)))]) hx hb dX5_readRuns_75 hl (by decide) rfl (fun ls hl => ?_)
            refine lv_goto (tgt := 95) hx hb dX5_readRuns_77 (by decide) ?_
            refine lv_goto (tgt := 3) hx hb dX5_readRuns_95 (by decide) ?_
            refine lv_iload hx hb dX5_readRuns_3 (lv_at hl 0 rfl) ?_
            refine lv_iload_n hx hb dX5_readRuns_5 rfl (lv_at hl 5 rfl) ?_
            refine lv_icmp_ge (tgt := 98) hx hb dX5_readRuns_6 (by decide) (fun c_6b => ?_) (fun c_6b => ?_)
            · exact kend_v hx hb hr hlocks dX5_readRuns_98 hK hP hD hS ((a2, 5, u2)) (Or.inr ⟨(by show ¬ 5 = 0; decide), (by show 5 ≤ 5; decide), by rw [hinv]; exact rd_fault hlt (run_one_bits hh (by omega) c_59 h1 h2 h3) (by show ¬ 5 = 0; decide)⟩) [0, 1, 2] [0, 1] rfl (by decide) rfl
            · refine lv_aload_n hx hb dX5_readRuns_9 rfl (lv_at hl 3 rfl) ?_
              refine va_get (D := (dC, dI)) (ci := 5) (v := .int (nI 5)) (C := RX5) (T := TX5) (N := 13) hx hb hts iX5 hown hK hP 0 rfl rfl 9 (by decide) (hts _ m_293) (fun _ h9 => h9) rfl dX5_readRuns_10 ?_
              refine lv_if_ne (tgt := 98) hx hb dX5_readRuns_13 (by decide) (fun _ => ?_) (fun c_9 => absurd c_9 (by decide))
              exact kend_v hx hb hr hlocks dX5_readRuns_98 hK hP hD hS ((a2, 5, u2)) (Or.inr ⟨(by show ¬ 5 = 0; decide), (by show 5 ≤ 5; decide), by rw [hinv]; exact rd_fault hlt (run_one_bits hh (by omega) c_59 h1 h2 h3) (by show ¬ 5 = 0; decide)⟩) [0, 1, 2] [0, 1] rfl (by decide) rfl
          · subst hq
            subst he
            subst hy
            refine lv_istore (lv' := [(5, .int (nI ((List.length r) + hv / 2))), (8, .long (lN (hv / 2))), (6, .long (lN hv)), (0, .ref mo), (1, .ref q2), (2, .int (nI n_)), (3, .int (nI w)), (4, .int (nI (List.length inp)))]) hx hb dX5_readRuns_75 hl (by decide) rfl (fun ls hl => ?_)
            refine lv_goto (tgt := 95) hx hb dX5_readRuns_77 (by decide) ?_
            refine lv_goto (tgt := 3) hx hb dX5_readRuns_95 (by decide) ?_
            exact ih (m1, a1 + (w + 7) / 8, u2, r ++ List.replicate (hv / 2) (nI (lev inp a1 ((w + 7) / 8))), r.length + hv / 2) _ _ _ ⟨by omega, rHas_fill hu hk1 (fun i hi1 hi2 => hk2 i hi1 hi2), by rw [List.length_append, List.length_replicate]; omega, by omega, by rw [List.length_append, List.length_replicate]; omega, by rw [hinv]; exact rd_ok hlt (run_one_ok hh (by omega) c_59 h1 h2 h3), hP.sub [0, 1, 2] rfl, hD.sub [0, 1, 2] (by decide) rfl, hS, lv_sub hl [3, 4, 5, 6, 7, 0] rfl⟩ (by show n_ + 8 - (r.length + hv / 2) < n_ + 8 - r.length; omega)
      · rw [cmpE (by omega) (by decide)] at c_42
        refine lv_aload_n hx hb dX5_readRuns_45 rfl (lv_at hl 2 rfl) ?_
        refine lv_iconst (v := nI 3) hx hb dX5_readRuns_46 (by decide) ?_
        refine va_put (D := (dC, dI)) (ci := 5) (v := .int (nI 3)) (ty := .int) (C := RX5) (T := TX5) (N := 13) hx hb hts iX5 tyX5 tyX5_ok nmX5 hown hK hP hD hS 1 rfl rfl 9 (by decide) (hts _ m_293) (fun _ h9 => h9) rfl (by decide +kernel) rfl rfl (Nat.le_of_ble_eq_true rfl) dX5_readRuns_47 (fun H locs hP hD hS => ?_)
        have hP : va_P (dC, dI) vwCl [(q2, .inl (c2, 4104, .inl u)), (mo, .inr (5, [.int cd, .ref q1, .ref q2, .int z3, .int z4, .int z5, .int z6, .int z7, .int (nI a1), .int (nI 3), .ref q3, .ref q4, .ref q5])), (q4, .inl (c4, 8192, .inl f4))] H := hP
        have hD : va_D A [(q2, .inl (c2, 4104, .inl u)), (mo, .inr (5, [.int cd, .ref q1, .ref q2, .int z3, .int z4, .int z5, .int z6, .int z7, .int (nI a1), .int (nI 3), .ref q3, .ref q4, .ref q5])), (q4, .inl (c4, 8192, .inl f4))] := hD
        refine lv_goto (tgt := 95) hx hb dX5_readRuns_50 (by decide) ?_
        refine lv_goto (tgt := 3) hx hb dX5_readRuns_95 (by decide) ?_
        refine lv_iload hx hb dX5_readRuns_3 (lv_at hl 7 rfl) ?_
        refine lv_iload_n hx hb dX5_readRuns_5 rfl (lv_at hl 4 rfl) ?_
        refine lv_icmp_ge (tgt := 98) hx hb dX5_readRuns_6 (by decide) (fun c_6b => ?_) (fun c_6b => ?_)
        · exact kend_v hx hb hr hlocks dX5_readRuns_98 hK hP hD hS ((a1, 3, u)) (Or.inr ⟨(by show ¬ 3 = 0; decide), (by show 3 ≤ 5; decide), by rw [hinv]; exact rd_fault hlt (run_empty hh (by omega)) (by show ¬ 3 = 0; decide)⟩) [1, 0, 2] [0, 1] rfl (by decide) rfl
        · refine lv_aload_n hx hb dX5_readRuns_9 rfl (lv_at hl 2 rfl) ?_
          refine va_get (D := (dC, dI)) (ci := 5) (v := .int (nI 3)) (C := RX5) (T := TX5) (N := 13) hx hb hts iX5 hown hK hP 1 rfl rfl 9 (by decide) (hts _ m_293) (fun _ h9 => h9) rfl dX5_readRuns_10 ?_
          refine lv_if_ne (tgt := 98) hx hb dX5_readRuns_13 (by decide) (fun _ => ?_) (fun c_9 => absurd c_9 (by decide))
          exact kend_v hx hb hr hlocks dX5_readRuns_98 hK hP hD hS ((a1, 3, u)) (Or.inr ⟨(by show ¬ 3 = 0; decide), (by show 3 ≤ 5; decide), by rw [hinv]; exact rd_fault hlt (run_empty hh (by omega)) (by show ¬ 3 = 0; decide)⟩) [1, 0, 2] [0, 1] rfl (by decide) rfl
    · rw [z_eq (by omega)] at c_28
      exact kend_v hx hb hr hlocks dX5_readRuns_31 hK hP hD hS ((a1, q, u)) (Or.inr ⟨c_28, by show q ≤ 5; omega, by rw [hinv]; exact rd_fault hlt (run_hd hh c_28) c_28⟩) [1, 0, 2] [0, 1] rfl (by decide) rfl

set_option maxHeartbeats 4000000 in
set_option maxRecDepth 100000 in
/-- decode -/
theorem m_decode (l : Launch) (dC : Nat → ClassId) (dI : Nat → Nat → Nat) (sz : Nat) (mo q1 q2 q3 q4 q5 : Nat) (cd z5 z7 z8 z9 : Int32) (wd : Nat) (c1 : ClassId) (f1 : Nat → Int32) (row : List Int32) (c2 : ClassId) (f2 : Nat → Int32) (c4 : ClassId) (f4 : Nat → Int32) (inp : List Nat) (x : Int32) (hf : mB f4 inp) (hn : inp.length ≤ 8192) (hr1 : rHas f1 row) (hrn : row.length ≤ 4096) (hwd : wd ≤ 32) : Met l yX5_decode wsX5_decode ({ frames := 3, cells := 0, slots := 0, locals := 84 }) (va_Pc [.ref mo, .int x] (kB (dC, dI) vwCl [(c1, .int), (c2, .int), (c4, .int)] [(mo, .inr (5, [.int cd, .ref q1, .ref q2, .int (nI (List.length row)), .int (nI wd), .int z5, .int (nI (List.length inp)), .int z7, .int z8, .int z9, .ref q3, .ref q4, .ref q5])), (q1, .inl (c1, 4096, .inl f1)), (q2, .inl (c2, 4104, .inl f2)), (q4, .inl (c4, 8192, .inl f4))] sz)) (va_Qi (fun r (u : (Int32 × Int32) × (Nat → Int32) × (Nat → Int32) × List Int32) => rHas u.2.1 u.2.2.2 ∧ u.2.2.2.length ≤ 4096 ∧ (((x < 0 ∨ nI 4096 < x) ∧ r = -1 ∧ u.2.2.2 = row) ∨ ∃ j, j ≤ 4096 ∧ x = nI j ∧ r = nI (rdF inp wd j j 0 []).1 ∧ ((¬ (rdF inp wd j j 0 []).1 = 0 ∧ u.2.2.2 = row) ∨ ((rdF inp wd j j 0 []).1 = 0 ∧ u.2.2.2 = (rdF inp wd j j 0 []).2)))) (kE (dC, dI) vwCl (va_A [(mo, .inr (5, [.int cd, .ref q1, .ref q2, .int (nI (List.length row)), .int (nI wd), .int z5, .int (nI (List.length inp)), .int z7, .int z8, .int z9, .ref q3, .ref q4, .ref q5])), (q1, .inl (c1, 4096, .inl f1)), (q2, .inl (c2, 4104, .inl f2)), (q4, .inl (c4, 8192, .inl f4))] sz) (fun _ => [(c1, .int), (c2, .int), (c4, .int)]) (fun u => [(mo, .inr (5, [.int (nI 0), .ref q1, .ref q2, .int (nI (List.length u.2.2.2)), .int (nI wd), .int z5, .int (nI (List.length inp)), .int z7, .int u.1.1, .int u.1.2, .ref q3, .ref q4, .ref q5])), (q1, .inl (c1, 4096, .inl u.2.1)), (q2, .inl (c2, 4104, .inl u.2.2.1)), (q4, .inl (c4, 8192, .inl f4))])) (va_A [(mo, .inr (5, [.int cd, .ref q1, .ref q2, .int (nI (List.length row)), .int (nI wd), .int z5, .int (nI (List.length inp)), .int z7, .int z8, .int z9, .ref q3, .ref q4, .ref q5])), (q1, .inl (c1, 4096, .inl f1)), (q2, .inl (c2, 4104, .inl f2)), (q4, .inl (c4, 8192, .inl f4))] sz)) 0 0 (va_A [(mo, .inr (5, [.int cd, .ref q1, .ref q2, .int (nI (List.length row)), .int (nI wd), .int z5, .int (nI (List.length inp)), .int z7, .int z8, .int z9, .ref q3, .ref q4, .ref q5])), (q1, .inl (c1, 4096, .inl f1)), (q2, .inl (c2, 4104, .inl f2)), (q4, .inl (c4, 8192, .inl f4))] sz) := by
  refine Met.ofW (cc := cX5_decode) (maxL := 3) (ret := (some .int)) (by decide) rfl ?_
  intro p e s m args below meth c s₁ B hml hv
  obtain ⟨rfl, hsz, hP, hK, hD0, hNs⟩ := hv
  have hx := B.exec
  have hb := B.bytes
  have hr := B.returns
  have hts := fun w (h : w ∈ lw_g) => atoms_spec (ws := wsX5_decode) B.pre w (List.mem_cons_of_mem _ h)
  have hown : s.vm.findClass RX5 = some m.cls := findClass_of_methodNamed B.named
  have hlocks := B.notSynchronized
  subst hsz
  have hD := hD0.self (sz := s.heap.size)
  generalize hAe : va_A [(mo, .inr (5, [.int cd, .ref q1, .ref q2, .int (nI (List.length row)), .int (nI wd), .int z5, .int (nI (List.length inp)), .int z7, .int z8, .int z9, .ref q3, .ref q4, .ref q5])), (q1, .inl (c1, 4096, .inl f1)), (q2, .inl (c2, 4104, .inl f2)), (q4, .inl (c4, 8192, .inl f4))] s.heap.size = A at hD ⊢
  have hA : ∀ q : Nat, s.heap.size ≤ q → A q := fun q h => by rw [← hAe]; exact Or.inr h
  have hS : va_S A s.heap s.heap [] := va_S.rf
  have hP : va_P (dC, dI) vwCl [(mo, .inr (5, [.int cd, .ref q1, .ref q2, .int (nI (List.length row)), .int (nI wd), .int z5, .int (nI (List.length inp)), .int z7, .int z8, .int z9, .ref q3, .ref q4, .ref q5])), (q1, .inl (c1, 4096, .inl f1)), (q2, .inl (c2, 4104, .inl f2)), (q4, .inl (c4, 8192, .inl f4))] s.heap := hP
  have hl := lv_entry ([.ref mo, .int x]) (n := 3) (Nat.le_of_ble_eq_true rfl)
  rw [lg_entry_eq]
  generalize (lg_sl ([.ref mo, .int x]) ++ List.replicate (3 - (lg_sl ([.ref mo, .int x])).length) Slot.unset).toArray = ls at hl ⊢
  have hl : lv_has ls 3 [(0, .ref mo), (1, .int x)] := hl
  refine lv_aload_n hx hb dX5_decode_0 rfl (lv_at hl 0 rfl) ?_
  refine lv_iconst (v := nI 0) hx hb dX5_decode_1 (by decide) ?_
  refine va_put (D := (dC, dI)) (ci := 5) (v := .int (nI 0)) (ty := .int) (C := RX5) (T := TX5) (N := 13) hx hb hts iX5 tyX5 tyX5_ok nmX5 hown hK hP hD hS 0 rfl rfl 0 (by decide) (hts _ m_284) (fun _ h9 => h9) rfl (by decide +kernel) rfl rfl (Nat.le_of_ble_eq_true rfl) dX5_decode_2 (fun H locs hP hD hS => ?_)
  have hP : va_P (dC, dI) vwCl [(mo, .inr (5, [.int (nI 0), .ref q1, .ref q2, .int (nI (List.length row)), .int (nI wd), .int z5, .int (nI (List.length inp)), .int z7, .int z8, .int z9, .ref q3, .ref q4, .ref q5])), (q1, .inl (c1, 4096, .inl f1)), (q2, .inl (c2, 4104, .inl f2)), (q4, .inl (c4, 8192, .inl f4))] H := hP
  have hD : va_D A [(mo, .inr (5, [.int (nI 0), .ref q1, .ref q2, .int (nI (List.length row)), .int (nI wd), .int z5, .int (nI (List.length inp)), .int z7, .int z8, .int z9, .ref q3, .ref q4, .ref q5])), (q1, .inl (c1, 4096, .inl f1)), (q2, .inl (c2, 4104, .inl f2)), (q4, .inl (c4, 8192, .inl f4))] := hD
  refine lv_iload_n hx hb dX5_decode_5 rfl (lv_at hl 1 rfl) ?_
  refine lv_if_lt (tgt := 16) hx hb dX5_decode_6 (by decide) (fun c_6 => ?_) (fun c_6 => ?_)
  · refine lv_iconst (v := (-1)) hx hb dX5_decode_16 (by decide) ?_
    exact kend_i hx hb hr hlocks dX5_decode_17 (rfl) hK hP hD hS (((z8, z9), f1, f2, row)) (⟨hr1, hrn, Or.inl ⟨Or.inl c_6, rfl, rfl⟩⟩) [0, 1, 2, 3] [0, 1, 2] rfl (by decide) rfl
  · refine lv_iload_n hx hb dX5_decode_9 rfl (lv_at hl 1 rfl) ?_
    refine lv_sipush (v := nI 4096) hx hb dX5_decode_10 (by decide) ?_
    refine lv_icmp_le (tgt := 18) hx hb dX5_decode_13 (by decide) (fun c_13 => ?_) (fun c_13 => ?_)
    · obtain ⟨j, hj, rfl⟩ := nI_of c_6
      rw [nI_leI (by omega) (by decide)] at c_13
      refine lv_aload_n hx hb dX5_decode_18 rfl (lv_at hl 0 rfl) ?_
      refine lv_iconst (v := nI 0) hx hb dX5_decode_19 (by decide) ?_
      refine va_put (D := (dC, dI)) (ci := 5) (v := .int (nI 0)) (ty := .int) (C := RX5) (T := TX5) (N := 13) hx hb hts iX5 tyX5 tyX5_ok nmX5 hown hK hP hD hS 0 rfl rfl 8 (by decide) (hts _ m_292) (fun _ h9 => h9) rfl (by decide +kernel) rfl rfl (Nat.le_of_ble_eq_true rfl) dX5_decode_20 (fun H locs hP hD hS => ?_)
      have hP : va_P (dC, dI) vwCl [(mo, .inr (5, [.int (nI 0), .ref q1, .ref q2, .int (nI (List.length row)), .int (nI wd), .int z5, .int (nI (List.length inp)), .int z7, .int (nI 0), .int z9, .ref q3, .ref q4, .ref q5])), (q1, .inl (c1, 4096, .inl f1)), (q2, .inl (c2, 4104, .inl f2)), (q4, .inl (c4, 8192, .inl f4))] H := hP
      have hD : va_D A [(mo, .inr (5, [.int (nI 0), .ref q1, .ref q2, .int (nI (List.length row)), .int (nI wd), .int z5, .int (nI (List.length inp)), .int z7, .int (nI 0), .int z9, .ref q3, .ref q4, .ref q5])), (q1, .inl (c1, 4096, .inl f1)), (q2, .inl (c2, 4104, .inl f2)), (q4, .inl (c4, 8192, .inl f4))] := hD
      refine lv_aload_n hx hb dX5_decode_23 rfl (lv_at hl 0 rfl) ?_
      refine lv_iconst (v := nI 0) hx hb dX5_decode_24 (by decide) ?_
      refine va_put (D := (dC, dI)) (ci := 5) (v := .int (nI 0)) (ty := .int) (C := RX5) (T := TX5) (N := 13) hx hb hts iX5 tyX5 tyX5_ok nmX5 hown hK hP hD hS 0 rfl rfl 9 (by decide) (hts _ m_293) (fun _ h9 => h9) rfl (by decide +kernel) rfl rfl (Nat.le_of_ble_eq_true rfl) dX5_decode_25 (fun H locs hP hD hS => ?_)
      have hP : va_P (dC, dI) vwCl [(mo, .inr (5, [.int (nI 0), .ref q1, .ref q2, .int (nI (List.length row)), .int (nI wd), .int z5, .int (nI (List.length inp)), .int z7, .int (nI 0), .int (nI 0), .ref q3, .ref q4, .ref q5])), (q1, .inl (c1, 4096, .inl f1)), (q2, .inl (c2, 4104, .inl f2)), (q4, .inl (c4, 8192, .inl f4))] H := hP
      have hD : va_D A [(mo, .inr (5, [.int (nI 0), .ref q1, .ref q2, .int (nI (List.length row)), .int (nI wd), .int z5, .int (nI (List.length inp)), .int z7, .int (nI 0), .int (nI 0), .ref q3, .ref q4, .ref q5])), (q1, .inl (c1, 4096, .inl f1)), (q2, .inl (c2, 4104, .inl f2)), (q4, .inl (c4, 8192, .inl f4))] := hD
      refine lv_aload_n hx hb dX5_decode_28 rfl (lv_at hl 0 rfl) ?_
      refine lv_aload_n hx hb dX5_decode_29 rfl (lv_at hl 0 rfl) ?_
      refine va_get (D := (dC, dI)) (ci := 5) (v := .ref q2) (C := RX5) (T := TX5) (N := 13) hx hb hts iX5 hown hK hP 0 rfl rfl 2 (by decide) (hts _ m_286) (fun _ h9 => h9) rfl dX5_decode_30 ?_
      refine lv_iload_n hx hb dX5_decode_33 rfl (lv_at hl 1 rfl) ?_
      refine lv_aload_n hx hb dX5_decode_34 rfl (lv_at hl 0 rfl) ?_
      refine va_get (D := (dC, dI)) (ci := 5) (v := .int (nI wd)) (C := RX5) (T := TX5) (N := 13) hx hb hts iX5 hown hK hP 0 rfl rfl 4 (by decide) (hts _ m_288) (fun _ h9 => h9) rfl dX5_decode_35 ?_
      refine lv_aload_n hx hb dX5_decode_38 rfl (lv_at hl 0 rfl) ?_
      refine va_get (D := (dC, dI)) (ci := 5) (v := .int (nI (List.length inp))) (C := RX5) (T := TX5) (N := 13) hx hb hts iX5 hown hK hP 0 rfl rfl 6 (by decide) (hts _ m_290) (fun _ h9 => h9) rfl dX5_decode_39 ?_
      refine kret_v (wc := [(mo, .inr (5, [.int (nI 0), .ref q1, .ref q2, .int (nI (List.length row)), .int (nI wd), .int z5, .int (nI (List.length inp)), .int z7, .int (nI 0), .int (nI 0), .ref q3, .ref q4, .ref q5])), (q2, .inl (c2, 4104, .inl f2)), (q4, .inl (c4, 8192, .inl f4))]) (wr := [(q1, .inl (c1, 4096, .inl f1))]) (va_runV (As := [.ref q2, .int (nI j), .int (nI wd), .int (nI (List.length inp))]) (rest := []) ⟨hx, hb, hml, hown, hts⟩ (m_readRuns l dC dI _ mo q1 q2 q3 q4 q5 (nI 0) (nI (List.length row)) (nI wd) z5 (nI (List.length inp)) z7 c2 f2 c4 f4 inp j wd hf hn c_13 hwd) (cwV 4 hts (gdV m_369 m_371 mp_14 m_7 m_372) rfl rfl rfl (by decide +kernel) ⟨Nat.le_of_ble_eq_true rfl, Nat.le_of_ble_eq_true rfl⟩) (kpV hNs hK hP hD [0, 2, 3] [1, 2] rfl rfl (by decide) (ci := 5) rfl rfl) rfl rfl hl.1 rfl (lv_room (Nat.le_of_ble_eq_true rfl)) dX5_decode_42 ⟨Nat.le_of_ble_eq_true rfl, Nat.le_of_ble_eq_true rfl⟩) hP hD hS hA [0, 2, 3] [1] rfl rfl (by decide) (by decide) (fun v H locs hpo hK1 hP hD hS => ?_)
      have hp := hpo
      have hP : va_P (dC, dI) vwCl [(q1, .inl (c1, 4096, .inl f1)), (mo, .inr (5, [.int (nI 0), .ref q1, .ref q2, .int (nI (List.length row)), .int (nI wd), .int z5, .int (nI (List.length inp)), .int z7, .int (nI v.1), .int (nI v.2.1), .ref q3, .ref q4, .ref q5])), (q2, .inl (c2, 4104, .inl v.2.2)), (q4, .inl (c4, 8192, .inl f4))] H := hP
      have hD : va_D A [(q1, .inl (c1, 4096, .inl f1)), (mo, .inr (5, [.int (nI 0), .ref q1, .ref q2, .int (nI (List.length row)), .int (nI wd), .int z5, .int (nI (List.length inp)), .int z7, .int (nI v.1), .int (nI v.2.1), .ref q3, .ref q4, .ref q5])), (q2, .inl (c2, 4104, .inl v.2.2)), (q4, .inl (c4, 8192, .inl f4))] := hD
      obtain ⟨a1, qf, f3⟩ := v
      dsimp only at hp
      have hP : va_P (dC, dI) vwCl [(q1, .inl (c1, 4096, .inl f1)), (mo, .inr (5, [.int (nI 0), .ref q1, .ref q2, .int (nI (List.length row)), .int (nI wd), .int z5, .int (nI (List.length inp)), .int z7, .int (nI a1), .int (nI qf), .ref q3, .ref q4, .ref q5])), (q2, .inl (c2, 4104, .inl f3)), (q4, .inl (c4, 8192, .inl f4))] H := hP
      have hD : va_D A [(q1, .inl (c1, 4096, .inl f1)), (mo, .inr (5, [.int (nI 0), .ref q1, .ref q2, .int (nI (List.length row)), .int (nI wd), .int z5, .int (nI (List.length inp)), .int z7, .int (nI a1), .int (nI qf), .ref q3, .ref q4, .ref q5])), (q2, .inl (c2, 4104, .inl f3)), (q4, .inl (c4, 8192, .inl f4))] := hD
      rcases hp with ⟨hq, ha1, r, hRD, hrr, hrl⟩ | ⟨hq, hq5, hRD⟩
      · subst hq
        refine lv_aload_n hx hb dX5_decode_45 rfl (lv_at hl 0 rfl) ?_
        refine va_get (D := (dC, dI)) (ci := 5) (v := .int (nI 0)) (C := RX5) (T := TX5) (N := 13) hx hb hts iX5 hown hK hP 1 rfl rfl 9 (by decide) (hts _ m_293) (fun _ h9 => h9) rfl dX5_decode_46 ?_
        refine lv_if_ne (tgt := 69) hx hb dX5_decode_49 (by decide) (fun c_9 => absurd (by decide) c_9) (fun _ => ?_)
        refine lv_aload_n hx hb dX5_decode_52 rfl (lv_at hl 0 rfl) ?_
        refine va_get (D := (dC, dI)) (ci := 5) (v := .int (nI a1)) (C := RX5) (T := TX5) (N := 13) hx hb hts iX5 hown hK hP 1 rfl rfl 8 (by decide) (hts _ m_292) (fun _ h9 => h9) rfl dX5_decode_53 ?_
        refine lv_aload_n hx hb dX5_decode_56 rfl (lv_at hl 0 rfl) ?_
        refine va_get (D := (dC, dI)) (ci := 5) (v := .int (nI (List.length inp))) (C := RX5) (T := TX5) (N := 13) hx hb hts iX5 hown hK hP 1 rfl rfl 6 (by decide) (hts _ m_290) (fun _ h9 => h9) rfl dX5_decode_57 ?_
        refine lv_icmp_ge (tgt := 69) hx hb dX5_decode_60 (by decide) (fun c_60 => ?_) (fun c_60 => ?_)
        · rw [nI_leI (a := (List.length inp)) (b := a1) (by omega) (by omega)] at c_60
          rw [if_neg (by omega)] at hRD
          refine lv_iconst (v := nI 0) hx hb dX5_decode_69 (by decide) ?_
          refine lv_istore_n (lv' := [(2, .int (nI 0)), (0, .ref mo), (1, .int (nI j))]) hx hb dX5_decode_70 rfl hl (by decide) rfl (fun ls hl => ?_)
          refine k_loop (σ := Nat × (Nat → Int32)) (fun (z : Nat × (Nat → Int32)) H locs ls => match z with
                | (k, u) => k ≤ j ∧ (∀ q, q < k → u q = f3 q) ∧ va_P (dC, dI) vwCl [(mo, .inr (5, [.int (nI 0), .ref q1, .ref q2, .int (nI (List.length row)), .int (nI wd), .int z5, .int (nI (List.length inp)), .int z7, .int (nI a1), .int (nI 0), .ref q3, .ref q4, .ref q5])), (q1, .inl (c1, 4096, .inl u)), (q2, .inl (c2, 4104, .inl f3)), (q4, .inl (c4, 8192, .inl f4))] H ∧ va_D A [(mo, .inr (5, [.int (nI 0), .ref q1, .ref q2, .int (nI (List.length row)), .int (nI wd), .int z5, .int (nI (List.length inp)), .int z7, .int (nI a1), .int (nI 0), .ref q3, .ref q4, .ref q5])), (q1, .inl (c1, 4096, .inl u)), (q2, .inl (c2, 4104, .inl f3)), (q4, .inl (c4, 8192, .inl f4))] ∧ va_S A s.heap H locs ∧ lv_has ls 3 [(0, .ref mo), (1, .int (nI j)), (2, .int (nI k))]) (fun z => match z with
                | (k, u) => j - k) ?_ ((0, f1)) _ _ _ ⟨Nat.zero_le _, fun q h => absurd h (Nat.not_lt_zero q), hP.sub [1, 0, 2, 3] rfl, hD.sub [1, 0, 2, 3] (by decide) rfl, hS, lv_sub hl [1, 2, 0] rfl⟩
          intro z H locs ls hI ih
          obtain ⟨k, u⟩ := z
          obtain ⟨hk, hu, hP, hD, hS, hl⟩ := hI
          refine lv_iload_n hx hb dX5_decode_71 rfl (lv_at hl 2 rfl) ?_
          refine lv_iload_n hx hb dX5_decode_72 rfl (lv_at hl 1 rfl) ?_
          refine lv_icmp_ge (tgt := 101) hx hb dX5_decode_73 (by decide) (fun c_73 => ?_) (fun c_73 => ?_)
          · rw [nI_leI (a := j) (b := k) (by omega) (by omega)] at c_73
            obtain rfl : j = k := by omega
            refine lv_aload_n hx hb dX5_decode_101 rfl (lv_at hl 0 rfl) ?_
            refine va_get (D := (dC, dI)) (ci := 5) (v := .int (nI 0)) (C := RX5) (T := TX5) (N := 13) hx hb hts iX5 hown hK hP 0 rfl rfl 9 (by decide) (hts _ m_293) (fun _ h9 => h9) rfl dX5_decode_102 ?_
            refine lv_if_ne (tgt := 113) hx hb dX5_decode_105 (by decide) (fun c_9 => absurd (by decide) c_9) (fun _ => ?_)
            refine lv_aload_n hx hb dX5_decode_108 rfl (lv_at hl 0 rfl) ?_
            refine lv_iload_n hx hb dX5_decode_109 rfl (lv_at hl 1 rfl) ?_
            refine tI_ (y := nI (List.length r)) (by rw [hrl]) ?_
            refine va_put (D := (dC, dI)) (ci := 5) (v := .int (nI (List.length r))) (ty := .int) (C := RX5) (T := TX5) (N := 13) hx hb hts iX5 tyX5 tyX5_ok nmX5 hown hK hP hD hS 0 rfl rfl 3 (by decide) (hts _ m_287) (fun _ h9 => h9) rfl (by decide +kernel) rfl rfl (Nat.le_of_ble_eq_true rfl) dX5_decode_110 (fun H locs hP hD hS => ?_)
            have hP : va_P (dC, dI) vwCl [(mo, .inr (5, [.int (nI 0), .ref q1, .ref q2, .int (nI (List.length r)), .int (nI wd), .int z5, .int (nI (List.length inp)), .int z7, .int (nI a1), .int (nI 0), .ref q3, .ref q4, .ref q5])), (q1, .inl (c1, 4096, .inl u)), (q2, .inl (c2, 4104, .inl f3)), (q4, .inl (c4, 8192, .inl f4))] H := hP
            have hD : va_D A [(mo, .inr (5, [.int (nI 0), .ref q1, .ref q2, .int (nI (List.length r)), .int (nI wd), .int z5, .int (nI (List.length inp)), .int z7, .int (nI a1), .int (nI 0), .ref q3, .ref q4, .ref q5])), (q1, .inl (c1, 4096, .inl u)), (q2, .inl (c2, 4104, .inl f3)), (q4, .inl (c4, 8192, .inl f4))] := hD
            refine lv_aload_n hx hb dX5_decode_113 rfl (lv_at hl 0 rfl) ?_
            refine va_get (D := (dC, dI)) (ci := 5) (v := .int (nI 0)) (C := RX5) (T := TX5) (N := 13) hx hb hts iX5 hown hK hP 0 rfl rfl 9 (by decide) (hts _ m_293) (fun _ h9 => h9) rfl dX5_decode_114 ?_
            exact kend_i hx hb hr hlocks dX5_decode_117 (rfl) hK hP hD hS (((nI a1, nI 0), u, f3, r)) (⟨fun i hi => (hu i (by rw [← hrl]; exact hi)).trans (hrr i hi), by show r.length ≤ 4096; omega, Or.inr ⟨j, c_13, rfl, by rw [hRD], Or.inr ⟨by rw [hRD], by rw [hRD]⟩⟩⟩) [0, 1, 2, 3] [0, 1, 2] rfl (by decide) rfl
          · rw [nI_leI (a := j) (b := k) (by omega) (by omega)] at c_73
            refine lv_aload_n hx hb dX5_decode_76 rfl (lv_at hl 0 rfl) ?_
            refine va_get (D := (dC, dI)) (ci := 5) (v := .int (nI 0)) (C := RX5) (T := TX5) (N := 13) hx hb hts iX5 hown hK hP 0 rfl rfl 9 (by decide) (hts _ m_293) (fun _ h9 => h9) rfl dX5_decode_77 ?_
            refine lv_if_ne (tgt := 101) hx hb dX5_decode_80 (by decide) (fun c_9 => absurd (by decide) c_9) (fun _ => ?_)
            refine lv_aload_n hx hb dX5_decode_83 rfl (lv_at hl 0 rfl) ?_
            refine va_get (D := (dC, dI)) (ci := 5) (v := .ref q1) (C := RX5) (T := TX5) (N := 13) hx hb hts iX5 hown hK hP 0 rfl rfl 1 (by decide) (hts _ m_285) (fun _ h9 => h9) rfl dX5_decode_84 ?_
            refine lv_iload_n hx hb dX5_decode_87 rfl (lv_at hl 2 rfl) ?_
            refine lv_aload_n hx hb dX5_decode_88 rfl (lv_at hl 0 rfl) ?_
            refine va_get (D := (dC, dI)) (ci := 5) (v := .ref q2) (C := RX5) (T := TX5) (N := 13) hx hb hts iX5 hown hK hP 0 rfl rfl 2 (by decide) (hts _ m_286) (fun _ h9 => h9) rfl dX5_decode_89 ?_
            refine lv_iload_n hx hb dX5_decode_92 rfl (lv_at hl 2 rfl) ?_
            refine va_iald hx hb hK hP 2 1 rfl rfl (vp_in_nI (by omega) (by omega)) dX5_decode_93 ?_
            refine tI_ (y := f3 k) (congrArg f3 (nI_clamp (by omega))) ?_
            refine va_iast hx hb hK hP hD hS 1 0 rfl rfl (vp_in_nI (by omega) (by omega)) dX5_decode_94 (fun H locs hP hD hS => ?_)
            rw [nI_clamp (n := k) (by omega)] at hP hD
            have hP : va_P (dC, dI) vwCl [(mo, .inr (5, [.int (nI 0), .ref q1, .ref q2, .int (nI (List.length row)), .int (nI wd), .int z5, .int (nI (List.length inp)), .int z7, .int (nI a1), .int (nI 0), .ref q3, .ref q4, .ref q5])), (q1, .inl (c1, 4096, .inl (upd u k (f3 k)))), (q2, .inl (c2, 4104, .inl f3)), (q4, .inl (c4, 8192, .inl f4))] H := hP
            have hD : va_D A [(mo, .inr (5, [.int (nI 0), .ref q1, .ref q2, .int (nI (List.length row)), .int (nI wd), .int z5, .int (nI (List.length inp)), .int z7, .int (nI a1), .int (nI 0), .ref q3, .ref q4, .ref q5])), (q1, .inl (c1, 4096, .inl (upd u k (f3 k)))), (q2, .inl (c2, 4104, .inl f3)), (q4, .inl (c4, 8192, .inl f4))] := hD
            refine lv_iinc (v := nI (k + 1)) (lv' := [(2, .int (nI (k + 1))), (0, .ref mo), (1, .int (nI j))]) hx hb dX5_decode_95 hl (k := 2) rfl (ii_add (c := 1) (k := 1) k (by decide)) (by decide) rfl (fun ls hl => ?_)
            refine lv_goto (tgt := 71) hx hb dX5_decode_98 (by decide) ?_
            exact ih ((k + 1, upd u k (f3 k))) _ _ _ ⟨by omega, fun q hq => by
              by_cases hqk : q = k
              · subst hqk; exact pk_us
              · rw [pk_un hqk]; exact hu q (by omega), hP.sub [0, 1, 2, 3] rfl, hD.sub [0, 1, 2, 3] (by decide) rfl, hS, lv_sub hl [1, 2, 0] rfl⟩ (by show j - (k + 1) < j - k; omega)
        · rw [nI_leI (a := (List.length inp)) (b := a1) (by omega) (by omega)] at c_60
          rw [if_pos (by omega)] at hRD
          refine lv_aload_n hx hb dX5_decode_63 rfl (lv_at hl 0 rfl) ?_
          refine lv_bipush (v := nI 6) hx hb dX5_decode_64 (by decide) ?_
          refine va_put (D := (dC, dI)) (ci := 5) (v := .int (nI 6)) (ty := .int) (C := RX5) (T := TX5) (N := 13) hx hb hts iX5 tyX5 tyX5_ok nmX5 hown hK hP hD hS 1 rfl rfl 9 (by decide) (hts _ m_293) (fun _ h9 => h9) rfl (by decide +kernel) rfl rfl (Nat.le_of_ble_eq_true rfl) dX5_decode_66 (fun H locs hP hD hS => ?_)
          have hP : va_P (dC, dI) vwCl [(q1, .inl (c1, 4096, .inl f1)), (mo, .inr (5, [.int (nI 0), .ref q1, .ref q2, .int (nI (List.length row)), .int (nI wd), .int z5, .int (nI (List.length inp)), .int z7, .int (nI a1), .int (nI 6), .ref q3, .ref q4, .ref q5])), (q2, .inl (c2, 4104, .inl f3)), (q4, .inl (c4, 8192, .inl f4))] H := hP
          have hD : va_D A [(q1, .inl (c1, 4096, .inl f1)), (mo, .inr (5, [.int (nI 0), .ref q1, .ref q2, .int (nI (List.length row)), .int (nI wd), .int z5, .int (nI (List.length inp)), .int z7, .int (nI a1), .int (nI 6), .ref q3, .ref q4, .ref q5])), (q2, .inl (c2, 4104, .inl f3)), (q4, .inl (c4, 8192, .inl f4))] := hD
          refine lv_iconst (v := nI 0) hx hb dX5_decode_69 (by decide) ?_
          refine lv_istore_n (lv' := [(2, .int (nI 0)), (0, .ref mo), (1, .int (nI j))]) hx hb dX5_decode_70 rfl hl (by decide) rfl (fun ls hl => ?_)
          refine lv_iload_n hx hb dX5_decode_71 rfl (lv_at hl 0 rfl) ?_
          refine lv_iload_n hx hb dX5_decode_72 rfl (lv_at hl 2 rfl) ?_
          refine lv_icmp_ge (tgt := 101) hx hb dX5_decode_73 (by decide) (fun c_73 => ?_) (fun c_73 => ?_)
          · refine lv_aload_n hx hb dX5_decode_101 rfl (lv_at hl 1 rfl) ?_
            refine va_get (D := (dC, dI)) (ci := 5) (v := .int (nI 6)) (C := RX5) (T := TX5) (N := 13) hx hb hts iX5 hown hK hP 1 rfl rfl 9 (by decide) (hts _ m_293) (fun _ h9 => h9) rfl dX5_decode_102 ?_
            refine lv_if_ne (tgt := 113) hx hb dX5_decode_105 (by decide) (fun _ => ?_) (fun c_9 => absurd c_9 (by decide))
            refine lv_aload_n hx hb dX5_decode_113 rfl (lv_at hl 1 rfl) ?_
            refine va_get (D := (dC, dI)) (ci := 5) (v := .int (nI 6)) (C := RX5) (T := TX5) (N := 13) hx hb hts iX5 hown hK hP 1 rfl rfl 9 (by decide) (hts _ m_293) (fun _ h9 => h9) rfl dX5_decode_114 ?_
            exact kend_i hx hb hr hlocks dX5_decode_117 (rfl) hK hP hD hS (((nI a1, nI 6), f1, f3, row)) (⟨hr1, hrn, Or.inr ⟨j, c_13, rfl, by rw [hRD], Or.inl ⟨by rw [hRD]; show ¬ 6 = 0; decide, rfl⟩⟩⟩) [1, 0, 2, 3] [0, 1, 2] rfl (by decide) rfl
          · refine lv_aload_n hx hb dX5_decode_76 rfl (lv_at hl 1 rfl) ?_
            refine va_get (D := (dC, dI)) (ci := 5) (v := .int (nI 6)) (C := RX5) (T := TX5) (N := 13) hx hb hts iX5 hown hK hP 1 rfl rfl 9 (by decide) (hts _ m_293) (fun _ h9 => h9) rfl dX5_decode_77 ?_
            refine lv_if_ne (tgt := 101) hx hb dX5_decode_80 (by decide) (fun _ => ?_) (fun c_9 => absurd c_9 (by decide))
            refine lv_aload_n hx hb dX5_decode_101 rfl (lv_at hl 1 rfl) ?_
            refine va_get (D := (dC, dI)) (ci := 5) (v := .int (nI 6)) (C := RX5) (T := TX5) (N := 13) hx hb hts iX5 hown hK hP 1 rfl rfl 9 (by decide) (hts _ m_293) (fun _ h9 => h9) rfl dX5_decode_102 ?_
            refine lv_if_ne (tgt := 113) hx hb dX5_decode_105 (by decide) (fun _ => ?_) (fun c_9 => absurd c_9 (by decide))
            refine lv_aload_n hx hb dX5_decode_113 rfl (lv_at hl 1 rfl) ?_
            refine va_get (D := (dC, dI)) (ci := 5) (v := .int (nI 6)) (C := RX5) (T := TX5) (N := 13) hx hb hts iX5 hown hK hP 1 rfl rfl 9 (by decide) (hts _ m_293) (fun _ h9 => h9) rfl dX5_decode_114 ?_
            exact kend_i hx hb hr hlocks dX5_decode_117 (rfl) hK hP hD hS (((nI a1, nI 6), f1, f3, row)) (⟨hr1, hrn, Or.inr ⟨j, c_13, rfl, by rw [hRD], Or.inl ⟨by rw [hRD]; show ¬ 6 = 0; decide, rfl⟩⟩⟩) [1, 0, 2, 3] [0, 1, 2] rfl (by decide) rfl
      · refine lv_aload_n hx hb dX5_decode_45 rfl (lv_at hl 0 rfl) ?_
        refine va_get (D := (dC, dI)) (ci := 5) (v := .int (nI qf)) (C := RX5) (T := TX5) (N := 13) hx hb hts iX5 hown hK hP 1 rfl rfl 9 (by decide) (hts _ m_293) (fun _ h9 => h9) rfl dX5_decode_46 ?_
        refine lv_if_ne (tgt := 69) hx hb dX5_decode_49 (by decide) (fun _ => ?_) (fun c_9 => absurd c_9 (fun q9 => hq ((z_eq (by omega)).mp q9)))
        refine lv_iconst (v := nI 0) hx hb dX5_decode_69 (by decide) ?_
        refine lv_istore_n (lv' := [(2, .int (nI 0)), (0, .ref mo), (1, .int (nI j))]) hx hb dX5_decode_70 rfl hl (by decide) rfl (fun ls hl => ?_)
        refine lv_iload_n hx hb dX5_decode_71 rfl (lv_at hl 0 rfl) ?_
        refine lv_iload_n hx hb dX5_decode_72 rfl (lv_at hl 2 rfl) ?_
        refine lv_icmp_ge (tgt := 101) hx hb dX5_decode_73 (by decide) (fun c_73 => ?_) (fun c_73 => ?_)
        · refine lv_aload_n hx hb dX5_decode_101 rfl (lv_at hl 1 rfl) ?_
          refine va_get (D := (dC, dI)) (ci := 5) (v := .int (nI qf)) (C := RX5) (T := TX5) (N := 13) hx hb hts iX5 hown hK hP 1 rfl rfl 9 (by decide) (hts _ m_293) (fun _ h9 => h9) rfl dX5_decode_102 ?_
          refine lv_if_ne (tgt := 113) hx hb dX5_decode_105 (by decide) (fun _ => ?_) (fun c_9 => absurd c_9 (fun q9 => hq ((z_eq (by omega)).mp q9)))
          refine lv_aload_n hx hb dX5_decode_113 rfl (lv_at hl 1 rfl) ?_
          refine va_get (D := (dC, dI)) (ci := 5) (v := .int (nI qf)) (C := RX5) (T := TX5) (N := 13) hx hb hts iX5 hown hK hP 1 rfl rfl 9 (by decide) (hts _ m_293) (fun _ h9 => h9) rfl dX5_decode_114 ?_
          exact kend_i hx hb hr hlocks dX5_decode_117 (rfl) hK hP hD hS (((nI a1, nI qf), f1, f3, row)) (⟨hr1, hrn, Or.inr ⟨j, c_13, rfl, by rw [hRD], Or.inl ⟨by rw [hRD]; exact hq, rfl⟩⟩⟩) [1, 0, 2, 3] [0, 1, 2] rfl (by decide) rfl
        · refine lv_aload_n hx hb dX5_decode_76 rfl (lv_at hl 1 rfl) ?_
          refine va_get (D := (dC, dI)) (ci := 5) (v := .int (nI qf)) (C := RX5) (T := TX5) (N := 13) hx hb hts iX5 hown hK hP 1 rfl rfl 9 (by decide) (hts _ m_293) (fun _ h9 => h9) rfl dX5_decode_77 ?_
          refine lv_if_ne (tgt := 101) hx hb dX5_decode_80 (by decide) (fun _ => ?_) (fun c_9 => absurd c_9 (fun q9 => hq ((z_eq (by omega)).mp q9)))
          refine lv_aload_n hx hb dX5_decode_101 rfl (lv_at hl 1 rfl) ?_
          refine va_get (D := (dC, dI)) (ci := 5) (v := .int (nI qf)) (C := RX5) (T := TX5) (N := 13) hx hb hts iX5 hown hK hP 1 rfl rfl 9 (by decide) (hts _ m_293) (fun _ h9 => h9) rfl dX5_decode_102 ?_
          refine lv_if_ne (tgt := 113) hx hb dX5_decode_105 (by decide) (fun _ => ?_) (fun c_9 => absurd c_9 (fun q9 => hq ((z_eq (by omega)).mp q9)))
          refine lv_aload_n hx hb dX5_decode_113 rfl (lv_at hl 1 rfl) ?_
          refine va_get (D := (dC, dI)) (ci := 5) (v := .int (nI qf)) (C := RX5) (T := TX5) (N := 13) hx hb hts iX5 hown hK hP 1 rfl rfl 9 (by decide) (hts _ m_293) (fun _ h9 => h9) rfl dX5_decode_114 ?_
          exact kend_i hx hb hr hlocks dX5_decode_117 (rfl) hK hP hD hS (((nI a1, nI qf), f1, f3, row)) (⟨hr1, hrn, Or.inr ⟨j, c_13, rfl, by rw [hRD], Or.inl ⟨by rw [hRD]; exact hq, rfl⟩⟩⟩) [1, 0, 2, 3] [0, 1, 2] rfl (by decide) rfl
    · refine lv_iconst (v := (-1)) hx hb dX5_decode_16 (by decide) ?_
      exact kend_i hx hb hr hlocks dX5_decode_17 (rfl) hK hP hD hS (((z8, z9), f1, f2, row)) (⟨hr1, hrn, Or.inl ⟨Or.inr (Int32.not_le.mp c_13), rfl, rfl⟩⟩) [0, 1, 2, 3] [0, 1, 2] rfl (by decide) rfl

