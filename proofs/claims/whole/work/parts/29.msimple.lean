set_option maxHeartbeats 4000000 in
set_option maxRecDepth 100000 in
/-- feed -/
theorem m_feed (l : Launch) (dC : Nat → ClassId) (dI : Nat → Nat → Nat) (sz : Nat) (mo q1 q2 q3 q4 q5 : Nat) (cd z3 z4 z6 z7 z8 z9 : Int32) (c3 : ClassId) (f3 : Nat → Int32) (tp : List Nat) (a1 a2 a3 a4 a5 : Int32) (hf : mB f3 tp) (hn : tp.length ≤ 8192) : Met l yX5_feed wsX5_feed ({ frames := 0, cells := 0, slots := 0, locals := 0 }) (va_Pc [.ref mo, .int a1, .int a2, .int a3, .int a4, .int a5] (kB (dC, dI) vwCl [(c3, .int)] [(mo, .inr (5, [.int cd, .ref q1, .ref q2, .int z3, .int z4, .int (nI (List.length tp)), .int z6, .int z7, .int z8, .int z9, .ref q3, .ref q4, .ref q5])), (q3, .inl (c3, 8192, .inl f3))] sz)) (va_Qi (fun r (u : (Nat → Int32) × List Nat) => mB u.1 u.2 ∧ ((8192 - tp.length < 20 ∧ r = nI 0 ∧ u.2 = tp) ∨ (¬ 8192 - tp.length < 20 ∧ r = nI 1 ∧ u.2 = tp ++ (four a1 ++ (four a2 ++ (four a3 ++ (four a4 ++ four a5))))))) (kE (dC, dI) vwCl (va_A [(mo, .inr (5, [.int cd, .ref q1, .ref q2, .int z3, .int z4, .int (nI (List.length tp)), .int z6, .int z7, .int z8, .int z9, .ref q3, .ref q4, .ref q5])), (q3, .inl (c3, 8192, .inl f3))] sz) (fun _ => [(c3, .int)]) (fun u => [(mo, .inr (5, [.int (nI 0), .ref q1, .ref q2, .int z3, .int z4, .int (nI (List.length u.2)), .int z6, .int z7, .int z8, .int z9, .ref q3, .ref q4, .ref q5])), (q3, .inl (c3, 8192, .inl u.1))])) (va_A [(mo, .inr (5, [.int cd, .ref q1, .ref q2, .int z3, .int z4, .int (nI (List.length tp)), .int z6, .int z7, .int z8, .int z9, .ref q3, .ref q4, .ref q5])), (q3, .inl (c3, 8192, .inl f3))] sz)) 0 0 (va_A [(mo, .inr (5, [.int cd, .ref q1, .ref q2, .int z3, .int z4, .int (nI (List.length tp)), .int z6, .int z7, .int z8, .int z9, .ref q3, .ref q4, .ref q5])), (q3, .inl (c3, 8192, .inl f3))] sz) := by
  refine Met.ofW (cc := cX5_feed) (maxL := 8) (ret := (some .boolean)) (by decide) rfl ?_
  intro p e s m args below meth c s₁ B hml hv
  obtain ⟨rfl, hsz, hP, hK, hD0, hNs⟩ := hv
  have hx := B.exec
  have hb := B.bytes
  have hr := B.returns
  have hts := fun w (h : w ∈ lw_g) => atoms_spec (ws := wsX5_feed) B.pre w (List.mem_cons_of_mem _ h)
  have hown : s.vm.findClass RX5 = some m.cls := findClass_of_methodNamed B.named
  have hlocks := B.notSynchronized
  subst hsz
  have hD := hD0.self (sz := s.heap.size)
  generalize hAe : va_A [(mo, .inr (5, [.int cd, .ref q1, .ref q2, .int z3, .int z4, .int (nI (List.length tp)), .int z6, .int z7, .int z8, .int z9, .ref q3, .ref q4, .ref q5])), (q3, .inl (c3, 8192, .inl f3))] s.heap.size = A at hD ⊢
  have hA : ∀ q : Nat, s.heap.size ≤ q → A q := fun q h => by rw [← hAe]; exact Or.inr h
  have hS : va_S A s.heap s.heap [] := va_S.rf
  have hP : va_P (dC, dI) vwCl [(mo, .inr (5, [.int cd, .ref q1, .ref q2, .int z3, .int z4, .int (nI (List.length tp)), .int z6, .int z7, .int z8, .int z9, .ref q3, .ref q4, .ref q5])), (q3, .inl (c3, 8192, .inl f3))] s.heap := hP
  have hl := lv_entry ([.ref mo, .int a1, .int a2, .int a3, .int a4, .int a5]) (n := 8) (Nat.le_of_ble_eq_true rfl)
  rw [lg_entry_eq]
  generalize (lg_sl ([.ref mo, .int a1, .int a2, .int a3, .int a4, .int a5]) ++ List.replicate (8 - (lg_sl ([.ref mo, .int a1, .int a2, .int a3, .int a4, .int a5])).length) Slot.unset).toArray = ls at hl ⊢
  have hl : lv_has ls 8 [(0, .ref mo), (1, .int a1), (2, .int a2), (3, .int a3), (4, .int a4), (5, .int a5)] := hl
  refine lv_aload_n hx hb dX5_feed_0 rfl (lv_at hl 0 rfl) ?_
  refine lv_iconst (v := nI 0) hx hb dX5_feed_1 (by decide) ?_
  refine va_put (D := (dC, dI)) (ci := 5) (v := .int (nI 0)) (ty := .int) (C := RX5) (T := TX5) (N := 13) hx hb hts iX5 tyX5 tyX5_ok nmX5 hown hK hP hD hS 0 rfl rfl 0 (by decide) (hts _ m_284) (fun _ h9 => h9) rfl (by decide +kernel) rfl rfl (Nat.le_of_ble_eq_true rfl) dX5_feed_2 (fun H locs hP hD hS => ?_)
  have hP : va_P (dC, dI) vwCl [(mo, .inr (5, [.int (nI 0), .ref q1, .ref q2, .int z3, .int z4, .int (nI (List.length tp)), .int z6, .int z7, .int z8, .int z9, .ref q3, .ref q4, .ref q5])), (q3, .inl (c3, 8192, .inl f3))] H := hP
  have hD : va_D A [(mo, .inr (5, [.int (nI 0), .ref q1, .ref q2, .int z3, .int z4, .int (nI (List.length tp)), .int z6, .int z7, .int z8, .int z9, .ref q3, .ref q4, .ref q5])), (q3, .inl (c3, 8192, .inl f3))] := hD
  refine lv_aload_n hx hb dX5_feed_5 rfl (lv_at hl 0 rfl) ?_
  refine va_get (D := (dC, dI)) (ci := 5) (v := .int (nI (List.length tp))) (C := RX5) (T := TX5) (N := 13) hx hb hts iX5 hown hK hP 0 rfl rfl 5 (by decide) (hts _ m_289) (fun _ h9 => h9) rfl dX5_feed_6 ?_
  refine lv_bipush (v := nI 20) hx hb dX5_feed_9 (by decide) ?_
  refine lv_iadd hx hb dX5_feed_11 ?_
  refine tI_ (y := nI ((List.length tp) + 20)) (nI_add _ _) ?_
  refine lv_sipush (v := nI 8192) hx hb dX5_feed_12 (by decide) ?_
  refine lv_icmp_le (tgt := 20) hx hb dX5_feed_15 (by decide) (fun c_15 => ?_) (fun c_15 => ?_)
  · rw [nI_leI (a := ((List.length tp) + 20)) (b := 8192) (by omega) (by omega)] at c_15
    refine lv_iconst (v := nI 0) hx hb dX5_feed_20 (by decide) ?_
    refine lv_istore (lv' := [(6, .int (nI 0)), (0, .ref mo), (1, .int a1), (2, .int a2), (3, .int a3), (4, .int a4), (5, .int a5)]) hx hb dX5_feed_21 hl (by decide) rfl (fun ls hl => ?_)
    refine k_loop (σ := Nat × (Nat → Int32)) (fun (z : Nat × (Nat → Int32)) H locs ls => match z with
          | (k, u) => k ≤ 20 ∧ (∀ q, q < tp.length → u q = f3 q) ∧ (∀ q, q < k → u (tp.length + q) = nI (fb5 a1 a2 a3 a4 a5 q)) ∧ va_P (dC, dI) vwCl [(mo, .inr (5, [.int (nI 0), .ref q1, .ref q2, .int z3, .int z4, .int (nI (List.length tp)), .int z6, .int z7, .int z8, .int z9, .ref q3, .ref q4, .ref q5])), (q3, .inl (c3, 8192, .inl u))] H ∧ va_D A [(mo, .inr (5, [.int (nI 0), .ref q1, .ref q2, .int z3, .int z4, .int (nI (List.length tp)), .int z6, .int z7, .int z8, .int z9, .ref q3, .ref q4, .ref q5])), (q3, .inl (c3, 8192, .inl u))] ∧ va_S A s.heap H locs ∧ lv_has ls 8 [(0, .ref mo), (1, .int a1), (2, .int a2), (3, .int a3), (4, .int a4), (5, .int a5), (6, .int (nI k))]) (fun z => match z with
          | (k, u) => 20 - k) ?_ ((0, f3)) _ _ _ ⟨by decide, fun _ _ => rfl, fun q h => absurd h (Nat.not_lt_zero q), hP.sub [0, 1] rfl, hD.sub [0, 1] (by decide) rfl, hS, lv_sub hl [1, 2, 3, 4, 5, 6, 0] rfl⟩
    intro z H locs ls hI ih
    obtain ⟨k, u⟩ := z
    obtain ⟨hk, hu1, hu2, hP, hD, hS, hl⟩ := hI
    refine lv_iload hx hb dX5_feed_23 (lv_at hl 6 rfl) ?_
    refine lv_bipush (v := nI 20) hx hb dX5_feed_25 (by decide) ?_
    refine lv_icmp_ge (tgt := 113) hx hb dX5_feed_27 (by decide) (fun c_27 => ?_) (fun c_27 => ?_)
    · rw [nI_leI (a := 20) (b := k) (by omega) (by omega)] at c_27
      obtain rfl : k = 20 := by omega
      refine lv_aload_n hx hb dX5_feed_113 rfl (lv_at hl 0 rfl) ?_
      refine lv_dup hx hb dX5_feed_114 rfl ?_
      refine va_get (D := (dC, dI)) (ci := 5) (v := .int (nI (List.length tp))) (C := RX5) (T := TX5) (N := 13) hx hb hts iX5 hown hK hP 0 rfl rfl 5 (by decide) (hts _ m_289) (fun _ h9 => h9) rfl dX5_feed_115 ?_
      refine lv_bipush (v := nI 20) hx hb dX5_feed_118 (by decide) ?_
      refine lv_iadd hx hb dX5_feed_120 ?_
      refine tI_ (y := nI ((List.length tp) + 20)) (nI_add _ _) ?_
      refine tI_ (y := nI (List.length (tp ++ (four a1 ++ (four a2 ++ (four a3 ++ (four a4 ++ four a5))))))) (by simp [four]) ?_
      refine va_put (D := (dC, dI)) (ci := 5) (v := .int (nI (List.length (tp ++ (four a1 ++ (four a2 ++ (four a3 ++ (four a4 ++ four a5)))))))) (ty := .int) (C := RX5) (T := TX5) (N := 13) hx hb hts iX5 tyX5 tyX5_ok nmX5 hown hK hP hD hS 0 rfl rfl 5 (by decide) (hts _ m_289) (fun _ h9 => h9) rfl (by decide +kernel) rfl rfl (Nat.le_of_ble_eq_true rfl) dX5_feed_121 (fun H locs hP hD hS => ?_)
      have hP : va_P (dC, dI) vwCl [(mo, .inr (5, [.int (nI 0), .ref q1, .ref q2, .int z3, .int z4, .int (nI (List.length (tp ++ (four a1 ++ (four a2 ++ (four a3 ++ (four a4 ++ four a5))))))), .int z6, .int z7, .int z8, .int z9, .ref q3, .ref q4, .ref q5])), (q3, .inl (c3, 8192, .inl u))] H := hP
      have hD : va_D A [(mo, .inr (5, [.int (nI 0), .ref q1, .ref q2, .int z3, .int z4, .int (nI (List.length (tp ++ (four a1 ++ (four a2 ++ (four a3 ++ (four a4 ++ four a5))))))), .int z6, .int z7, .int z8, .int z9, .ref q3, .ref q4, .ref q5])), (q3, .inl (c3, 8192, .inl u))] := hD
      refine lv_iconst (v := nI 1) hx hb dX5_feed_124 (by decide) ?_
      exact kend_i hx hb hr hlocks dX5_feed_125 (rfl) hK hP hD hS ((u, tp ++ (four a1 ++ (four a2 ++ (four a3 ++ (four a4 ++ four a5)))))) (⟨mB_fb hf hu1 hu2, Or.inr ⟨by omega, rfl, rfl⟩⟩) [0, 1] [0] rfl (by decide) rfl
    · rw [nI_leI (a := 20) (b := k) (by omega) (by omega)] at c_27
      refine lv_iload hx hb dX5_feed_30 (lv_at hl 6 rfl) ?_
      refine lv_iconst (v := nI 4) hx hb dX5_feed_32 (by decide) ?_
      refine lv_icmp_ge (tgt := 40) hx hb dX5_feed_33 (by decide) (fun c_33 => ?_) (fun c_33 => ?_)
      · rw [nI_leI (a := 4) (b := k) (by omega) (by omega)] at c_33
        refine lv_iload hx hb dX5_feed_40 (lv_at hl 6 rfl) ?_
        refine lv_bipush (v := nI 8) hx hb dX5_feed_42 (by decide) ?_
        refine lv_icmp_ge (tgt := 51) hx hb dX5_feed_44 (by decide) (fun c_44 => ?_) (fun c_44 => ?_)
        · rw [nI_leI (a := 8) (b := k) (by omega) (by omega)] at c_44
          refine lv_iload hx hb dX5_feed_51 (lv_at hl 6 rfl) ?_
          refine lv_bipush (v := nI 12) hx hb dX5_feed_53 (by decide) ?_
          refine lv_icmp_ge (tgt := 62) hx hb dX5_feed_55 (by decide) (fun c_55 => ?_) (fun c_55 => ?_)
          · rw [nI_leI (a := 12) (b := k) (by omega) (by omega)] at c_55
            refine lv_iload hx hb dX5_feed_62 (lv_at hl 6 rfl) ?_
            refine lv_bipush (v := nI 16) hx hb dX5_feed_64 (by decide) ?_
            refine lv_icmp_ge (tgt := 74) hx hb dX5_feed_66 (by decide) (fun c_66 => ?_) (fun c_66 => ?_)
            · rw [nI_leI (a := 16) (b := k) (by omega) (by omega)] at c_66
              have hp5 : pk5 a1 a2 a3 a4 a5 k = a5 := by unfold pk5; rw [if_neg (by omega), if_neg (by omega), if_neg (by omega), if_neg (by omega)]
              refine lv_iload hx hb dX5_feed_74 (lv_at hl 5 rfl) ?_
              refine lv_istore (lv' := [(7, .int a5), (0, .ref mo), (1, .int a1), (2, .int a2), (3, .int a3), (4, .int a4), (5, .int a5), (6, .int (nI k))]) hx hb dX5_feed_76 hl (by decide) rfl (fun ls hl => ?_)
              refine lv_aload_n hx hb dX5_feed_78 rfl (lv_at hl 1 rfl) ?_
              refine va_get (D := (dC, dI)) (ci := 5) (v := .ref q3) (C := RX5) (T := TX5) (N := 13) hx hb hts iX5 hown hK hP 0 rfl rfl 10 (by decide) (hts _ m_294) (fun _ h9 => h9) rfl dX5_feed_79 ?_
              refine lv_aload_n hx hb dX5_feed_82 rfl (lv_at hl 1 rfl) ?_
              refine va_get (D := (dC, dI)) (ci := 5) (v := .int (nI (List.length tp))) (C := RX5) (T := TX5) (N := 13) hx hb hts iX5 hown hK hP 0 rfl rfl 5 (by decide) (hts _ m_289) (fun _ h9 => h9) rfl dX5_feed_83 ?_
              refine lv_iload hx hb dX5_feed_86 (lv_at hl 7 rfl) ?_
              refine lv_iadd hx hb dX5_feed_88 ?_
              refine tI_ (y := nI ((List.length tp) + k)) (nI_add _ _) ?_
              refine lv_iload hx hb dX5_feed_89 (lv_at hl 0 rfl) ?_
              refine lv_bipush (v := nI 24) hx hb dX5_feed_91 (by decide) ?_
              refine lv_bipush (v := nI 8) hx hb dX5_feed_93 (by decide) ?_
              refine lv_iload hx hb dX5_feed_95 (lv_at hl 7 rfl) ?_
              refine lv_iconst (v := nI 4) hx hb dX5_feed_97 (by decide) ?_
              refine lv_irem hx hb dX5_feed_98 (by decide) ?_
              refine tI_ (y := nI (k % 4)) (pk_rem (by omega) (by decide) (by decide)) ?_
              refine lv_imul hx hb dX5_feed_99 ?_
              refine tI_ (y := nI (8 * (k % 4))) (pk_mul _ _) ?_
              refine lv_isub hx hb dX5_feed_100 ?_
              refine tI_ (y := nI (24 - (8 * (k % 4)))) (pk_sub (by omega)) ?_
              refine lv_ishr hx hb dX5_feed_101 ?_
              refine lv_sipush (v := nI 255) hx hb dX5_feed_102 (by decide) ?_
              refine lv_iand hx hb dX5_feed_105 ?_
              refine tI_ (y := nI (fb5 a1 a2 a3 a4 a5 k)) (by unfold fb5; rw [hp5]; exact sar_and _ (by omega)) ?_
              refine va_iast hx hb hK hP hD hS 1 0 rfl rfl (vp_in_nI (by omega) (by omega)) dX5_feed_106 (fun H locs hP hD hS => ?_)
              rw [nI_clamp (n := ((List.length tp) + k)) (by omega)] at hP hD
              have hP : va_P (dC, dI) vwCl [(mo, .inr (5, [.int (nI 0), .ref q1, .ref q2, .int z3, .int z4, .int (nI (List.length tp)), .int z6, .int z7, .int z8, .int z9, .ref q3, .ref q4, .ref q5])), (q3, .inl (c3, 8192, .inl (upd u ((List.length tp) + k) (nI (fb5 a1 a2 a3 a4 a5 k)))))] H := hP
              have hD : va_D A [(mo, .inr (5, [.int (nI 0), .ref q1, .ref q2, .int z3, .int z4, .int (nI (List.length tp)), .int z6, .int z7, .int z8, .int z9, .ref q3, .ref q4, .ref q5])), (q3, .inl (c3, 8192, .inl (upd u ((List.length tp) + k) (nI (fb5 a1 a2 a3 a4 a5 k)))))] := hD
              refine lv_iinc (v := nI (k + 1)) (lv' := [(6, .int (nI (k + 1))), (7, .int a5), (0, .ref mo), (1, .int a1), (2, .int a2), (3, .int a3), (4, .int a4), (5, .int a5)]) hx hb dX5_feed_107 hl (k := 7) rfl (ii_add (c := 1) (k := 1) k (by decide)) (by decide) rfl (fun ls hl => ?_)
              refine lv_goto (tgt := 23) hx hb dX5_feed_110 (by decide) ?_
              exact ih ((k + 1, upd u (tp.length + k) (nI (fb5 a1 a2 a3 a4 a5 k)))) _ _ _ ⟨by omega, fun q hq => by rw [pk_un (by omega)]; exact hu1 q hq, fun q hq => by
                by_cases hqk : q = k
                · subst hqk; exact pk_us
                · rw [pk_un (by omega)]; exact hu2 q (by omega), hP.sub [0, 1] rfl, hD.sub [0, 1] (by decide) rfl, hS, lv_sub hl [2, 3, 4, 5, 6, 7, 0] rfl⟩ (by show 20 - (k + 1) < 20 - k; omega)
            · rw [nI_leI (a := 16) (b := k) (by omega) (by omega)] at c_66
              have hp5 : pk5 a1 a2 a3 a4 a5 k = a4 := by unfold pk5; rw [if_neg (by omega), if_neg (by omega), if_neg (by omega), if_pos (by omega)]
              refine lv_iload hx hb dX5_feed_69 (lv_at hl 4 rfl) ?_
              refine lv_goto (tgt := 76) hx hb dX5_feed_71 (by decide) ?_
              refine lv_istore (lv' := [(7, .int a4), (0, .ref mo), (1, .int a1), (2, .int a2), (3, .int a3), (4, .int a4), (5, .int a5), (6, .int (nI k))]) hx hb dX5_feed_76 hl (by decide) rfl (fun ls hl => ?_)
              refine lv_aload_n hx hb dX5_feed_78 rfl (lv_at hl 1 rfl) ?_
              refine va_get (D := (dC, dI)) (ci := 5) (v := .ref q3) (C := RX5) (T := TX5) (N := 13) hx hb hts iX5 hown hK hP 0 rfl rfl 10 (by decide) (hts _ m_294) (fun _ h9 => h9) rfl dX5_feed_79 ?_
              refine lv_aload_n hx hb dX5_feed_82 rfl (lv_at hl 1 rfl) ?_
              refine va_get (D := (dC, dI)) (ci := 5) (v := .int (nI (List.length tp))) (C := RX5) (T := TX5) (N := 13) hx hb hts iX5 hown hK hP 0 rfl rfl 5 (by decide) (hts _ m_289) (fun _ h9 => h9) rfl dX5_feed_83 ?_
              refine lv_iload hx hb dX5_feed_86 (lv_at hl 7 rfl) ?_
              refine lv_iadd hx hb dX5_feed_88 ?_
              refine tI_ (y := nI ((List.length tp) + k)) (nI_add _ _) ?_
              refine lv_iload hx hb dX5_feed_89 (lv_at hl 0 rfl) ?_
              refine lv_bipush (v := nI 24) hx hb dX5_feed_91 (by decide) ?_
              refine lv_bipush (v := nI 8) hx hb dX5_feed_93 (by decide) ?_
              refine lv_iload hx hb dX5_feed_95 (lv_at hl 7 rfl) ?_
              refine lv_iconst (v := nI 4) hx hb dX5_feed_97 (by decide) ?_
              refine lv_irem hx hb dX5_feed_98 (by decide) ?_
              refine tI_ (y := nI (k % 4)) (pk_rem (by omega) (by decide) (by decide)) ?_
              refine lv_imul hx hb dX5_feed_99 ?_
              refine tI_ (y := nI (8 * (k % 4))) (pk_mul _ _) ?_
              refine lv_isub hx hb dX5_feed_100 ?_
              refine tI_ (y := nI (24 - (8 * (k % 4)))) (pk_sub (by omega)) ?_
              refine lv_ishr hx hb dX5_feed_101 ?_
              refine lv_sipush (v := nI 255) hx hb dX5_feed_102 (by decide) ?_
              refine lv_iand hx hb dX5_feed_105 ?_
              refine tI_ (y := nI (fb5 a1 a2 a3 a4 a5 k)) (by unfold fb5; rw [hp5]; exact sar_and _ (by omega)) ?_
              refine va_iast hx hb hK hP hD hS 1 0 rfl rfl (vp_in_nI (by omega) (by omega)) dX5_feed_106 (fun H locs hP hD hS => ?_)
              rw [nI_clamp (n := ((List.length tp) + k)) (by omega)] at hP hD
              have hP : va_P (dC, dI) vwCl [(mo, .inr (5, [.int (nI 0), .ref q1, .ref q2, .int z3, .int z4, .int (nI (List.length tp)), .int z6, .int z7, .int z8, .int z9, .ref q3, .ref q4, .ref q5])), (q3, .inl (c3, 8192, .inl (upd u ((List.length tp) + k) (nI (fb5 a1 a2 a3 a4 a5 k)))))] H := hP
              have hD : va_D A [(mo, .inr (5, [.int (nI 0), .ref q1, .ref q2, .int z3, .int z4, .int (nI (List.length tp)), .int z6, .int z7, .int z8, .int z9, .ref q3, .ref q4, .ref q5])), (q3, .inl (c3, 8192, .inl (upd u ((List.length tp) + k) (nI (fb5 a1 a2 a3 a4 a5 k)))))] := hD
              refine lv_iinc (v := nI (k + 1)) (lv' := [(6, .int (nI (k + 1))), (7, .int a4), (0, .ref mo), (1, .int a1), (2, .int a2), (3, .int a3), (4, .int a4), (5, .int a5)]) hx hb dX5_feed_107 hl (k := 7) rfl (ii_add (c := 1) (k := 1) k (by decide)) (by decide) rfl (fun ls hl => ?_)
              refine lv_goto (tgt := 23) hx hb dX5_feed_110 (by decide) ?_
              exact ih ((k + 1, upd u (tp.length + k) (nI (fb5 a1 a2 a3 a4 a5 k)))) _ _ _ ⟨by omega, fun q hq => by rw [pk_un (by omega)]; exact hu1 q hq, fun q hq => by
                by_cases hqk : q = k
                · subst hqk; exact pk_us
                · rw [pk_un (by omega)]; exact hu2 q (by omega), hP.sub [0, 1] rfl, hD.sub [0, 1] (by decide) rfl, hS, lv_sub hl [2, 3, 4, 5, 6, 7, 0] rfl⟩ (by show 20 - (k + 1) < 20 - k; omega)
          · rw [nI_leI (a := 12) (b := k) (by omega) (by omega)] at c_55
            have hp5 : pk5 a1 a2 a3 a4 a5 k = a3 := by unfold pk5; rw [if_neg (by omega), if_neg (by omega), if_pos (by omega)]
            refine lv_iload_n hx hb dX5_feed_58 rfl (lv_at hl 3 rfl) ?_
            refine lv_goto (tgt := 76) hx hb dX5_feed_59 (by decide) ?_
            refine lv_istore (lv' := [(7, .int a3), (0, .ref mo), (1, .int a1), (2, .int a2), (3, .int a3), (4, .int a4), (5, .int a5), (6, .int (nI k))]) hx hb dX5_feed_76 hl (by decide) rfl (fun ls hl => ?_)
            refine lv_aload_n hx hb dX5_feed_78 rfl (lv_at hl 1 rfl) ?_
            refine va_get (D := (dC, dI)) (ci := 5) (v := .ref q3) (C := RX5) (T := TX5) (N := 13) hx hb hts iX5 hown hK hP 0 rfl rfl 10 (by decide) (hts _ m_294) (fun _ h9 => h9) rfl dX5_feed_79 ?_
            refine lv_aload_n hx hb dX5_feed_82 rfl (lv_at hl 1 rfl) ?_
            refine va_get (D := (dC, dI)) (ci := 5) (v := .int (nI (List.length tp))) (C := RX5) (T := TX5) (N := 13) hx hb hts iX5 hown hK hP 0 rfl rfl 5 (by decide) (hts _ m_289) (fun _ h9 => h9) rfl dX5_feed_83 ?_
            refine lv_iload hx hb dX5_feed_86 (lv_at hl 7 rfl) ?_
            refine lv_iadd hx hb dX5_feed_88 ?_
            refine tI_ (y := nI ((List.length tp) + k)) (nI_add _ _) ?_
            refine lv_iload hx hb dX5_feed_89 (lv_at hl 0 rfl) ?_
            refine lv_bipush (v := nI 24) hx hb dX5_feed_91 (by decide) ?_
            refine lv_bipush (v := nI 8) hx hb dX5_feed_93 (by decide) ?_
            refine lv_iload hx hb dX5_feed_95 (lv_at hl 7 rfl) ?_
            refine lv_iconst (v := nI 4) hx hb dX5_feed_97 (by decide) ?_
            refine lv_irem hx hb dX5_feed_98 (by decide) ?_
            refine tI_ (y := nI (k % 4)) (pk_rem (by omega) (by decide) (by decide)) ?_
            refine lv_imul hx hb dX5_feed_99 ?_
            refine tI_ (y := nI (8 * (k % 4))) (pk_mul _ _) ?_
            refine lv_isub hx hb dX5_feed_100 ?_
            refine tI_ (y := nI (24 - (8 * (k % 4)))) (pk_sub (by omega)) ?_
            refine lv_ishr hx hb dX5_feed_101 ?_
            refine lv_sipush (v := nI 255) hx hb dX5_feed_102 (by decide) ?_
            refine lv_iand hx hb dX5_feed_105 ?_
            refine tI_ (y := nI (fb5 a1 a2 a3 a4 a5 k)) (by unfold fb5; rw [hp5]; exact sar_and _ (by omega)) ?_
            refine va_iast hx hb hK hP hD hS 1 0 rfl rfl (vp_in_nI (by omega) (by omega)) dX5_feed_106 (fun H locs hP hD hS => ?_)
            rw [nI_clamp (n := ((List.length tp) + k)) (by omega)] at hP hD
            have hP : va_P (dC, dI) vwCl [(mo, .inr (5, [.int (nI 0), .ref q1, .ref q2, .int z3, .int z4, .int (nI (List.length tp)), .int z6, .int z7, .int z8, .int z9, .ref q3, .ref q4, .ref q5])), (q3, .inl (c3, 8192, .inl (upd u ((List.length tp) + k) (nI (fb5 a1 a2 a3 a4 a5 k)))))] H := hP
            have hD : va_D A [(mo, .inr (5, [.int (nI 0), .ref q1, .ref q2, .int z3, .int z4, .int (nI (List.length tp)), .int z6, .int z7, .int z8, .int z9, .ref q3, .ref q4, .ref q5])), (q3, .inl (c3, 8192, .inl (upd u ((List.length tp) + k) (nI (fb5 a1 a2 a3 a4 a5 k)))))] := hD
            refine lv_iinc (v := nI (k + 1)) (lv' := [(6, .int (nI (k + 1))), (7, .int a3), (0, .ref mo), (1, .int a1), (2, .int a2), (3, .int a3), (4, .int a4), (5, .int a5)]) hx hb dX5_feed_107 hl (k := 7) rfl (ii_add (c := 1) (k := 1) k (by decide)) (by decide) rfl (fun ls hl => ?_)
            refine lv_goto (tgt := 23) hx hb dX5_feed_110 (by decide) ?_
            exact ih ((k + 1, upd u (tp.length + k) (nI (fb5 a1 a2 a3 a4 a5 k)))) _ _ _ ⟨by omega, fun q hq => by rw [pk_un (by omega)]; exact hu1 q hq, fun q hq => by
              by_cases hqk : q = k
              · subst hqk; exact pk_us
              · rw [pk_un (by omega)]; exact hu2 q (by omega), hP.sub [0, 1] rfl, hD.sub [0, 1] (by decide) rfl, hS, lv_sub hl [2, 3, 4, 5, 6, 7, 0] rfl⟩ (by show 20 - (k + 1) < 20 - k; omega)
        · rw [nI_leI (a := 8) (b := k) (by omega) (by omega)] at c_44
          have hp5 : pk5 a1 a2 a3 a4 a5 k = a2 := by unfold pk5; rw [if_neg (by omega), if_pos (by omega)]
          refine lv_iload_n hx hb dX5_feed_47 rfl (lv_at hl 2 rfl) ?_
          refine lv_goto (tgt := 76) hx hb dX5_feed_48 (by decide) ?_
          refine lv_istore (lv' := [(7, .int a2), (0, .ref mo), (1, .int a1), (2, .int a2), (3, .int a3), (4, .int a4), (5, .int a5), (6, .int (nI k))]) hx hb dX5_feed_76 hl (by decide) rfl (fun ls hl => ?_)
          refine lv_aload_n hx hb dX5_feed_78 rfl (lv_at hl 1 rfl) ?_
          refine va_get (D := (dC, dI)) (ci := 5) (v := .ref q3) (C := RX5) (T := TX5) (N := 13) hx hb hts iX5 hown hK hP 0 rfl rfl 10 (by decide) (hts _ m_294) (fun _ h9 => h9) rfl dX5_feed_79 ?_
          refine lv_aload_n hx hb dX5_feed_82 rfl (lv_at hl 1 rfl) ?_
          refine va_get (D := (dC, dI)) (ci := 5) (v := .int (nI (List.length tp))) (C := RX5) (T := TX5) (N := 13) hx hb hts iX5 hown hK hP 0 rfl rfl 5 (by decide) (hts _ m_289) (fun _ h9 => h9) rfl dX5_feed_83 ?_
          refine lv_iload hx hb dX5_feed_86 (lv_at hl 7 rfl) ?_
          refine lv_iadd hx hb dX5_feed_88 ?_
          refine tI_ (y := nI ((List.length tp) + k)) (nI_add _ _) ?_
          refine lv_iload hx hb dX5_feed_89 (lv_at hl 0 rfl) ?_
          refine lv_bipush (v := nI 24) hx hb dX5_feed_91 (by decide) ?_
          refine lv_bipush (v := nI 8) hx hb dX5_feed_93 (by decide) ?_
          refine lv_iload hx hb dX5_feed_95 (lv_at hl 7 rfl) ?_
          refine lv_iconst (v := nI 4) hx hb dX5_feed_97 (by decide) ?_
          refine lv_irem hx hb dX5_feed_98 (by decide) ?_
          refine tI_ (y := nI (k % 4)) (pk_rem (by omega) (by decide) (by decide)) ?_
          refine lv_imul hx hb dX5_feed_99 ?_
          refine tI_ (y := nI (8 * (k % 4))) (pk_mul _ _) ?_
          refine lv_isub hx hb dX5_feed_100 ?_
          refine tI_ (y := nI (24 - (8 * (k % 4)))) (pk_sub (by omega)) ?_
          refine lv_ishr hx hb dX5_feed_101 ?_
          refine lv_sipush (v := nI 255) hx hb dX5_feed_102 (by decide) ?_
          refine lv_iand hx hb dX5_feed_105 ?_
          refine tI_ (y := nI (fb5 a1 a2 a3 a4 a5 k)) (by unfold fb5; rw [hp5]; exact sar_and _ (by omega)) ?_
          refine va_iast hx hb hK hP hD hS 1 0 rfl rfl (vp_in_nI (by omega) (by omega)) dX5_feed_106 (fun H locs hP hD hS => ?_)
          rw [nI_clamp (n := ((List.length tp) + k)) (by omega)] at hP hD
          have hP : va_P (dC, dI) vwCl [(mo, .inr (5, [.int (nI 0), .ref q1, .ref q2, .int z3, .int z4, .int (nI (List.length tp)), .int z6, .int z7, .int z8, .int z9, .ref q3, .ref q4, .ref q5])), (q3, .inl (c3, 8192, .inl (upd u ((List.length tp) + k) (nI (fb5 a1 a2 a3 a4 a5 k)))))] H := hP
          have hD : va_D A [(mo, .inr (5, [.int (nI 0), .ref q1, .ref q2, .int z3, .int z4, .int (nI (List.length tp)), .int z6, .int z7, .int z8, .int z9, .ref q3, .ref q4, .ref q5])), (q3, .inl (c3, 8192, .inl (upd u ((List.length tp) + k) (nI (fb5 a1 a2 a3 a4 a5 k)))))] := hD
          refine lv_iinc (v := nI (k + 1)) (lv' := [(6, .int (nI (k + 1))), (7, .int a2), (0, .ref mo), (1, .int a1), (2, .int a2), (3, .int a3), (4, .int a4), (5, .int a5)]) hx hb dX5_feed_107 hl (k := 7) rfl (ii_add (c := 1) (k := 1) k (by decide)) (by decide) rfl (fun ls hl => ?_)
          refine lv_goto (tgt := 23) hx hb dX5_feed_110 (by decide) ?_
          exact ih ((k + 1, upd u (tp.length + k) (nI (fb5 a1 a2 a3 a4 a5 k)))) _ _ _ ⟨by omega, fun q hq => by rw [pk_un (by omega)]; exact hu1 q hq, fun q hq => by
            by_cases hqk : q = k
            · subst hqk; exact pk_us
            · rw [pk_un (by omega)]; exact hu2 q (by omega), hP.sub [0, 1] rfl, hD.sub [0, 1] (by decide) rfl, hS, lv_sub hl [2, 3, 4, 5, 6, 7, 0] rfl⟩ (by show 20 - (k + 1) < 20 - k; omega)
      · rw [nI_leI (a := 4) (b := k) (by omega) (by omega)] at c_33
        have hp5 : pk5 a1 a2 a3 a4 a5 k = a1 := by unfold pk5; rw [if_pos (by omega)]
        refine lv_iload_n hx hb dX5_feed_36 rfl (lv_at hl 1 rfl) ?_
        refine lv_goto (tgt := 76) hx hb dX5_feed_37 (by decide) ?_
        refine lv_istore (lv' := [(7, .int a1), (0, .ref mo), (1, .int a1), (2, .int a2), (3, .int a3), (4, .int a4), (5, .int a5), (6, .int (nI k))]) hx hb dX5_feed_76 hl (by decide) rfl (fun ls hl => ?_)
        refine lv_aload_n hx hb dX5_feed_78 rfl (lv_at hl 1 rfl) ?_
        refine va_get (D := (dC, dI)) (ci := 5) (v := .ref q3) (C := RX5) (T := TX5) (N := 13) hx hb hts iX5 hown hK hP 0 rfl rfl 10 (by decide) (hts _ m_294) (fun _ h9 => h9) rfl dX5_feed_79 ?_
        refine lv_aload_n hx hb dX5_feed_82 rfl (lv_at hl 1 rfl) ?_
        refine va_get (D := (dC, dI)) (ci := 5) (v := .int (nI (List.length tp))) (C := RX5) (T := TX5) (N := 13) hx hb hts iX5 hown hK hP 0 rfl rfl 5 (by decide) (hts _ m_289) (fun _ h9 => h9) rfl dX5_feed_83 ?_
        refine lv_iload hx hb dX5_feed_86 (lv_at hl 7 rfl) ?_
        refine lv_iadd hx hb dX5_feed_88 ?_
        refine tI_ (y := nI ((List.length tp) + k)) (nI_add _ _) ?_
        refine lv_iload hx hb dX5_feed_89 (lv_at hl 0 rfl) ?_
        refine lv_bipush (v := nI 24) hx hb dX5_feed_91 (by decide) ?_
        refine lv_bipush (v := nI 8) hx hb dX5_feed_93 (by decide) ?_
        refine lv_iload hx hb dX5_feed_95 (lv_at hl 7 rfl) ?_
        refine lv_iconst (v := nI 4) hx hb dX5_feed_97 (by decide) ?_
        refine lv_irem hx hb dX5_feed_98 (by decide) ?_
        refine tI_ (y := nI (k % 4)) (pk_rem (by omega) (by decide) (by decide)) ?_
        refine lv_imul hx hb dX5_feed_99 ?_
        refine tI_ (y := nI (8 * (k % 4))) (pk_mul _ _) ?_
        refine lv_isub hx hb dX5_feed_100 ?_
        refine tI_ (y := nI (24 - (8 * (k % 4)))) (pk_sub (by omega)) ?_
        refine lv_ishr hx hb dX5_feed_101 ?_
        refine lv_sipush (v := nI 255) hx hb dX5_feed_102 (by decide) ?_
        refine lv_iand hx hb dX5_feed_105 ?_
        refine tI_ (y := nI (fb5 a1 a2 a3 a4 a5 k)) (by unfold fb5; rw [hp5]; exact sar_and _ (by omega)) ?_
        refine va_iast hx hb hK hP hD hS 1 0 rfl rfl (vp_in_nI (by omega) (by omega)) dX5_feed_106 (fun H locs hP hD hS => ?_)
        rw [nI_clamp (n := ((List.length tp) + k)) (by omega)] at hP hD
        have hP : va_P (dC, dI) vwCl [(mo, .inr (5, [.int (nI 0), .ref q1, .ref q2, .int z3, .int z4, .int (nI (List.length tp)), .int z6, .int z7, .int z8, .int z9, .ref q3, .ref q4, .ref q5])), (q3, .inl (c3, 8192, .inl (upd u ((List.length tp) + k) (nI (fb5 a1 a2 a3 a4 a5 k)))))] H := hP
        have hD : va_D A [(mo, .inr (5, [.int (nI 0), .ref q1, .ref q2, .int z3, .int z4, .int (nI (List.length tp)), .int z6, .int z7, .int z8, .int z9, .ref q3, .ref q4, .ref q5])), (q3, .inl (c3, 8192, .inl (upd u ((List.length tp) + k) (nI (fb5 a1 a2 a3 a4 a5 k)))))] := hD
        refine lv_iinc (v := nI (k + 1)) (lv' := [(6, .int (nI (k + 1))), (7, .int a1), (0, .ref mo), (1, .int a1), (2, .int a2), (3, .int a3), (4, .int a4), (5, .int a5)]) hx hb dX5_feed_107 hl (k := 7) rfl (ii_add (c := 1) (k := 1) k (by decide)) (by decide) rfl (fun ls hl => ?_)
        refine lv_goto (tgt := 23) hx hb dX5_feed_110 (by decide) ?_
        exact ih ((k + 1, upd u (tp.length + k) (nI (fb5 a1 a2 a3 a4 a5 k)))) _ _ _ ⟨by omega, fun q hq => by rw [pk_un (by omega)]; exact hu1 q hq, fun q hq => by
          by_cases hqk : q = k
          · subst hqk; exact pk_us
          · rw [pk_un (by omega)]; exact hu2 q (by omega), hP.sub [0, 1] rfl, hD.sub [0, 1] (by decide) rfl, hS, lv_sub hl [2, 3, 4, 5, 6, 7, 0] rfl⟩ (by show 20 - (k + 1) < 20 - k; omega)
  · rw [nI_leI (a := ((List.length tp) + 20)) (b := 8192) (by omega) (by omega)] at c_15
    refine lv_iconst (v := nI 0) hx hb dX5_feed_18 (by decide) ?_
    exact kend_i hx hb hr hlocks dX5_feed_19 (rfl) hK hP hD hS ((f3, tp)) (⟨hf, Or.inl ⟨by omega, rfl, rfl⟩⟩) [0, 1] [0] rfl (by decide) rfl

set_option maxHeartbeats 4000000 in
set_option maxRecDepth 100000 in
/-- end -/
theorem m_end (l : Launch) (dC : Nat → ClassId) (dI : Nat → Nat → Nat) (sz : Nat) (mo q1 q2 q3 q4 q5 : Nat) (cd z3 z4 z7 z8 z9 : Int32) (c3 : ClassId) (f3 : Nat → Int32) (tp : List Nat) (c4 : ClassId) (f4 : Nat → Int32) (inp : List Nat) (x : Int32) (hf : mB f3 tp) (hn : tp.length ≤ 8192) (hf4 : mB f4 inp) : Met l yX5_end wsX5_end ({ frames := 0, cells := 0, slots := 0, locals := 0 }) (va_Pc [.ref mo, .int x] (kB (dC, dI) vwCl [(c3, .int), (c4, .int)] [(mo, .inr (5, [.int cd, .ref q1, .ref q2, .int z3, .int z4, .int (nI (List.length tp)), .int (nI (List.length inp)), .int z7, .int z8, .int z9, .ref q3, .ref q4, .ref q5])), (q3, .inl (c3, 8192, .inl f3)), (q4, .inl (c4, 8192, .inl f4))] sz)) (va_Qi (fun r (u : (Nat → Int32) × List Nat × List Nat) => mB u.1 u.2.1 ∧ ((r = nI 0 ∧ bec 8192 inp tp x 0 u.2.1 ∧ u.2.2 = tp) ∨ (r = nI 1 ∧ bec 8192 inp tp x 1 u.2.1 ∧ u.2.2 = []))) (kE (dC, dI) vwCl (va_A [(mo, .inr (5, [.int cd, .ref q1, .ref q2, .int z3, .int z4, .int (nI (List.length tp)), .int (nI (List.length inp)), .int z7, .int z8, .int z9, .ref q3, .ref q4, .ref q5])), (q3, .inl (c3, 8192, .inl f3)), (q4, .inl (c4, 8192, .inl f4))] sz) (fun _ => [(c3, .int), (c4, .int)]) (fun u => [(mo, .inr (5, [.int (nI 0), .ref q1, .ref q2, .int z3, .int z4, .int (nI (List.length u.2.2)), .int (nI (List.length u.2.1)), .int z7, .int z8, .int z9, .ref q3, .ref q4, .ref q5])), (q3, .inl (c3, 8192, .inl f3)), (q4, .inl (c4, 8192, .inl u.1))])) (va_A [(mo, .inr (5, [.int cd, .ref q1, .ref q2, .int z3, .int z4, .int (nI (List.length tp)), .int (nI (List.length inp)), .int z7, .int z8, .int z9, .ref q3, .ref q4, .ref q5])), (q3, .inl (c3, 8192, .inl f3)), (q4, .inl (c4, 8192, .inl f4))] sz)) 0 0 (va_A [(mo, .inr (5, [.int cd, .ref q1, .ref q2, .int z3, .int z4, .int (nI (List.length tp)), .int (nI (List.length inp)), .int z7, .int z8, .int z9, .ref q3, .ref q4, .ref q5])), (q3, .inl (c3, 8192, .inl f3)), (q4, .inl (c4, 8192, .inl f4))] sz) := by
  refine Met.ofW (cc := cX5_end) (maxL := 3) (ret := (some .boolean)) (by decide) rfl ?_
  intro p e s m args below meth c s₁ B hml hv
  obtain ⟨rfl, hsz, hP, hK, hD0, hNs⟩ := hv
  have hx := B.exec
  have hb := B.bytes
  have hr := B.returns
  have hts := fun w (h : w ∈ lw_g) => atoms_spec (ws := wsX5_end) B.pre w (List.mem_cons_of_mem _ h)
  have hown : s.vm.findClass RX5 = some m.cls := findClass_of_methodNamed B.named
  have hlocks := B.notSynchronized
  subst hsz
  have hD := hD0.self (sz := s.heap.size)
  generalize hAe : va_A [(mo, .inr (5, [.int cd, .ref q1, .ref q2, .int z3, .int z4, .int (nI (List.length tp)), .int (nI (List.length inp)), .int z7, .int z8, .int z9, .ref q3, .ref q4, .ref q5])), (q3, .inl (c3, 8192, .inl f3)), (q4, .inl (c4, 8192, .inl f4))] s.heap.size = A at hD ⊢
  have hA : ∀ q : Nat, s.heap.size ≤ q → A q := fun q h => by rw [← hAe]; exact Or.inr h
  have hS : va_S A s.heap s.heap [] := va_S.rf
  have hP : va_P (dC, dI) vwCl [(mo, .inr (5, [.int cd, .ref q1, .ref q2, .int z3, .int z4, .int (nI (List.length tp)), .int (nI (List.length inp)), .int z7, .int z8, .int z9, .ref q3, .ref q4, .ref q5])), (q3, .inl (c3, 8192, .inl f3)), (q4, .inl (c4, 8192, .inl f4))] s.heap := hP
  have hl := lv_entry ([.ref mo, .int x]) (n := 3) (Nat.le_of_ble_eq_true rfl)
  rw [lg_entry_eq]
  generalize (lg_sl ([.ref mo, .int x]) ++ List.replicate (3 - (lg_sl ([.ref mo, .int x])).length) Slot.unset).toArray = ls at hl ⊢
  have hl : lv_has ls 3 [(0, .ref mo), (1, .int x)] := hl
  refine lv_aload_n hx hb dX5_end_0 rfl (lv_at hl 0 rfl) ?_
  refine lv_iconst (v := nI 0) hx hb dX5_end_1 (by decide) ?_
  refine va_put (D := (dC, dI)) (ci := 5) (v := .int (nI 0)) (ty := .int) (C := RX5) (T := TX5) (N := 13) hx hb hts iX5 tyX5 tyX5_ok nmX5 hown hK hP hD hS 0 rfl rfl 0 (by decide) (hts _ m_284) (fun _ h9 => h9) rfl (by decide +kernel) rfl rfl (Nat.le_of_ble_eq_true rfl) dX5_end_2 (fun H locs hP hD hS => ?_)
  have hP : va_P (dC, dI) vwCl [(mo, .inr (5, [.int (nI 0), .ref q1, .ref q2, .int z3, .int z4, .int (nI (List.length tp)), .int (nI (List.length inp)), .int z7, .int z8, .int z9, .ref q3, .ref q4, .ref q5])), (q3, .inl (c3, 8192, .inl f3)), (q4, .inl (c4, 8192, .inl f4))] H := hP
  have hD : va_D A [(mo, .inr (5, [.int (nI 0), .ref q1, .ref q2, .int z3, .int z4, .int (nI (List.length tp)), .int (nI (List.length inp)), .int z7, .int z8, .int z9, .ref q3, .ref q4, .ref q5])), (q3, .inl (c3, 8192, .inl f3)), (q4, .inl (c4, 8192, .inl f4))] := hD
  refine lv_iload_n hx hb dX5_end_5 rfl (lv_at hl 1 rfl) ?_
  refine lv_if_lt (tgt := 17) hx hb dX5_end_6 (by decide) (fun c_6 => ?_) (fun c_6 => ?_)
  · refine lv_iconst (v := nI 0) hx hb dX5_end_17 (by decide) ?_
    exact kend_i hx hb hr hlocks dX5_end_18 (rfl) hK hP hD hS ((f4, inp, tp)) (⟨hf4, Or.inl ⟨rfl, bec_no (Or.inl c_6), rfl⟩⟩) [0, 1, 2] [0, 1] rfl (by decide) rfl
  · refine lv_iload_n hx hb dX5_end_9 rfl (lv_at hl 1 rfl) ?_
    refine lv_aload_n hx hb dX5_end_10 rfl (lv_at hl 0 rfl) ?_
    refine va_get (D := (dC, dI)) (ci := 5) (v := .int (nI (List.length tp))) (C := RX5) (T := TX5) (N := 13) hx hb hts iX5 hown hK hP 0 rfl rfl 5 (by decide) (hts _ m_289) (fun _ h9 => h9) rfl dX5_end_11 ?_
    refine lv_icmp_le (tgt := 19) hx hb dX5_end_14 (by decide) (fun c_14 => ?_) (fun c_14 => ?_)
    · obtain ⟨j, hj, rfl⟩ := nI_of c_6
      rw [nI_leI (by omega) (by omega)] at c_14
      refine lv_iconst (v := nI 0) hx hb dX5_end_19 (by decide) ?_
      refine lv_istore_n (lv' := [(2, .int (nI 0)), (0, .ref mo), (1, .int (nI j))]) hx hb dX5_end_20 rfl hl (by decide) rfl (fun ls hl => ?_)
      refine k_loop (σ := Nat × (Nat → Int32)) (fun (z : Nat × (Nat → Int32)) H locs ls => match z with
            | (k, u) => k ≤ j ∧ (∀ q, q < k → u q = f3 q) ∧ va_P (dC, dI) vwCl [(mo, .inr (5, [.int (nI 0), .ref q1, .ref q2, .int z3, .int z4, .int (nI (List.length tp)), .int (nI (List.length inp)), .int z7, .int z8, .int z9, .ref q3, .ref q4, .ref q5])), (q3, .inl (c3, 8192, .inl f3)), (q4, .inl (c4, 8192, .inl u))] H ∧ va_D A [(mo, .inr (5, [.int (nI 0), .ref q1, .ref q2, .int z3, .int z4, .int (nI (List.length tp)), .int (nI (List.length inp)), .int z7, .int z8, .int z9, .ref q3, .ref q4, .ref q5])), (q3, .inl (c3, 8192, .inl f3)), (q4, .inl (c4, 8192, .inl u))] ∧ va_S A s.heap H locs ∧ lv_has ls 3 [(0, .ref mo), (1, .int (nI j)), (2, .int (nI k))]) (fun z => match z with
            | (k, u) => j - k) ?_ ((0, f4)) _ _ _ ⟨Nat.zero_le _, fun q h => absurd h (Nat.not_lt_zero q), hP.sub [0, 1, 2] rfl, hD.sub [0, 1, 2] (by decide) rfl, hS, lv_sub hl [1, 2, 0] rfl⟩
      intro z H locs ls hI ih
      obtain ⟨k, u⟩ := z
      obtain ⟨hk, hu, hP, hD, hS, hl⟩ := hI
      refine lv_iload_n hx hb dX5_end_21 rfl (lv_at hl 2 rfl) ?_
      refine lv_iload_n hx hb dX5_end_22 rfl (lv_at hl 1 rfl) ?_
      refine lv_icmp_ge (tgt := 44) hx hb dX5_end_23 (by decide) (fun c_23 => ?_) (fun c_23 => ?_)
      · rw [nI_leI (a := j) (b := k) (by omega) (by omega)] at c_23
        obtain rfl : j = k := by omega
        refine lv_aload_n hx hb dX5_end_44 rfl (lv_at hl 0 rfl) ?_
        refine lv_iload_n hx hb dX5_end_45 rfl (lv_at hl 1 rfl) ?_
        refine tI_ (y := nI (List.length (tp.take j))) (by rw [List.length_take, Nat.min_eq_left c_14]) ?_
        refine va_put (D := (dC, dI)) (ci := 5) (v := .int (nI (List.length (tp.take j)))) (ty := .int) (C := RX5) (T := TX5) (N := 13) hx hb hts iX5 tyX5 tyX5_ok nmX5 hown hK hP hD hS 0 rfl rfl 6 (by decide) (hts _ m_290) (fun _ h9 => h9) rfl (by decide +kernel) rfl rfl (Nat.le_of_ble_eq_true rfl) dX5_end_46 (fun H locs hP hD hS => ?_)
        have hP : va_P (dC, dI) vwCl [(mo, .inr (5, [.int (nI 0), .ref q1, .ref q2, .int z3, .int z4, .int (nI (List.length tp)), .int (nI (List.length (tp.take j))), .int z7, .int z8, .int z9, .ref q3, .ref q4, .ref q5])), (q3, .inl (c3, 8192, .inl f3)), (q4, .inl (c4, 8192, .inl u))] H := hP
        have hD : va_D A [(mo, .inr (5, [.int (nI 0), .ref q1, .ref q2, .int z3, .int z4, .int (nI (List.length tp)), .int (nI (List.length (tp.take j))), .int z7, .int z8, .int z9, .ref q3, .ref q4, .ref q5])), (q3, .inl (c3, 8192, .inl f3)), (q4, .inl (c4, 8192, .inl u))] := hD
        refine lv_aload_n hx hb dX5_end_49 rfl (lv_at hl 0 rfl) ?_
        refine lv_iconst (v := nI 0) hx hb dX5_end_50 (by decide) ?_
        refine va_put (D := (dC, dI)) (ci := 5) (v := .int (nI 0)) (ty := .int) (C := RX5) (T := TX5) (N := 13) hx hb hts iX5 tyX5 tyX5_ok nmX5 hown hK hP hD hS 0 rfl rfl 5 (by decide) (hts _ m_289) (fun _ h9 => h9) rfl (by decide +kernel) rfl rfl (Nat.le_of_ble_eq_true rfl) dX5_end_51 (fun H locs hP hD hS => ?_)
        have hP : va_P (dC, dI) vwCl [(mo, .inr (5, [.int (nI 0), .ref q1, .ref q2, .int z3, .int z4, .int (nI 0), .int (nI (List.length (tp.take j))), .int z7, .int z8, .int z9, .ref q3, .ref q4, .ref q5])), (q3, .inl (c3, 8192, .inl f3)), (q4, .inl (c4, 8192, .inl u))] H := hP
        have hD : va_D A [(mo, .inr (5, [.int (nI 0), .ref q1, .ref q2, .int z3, .int z4, .int (nI 0), .int (nI (List.length (tp.take j))), .int z7, .int z8, .int z9, .ref q3, .ref q4, .ref q5])), (q3, .inl (c3, 8192, .inl f3)), (q4, .inl (c4, 8192, .inl u))] := hD
        refine lv_iconst (v := nI 1) hx hb dX5_end_54 (by decide) ?_
        exact kend_i hx hb hr hlocks dX5_end_55 (rfl) hK hP hD hS ((u, tp.take j, [])) (⟨mB_take hf c_14 hu, Or.inr ⟨rfl, bec_yes c_14 (by omega) (by omega), rfl⟩⟩) [0, 1, 2] [0, 1] rfl (by decide) rfl
      · rw [nI_leI (a := j) (b := k) (by omega) (by omega)] at c_23
        refine lv_aload_n hx hb dX5_end_26 rfl (lv_at hl 0 rfl) ?_
        refine va_get (D := (dC, dI)) (ci := 5) (v := .ref q4) (C := RX5) (T := TX5) (N := 13) hx hb hts iX5 hown hK hP 0 rfl rfl 11 (by decide) (hts _ m_295) (fun _ h9 => h9) rfl dX5_end_27 ?_
        refine lv_iload_n hx hb dX5_end_30 rfl (lv_at hl 2 rfl) ?_
        refine lv_aload_n hx hb dX5_end_31 rfl (lv_at hl 0 rfl) ?_
        refine va_get (D := (dC, dI)) (ci := 5) (v := .ref q3) (C := RX5) (T := TX5) (N := 13) hx hb hts iX5 hown hK hP 0 rfl rfl 10 (by decide) (hts _ m_294) (fun _ h9 => h9) rfl dX5_end_32 ?_
        refine lv_iload_n hx hb dX5_end_35 rfl (lv_at hl 2 rfl) ?_
        refine va_iald hx hb hK hP 1 0 rfl rfl (vp_in_nI (by omega) (by omega)) dX5_end_36 ?_
        refine tI_ (y := f3 k) (congrArg f3 (nI_clamp (by omega))) ?_
        refine va_iast hx hb hK hP hD hS 2 1 rfl rfl (vp_in_nI (by omega) (by omega)) dX5_end_37 (fun H locs hP hD hS => ?_)
        rw [nI_clamp (n := k) (by omega)] at hP hD
        have hP : va_P (dC, dI) vwCl [(mo, .inr (5, [.int (nI 0), .ref q1, .ref q2, .int z3, .int z4, .int (nI (List.length tp)), .int (nI (List.length inp)), .int z7, .int z8, .int z9, .ref q3, .ref q4, .ref q5])), (q3, .inl (c3, 8192, .inl f3)), (q4, .inl (c4, 8192, .inl (upd u k (f3 k))))] H := hP
        have hD : va_D A [(mo, .inr (5, [.int (nI 0), .ref q1, .ref q2, .int z3, .int z4, .int (nI (List.length tp)), .int (nI (List.length inp)), .int z7, .int z8, .int z9, .ref q3, .ref q4, .ref q5])), (q3, .inl (c3, 8192, .inl f3)), (q4, .inl (c4, 8192, .inl (upd u k (f3 k))))] := hD
        refine lv_iinc (v := nI (k + 1)) (lv' := [(2, .int (nI (k + 1))), (0, .ref mo), (1, .int (nI j))]) hx hb dX5_end_38 hl (k := 2) rfl (ii_add (c := 1) (k := 1) k (by decide)) (by decide) rfl (fun ls hl => ?_)
        refine lv_goto (tgt := 21) hx hb dX5_end_41 (by decide) ?_
        exact ih ((k + 1, upd u k (f3 k))) _ _ _ ⟨by omega, fun q hq => by
          by_cases hqk : q = k
          · subst hqk; exact pk_us
          · rw [pk_un hqk]; exact hu q (by omega), hP.sub [0, 1, 2] rfl, hD.sub [0, 1, 2] (by decide) rfl, hS, lv_sub hl [1, 2, 0] rfl⟩ (by show j - (k + 1) < j - k; omega)
    · refine lv_iconst (v := nI 0) hx hb dX5_end_17 (by decide) ?_
      exact kend_i hx hb hr hlocks dX5_end_18 (rfl) hK hP hD hS ((f4, inp, tp)) (⟨hf4, Or.inl ⟨rfl, bec_no (Or.inr (Or.inl (Int32.not_le.mp c_14))), rfl⟩⟩) [0, 1, 2] [0, 1] rfl (by decide) rfl

set_option maxHeartbeats 4000000 in
set_option maxRecDepth 100000 in
/-- width -/
theorem m_width (l : Launch) (dC : Nat → ClassId) (dI : Nat → Nat → Nat) (sz : Nat) (mo q1 q2 q3 q4 q5 : Nat) (cd z3 z5 z6 z7 z8 z9 : Int32) (wd : Nat) (x : Int32)  : Met l yX5_width wsX5_width ({ frames := 0, cells := 0, slots := 0, locals := 0 }) (va_Pc [.ref mo, .int x] (kB (dC, dI) vwCl [] [(mo, .inr (5, [.int cd, .ref q1, .ref q2, .int z3, .int (nI wd), .int z5, .int z6, .int z7, .int z8, .int z9, .ref q3, .ref q4, .ref q5]))] sz)) (va_Qi (fun r (u : Nat) => ((x < 0 ∨ nI 32 < x) ∧ r = nI 0 ∧ u = wd) ∨ (¬ (x < 0 ∨ nI 32 < x) ∧ r = nI 1 ∧ u = x.toNatClampNeg)) (kE (dC, dI) vwCl (va_A [(mo, .inr (5, [.int cd, .ref q1, .ref q2, .int z3, .int (nI wd), .int z5, .int z6, .int z7, .int z8, .int z9, .ref q3, .ref q4, .ref q5]))] sz) (fun _ => []) (fun u => [(mo, .inr (5, [.int (nI 0), .ref q1, .ref q2, .int z3, .int (nI u), .int z5, .int z6, .int z7, .int z8, .int z9, .ref q3, .ref q4, .ref q5]))])) (va_A [(mo, .inr (5, [.int cd, .ref q1, .ref q2, .int z3, .int (nI wd), .int z5, .int z6, .int z7, .int z8, .int z9, .ref q3, .ref q4, .ref q5]))] sz)) 0 0 (va_A [(mo, .inr (5, [.int cd, .ref q1, .ref q2, .int z3, .int (nI wd), .int z5, .int z6, .int z7, .int z8, .int z9, .ref q3, .ref q4, .ref q5]))] sz) := by
  refine Met.ofW (cc := cX5_width) (maxL := 2) (ret := (some .boolean)) (by decide) rfl ?_
  intro p e s m args below meth c s₁ B hml hv
  obtain ⟨rfl, hsz, hP, hK, hD0, hNs⟩ := hv
  have hx := B.exec
  have hb := B.bytes
  have hr := B.returns
  have hts := fun w (h : w ∈ lw_g) => atoms_spec (ws := wsX5_width) B.pre w (List.mem_cons_of_mem _ h)
  have hown : s.vm.findClass RX5 = some m.cls := findClass_of_methodNamed B.named
  have hlocks := B.notSynchronized
  subst hsz
  have hD := hD0.self (sz := s.heap.size)
  generalize hAe : va_A [(mo, .inr (5, [.int cd, .ref q1, .ref q2, .int z3, .int (nI wd), .int z5, .int z6, .int z7, .int z8, .int z9, .ref q3, .ref q4, .ref q5]))] s.heap.size = A at hD ⊢
  have hA : ∀ q : Nat, s.heap.size ≤ q → A q := fun q h => by rw [← hAe]; exact Or.inr h
  have hS : va_S A s.heap s.heap [] := va_S.rf
  have hP : va_P (dC, dI) vwCl [(mo, .inr (5, [.int cd, .ref q1, .ref q2, .int z3, .int (nI wd), .int z5, .int z6, .int z7, .int z8, .int z9, .ref q3, .ref q4, .ref q5]))] s.heap := hP
  have hl := lv_entry ([.ref mo, .int x]) (n := 2) (Nat.le_of_ble_eq_true rfl)
  rw [lg_entry_eq]
  generalize (lg_sl ([.ref mo, .int x]) ++ List.replicate (2 - (lg_sl ([.ref mo, .int x])).length) Slot.unset).toArray = ls at hl ⊢
  have hl : lv_has ls 2 [(0, .ref mo), (1, .int x)] := hl
  refine lv_aload_n hx hb dX5_width_0 rfl (lv_at hl 0 rfl) ?_
  refine lv_iconst (v := nI 0) hx hb dX5_width_1 (by decide) ?_
  refine va_put (D := (dC, dI)) (ci := 5) (v := .int (nI 0)) (ty := .int) (C := RX5) (T := TX5) (N := 13) hx hb hts iX5 tyX5 tyX5_ok nmX5 hown hK hP hD hS 0 rfl rfl 0 (by decide) (hts _ m_284) (fun _ h9 => h9) rfl (by decide +kernel) rfl rfl (Nat.le_of_ble_eq_true rfl) dX5_width_2 (fun H locs hP hD hS => ?_)
  have hP : va_P (dC, dI) vwCl [(mo, .inr (5, [.int (nI 0), .ref q1, .ref q2, .int z3, .int (nI wd), .int z5, .int z6, .int z7, .int z8, .int z9, .ref q3, .ref q4, .ref q5]))] H := hP
  have hD : va_D A [(mo, .inr (5, [.int (nI 0), .ref q1, .ref q2, .int z3, .int (nI wd), .int z5, .int z6, .int z7, .int z8, .int z9, .ref q3, .ref q4, .ref q5]))] := hD
  refine lv_iload_n hx hb dX5_width_5 rfl (lv_at hl 1 rfl) ?_
  refine lv_if_lt (tgt := 15) hx hb dX5_width_6 (by decide) (fun c_6 => ?_) (fun c_6 => ?_)
  · refine lv_iconst (v := nI 0) hx hb dX5_width_15 (by decide) ?_
    exact kend_i hx hb hr hlocks dX5_width_16 (rfl) hK hP hD hS (wd) (Or.inl ⟨Or.inl c_6, rfl, rfl⟩) [0] [] rfl (by decide) rfl
  · refine lv_iload_n hx hb dX5_width_9 rfl (lv_at hl 1 rfl) ?_
    refine lv_bipush (v := nI 32) hx hb dX5_width_10 (by decide) ?_
    refine lv_icmp_le (tgt := 17) hx hb dX5_width_12 (by decide) (fun c_12 => ?_) (fun c_12 => ?_)
    · obtain ⟨j, hj, rfl⟩ := nI_of c_6
      rw [nI_leI (by omega) (by decide)] at c_12
      refine lv_aload_n hx hb dX5_width_17 rfl (lv_at hl 0 rfl) ?_
      refine lv_iload_n hx hb dX5_width_18 rfl (lv_at hl 1 rfl) ?_
      refine va_put (D := (dC, dI)) (ci := 5) (v := .int (nI j)) (ty := .int) (C := RX5) (T := TX5) (N := 13) hx hb hts iX5 tyX5 tyX5_ok nmX5 hown hK hP hD hS 0 rfl rfl 4 (by decide) (hts _ m_288) (fun _ h9 => h9) rfl (by decide +kernel) rfl rfl (Nat.le_of_ble_eq_true rfl) dX5_width_19 (fun H locs hP hD hS => ?_)
      have hP : va_P (dC, dI) vwCl [(mo, .inr (5, [.int (nI 0), .ref q1, .ref q2, .int z3, .int (nI j), .int z5, .int z6, .int z7, .int z8, .int z9, .ref q3, .ref q4, .ref q5]))] H := hP
      have hD : va_D A [(mo, .inr (5, [.int (nI 0), .ref q1, .ref q2, .int z3, .int (nI j), .int z5, .int z6, .int z7, .int z8, .int z9, .ref q3, .ref q4, .ref q5]))] := hD
      refine lv_iconst (v := nI 1) hx hb dX5_width_22 (by decide) ?_
      exact kend_i hx hb hr hlocks dX5_width_23 (rfl) hK hP hD hS (j) (Or.inr ⟨by rintro (q | q); exact c_6 q; exact nI_nlt (by omega) (by omega) q, rfl, (nI_clamp hj).symm⟩) [0] [] rfl (by decide) rfl
    · refine lv_iconst (v := nI 0) hx hb dX5_width_15 (by decide) ?_
      exact kend_i hx hb hr hlocks dX5_width_16 (rfl) hK hP hD hS (wd) (Or.inl ⟨Or.inr (Int32.not_le.mp c_12), rfl, rfl⟩) [0] [] rfl (by decide) rfl

set_option maxHeartbeats 4000000 in
set_option maxRecDepth 100000 in
/-- add -/
theorem m_add (l : Launch) (dC : Nat → ClassId) (dI : Nat → Nat → Nat) (sz : Nat) (mo q1 q2 q3 q4 q5 : Nat) (cd z4 z5 z6 z7 z8 z9 : Int32) (c1 : ClassId) (f1 : Nat → Int32) (row : List Int32) (v x : Int32) (hf : rHas f1 row) (hn : row.length ≤ 4096) : Met l yX5_add wsX5_add ({ frames := 0, cells := 0, slots := 0, locals := 0 }) (va_Pc [.ref mo, .int v, .int x] (kB (dC, dI) vwCl [(c1, .int)] [(mo, .inr (5, [.int cd, .ref q1, .ref q2, .int (nI (List.length row)), .int z4, .int z5, .int z6, .int z7, .int z8, .int z9, .ref q3, .ref q4, .ref q5])), (q1, .inl (c1, 4096, .inl f1))] sz)) (va_Qi (fun r (u : (Nat → Int32) × List Int32) => rHas u.1 u.2 ∧ app row v x r u.2) (kE (dC, dI) vwCl (va_A [(mo, .inr (5, [.int cd, .ref q1, .ref q2, .int (nI (List.length row)), .int z4, .int z5, .int z6, .int z7, .int z8, .int z9, .ref q3, .ref q4, .ref q5])), (q1, .inl (c1, 4096, .inl f1))] sz) (fun _ => [(c1, .int)]) (fun u => [(mo, .inr (5, [.int (nI 0), .ref q1, .ref q2, .int (nI (List.length u.2)), .int z4, .int z5, .int z6, .int z7, .int z8, .int z9, .ref q3, .ref q4, .ref q5])), (q1, .inl (c1, 4096, .inl u.1))])) (va_A [(mo, .inr (5, [.int cd, .ref q1, .ref q2, .int (nI (List.length row)), .int z4, .int z5, .int z6, .int z7, .int z8, .int z9, .ref q3, .ref q4, .ref q5])), (q1, .inl (c1, 4096, .inl f1))] sz)) 0 0 (va_A [(mo, .inr (5, [.int cd, .ref q1, .ref q2, .int (nI (List.length row)), .int z4, .int z5, .int z6, .int z7, .int z8, .int z9, .ref q3, .ref q4, .ref q5])), (q1, .inl (c1, 4096, .inl f1))] sz) := by
  refine Met.ofW (cc := cX5_add) (maxL := 4) (ret := (some .boolean)) (by decide) rfl ?_
  intro p e s m args below meth c s₁ B hml hv
  obtain ⟨rfl, hsz, hP, hK, hD0, hNs⟩ := hv
  have hx := B.exec
  have hb := B.bytes
  have hr := B.returns
  have hts := fun w (h : w ∈ lw_g) => atoms_spec (ws := wsX5_add) B.pre w (List.mem_cons_of_mem _ h)
  have hown : s.vm.findClass RX5 = some m.cls := findClass_of_methodNamed B.named
  have hlocks := B.notSynchronized
  subst hsz
  have hD := hD0.self (sz := s.heap.size)
  generalize hAe : va_A [(mo, .inr (5, [.int cd, .ref q1, .ref q2, .int (nI (List.length row)), .int z4, .int z5, .int z6, .int z7, .int z8, .int z9, .ref q3, .ref q4, .ref q5])), (q1, .inl (c1, 4096, .inl f1))] s.heap.size = A at hD ⊢
  have hA : ∀ q : Nat, s.heap.size ≤ q → A q := fun q h => by rw [← hAe]; exact Or.inr h
  have hS : va_S A s.heap s.heap [] := va_S.rf
  have hP : va_P (dC, dI) vwCl [(mo, .inr (5, [.int cd, .ref q1, .ref q2, .int (nI (List.length row)), .int z4, .int z5, .int z6, .int z7, .int z8, .int z9, .ref q3, .ref q4, .ref q5])), (q1, .inl (c1, 4096, .inl f1))] s.heap := hP
  have hl := lv_entry ([.ref mo, .int v, .int x]) (n := 4) (Nat.le_of_ble_eq_true rfl)
  rw [lg_entry_eq]
  generalize (lg_sl ([.ref mo, .int v, .int x]) ++ List.replicate (4 - (lg_sl ([.ref mo, .int v, .int x])).length) Slot.unset).toArray = ls at hl ⊢
  have hl : lv_has ls 4 [(0, .ref mo), (1, .int v), (2, .int x)] := hl
  refine lv_aload_n hx hb dX5_add_0 rfl (lv_at hl 0 rfl) ?_
  refine lv_iconst (v := nI 0) hx hb dX5_add_1 (by decide) ?_
  refine va_put (D := (dC, dI)) (ci := 5) (v := .int (nI 0)) (ty := .int) (C := RX5) (T := TX5) (N := 13) hx hb hts iX5 tyX5 tyX5_ok nmX5 hown hK hP hD hS 0 rfl rfl 0 (by decide) (hts _ m_284) (fun _ h9 => h9) rfl (by decide +kernel) rfl rfl (Nat.le_of_ble_eq_true rfl) dX5_add_2 (fun H locs hP hD hS => ?_)
  have hP : va_P (dC, dI) vwCl [(mo, .inr (5, [.int (nI 0), .ref q1, .ref q2, .int (nI (List.length row)), .int z4, .int z5, .int z6, .int z7, .int z8, .int z9, .ref q3, .ref q4, .ref q5])), (q1, .inl (c1, 4096, .inl f1))] H := hP
  have hD : va_D A [(mo, .inr (5, [.int (nI 0), .ref q1, .ref q2, .int (nI (List.length row)), .int z4, .int z5, .int z6, .int z7, .int z8, .int z9, .ref q3, .ref q4, .ref q5])), (q1, .inl (c1, 4096, .inl f1))] := hD
  refine lv_iload_n hx hb dX5_add_5 rfl (lv_at hl 2 rfl) ?_
  refine lv_iconst (v := nI 1) hx hb dX5_add_6 (by decide) ?_
  refine lv_icmp_lt (tgt := 29) hx hb dX5_add_7 (by decide) (fun c_7 => ?_) (fun c_7 => ?_)
  · refine lv_iconst (v := nI 0) hx hb dX5_add_29 (by decide) ?_
    exact kend_i hx hb hr hlocks dX5_add_30 (rfl) hK hP hD hS ((f1, row)) (⟨hf, app_no (Or.inl c_7)⟩) [0, 1] [0] rfl (by decide) rfl
  · obtain ⟨t, ht31, rfl⟩ := nI_of (x := x) (fun q => c_7 (Int32.lt_trans q (by decide)))
    rw [nI_ltI (a := t) (b := 1) (by omega) (by decide)] at c_7
    refine lv_iload_n hx hb dX5_add_10 rfl (lv_at hl 2 rfl) ?_
    refine lv_sipush (v := nI 4096) hx hb dX5_add_11 (by decide) ?_
    refine lv_icmp_gt (tgt := 29) hx hb dX5_add_14 (by decide) (fun c_14 => ?_) (fun c_14 => ?_)
    · rw [nI_ltI (a := 4096) (b := t) (by omega) (by omega)] at c_14
      refine lv_iconst (v := nI 0) hx hb dX5_add_29 (by decide) ?_
      exact kend_i hx hb hr hlocks dX5_add_30 (rfl) hK hP hD hS ((f1, row)) (⟨hf, app_no (Or.inr (nI_lt (by omega) (by omega)))⟩) [0, 1] [0] rfl (by decide) rfl
    · rw [nI_ltI (a := 4096) (b := t) (by omega) (by omega)] at c_14
      refine lv_aload_n hx hb dX5_add_17 rfl (lv_at hl 0 rfl) ?_
      refine va_get (D := (dC, dI)) (ci := 5) (v := .int (nI (List.length row))) (C := RX5) (T := TX5) (N := 13) hx hb hts iX5 hown hK hP 0 rfl rfl 3 (by decide) (hts _ m_287) (fun _ h9 => h9) rfl dX5_add_18 ?_
      refine lv_iload_n hx hb dX5_add_21 rfl (lv_at hl 2 rfl) ?_
      refine lv_iadd hx hb dX5_add_22 ?_
      refine tI_ (y := nI ((List.length row) + t)) (nI_add _ _) ?_
      refine lv_sipush (v := nI 4096) hx hb dX5_add_23 (by decide) ?_
      refine lv_icmp_le (tgt := 31) hx hb dX5_add_26 (by decide) (fun c_26 => ?_) (fun c_26 => ?_)
      · rw [nI_leI (a := ((List.length row) + t)) (b := 4096) (by omega) (by omega)] at c_26
        refine lv_iconst (v := nI 0) hx hb dX5_add_31 (by decide) ?_
        refine lv_istore_n (lv' := [(3, .int (nI 0)), (0, .ref mo), (1, .int v), (2, .int (nI t))]) hx hb dX5_add_32 rfl hl (by decide) rfl (fun ls hl => ?_)
        refine k_loop (σ := Nat × (Nat → Int32)) (fun (z : Nat × (Nat → Int32)) H locs ls => match z with
              | (k, u) => k ≤ t ∧ (∀ q, q < row.length → u q = f1 q) ∧ (∀ q, row.length ≤ q → q < row.length + k → u q = v) ∧ va_P (dC, dI) vwCl [(mo, .inr (5, [.int (nI 0), .ref q1, .ref q2, .int (nI (List.length row)), .int z4, .int z5, .int z6, .int z7, .int z8, .int z9, .ref q3, .ref q4, .ref q5])), (q1, .inl (c1, 4096, .inl u))] H ∧ va_D A [(mo, .inr (5, [.int (nI 0), .ref q1, .ref q2, .int (nI (List.length row)), .int z4, .int z5, .int z6, .int z7, .int z8, .int z9, .ref q3, .ref q4, .ref q5])), (q1, .inl (c1, 4096, .inl u))] ∧ va_S A s.heap H locs ∧ lv_has ls 4 [(0, .ref mo), (1, .int v), (2, .int (nI t)), (3, .int (nI k))]) (fun z => match z with
              | (k, u) => t - k) ?_ ((0, f1)) _ _ _ ⟨Nat.zero_le _, fun _ _ => rfl, fun q h1 h2 => absurd h1 (by omega), hP.sub [0, 1] rfl, hD.sub [0, 1] (by decide) rfl, hS, lv_sub hl [1, 2, 3, 0] rfl⟩
        intro z H locs ls hI ih
        obtain ⟨k, u⟩ := z
        obtain ⟨hk, hu1, hu2, hP, hD, hS, hl⟩ := hI
        refine lv_iload_n hx hb dX5_add_33 rfl (lv_at hl 3 rfl) ?_
        refine lv_iload_n hx hb dX5_add_34 rfl (lv_at hl 2 rfl) ?_
        refine lv_icmp_ge (tgt := 56) hx hb dX5_add_35 (by decide) (fun c_35 => ?_) (fun c_35 => ?_)
        · rw [nI_leI (a := t) (b := k) (by omega) (by omega)] at c_35
          obtain rfl : t = k := by omega
          refine lv_aload_n hx hb dX5_add_56 rfl (lv_at hl 0 rfl) ?_
          refine lv_dup hx hb dX5_add_57 rfl ?_
          refine va_get (D := (dC, dI)) (ci := 5) (v := .int (nI (List.length row))) (C := RX5) (T := TX5) (N := 13) hx hb hts iX5 hown hK hP 0 rfl rfl 3 (by decide) (hts _ m_287) (fun _ h9 => h9) rfl dX5_add_58 ?_
          refine lv_iload_n hx hb dX5_add_61 rfl (lv_at hl 2 rfl) ?_
          refine lv_iadd hx hb dX5_add_62 ?_
          refine tI_ (y := nI ((List.length row) + t)) (nI_add _ _) ?_
          refine tI_ (y := nI (List.length (row ++ List.replicate t v))) (by simp) ?_
          refine va_put (D := (dC, dI)) (ci := 5) (v := .int (nI (List.length (row ++ List.replicate t v)))) (ty := .int) (C := RX5) (T := TX5) (N := 13) hx hb hts iX5 tyX5 tyX5_ok nmX5 hown hK hP hD hS 0 rfl rfl 3 (by decide) (hts _ m_287) (fun _ h9 => h9) rfl (by decide +kernel) rfl rfl (Nat.le_of_ble_eq_true rfl) dX5_add_63 (fun H locs hP hD hS => ?_)
          have hP : va_P (dC, dI) vwCl [(mo, .inr (5, [.int (nI 0), .ref q1, .ref q2, .int (nI (List.length (row ++ List.replicate t v))), .int z4, .int z5, .int z6, .int z7, .int z8, .int z9, .ref q3, .ref q4, .ref q5])), (q1, .inl (c1, 4096, .inl u))] H := hP
          have hD : va_D A [(mo, .inr (5, [.int (nI 0), .ref q1, .ref q2, .int (nI (List.length (row ++ List.replicate t v))), .int z4, .int z5, .int z6, .int z7, .int z8, .int z9, .ref q3, .ref q4, .ref q5])), (q1, .inl (c1, 4096, .inl u))] := hD
          refine lv_iconst (v := nI 1) hx hb dX5_add_66 (by decide) ?_
          exact kend_i hx hb hr hlocks dX5_add_67 (rfl) hK hP hD hS ((u, row ++ List.replicate t v)) (⟨rHas_fill hf hu1 hu2, app_yes (by omega) (by omega)⟩) [0, 1] [0] rfl (by decide) rfl
        · rw [nI_leI (a := t) (b := k) (by omega) (by omega)] at c_35
          refine lv_aload_n hx hb dX5_add_38 rfl (lv_at hl 0 rfl) ?_
          refine va_get (D := (dC, dI)) (ci := 5) (v := .ref q1) (C := RX5) (T := TX5) (N := 13) hx hb hts iX5 hown hK hP 0 rfl rfl 1 (by decide) (hts _ m_285) (fun _ h9 => h9) rfl dX5_add_39 ?_
          refine lv_aload_n hx hb dX5_add_42 rfl (lv_at hl 0 rfl) ?_
          refine va_get (D := (dC, dI)) (ci := 5) (v := .int (nI (List.length row))) (C := RX5) (T := TX5) (N := 13) hx hb hts iX5 hown hK hP 0 rfl rfl 3 (by decide) (hts _ m_287) (fun _ h9 => h9) rfl dX5_add_43 ?_
          refine lv_iload_n hx hb dX5_add_46 rfl (lv_at hl 3 rfl) ?_
          refine lv_iadd hx hb dX5_add_47 ?_
          refine tI_ (y := nI ((List.length row) + k)) (nI_add _ _) ?_
          refine lv_iload_n hx hb dX5_add_48 rfl (lv_at hl 1 rfl) ?_
          refine va_iast hx hb hK hP hD hS 1 0 rfl rfl (vp_in_nI (by omega) (by omega)) dX5_add_49 (fun H locs hP hD hS => ?_)
          rw [nI_clamp (n := ((List.length row) + k)) (by omega)] at hP hD
          have hP : va_P (dC, dI) vwCl [(mo, .inr (5, [.int (nI 0), .ref q1, .ref q2, .int (nI (List.length row)), .int z4, .int z5, .int z6, .int z7, .int z8, .int z9, .ref q3, .ref q4, .ref q5])), (q1, .inl (c1, 4096, .inl (upd u ((List.length row) + k) v)))] H := hP
          have hD : va_D A [(mo, .inr (5, [.int (nI 0), .ref q1, .ref q2, .int (nI (List.length row)), .int z4, .int z5, .int z6, .int z7, .int z8, .int z9, .ref q3, .ref q4, .ref q5])), (q1, .inl (c1, 4096, .inl (upd u ((List.length row) + k) v)))] := hD
          refine lv_iinc (v := nI (k + 1)) (lv' := [(3, .int (nI (k + 1))), (0, .ref mo), (1, .int v), (2, .int (nI t))]) hx hb dX5_add_50 hl (k := 3) rfl (ii_add (c := 1) (k := 1) k (by decide)) (by decide) rfl (fun ls hl => ?_)
          refine lv_goto (tgt := 33) hx hb dX5_add_53 (by decide) ?_
          exact ih ((k + 1, upd u (row.length + k) v)) _ _ _ ⟨by omega, fun q hq => by rw [pk_un (by omega)]; exact hu1 q hq, fun q h1 h2 => by
            by_cases hqk : q = row.length + k
            · subst hqk; exact pk_us
            · rw [pk_un hqk]; exact hu2 q h1 (by omega), hP.sub [0, 1] rfl, hD.sub [0, 1] (by decide) rfl, hS, lv_sub hl [1, 2, 3, 0] rfl⟩ (by show t - (k + 1) < t - k; omega)
      · rw [nI_leI (a := ((List.length row) + t)) (b := 4096) (by omega) (by omega)] at c_26
        refine lv_iconst (v := nI 0) hx hb dX5_add_29 (by decide) ?_
        exact kend_i hx hb hr hlocks dX5_add_30 (rfl) hK hP hD hS ((f1, row)) (⟨hf, app_no (Or.inr (nI_lt (by omega) (by omega)))⟩) [0, 1] [0] rfl (by decide) rfl

set_option maxHeartbeats 4000000 in
set_option maxRecDepth 100000 in
/-- clear -/
theorem m_clear (l : Launch) (dC : Nat → ClassId) (dI : Nat → Nat → Nat) (sz : Nat) (mo q1 q2 q3 q4 q5 : Nat) (cd z3 z4 z5 z6 z7 z8 z9 : Int32)  : Met l yX5_clear wsX5_clear ({ frames := 0, cells := 0, slots := 0, locals := 0 }) (va_Pc [.ref mo] (kB (dC, dI) vwCl [] [(mo, .inr (5, [.int cd, .ref q1, .ref q2, .int z3, .int z4, .int z5, .int z6, .int z7, .int z8, .int z9, .ref q3, .ref q4, .ref q5]))] sz)) (va_Qv (fun (_ : Unit) => True) (kE (dC, dI) vwCl (va_A [(mo, .inr (5, [.int cd, .ref q1, .ref q2, .int z3, .int z4, .int z5, .int z6, .int z7, .int z8, .int z9, .ref q3, .ref q4, .ref q5]))] sz) (fun _ => []) (fun _ => [(mo, .inr (5, [.int (nI 0), .ref q1, .ref q2, .int (nI 0), .int z4, .int z5, .int z6, .int z7, .int z8, .int z9, .ref q3, .ref q4, .ref q5]))])) (va_A [(mo, .inr (5, [.int cd, .ref q1, .ref q2, .int z3, .int z4, .int z5, .int z6, .int z7, .int z8, .int z9, .ref q3, .ref q4, .ref q5]))] sz)) 0 0 (va_A [(mo, .inr (5, [.int cd, .ref q1, .ref q2, .int z3, .int z4, .int z5, .int z6, .int z7, .int z8, .int z9, .ref q3, .ref q4, .ref q5]))] sz) := by
  refine Met.ofW (cc := cX5_clear) (maxL := 1) (ret := none) (by decide) rfl ?_
  intro p e s m args below meth c s₁ B hml hv
  obtain ⟨rfl, hsz, hP, hK, hD0, hNs⟩ := hv
  have hx := B.exec
  have hb := B.bytes
  have hr := B.returns
  have hts := fun w (h : w ∈ lw_g) => atoms_spec (ws := wsX5_clear) B.pre w (List.mem_cons_of_mem _ h)
  have hown : s.vm.findClass RX5 = some m.cls := findClass_of_methodNamed B.named
  have hlocks := B.notSynchronized
  subst hsz
  have hD := hD0.self (sz := s.heap.size)
  generalize hAe : va_A [(mo, .inr (5, [.int cd, .ref q1, .ref q2, .int z3, .int z4, .int z5, .int z6, .int z7, .int z8, .int z9, .ref q3, .ref q4, .ref q5]))] s.heap.size = A at hD ⊢
  have hA : ∀ q : Nat, s.heap.size ≤ q → A q := fun q h => by rw [← hAe]; exact Or.inr h
  have hS : va_S A s.heap s.heap [] := va_S.rf
  have hP : va_P (dC, dI) vwCl [(mo, .inr (5, [.int cd, .ref q1, .ref q2, .int z3, .int z4, .int z5, .int z6, .int z7, .int z8, .int z9, .ref q3, .ref q4, .ref q5]))] s.heap := hP
  have hl := lv_entry ([.ref mo]) (n := 1) (Nat.le_of_ble_eq_true rfl)
  rw [lg_entry_eq]
  generalize (lg_sl ([.ref mo]) ++ List.replicate (1 - (lg_sl ([.ref mo])).length) Slot.unset).toArray = ls at hl ⊢
  have hl : lv_has ls 1 [(0, .ref mo)] := hl
  refine lv_aload_n hx hb dX5_clear_0 rfl (lv_at hl 0 rfl) ?_
  refine lv_iconst (v := nI 0) hx hb dX5_clear_1 (by decide) ?_
  refine va_put (D := (dC, dI)) (ci := 5) (v := .int (nI 0)) (ty := .int) (C := RX5) (T := TX5) (N := 13) hx hb hts iX5 tyX5 tyX5_ok nmX5 hown hK hP hD hS 0 rfl rfl 0 (by decide) (hts _ m_284) (fun _ h9 => h9) rfl (by decide +kernel) rfl rfl (Nat.le_of_ble_eq_true rfl) dX5_clear_2 (fun H locs hP hD hS => ?_)
  have hP : va_P (dC, dI) vwCl [(mo, .inr (5, [.int (nI 0), .ref q1, .ref q2, .int z3, .int z4, .int z5, .int z6, .int z7, .int z8, .int z9, .ref q3, .ref q4, .ref q5]))] H := hP
  have hD : va_D A [(mo, .inr (5, [.int (nI 0), .ref q1, .ref q2, .int z3, .int z4, .int z5, .int z6, .int z7, .int z8, .int z9, .ref q3, .ref q4, .ref q5]))] := hD
  refine lv_aload_n hx hb dX5_clear_5 rfl (lv_at hl 0 rfl) ?_
  refine lv_iconst (v := nI 0) hx hb dX5_clear_6 (by decide) ?_
  refine va_put (D := (dC, dI)) (ci := 5) (v := .int (nI 0)) (ty := .int) (C := RX5) (T := TX5) (N := 13) hx hb hts iX5 tyX5 tyX5_ok nmX5 hown hK hP hD hS 0 rfl rfl 3 (by decide) (hts _ m_287) (fun _ h9 => h9) rfl (by decide +kernel) rfl rfl (Nat.le_of_ble_eq_true rfl) dX5_clear_7 (fun H locs hP hD hS => ?_)
  have hP : va_P (dC, dI) vwCl [(mo, .inr (5, [.int (nI 0), .ref q1, .ref q2, .int (nI 0), .int z4, .int z5, .int z6, .int z7, .int z8, .int z9, .ref q3, .ref q4, .ref q5]))] H := hP
  have hD : va_D A [(mo, .inr (5, [.int (nI 0), .ref q1, .ref q2, .int (nI 0), .int z4, .int z5, .int z6, .int z7, .int z8, .int z9, .ref q3, .ref q4, .ref q5]))] := hD
  exact kend_v hx hb hr hlocks dX5_clear_10 hK hP hD hS (()) (trivial) [0] [] rfl (by decide) rfl

set_option maxHeartbeats 4000000 in
set_option maxRecDepth 100000 in
/-- size -/
theorem m_size (l : Launch) (dC : Nat → ClassId) (dI : Nat → Nat → Nat) (sz : Nat) (mo q1 q2 q3 q4 q5 : Nat) (cd z3 z4 z5 z6 z7 z8 z9 : Int32)  : Met l yX5_size wsX5_size ({ frames := 0, cells := 0, slots := 0, locals := 0 }) (va_Pc [.ref mo] (kB (dC, dI) vwCl [] [(mo, .inr (5, [.int cd, .ref q1, .ref q2, .int z3, .int z4, .int z5, .int z6, .int z7, .int z8, .int z9, .ref q3, .ref q4, .ref q5]))] sz)) (va_Qi (fun r (_ : Unit) => r = z3) (kE (dC, dI) vwCl (va_A [(mo, .inr (5, [.int cd, .ref q1, .ref q2, .int z3, .int z4, .int z5, .int z6, .int z7, .int z8, .int z9, .ref q3, .ref q4, .ref q5]))] sz) (fun _ => []) (fun _ => [(mo, .inr (5, [.int (nI 0), .ref q1, .ref q2, .int z3, .int z4, .int z5, .int z6, .int z7, .int z8, .int z9, .ref q3, .ref q4, .ref q5]))])) (va_A [(mo, .inr (5, [.int cd, .ref q1, .ref q2, .int z3, .int z4, .int z5, .int z6, .int z7, .int z8, .int z9, .ref q3, .ref q4, .ref q5]))] sz)) 0 0 (va_A [(mo, .inr (5, [.int cd, .ref q1, .ref q2, .int z3, .int z4, .int z5, .int z6, .int z7, .int z8, .int z9, .ref q3, .ref q4, .ref q5]))] sz) := by
  refine Met.ofW (cc := cX5_size) (maxL := 1) (ret := (some .int)) (by decide) rfl ?_
  intro p e s m args below meth c s₁ B hml hv
  obtain ⟨rfl, hsz, hP, hK, hD0, hNs⟩ := hv
  have hx := B.exec
  have hb := B.bytes
  have hr := B.returns
  have hts := fun w (h : w ∈ lw_g) => atoms_spec (ws := wsX5_size) B.pre w (List.mem_cons_of_mem _ h)
  have hown : s.vm.findClass RX5 = some m.cls := findClass_of_methodNamed B.named
  have hlocks := B.notSynchronized
  subst hsz
  have hD := hD0.self (sz := s.heap.size)
  generalize hAe : va_A [(mo, .inr (5, [.int cd, .ref q1, .ref q2, .int z3, .int z4, .int z5, .int z6, .int z7, .int z8, .int z9, .ref q3, .ref q4, .ref q5]))] s.heap.size = A at hD ⊢
  have hA : ∀ q : Nat, s.heap.size ≤ q → A q := fun q h => by rw [← hAe]; exact Or.inr h
  have hS : va_S A s.heap s.heap [] := va_S.rf
  have hP : va_P (dC, dI) vwCl [(mo, .inr (5, [.int cd, .ref q1, .ref q2, .int z3, .int z4, .int z5, .int z6, .int z7, .int z8, .int z9, .ref q3, .ref q4, .ref q5]))] s.heap := hP
  have hl := lv_entry ([.ref mo]) (n := 1) (Nat.le_of_ble_eq_true rfl)
  rw [lg_entry_eq]
  generalize (lg_sl ([.ref mo]) ++ List.replicate (1 - (lg_sl ([.ref mo])).length) Slot.unset).toArray = ls at hl ⊢
  have hl : lv_has ls 1 [(0, .ref mo)] := hl
  refine lv_aload_n hx hb dX5_size_0 rfl (lv_at hl 0 rfl) ?_
  refine lv_iconst (v := nI 0) hx hb dX5_size_1 (by decide) ?_
  refine va_put (D := (dC, dI)) (ci := 5) (v := .int (nI 0)) (ty := .int) (C := RX5) (T := TX5) (N := 13) hx hb hts iX5 tyX5 tyX5_ok nmX5 hown hK hP hD hS 0 rfl rfl 0 (by decide) (hts _ m_284) (fun _ h9 => h9) rfl (by decide +kernel) rfl rfl (Nat.le_of_ble_eq_true rfl) dX5_size_2 (fun H locs hP hD hS => ?_)
  have hP : va_P (dC, dI) vwCl [(mo, .inr (5, [.int (nI 0), .ref q1, .ref q2, .int z3, .int z4, .int z5, .int z6, .int z7, .int z8, .int z9, .ref q3, .ref q4, .ref q5]))] H := hP
  have hD : va_D A [(mo, .inr (5, [.int (nI 0), .ref q1, .ref q2, .int z3, .int z4, .int z5, .int z6, .int z7, .int z8, .int z9, .ref q3, .ref q4, .ref q5]))] := hD
  refine lv_aload_n hx hb dX5_size_5 rfl (lv_at hl 0 rfl) ?_
  refine va_get (D := (dC, dI)) (ci := 5) (v := .int z3) (C := RX5) (T := TX5) (N := 13) hx hb hts iX5 hown hK hP 0 rfl rfl 3 (by decide) (hts _ m_287) (fun _ h9 => h9) rfl dX5_size_6 ?_
  exact kend_i hx hb hr hlocks dX5_size_9 (rfl) hK hP hD hS (()) (rfl) [0] [] rfl (by decide) rfl

set_option maxHeartbeats 4000000 in
set_option maxRecDepth 100000 in
/-- value -/
theorem m_value (l : Launch) (dC : Nat → ClassId) (dI : Nat → Nat → Nat) (sz : Nat) (mo q1 q2 q3 q4 q5 : Nat) (cd z4 z5 z6 z7 z8 z9 : Int32) (c1 : ClassId) (f1 : Nat → Int32) (row : List Int32) (x : Int32) (hf : rHas f1 row) (hn : row.length ≤ 4096) : Met l yX5_value wsX5_value ({ frames := 0, cells := 0, slots := 0, locals := 0 }) (va_Pc [.ref mo, .int x] (kB (dC, dI) vwCl [(c1, .int)] [(mo, .inr (5, [.int cd, .ref q1, .ref q2, .int (nI (List.length row)), .int z4, .int z5, .int z6, .int z7, .int z8, .int z9, .ref q3, .ref q4, .ref q5])), (q1, .inl (c1, 4096, .inl f1))] sz)) (va_Qi (fun r (_ : Unit) => r = rAt row x) (kE (dC, dI) vwCl (va_A [(mo, .inr (5, [.int cd, .ref q1, .ref q2, .int (nI (List.length row)), .int z4, .int z5, .int z6, .int z7, .int z8, .int z9, .ref q3, .ref q4, .ref q5])), (q1, .inl (c1, 4096, .inl f1))] sz) (fun _ => [(c1, .int)]) (fun _ => [(mo, .inr (5, [.int (nI 0), .ref q1, .ref q2, .int (nI (List.length row)), .int z4, .int z5, .int z6, .int z7, .int z8, .int z9, .ref q3, .ref q4, .ref q5])), (q1, .inl (c1, 4096, .inl f1))])) (va_A [(mo, .inr (5, [.int cd, .ref q1, .ref q2, .int (nI (List.length row)), .int z4, .int z5, .int z6, .int z7, .int z8, .int z9, .ref q3, .ref q4, .ref q5])), (q1, .inl (c1, 4096, .inl f1))] sz)) 0 0 (va_A [(mo, .inr (5, [.int cd, .ref q1, .ref q2, .int (nI (List.length row)), .int z4, .int z5, .int z6, .int z7, .int z8, .int z9, .ref q3, .ref q4, .ref q5])), (q1, .inl (c1, 4096, .inl f1))] sz) := by
  refine Met.ofW (cc := cX5_value) (maxL := 2) (ret := (some .int)) (by decide) rfl ?_
  intro p e s m args below meth c s₁ B hml hv
  obtain ⟨rfl, hsz, hP, hK, hD0, hNs⟩ := hv
  have hx := B.exec
  have hb := B.bytes
  have hr := B.returns
  have hts := fun w (h : w ∈ lw_g) => atoms_spec (ws := wsX5_value) B.pre w (List.mem_cons_of_mem _ h)
  have hown : s.vm.findClass RX5 = some m.cls := findClass_of_methodNamed B.named
  have hlocks := B.notSynchronized
  subst hsz
  have hD := hD0.self (sz := s.heap.size)
  generalize hAe : va_A [(mo, .inr (5, [.int cd, .ref q1, .ref q2, .int (nI (List.length row)), .int z4, .int z5, .int z6, .int z7, .int z8, .int z9, .ref q3, .ref q4, .ref q5])), (q1, .inl (c1, 4096, .inl f1))] s.heap.size = A at hD ⊢
  have hA : ∀ q : Nat, s.heap.size ≤ q → A q := fun q h => by rw [← hAe]; exact Or.inr h
  have hS : va_S A s.heap s.heap [] := va_S.rf
  have hP : va_P (dC, dI) vwCl [(mo, .inr (5, [.int cd, .ref q1, .ref q2, .int (nI (List.length row)), .int z4, .int z5, .int z6, .int z7, .int z8, .int z9, .ref q3, .ref q4, .ref q5])), (q1, .inl (c1, 4096, .inl f1))] s.heap := hP
  have hl := lv_entry ([.ref mo, .int x]) (n := 2) (Nat.le_of_ble_eq_true rfl)
  rw [lg_entry_eq]
  generalize (lg_sl ([.ref mo, .int x]) ++ List.replicate (2 - (lg_sl ([.ref mo, .int x])).length) Slot.unset).toArray = ls at hl ⊢
  have hl : lv_has ls 2 [(0, .ref mo), (1, .int x)] := hl
  refine lv_aload_n hx hb dX5_value_0 rfl (lv_at hl 0 rfl) ?_
  refine lv_iconst (v := nI 0) hx hb dX5_value_1 (by decide) ?_
  refine va_put (D := (dC, dI)) (ci := 5) (v := .int (nI 0)) (ty := .int) (C := RX5) (T := TX5) (N := 13) hx hb hts iX5 tyX5 tyX5_ok nmX5 hown hK hP hD hS 0 rfl rfl 0 (by decide) (hts _ m_284) (fun _ h9 => h9) rfl (by decide +kernel) rfl rfl (Nat.le_of_ble_eq_true rfl) dX5_value_2 (fun H locs hP hD hS => ?_)
  have hP : va_P (dC, dI) vwCl [(mo, .inr (5, [.int (nI 0), .ref q1, .ref q2, .int (nI (List.length row)), .int z4, .int z5, .int z6, .int z7, .int z8, .int z9, .ref q3, .ref q4, .ref q5])), (q1, .inl (c1, 4096, .inl f1))] H := hP
  have hD : va_D A [(mo, .inr (5, [.int (nI 0), .ref q1, .ref q2, .int (nI (List.length row)), .int z4, .int z5, .int z6, .int z7, .int z8, .int z9, .ref q3, .ref q4, .ref q5])), (q1, .inl (c1, 4096, .inl f1))] := hD
  refine lv_iload_n hx hb dX5_value_5 rfl (lv_at hl 1 rfl) ?_
  refine lv_if_lt (tgt := 17) hx hb dX5_value_6 (by decide) (fun c_6 => ?_) (fun c_6 => ?_)
  · refine lv_iconst (v := nI 0) hx hb dX5_value_17 (by decide) ?_
    refine lv_goto (tgt := 27) hx hb dX5_value_18 (by decide) ?_
    exact kend_i hx hb hr hlocks dX5_value_27 (rfl) hK hP hD hS (()) ((rAt_out (Or.inl c_6)).symm) [0, 1] [0] rfl (by decide) rfl
  · refine lv_iload_n hx hb dX5_value_9 rfl (lv_at hl 1 rfl) ?_
    refine lv_aload_n hx hb dX5_value_10 rfl (lv_at hl 0 rfl) ?_
    refine va_get (D := (dC, dI)) (ci := 5) (v := .int (nI (List.length row))) (C := RX5) (T := TX5) (N := 13) hx hb hts iX5 hown hK hP 0 rfl rfl 3 (by decide) (hts _ m_287) (fun _ h9 => h9) rfl dX5_value_11 ?_
    refine lv_icmp_lt (tgt := 21) hx hb dX5_value_14 (by decide) (fun c_14 => ?_) (fun c_14 => ?_)
    · obtain ⟨j, hj, rfl⟩ := nI_of c_6
      rw [nI_ltI (by omega) (by omega)] at c_14
      refine lv_aload_n hx hb dX5_value_21 rfl (lv_at hl 0 rfl) ?_
      refine va_get (D := (dC, dI)) (ci := 5) (v := .ref q1) (C := RX5) (T := TX5) (N := 13) hx hb hts iX5 hown hK hP 0 rfl rfl 1 (by decide) (hts _ m_285) (fun _ h9 => h9) rfl dX5_value_22 ?_
      refine lv_iload_n hx hb dX5_value_25 rfl (lv_at hl 1 rfl) ?_
      refine va_iald hx hb hK hP 1 0 rfl rfl (vp_in_nI (by omega) (by omega)) dX5_value_26 ?_
      refine tI_ (y := f1 j) (congrArg f1 (nI_clamp (by omega))) ?_
      exact kend_i hx hb hr hlocks dX5_value_27 (rfl) hK hP hD hS (()) (by rw [rAt_nI (by omega) (by omega)]; exact hf j c_14) [0, 1] [0] rfl (by decide) rfl
    · refine lv_iconst (v := nI 0) hx hb dX5_value_17 (by decide) ?_
      refine lv_goto (tgt := 27) hx hb dX5_value_18 (by decide) ?_
      exact kend_i hx hb hr hlocks dX5_value_27 (rfl) hK hP hD hS (()) ((rAt_out (Or.inr (Int32.not_lt.mp c_14))).symm) [0, 1] [0] rfl (by decide) rfl

set_option maxHeartbeats 4000000 in
set_option maxRecDepth 100000 in
/-- output -/
theorem m_output (l : Launch) (dC : Nat → ClassId) (dI : Nat → Nat → Nat) (sz : Nat) (mo q1 q2 q3 q4 q5 : Nat) (cd z3 z4 z5 z6 z8 z9 : Int32) (c5 : ClassId) (f5 : Nat → Int32) (out : List Nat) (x : Int32) (hf : mB f5 out) (hn : out.length ≤ 24000) : Met l yX5_output wsX5_output ({ frames := 0, cells := 0, slots := 0, locals := 0 }) (va_Pc [.ref mo, .int x] (kB (dC, dI) vwCl [(c5, .int)] [(mo, .inr (5, [.int cd, .ref q1, .ref q2, .int z3, .int z4, .int z5, .int z6, .int (nI (List.length out)), .int z8, .int z9, .ref q3, .ref q4, .ref q5])), (q5, .inl (c5, 24000, .inl f5))] sz)) (va_Qi (fun r (_ : Unit) => r = bAt out x) (kE (dC, dI) vwCl (va_A [(mo, .inr (5, [.int cd, .ref q1, .ref q2, .int z3, .int z4, .int z5, .int z6, .int (nI (List.length out)), .int z8, .int z9, .ref q3, .ref q4, .ref q5])), (q5, .inl (c5, 24000, .inl f5))] sz) (fun _ => [(c5, .int)]) (fun _ => [(mo, .inr (5, [.int (nI 0), .ref q1, .ref q2, .int z3, .int z4, .int z5, .int z6, .int (nI (List.length out)), .int z8, .int z9, .ref q3, .ref q4, .ref q5])), (q5, .inl (c5, 24000, .inl f5))])) (va_A [(mo, .inr (5, [.int cd, .ref q1, .ref q2, .int z3, .int z4, .int z5, .int z6, .int (nI (List.length out)), .int z8, .int z9, .ref q3, .ref q4, .ref q5])), (q5, .inl (c5, 24000, .inl f5))] sz)) 0 0 (va_A [(mo, .inr (5, [.int cd, .ref q1, .ref q2, .int z3, .int z4, .int z5, .int z6, .int (nI (List.length out)), .int z8, .int z9, .ref q3, .ref q4, .ref q5])), (q5, .inl (c5, 24000, .inl f5))] sz) := by
  refine Met.ofW (cc := cX5_output) (maxL := 2) (ret := (some .int)) (by decide) rfl ?_
  intro p e s m args below meth c s₁ B hml hv
  obtain ⟨rfl, hsz, hP, hK, hD0, hNs⟩ := hv
  have hx := B.exec
  have hb := B.bytes
  have hr := B.returns
  have hts := fun w (h : w ∈ lw_g) => atoms_spec (ws := wsX5_output) B.pre w (List.mem_cons_of_mem _ h)
  have hown : s.vm.findClass RX5 = some m.cls := findClass_of_methodNamed B.named
  have hlocks := B.notSynchronized
  subst hsz
  have hD := hD0.self (sz := s.heap.size)
  generalize hAe : va_A [(mo, .inr (5, [.int cd, .ref q1, .ref q2, .int z3, .int z4, .int z5, .int z6, .int (nI (List.length out)), .int z8, .int z9, .ref q3, .ref q4, .ref q5])), (q5, .inl (c5, 24000, .inl f5))] s.heap.size = A at hD ⊢
  have hA : ∀ q : Nat, s.heap.size ≤ q → A q := fun q h => by rw [← hAe]; exact Or.inr h
  have hS : va_S A s.heap s.heap [] := va_S.rf
  have hP : va_P (dC, dI) vwCl [(mo, .inr (5, [.int cd, .ref q1, .ref q2, .int z3, .int z4, .int z5, .int z6, .int (nI (List.length out)), .int z8, .int z9, .ref q3, .ref q4, .ref q5])), (q5, .inl (c5, 24000, .inl f5))] s.heap := hP
  have hl := lv_entry ([.ref mo, .int x]) (n := 2) (Nat.le_of_ble_eq_true rfl)
  rw [lg_entry_eq]
  generalize (lg_sl ([.ref mo, .int x]) ++ List.replicate (2 - (lg_sl ([.ref mo, .int x])).length) Slot.unset).toArray = ls at hl ⊢
  have hl : lv_has ls 2 [(0, .ref mo), (1, .int x)] := hl
  refine lv_aload_n hx hb dX5_output_0 rfl (lv_at hl 0 rfl) ?_
  refine lv_iconst (v := nI 0) hx hb dX5_output_1 (by decide) ?_
  refine va_put (D := (dC, dI)) (ci := 5) (v := .int (nI 0)) (ty := .int) (C := RX5) (T := TX5) (N := 13) hx hb hts iX5 tyX5 tyX5_ok nmX5 hown hK hP hD hS 0 rfl rfl 0 (by decide) (hts _ m_284) (fun _ h9 => h9) rfl (by decide +kernel) rfl rfl (Nat.le_of_ble_eq_true rfl) dX5_output_2 (fun H locs hP hD hS => ?_)
  have hP : va_P (dC, dI) vwCl [(mo, .inr (5, [.int (nI 0), .ref q1, .ref q2, .int z3, .int z4, .int z5, .int z6, .int (nI (List.length out)), .int z8, .int z9, .ref q3, .ref q4, .ref q5])), (q5, .inl (c5, 24000, .inl f5))] H := hP
  have hD : va_D A [(mo, .inr (5, [.int (nI 0), .ref q1, .ref q2, .int z3, .int z4, .int z5, .int z6, .int (nI (List.length out)), .int z8, .int z9, .ref q3, .ref q4, .ref q5])), (q5, .inl (c5, 24000, .inl f5))] := hD
  refine lv_iload_n hx hb dX5_output_5 rfl (lv_at hl 1 rfl) ?_
  refine lv_if_lt (tgt := 17) hx hb dX5_output_6 (by decide) (fun c_6 => ?_) (fun c_6 => ?_)
  · refine lv_iconst (v := (-1)) hx hb dX5_output_17 (by decide) ?_
    refine lv_goto (tgt := 27) hx hb dX5_output_18 (by decide) ?_
    exact kend_i hx hb hr hlocks dX5_output_27 (rfl) hK hP hD hS (()) ((bAt_out (Or.inl c_6)).symm) [0, 1] [0] rfl (by decide) rfl
  · refine lv_iload_n hx hb dX5_output_9 rfl (lv_at hl 1 rfl) ?_
    refine lv_aload_n hx hb dX5_output_10 rfl (lv_at hl 0 rfl) ?_
    refine va_get (D := (dC, dI)) (ci := 5) (v := .int (nI (List.length out))) (C := RX5) (T := TX5) (N := 13) hx hb hts iX5 hown hK hP 0 rfl rfl 7 (by decide) (hts _ m_291) (fun _ h9 => h9) rfl dX5_output_11 ?_
    refine lv_icmp_lt (tgt := 21) hx hb dX5_output_14 (by decide) (fun c_14 => ?_) (fun c_14 => ?_)
    · obtain ⟨j, hj, rfl⟩ := nI_of c_6
      rw [nI_ltI (by omega) (by omega)] at c_14
      refine lv_aload_n hx hb dX5_output_21 rfl (lv_at hl 0 rfl) ?_
      refine va_get (D := (dC, dI)) (ci := 5) (v := .ref q5) (C := RX5) (T := TX5) (N := 13) hx hb hts iX5 hown hK hP 0 rfl rfl 12 (by decide) (hts _ m_296) (fun _ h9 => h9) rfl dX5_output_22 ?_
      refine lv_iload_n hx hb dX5_output_25 rfl (lv_at hl 1 rfl) ?_
      refine va_iald hx hb hK hP 1 0 rfl rfl (vp_in_nI (by omega) (by omega)) dX5_output_26 ?_
      refine tI_ (y := f5 j) (congrArg f5 (nI_clamp (by omega))) ?_
      exact kend_i hx hb hr hlocks dX5_output_27 (rfl) hK hP hD hS (()) (by rw [bAt_in c_14 (by omega)]; exact (hf j c_14).2) [0, 1] [0] rfl (by decide) rfl
    · refine lv_iconst (v := (-1)) hx hb dX5_output_17 (by decide) ?_
      refine lv_goto (tgt := 27) hx hb dX5_output_18 (by decide) ?_
      exact kend_i hx hb hr hlocks dX5_output_27 (rfl) hK hP hD hS (()) ((bAt_out (Or.inr (Int32.not_lt.mp c_14))).symm) [0, 1] [0] rfl (by decide) rfl

set_option maxHeartbeats 4000000 in
set_option maxRecDepth 100000 in
/-- turn -/
theorem m_turn (l : Launch) (dC : Nat → ClassId) (dI : Nat → Nat → Nat) (sz : Nat) (mo q1 q2 q3 q4 q5 : Nat) (cd z3 z4 z5 z8 z9 : Int32) (c4 : ClassId) (f4 : Nat → Int32) (inp : List Nat) (c5 : ClassId) (f5 : Nat → Int32) (out : List Nat) (hf : mB f4 inp) (hf5 : mB f5 out) (hn : out.length ≤ 16386) : Met l yX5_turn wsX5_turn ({ frames := 0, cells := 0, slots := 0, locals := 0 }) (va_Pc [.ref mo] (kB (dC, dI) vwCl [(c4, .int), (c5, .int)] [(mo, .inr (5, [.int cd, .ref q1, .ref q2, .int z3, .int z4, .int z5, .int (nI (List.length inp)), .int (nI (List.length out)), .int z8, .int z9, .ref q3, .ref q4, .ref q5])), (q4, .inl (c4, 8192, .inl f4)), (q5, .inl (c5, 24000, .inl f5))] sz)) (va_Qi (fun r (u : (Nat → Int32) × List Nat) => mB u.1 u.2 ∧ bec 8192 inp out (nI out.length) r u.2) (kE (dC, dI) vwCl (va_A [(mo, .inr (5, [.int cd, .ref q1, .ref q2, .int z3, .int z4, .int z5, .int (nI (List.length inp)), .int (nI (List.length out)), .int z8, .int z9, .ref q3, .ref q4, .ref q5])), (q4, .inl (c4, 8192, .inl f4)), (q5, .inl (c5, 24000, .inl f5))] sz) (fun _ => [(c4, .int), (c5, .int)]) (fun u => [(mo, .inr (5, [.int (nI 0), .ref q1, .ref q2, .int z3, .int z4, .int z5, .int (nI (List.length u.2)), .int (nI (List.length out)), .int z8, .int z9, .ref q3, .ref q4, .ref q5])), (q4, .inl (c4, 8192, .inl u.1)), (q5, .inl (c5, 24000, .inl f5))])) (va_A [(mo, .inr (5, [.int cd, .ref q1, .ref q2, .int z3, .int z4, .int z5, .int (nI (List.length inp)), .int (nI (List.length out)), .int z8, .int z9, .ref q3, .ref q4, .ref q5])), (q4, .inl (c4, 8192, .inl f4)), (q5, .inl (c5, 24000, .inl f5))] sz)) 0 0 (va_A [(mo, .inr (5, [.int cd, .ref q1, .ref q2, .int z3, .int z4, .int z5, .int (nI (List.length inp)), .int (nI (List.length out)), .int z8, .int z9, .ref q3, .ref q4, .ref q5])), (q4, .inl (c4, 8192, .inl f4)), (q5, .inl (c5, 24000, .inl f5))] sz) := by
  refine Met.ofW (cc := cX5_turn) (maxL := 2) (ret := (some .boolean)) (by decide) rfl ?_
  intro p e s m args below meth c s₁ B hml hv
  obtain ⟨rfl, hsz, hP, hK, hD0, hNs⟩ := hv
  have hx := B.exec
  have hb := B.bytes
  have hr := B.returns
  have hts := fun w (h : w ∈ lw_g) => atoms_spec (ws := wsX5_turn) B.pre w (List.mem_cons_of_mem _ h)
  have hown : s.vm.findClass RX5 = some m.cls := findClass_of_methodNamed B.named
  have hlocks := B.notSynchronized
  subst hsz
  have hD := hD0.self (sz := s.heap.size)
  generalize hAe : va_A [(mo, .inr (5, [.int cd, .ref q1, .ref q2, .int z3, .int z4, .int z5, .int (nI (List.length inp)), .int (nI (List.length out)), .int z8, .int z9, .ref q3, .ref q4, .ref q5])), (q4, .inl (c4, 8192, .inl f4)), (q5, .inl (c5, 24000, .inl f5))] s.heap.size = A at hD ⊢
  have hA : ∀ q : Nat, s.heap.size ≤ q → A q := fun q h => by rw [← hAe]; exact Or.inr h
  have hS : va_S A s.heap s.heap [] := va_S.rf
  have hP : va_P (dC, dI) vwCl [(mo, .inr (5, [.int cd, .ref q1, .ref q2, .int z3, .int z4, .int z5, .int (nI (List.length inp)), .int (nI (List.length out)), .int z8, .int z9, .ref q3, .ref q4, .ref q5])), (q4, .inl (c4, 8192, .inl f4)), (q5, .inl (c5, 24000, .inl f5))] s.heap := hP
  have hl := lv_entry ([.ref mo]) (n := 2) (Nat.le_of_ble_eq_true rfl)
  rw [lg_entry_eq]
  generalize (lg_sl ([.ref mo]) ++ List.replicate (2 - (lg_sl ([.ref mo])).length) Slot.unset).toArray = ls at hl ⊢
  have hl : lv_has ls 2 [(0, .ref mo)] := hl
  refine lv_aload_n hx hb dX5_turn_0 rfl (lv_at hl 0 rfl) ?_
  refine lv_iconst (v := nI 0) hx hb dX5_turn_1 (by decide) ?_
  refine va_put (D := (dC, dI)) (ci := 5) (v := .int (nI 0)) (ty := .int) (C := RX5) (T := TX5) (N := 13) hx hb hts iX5 tyX5 tyX5_ok nmX5 hown hK hP hD hS 0 rfl rfl 0 (by decide) (hts _ m_284) (fun _ h9 => h9) rfl (by decide +kernel) rfl rfl (Nat.le_of_ble_eq_true rfl) dX5_turn_2 (fun H locs hP hD hS => ?_)
  have hP : va_P (dC, dI) vwCl [(mo, .inr (5, [.int (nI 0), .ref q1, .ref q2, .int z3, .int z4, .int z5, .int (nI (List.length inp)), .int (nI (List.length out)), .int z8, .int z9, .ref q3, .ref q4, .ref q5])), (q4, .inl (c4, 8192, .inl f4)), (q5, .inl (c5, 24000, .inl f5))] H := hP
  have hD : va_D A [(mo, .inr (5, [.int (nI 0), .ref q1, .ref q2, .int z3, .int z4, .int z5, .int (nI (List.length inp)), .int (nI (List.length out)), .int z8, .int z9, .ref q3, .ref q4, .ref q5])), (q4, .inl (c4, 8192, .inl f4)), (q5, .inl (c5, 24000, .inl f5))] := hD
  refine lv_aload_n hx hb dX5_turn_5 rfl (lv_at hl 0 rfl) ?_
  refine va_get (D := (dC, dI)) (ci := 5) (v := .int (nI (List.length out))) (C := RX5) (T := TX5) (N := 13) hx hb hts iX5 hown hK hP 0 rfl rfl 7 (by decide) (hts _ m_291) (fun _ h9 => h9) rfl dX5_turn_6 ?_
  refine lv_sipush (v := nI 8192) hx hb dX5_turn_9 (by decide) ?_
  refine lv_icmp_le (tgt := 17) hx hb dX5_turn_12 (by decide) (fun c_12 => ?_) (fun c_12 => ?_)
  · rw [nI_leI (a := (List.length out)) (b := 8192) (by omega) (by omega)] at c_12
    refine lv_iconst (v := nI 0) hx hb dX5_turn_17 (by decide) ?_
    refine lv_istore_n (lv' := [(1, .int (nI 0)), (0, .ref mo)]) hx hb dX5_turn_18 rfl hl (by decide) rfl (fun ls hl => ?_)
    refine k_loop (σ := Nat × (Nat → Int32)) (fun (z : Nat × (Nat → Int32)) H locs ls => match z with
          | (k, u) => k ≤ out.length ∧ (∀ q, q < k → u q = f5 q) ∧ va_P (dC, dI) vwCl [(mo, .inr (5, [.int (nI 0), .ref q1, .ref q2, .int z3, .int z4, .int z5, .int (nI (List.length inp)), .int (nI (List.length out)), .int z8, .int z9, .ref q3, .ref q4, .ref q5])), (q4, .inl (c4, 8192, .inl u)), (q5, .inl (c5, 24000, .inl f5))] H ∧ va_D A [(mo, .inr (5, [.int (nI 0), .ref q1, .ref q2, .int z3, .int z4, .int z5, .int (nI (List.length inp)), .int (nI (List.length out)), .int z8, .int z9, .ref q3, .ref q4, .ref q5])), (q4, .inl (c4, 8192, .inl u)), (q5, .inl (c5, 24000, .inl f5))] ∧ va_S A s.heap H locs ∧ lv_has ls 2 [(0, .ref mo), (1, .int (nI k))]) (fun z => match z with
          | (k, u) => out.length - k) ?_ ((0, f4)) _ _ _ ⟨Nat.zero_le _, fun q h => absurd h (Nat.not_lt_zero q), hP.sub [0, 1, 2] rfl, hD.sub [0, 1, 2] (by decide) rfl, hS, lv_sub hl [1, 0] rfl⟩
    intro z H locs ls hI ih
    obtain ⟨k, u⟩ := z
    obtain ⟨hk, hu, hP, hD, hS, hl⟩ := hI
    refine lv_iload_n hx hb dX5_turn_19 rfl (lv_at hl 1 rfl) ?_
    refine lv_aload_n hx hb dX5_turn_20 rfl (lv_at hl 0 rfl) ?_
    refine va_get (D := (dC, dI)) (ci := 5) (v := .int (nI (List.length out))) (C := RX5) (T := TX5) (N := 13) hx hb hts iX5 hown hK hP 0 rfl rfl 7 (by decide) (hts _ m_291) (fun _ h9 => h9) rfl dX5_turn_21 ?_
    refine lv_icmp_ge (tgt := 45) hx hb dX5_turn_24 (by decide) (fun c_24 => ?_) (fun c_24 => ?_)
    · rw [nI_leI (a := (List.length out)) (b := k) (by omega) (by omega)] at c_24
      obtain rfl : k = out.length := by omega
      have hz := mB_take hf5 (Nat.le_refl _) hu
      have hb9 := bec_yes (n := 8192) (xs := inp) (Nat.le_refl out.length) (by omega) (by omega)
      rw [List.take_length] at hz hb9
      refine lv_aload_n hx hb dX5_turn_45 rfl (lv_at hl 0 rfl) ?_
      refine lv_aload_n hx hb dX5_turn_46 rfl (lv_at hl 0 rfl) ?_
      refine va_get (D := (dC, dI)) (ci := 5) (v := .int (nI (List.length out))) (C := RX5) (T := TX5) (N := 13) hx hb hts iX5 hown hK hP 0 rfl rfl 7 (by decide) (hts _ m_291) (fun _ h9 => h9) rfl dX5_turn_47 ?_
      refine va_put (D := (dC, dI)) (ci := 5) (v := .int (nI (List.length out))) (ty := .int) (C := RX5) (T := TX5) (N := 13) hx hb hts iX5 tyX5 tyX5_ok nmX5 hown hK hP hD hS 0 rfl rfl 6 (by decide) (hts _ m_290) (fun _ h9 => h9) rfl (by decide +kernel) rfl rfl (Nat.le_of_ble_eq_true rfl) dX5_turn_50 (fun H locs hP hD hS => ?_)
      have hP : va_P (dC, dI) vwCl [(mo, .inr (5, [.int (nI 0), .ref q1, .ref q2, .int z3, .int z4, .int z5, .int (nI (List.length out)), .int (nI (List.length out)), .int z8, .int z9, .ref q3, .ref q4, .ref q5])), (q4, .inl (c4, 8192, .inl u)), (q5, .inl (c5, 24000, .inl f5))] H := hP
      have hD : va_D A [(mo, .inr (5, [.int (nI 0), .ref q1, .ref q2, .int z3, .int z4, .int z5, .int (nI (List.length out)), .int (nI (List.length out)), .int z8, .int z9, .ref q3, .ref q4, .ref q5])), (q4, .inl (c4, 8192, .inl u)), (q5, .inl (c5, 24000, .inl f5))] := hD
      refine lv_iconst (v := nI 1) hx hb dX5_turn_53 (by decide) ?_
      exact kend_i hx hb hr hlocks dX5_turn_54 (rfl) hK hP hD hS ((u, out)) (⟨hz, hb9⟩) [0, 1, 2] [0, 1] rfl (by decide) rfl
    · rw [nI_leI (a := (List.length out)) (b := k) (by omega) (by omega)] at c_24
      refine lv_aload_n hx hb dX5_turn_27 rfl (lv_at hl 0 rfl) ?_
      refine va_get (D := (dC, dI)) (ci := 5) (v := .ref q4) (C := RX5) (T := TX5) (N := 13) hx hb hts iX5 hown hK hP 0 rfl rfl 11 (by decide) (hts _ m_295) (fun _ h9 => h9) rfl dX5_turn_28 ?_
      refine lv_iload_n hx hb dX5_turn_31 rfl (lv_at hl 1 rfl) ?_
      refine lv_aload_n hx hb dX5_turn_32 rfl (lv_at hl 0 rfl) ?_
      refine va_get (D := (dC, dI)) (ci := 5) (v := .ref q5) (C := RX5) (T := TX5) (N := 13) hx hb hts iX5 hown hK hP 0 rfl rfl 12 (by decide) (hts _ m_296) (fun _ h9 => h9) rfl dX5_turn_33 ?_
      refine lv_iload_n hx hb dX5_turn_36 rfl (lv_at hl 1 rfl) ?_
      refine va_iald hx hb hK hP 2 1 rfl rfl (vp_in_nI (by omega) (by omega)) dX5_turn_37 ?_
      refine tI_ (y := f5 k) (congrArg f5 (nI_clamp (by omega))) ?_
      refine va_iast hx hb hK hP hD hS 1 0 rfl rfl (vp_in_nI (by omega) (by omega)) dX5_turn_38 (fun H locs hP hD hS => ?_)
      rw [nI_clamp (n := k) (by omega)] at hP hD
      have hP : va_P (dC, dI) vwCl [(mo, .inr (5, [.int (nI 0), .ref q1, .ref q2, .int z3, .int z4, .int z5, .int (nI (List.length inp)), .int (nI (List.length out)), .int z8, .int z9, .ref q3, .ref q4, .ref q5])), (q4, .inl (c4, 8192, .inl (upd u k (f5 k)))), (q5, .inl (c5, 24000, .inl f5))] H := hP
      have hD : va_D A [(mo, .inr (5, [.int (nI 0), .ref q1, .ref q2, .int z3, .int z4, .int z5, .int (nI (List.length inp)), .int (nI (List.length out)), .int z8, .int z9, .ref q3, .ref q4, .ref q5])), (q4, .inl (c4, 8192, .inl (upd u k (f5 k)))), (q5, .inl (c5, 24000, .inl f5))] := hD
      refine lv_iinc (v := nI (k + 1)) (lv' := [(1, .int (nI (k + 1))), (0, .ref mo)]) hx hb dX5_turn_39 hl (k := 1) rfl (ii_add (c := 1) (k := 1) k (by decide)) (by decide) rfl (fun ls hl => ?_)
      refine lv_goto (tgt := 19) hx hb dX5_turn_42 (by decide) ?_
      exact ih ((k + 1, upd u k (f5 k))) _ _ _ ⟨by omega, fun q hq => by
        by_cases hqk : q = k
        · subst hqk; exact pk_us
        · rw [pk_un hqk]; exact hu q (by omega), hP.sub [0, 1, 2] rfl, hD.sub [0, 1, 2] (by decide) rfl, hS, lv_sub hl [1, 0] rfl⟩ (by show out.length - (k + 1) < out.length - k; omega)
  · rw [nI_leI (a := (List.length out)) (b := 8192) (by omega) (by omega)] at c_12
    refine lv_iconst (v := nI 0) hx hb dX5_turn_15 (by decide) ?_
    exact kend_i hx hb hr hlocks dX5_turn_16 (rfl) hK hP hD hS ((f4, inp)) (⟨hf, bec_no (Or.inr (Or.inr (nI_lt (by omega) (by omega))))⟩) [0, 1, 2] [0, 1] rfl (by decide) rfl

set_option maxHeartbeats 4000000 in
set_option maxRecDepth 100000 in
/-- encode -/
theorem m_encode (l : Launch) (dC : Nat → ClassId) (dI : Nat → Nat → Nat) (sz : Nat) (mo q1 q2 q3 q4 q5 : Nat) (cd z5 z6 z7 z8 z9 : Int32) (wd : Nat) (c1 : ClassId) (f1 : Nat → Int32) (row : List Int32) (c5 : ClassId) (f5 : Nat → Int32) (hf : rHas f1 row) (hn : row.length ≤ 4096) (hwd : wd ≤ 32) : Met l yX5_encode wsX5_encode ({ frames := 3, cells := 0, slots := 0, locals := 75 }) (va_Pc [.ref mo] (kB (dC, dI) vwCl [(c1, .int), (c5, .int)] [(mo, .inr (5, [.int cd, .ref q1, .ref q2, .int (nI (List.length row)), .int (nI wd), .int z5, .int z6, .int z7, .int z8, .int z9, .ref q3, .ref q4, .ref q5])), (q1, .inl (c1, 4096, .inl f1)), (q5, .inl (c5, 24000, .inl f5))] sz)) (va_Qi (fun r (u : (Nat → Int32) × List Nat) => mB u.1 u.2 ∧ ((¬ fitsW row wd ∧ r = -1 ∧ u.2 = []) ∨ (fitsW row wd ∧ r = nI u.2.length ∧ u.2 = wrF row wd 4096 0))) (kE (dC, dI) vwCl (va_A [(mo, .inr (5, [.int cd, .ref q1, .ref q2, .int (nI (List.length row)), .int (nI wd), .int z5, .int z6, .int z7, .int z8, .int z9, .ref q3, .ref q4, .ref q5])), (q1, .inl (c1, 4096, .inl f1)), (q5, .inl (c5, 24000, .inl f5))] sz) (fun _ => [(c1, .int), (c5, .int)]) (fun u => [(mo, .inr (5, [.int (nI 0), .ref q1, .ref q2, .int (nI (List.length row)), .int (nI wd), .int z5, .int z6, .int (nI (List.length u.2)), .int z8, .int z9, .ref q3, .ref q4, .ref q5])), (q1, .inl (c1, 4096, .inl f1)), (q5, .inl (c5, 24000, .inl u.1))])) (va_A [(mo, .inr (5, [.int cd, .ref q1, .ref q2, .int (nI (List.length row)), .int (nI wd), .int z5, .int z6, .int z7, .int z8, .int z9, .ref q3, .ref q4, .ref q5])), (q1, .inl (c1, 4096, .inl f1)), (q5, .inl (c5, 24000, .inl f5))] sz)) 0 0 (va_A [(mo, .inr (5, [.int cd, .ref q1, .ref q2, .int (nI (List.length row)), .int (nI wd), .int z5, .int z6, .int z7, .int z8, .int z9, .ref q3, .ref q4, .ref q5])), (q1, .inl (c1, 4096, .inl f1)), (q5, .inl (c5, 24000, .inl f5))] sz) := by
  refine Met.ofW (cc := cX5_encode) (maxL := 2) (ret := (some .int)) (by decide) rfl ?_
  intro p e s m args below meth c s₁ B hml hv
  obtain ⟨rfl, hsz, hP, hK, hD0, hNs⟩ := hv
  have hx := B.exec
  have hb := B.bytes
  have hr := B.returns
  have hts := fun w (h : w ∈ lw_g) => atoms_spec (ws := wsX5_encode) B.pre w (List.mem_cons_of_mem _ h)
  have hown : s.vm.findClass RX5 = some m.cls := findClass_of_methodNamed B.named
  have hlocks := B.notSynchronized
  subst hsz
  have hD := hD0.self (sz := s.heap.size)
  generalize hAe : va_A [(mo, .inr (5, [.int cd, .ref q1, .ref q2, .int (nI (List.length row)), .int (nI wd), .int z5, .int z6, .int z7, .int z8, .int z9, .ref q3, .ref q4, .ref q5])), (q1, .inl (c1, 4096, .inl f1)), (q5, .inl (c5, 24000, .inl f5))] s.heap.size = A at hD ⊢
  have hA : ∀ q : Nat, s.heap.size ≤ q → A q := fun q h => by rw [← hAe]; exact Or.inr h
  have hS : va_S A s.heap s.heap [] := va_S.rf
  have hP : va_P (dC, dI) vwCl [(mo, .inr (5, [.int cd, .ref q1, .ref q2, .int (nI (List.length row)), .int (nI wd), .int z5, .int z6, .int z7, .int z8, .int z9, .ref q3, .ref q4, .ref q5])), (q1, .inl (c1, 4096, .inl f1)), (q5, .inl (c5, 24000, .inl f5))] s.heap := hP
  have hl := lv_entry ([.ref mo]) (n := 2) (Nat.le_of_ble_eq_true rfl)
  rw [lg_entry_eq]
  generalize (lg_sl ([.ref mo]) ++ List.replicate (2 - (lg_sl ([.ref mo])).length) Slot.unset).toArray = ls at hl ⊢
  have hl : lv_has ls 2 [(0, .ref mo)] := hl
  refine lv_aload_n hx hb dX5_encode_0 rfl (lv_at hl 0 rfl) ?_
  refine lv_iconst (v := nI 0) hx hb dX5_encode_1 (by decide) ?_
  refine va_put (D := (dC, dI)) (ci := 5) (v := .int (nI 0)) (ty := .int) (C := RX5) (T := TX5) (N := 13) hx hb hts iX5 tyX5 tyX5_ok nmX5 hown hK hP hD hS 0 rfl rfl 0 (by decide) (hts _ m_284) (fun _ h9 => h9) rfl (by decide +kernel) rfl rfl (Nat.le_of_ble_eq_true rfl) dX5_encode_2 (fun H locs hP hD hS => ?_)
  have hP : va_P (dC, dI) vwCl [(mo, .inr (5, [.int (nI 0), .ref q1, .ref q2, .int (nI (List.length row)), .int (nI wd), .int z5, .int z6, .int z7, .int z8, .int z9, .ref q3, .ref q4, .ref q5])), (q1, .inl (c1, 4096, .inl f1)), (q5, .inl (c5, 24000, .inl f5))] H := hP
  have hD : va_D A [(mo, .inr (5, [.int (nI 0), .ref q1, .ref q2, .int (nI (List.length row)), .int (nI wd), .int z5, .int z6, .int z7, .int z8, .int z9, .ref q3, .ref q4, .ref q5])), (q1, .inl (c1, 4096, .inl f1)), (q5, .inl (c5, 24000, .inl f5))] := hD
  refine lv_aload_n hx hb dX5_encode_5 rfl (lv_at hl 0 rfl) ?_
  refine lv_iconst (v := nI 0) hx hb dX5_encode_6 (by decide) ?_
  refine va_put (D := (dC, dI)) (ci := 5) (v := .int (nI 0)) (ty := .int) (C := RX5) (T := TX5) (N := 13) hx hb hts iX5 tyX5 tyX5_ok nmX5 hown hK hP hD hS 0 rfl rfl 7 (by decide) (hts _ m_291) (fun _ h9 => h9) rfl (by decide +kernel) rfl rfl (Nat.le_of_ble_eq_true rfl) dX5_encode_7 (fun H locs hP hD hS => ?_)
  have hP : va_P (dC, dI) vwCl [(mo, .inr (5, [.int (nI 0), .ref q1, .ref q2, .int (nI (List.length row)), .int (nI wd), .int z5, .int z6, .int (nI 0), .int z8, .int z9, .ref q3, .ref q4, .ref q5])), (q1, .inl (c1, 4096, .inl f1)), (q5, .inl (c5, 24000, .inl f5))] H := hP
  have hD : va_D A [(mo, .inr (5, [.int (nI 0), .ref q1, .ref q2, .int (nI (List.length row)), .int (nI wd), .int z5, .int z6, .int (nI 0), .int z8, .int z9, .ref q3, .ref q4, .ref q5])), (q1, .inl (c1, 4096, .inl f1)), (q5, .inl (c5, 24000, .inl f5))] := hD
  refine lv_iconst (v := nI 0) hx hb dX5_encode_10 (by decide) ?_
  refine lv_istore_n (lv' := [(1, .int (nI 0)), (0, .ref mo)]) hx hb dX5_encode_11 rfl hl (by decide) rfl (fun ls hl => ?_)
  refine k_loop (σ := Nat) (fun (z : Nat) H locs ls => match z with
        | k => k ≤ row.length ∧ (∀ j, j < k → uv (row.getD j 0) < 2 ^ wd) ∧ va_P (dC, dI) vwCl [(mo, .inr (5, [.int (nI 0), .ref q1, .ref q2, .int (nI (List.length row)), .int (nI wd), .int z5, .int z6, .int (nI 0), .int z8, .int z9, .ref q3, .ref q4, .ref q5])), (q1, .inl (c1, 4096, .inl f1)), (q5, .inl (c5, 24000, .inl f5))] H ∧ va_D A [(mo, .inr (5, [.int (nI 0), .ref q1, .ref q2, .int (nI (List.length row)), .int (nI wd), .int z5, .int z6, .int (nI 0), .int z8, .int z9, .ref q3, .ref q4, .ref q5])), (q1, .inl (c1, 4096, .inl f1)), (q5, .inl (c5, 24000, .inl f5))] ∧ va_S A s.heap H locs ∧ lv_has ls 2 [(0, .ref mo), (1, .int (nI k))]) (fun z => match z with
        | k => row.length - k) ?_ (0) _ _ _ ⟨Nat.zero_le _, fun j h => absurd h (Nat.not_lt_zero j), hP.sub [0, 1, 2] rfl, hD.sub [0, 1, 2] (by decide) rfl, hS, lv_sub hl [1, 0] rfl⟩
  intro z H locs ls hI ih
  obtain ⟨k, rfl⟩ : ∃ y, y = z := ⟨_, rfl⟩
  obtain ⟨hk, hkf, hP, hD, hS, hl⟩ := hI
  refine lv_iload_n hx hb dX5_encode_12 rfl (lv_at hl 1 rfl) ?_
  refine lv_aload_n hx hb dX5_encode_13 rfl (lv_at hl 0 rfl) ?_
  refine va_get (D := (dC, dI)) (ci := 5) (v := .int (nI (List.length row))) (C := RX5) (T := TX5) (N := 13) hx hb hts iX5 hown hK hP 0 rfl rfl 3 (by decide) (hts _ m_287) (fun _ h9 => h9) rfl dX5_encode_14 ?_
  refine lv_icmp_ge (tgt := 51) hx hb dX5_encode_17 (by decide) (fun c_17 => ?_) (fun c_17 => ?_)
  · rw [nI_leI (a := (List.length row)) (b := k) (by omega) (by omega)] at c_17
    have hfit : fitsW row wd := fitsW_of (fun j hj => hkf j (by omega))
    refine lv_aload_n hx hb dX5_encode_51 rfl (lv_at hl 0 rfl) ?_
    refine lv_aload_n hx hb dX5_encode_52 rfl (lv_at hl 0 rfl) ?_
    refine va_get (D := (dC, dI)) (ci := 5) (v := .ref q1) (C := RX5) (T := TX5) (N := 13) hx hb hts iX5 hown hK hP 0 rfl rfl 1 (by decide) (hts _ m_285) (fun _ h9 => h9) rfl dX5_encode_53 ?_
    refine lv_aload_n hx hb dX5_encode_56 rfl (lv_at hl 0 rfl) ?_
    refine va_get (D := (dC, dI)) (ci := 5) (v := .int (nI (List.length row))) (C := RX5) (T := TX5) (N := 13) hx hb hts iX5 hown hK hP 0 rfl rfl 3 (by decide) (hts _ m_287) (fun _ h9 => h9) rfl dX5_encode_57 ?_
    refine lv_aload_n hx hb dX5_encode_60 rfl (lv_at hl 0 rfl) ?_
    refine va_get (D := (dC, dI)) (ci := 5) (v := .int (nI wd)) (C := RX5) (T := TX5) (N := 13) hx hb hts iX5 hown hK hP 0 rfl rfl 4 (by decide) (hts _ m_288) (fun _ h9 => h9) rfl dX5_encode_61 ?_
    refine kret_v (wc := [(mo, .inr (5, [.int (nI 0), .ref q1, .ref q2, .int (nI (List.length row)), .int (nI wd), .int z5, .int z6, .int (nI 0), .int z8, .int z9, .ref q3, .ref q4, .ref q5])), (q1, .inl (c1, 4096, .inl f1)), (q5, .inl (c5, 24000, .inl f5))]) (wr := []) (va_runV (As := [.ref q1, .int (nI (List.length row)), .int (nI wd)]) (rest := []) ⟨hx, hb, hml, hown, hts⟩ (m_writeRuns l dC dI _ mo q1 q2 q3 q4 q5 (nI 0) (nI (List.length row)) (nI wd) z5 z6 z8 z9 c1 f1 row c5 f5 wd hf hn hwd hfit) (cwV 3 hts (gdV m_348 m_350 mp_11 m_7 m_351) rfl rfl rfl (by decide +kernel) ⟨Nat.le_of_ble_eq_true rfl, Nat.le_of_ble_eq_true rfl⟩) (kpV hNs hK hP hD [0, 1, 2] [0, 1] rfl rfl (by decide) (ci := 5) rfl rfl) rfl rfl hl.1 rfl (lv_room (Nat.le_of_ble_eq_true rfl)) dX5_encode_64 ⟨Nat.le_of_ble_eq_true rfl, Nat.le_of_ble_eq_true rfl⟩) hP hD hS hA [0, 1, 2] [] rfl rfl (by decide) (by decide) (fun u H locs hpo hK1 hP hD hS => ?_)
    have hu := hpo
    have hP : va_P (dC, dI) vwCl [(mo, .inr (5, [.int (nI 0), .ref q1, .ref q2, .int (nI (List.length row)), .int (nI wd), .int z5, .int z6, .int (nI (List.length (wrF row wd 4096 0))), .int z8, .int z9, .ref q3, .ref q4, .ref q5])), (q1, .inl (c1, 4096, .inl f1)), (q5, .inl (c5, 24000, .inl u))] H := hP
    have hD : va_D A [(mo, .inr (5, [.int (nI 0), .ref q1, .ref q2, .int (nI (List.length row)), .int (nI wd), .int z5, .int z6, .int (nI (List.length (wrF row wd 4096 0))), .int z8, .int z9, .ref q3, .ref q4, .ref q5])), (q1, .inl (c1, 4096, .inl f1)), (q5, .inl (c5, 24000, .inl u))] := hD
    refine lv_aload_n hx hb dX5_encode_67 rfl (lv_at hl 0 rfl) ?_
    refine va_get (D := (dC, dI)) (ci := 5) (v := .int (nI (List.length (wrF row wd 4096 0)))) (C := RX5) (T := TX5) (N := 13) hx hb hts iX5 hown hK hP 0 rfl rfl 7 (by decide) (hts _ m_291) (fun _ h9 => h9) rfl dX5_encode_68 ?_
    exact kend_i hx hb hr hlocks dX5_encode_71 (rfl) hK hP hD hS ((u, wrF row wd 4096 0)) (⟨hu, Or.inr ⟨hfit, rfl, rfl⟩⟩) [0, 1, 2] [0, 1] rfl (by decide) rfl
  · rw [nI_leI (a := (List.length row)) (b := k) (by omega) (by omega)] at c_17
    refine lv_aload_n hx hb dX5_encode_20 rfl (lv_at hl 0 rfl) ?_
    refine va_get (D := (dC, dI)) (ci := 5) (v := .int (nI wd)) (C := RX5) (T := TX5) (N := 13) hx hb hts iX5 hown hK hP 0 rfl rfl 4 (by decide) (hts _ m_288) (fun _ h9 => h9) rfl dX5_encode_21 ?_
    refine lv_bipush (v := nI 32) hx hb dX5_encode_24 (by decide) ?_
    refine lv_icmp_ge (tgt := 45) hx hb dX5_encode_26 (by decide) (fun c_26 => ?_) (fun c_26 => ?_)
    · rw [nI_leI (a := 32) (b := wd) (by omega) (by omega)] at c_26
      have hlt9 : uv (row.getD k 0) < 2 ^ wd := by
        rw [show wd = 32 by omega]; exact uv_lt _
      refine lv_iinc (v := nI (k + 1)) (lv' := [(1, .int (nI (k + 1))), (0, .ref mo)]) hx hb dX5_encode_45 hl (k := 1) rfl (ii_add (c := 1) (k := 1) k (by decide)) (by decide) rfl (fun ls hl => ?_)
      refine lv_goto (tgt := 12) hx hb dX5_encode_48 (by decide) ?_
      exact ih (k + 1) _ _ _ ⟨by omega, fun j hj => by
        by_cases hjk : j = k
        · subst hjk; exact hlt9
        · exact hkf j (by omega), hP.sub [0, 1, 2] rfl, hD.sub [0, 1, 2] (by decide) rfl, hS, lv_sub hl [1, 0] rfl⟩ (by show row.length - (k + 1) < row.length - k; omega)
    · rw [nI_leI (a := 32) (b := wd) (by omega) (by omega)] at c_26
      refine lv_aload_n hx hb dX5_encode_29 rfl (lv_at hl 0 rfl) ?_
      refine va_get (D := (dC, dI)) (ci := 5) (v := .ref q1) (C := RX5) (T := TX5) (N := 13) hx hb hts iX5 hown hK hP 0 rfl rfl 1 (by decide) (hts _ m_285) (fun _ h9 => h9) rfl dX5_encode_30 ?_
      refine lv_iload_n hx hb dX5_encode_33 rfl (lv_at hl 1 rfl) ?_
      refine va_iald hx hb hK hP 1 0 rfl rfl (vp_in_nI (by omega) (by omega)) dX5_encode_34 ?_
      refine tI_ (y := f1 k) (congrArg f1 (nI_clamp (by omega))) ?_
      refine lv_aload_n hx hb dX5_encode_35 rfl (lv_at hl 0 rfl) ?_
      refine va_get (D := (dC, dI)) (ci := 5) (v := .int (nI wd)) (C := RX5) (T := TX5) (N := 13) hx hb hts iX5 hown hK hP 0 rfl rfl 4 (by decide) (hts _ m_288) (fun _ h9 => h9) rfl dX5_encode_36 ?_
      refine lv_iushr (v := sh (f1 k) wd) hx hb dX5_encode_39 (rfl) ?_
      refine lv_if_eq (tgt := 45) hx hb dX5_encode_40 (by decide) (fun c_40 => ?_) (fun c_40 => ?_)
      · rw [uv_z, uv_sh _ (by omega), hf k (by omega)] at c_40
        have hlt9 : uv (row.getD k 0) < 2 ^ wd := by
          rcases Nat.lt_or_ge (uv (row.getD k 0)) (2 ^ wd) with q | q
          · exact q
          · exact absurd (Nat.div_pos q (Nat.pow_pos (by decide))) (by omega)
        refine lv_iinc (v := nI (k + 1)) (lv' := [(1, .int (nI (k + 1))), (0, .ref mo)]) hx hb dX5_encode_45 hl (k := 1) rfl (ii_add (c := 1) (k := 1) k (by decide)) (by decide) rfl (fun ls hl => ?_)
        refine lv_goto (tgt := 12) hx hb dX5_encode_48 (by decide) ?_
        exact ih (k + 1) _ _ _ ⟨by omega, fun j hj => by
          by_cases hjk : j = k
          · subst hjk; exact hlt9
          · exact hkf j (by omega), hP.sub [0, 1, 2] rfl, hD.sub [0, 1, 2] (by decide) rfl, hS, lv_sub hl [1, 0] rfl⟩ (by show row.length - (k + 1) < row.length - k; omega)
      · rw [uv_z, uv_sh _ (by omega), hf k (by omega)] at c_40
        refine lv_iconst (v := (-1)) hx hb dX5_encode_43 (by decide) ?_
        exact kend_i hx hb hr hlocks dX5_encode_44 (rfl) hK hP hD hS ((f5, [])) (⟨mB_nil _, Or.inl ⟨fun h => c_40 (Nat.div_eq_of_lt (h k)), rfl, rfl⟩⟩) [0, 1, 2] [0, 1] rfl (by decide) rfl

set_option maxHeartbeats 4000000 in
set_option maxRecDepth 100000 in
/-- RunRowsModel() -/
theorem m_init (l : Launch) (dC : Nat → ClassId) (dI : Nat → Nat → Nat) (sz : Nat) (mo : Nat)  : Met l yX5_init wsX5_init ({ frames := 1, cells := 5, slots := 48584, locals := 12 }) (va_Pc [.ref mo] (kB (dC, dI) vwCl [] [(mo, .inr (5, [.int 0, .null, .null, .int 0, .int 0, .int 0, .int 0, .int 0, .int 0, .int 0, .null, .null, .null]))] sz)) (va_Qv (fun (_ : (Nat × Nat × Nat × Nat × Nat) × (ClassId × ClassId × ClassId × ClassId × ClassId)) => True) (kE (dC, dI) vwCl (va_A [(mo, .inr (5, [.int 0, .null, .null, .int 0, .int 0, .int 0, .int 0, .int 0, .int 0, .int 0, .null, .null, .null]))] sz) (fun u => match u with
  | (_, (c1, c2, c3, c4, c5)) => [(c1, .int), (c2, .int), (c3, .int), (c4, .int), (c5, .int)]) (fun u => match u with
  | ((q1, q2, q3, q4, q5), (c1, c2, c3, c4, c5)) => [(mo, .inr (5, [.int 0, .ref q1, .ref q2, .int 0, .int 0, .int 0, .int 0, .int 0, .int 0, .int 0, .ref q3, .ref q4, .ref q5])), (q1, .inl (c1, 4096, .inl (fun _ => (0 : Int32)))), (q2, .inl (c2, 4104, .inl (fun _ => (0 : Int32)))), (q3, .inl (c3, 8192, .inl (fun _ => (0 : Int32)))), (q4, .inl (c4, 8192, .inl (fun _ => (0 : Int32)))), (q5, .inl (c5, 24000, .inl (fun _ => (0 : Int32))))])) (va_A [(mo, .inr (5, [.int 0, .null, .null, .int 0, .int 0, .int 0, .int 0, .int 0, .int 0, .int 0, .null, .null, .null]))] sz)) 5 48584 (va_A [(mo, .inr (5, [.int 0, .null, .null, .int 0, .int 0, .int 0, .int 0, .int 0, .int 0, .int 0, .null, .null, .null]))] sz) := by
  refine Met.ofW (cc := cX5_init) (maxL := 1) (ret := none) (by decide) rfl ?_
  intro p e s m args below meth c s₁ B hml hv
  obtain ⟨rfl, hsz, hP, hK, hD0, hNs⟩ := hv
  have hx := B.exec
  have hb := B.bytes
  have hr := B.returns
  have hts := fun w (h : w ∈ lw_g) => atoms_spec (ws := wsX5_init) B.pre w (List.mem_cons_of_mem _ h)
  have hown : s.vm.findClass RX5 = some m.cls := findClass_of_methodNamed B.named
  have hlocks := B.notSynchronized
  have hin : meth.name = "<init>" := (name_of_methodNamed B.named B.method).1
  subst hsz
  have hD := hD0.self (sz := s.heap.size)
  generalize hAe : va_A [(mo, .inr (5, [.int 0, .null, .null, .int 0, .int 0, .int 0, .int 0, .int 0, .int 0, .int 0, .null, .null, .null]))] s.heap.size = A at hD ⊢
  have hA : ∀ q : Nat, s.heap.size ≤ q → A q := fun q h => by rw [← hAe]; exact Or.inr h
  have hS : va_S A s.heap s.heap [] := va_S.rf
  have hP : va_P (dC, dI) vwCl [(mo, .inr (5, [.int 0, .null, .null, .int 0, .int 0, .int 0, .int 0, .int 0, .int 0, .int 0, .null, .null, .null]))] s.heap := hP
  have hl := lv_entry ([.ref mo]) (n := 1) (Nat.le_of_ble_eq_true rfl)
  rw [lg_entry_eq]
  generalize (lg_sl ([.ref mo]) ++ List.replicate (1 - (lg_sl ([.ref mo])).length) Slot.unset).toArray = ls at hl ⊢
  have hl : lv_has ls 1 [(0, .ref mo)] := hl
  refine lv_aload_n hx hb dX5_init_0 rfl (lv_at hl 0 rfl) ?_
  refine W.objInit hx hb hown (hts _ m_283) (hts _ m_16) (hts _ m_17) rfl (by rw [hml]; exact hl.1) rfl dX5_init_1 (Nat.le_of_ble_eq_true rfl) (Nat.le_of_ble_eq_true rfl) ?_
  refine W.eq (g2 := F0 m 4 ls []) rfl ?_
  refine lv_aload_n hx hb dX5_init_4 rfl (lv_at hl 0 rfl) ?_
  refine lv_sipush (v := nI 4096) hx hb dX5_init_5 (by decide) ?_
  refine va_newa (atype := .int) (ty := .int) (N' := 4096) (a0 := (4096, .inl (fun _ => 0))) hx hb (hts _ m_80) rfl hK hP hD hS hA (fun _ => rfl) (nI_pos (by decide)) (nI_clamp (by decide)) (by decide) (Nat.le_of_ble_eq_true rfl) (Nat.le_of_ble_eq_true rfl) dX5_init_8 (fun q1 c1 H hK hP hD hS => ?_)
  have hK : va_K (dC, dI) vwCl [(c1, .int)] s := hK
  have hP : va_P (dC, dI) vwCl [(mo, .inr (5, [.int 0, .null, .null, .int 0, .int 0, .int 0, .int 0, .int 0, .int 0, .int 0, .null, .null, .null])), (q1, .inl (c1, 4096, .inl (fun _ => 0)))] H := hP
  have hD : va_D A [(mo, .inr (5, [.int 0, .null, .null, .int 0, .int 0, .int 0, .int 0, .int 0, .int 0, .int 0, .null, .null, .null])), (q1, .inl (c1, 4096, .inl (fun _ => 0)))] := hD
  have hP : va_P (dC, dI) vwCl [(mo, .inr (5, [.int 0, .null, .null, .int 0, .int 0, .int 0, .int 0, .int 0, .int 0, .int 0, .null, .null, .null])), (q1, .inl (c1, 4096, .inl (fun _ => (0 : Int32))))] H := hP
  have hD : va_D A [(mo, .inr (5, [.int 0, .null, .null, .int 0, .int 0, .int 0, .int 0, .int 0, .int 0, .int 0, .null, .null, .null])), (q1, .inl (c1, 4096, .inl (fun _ => (0 : Int32))))] := hD
  refine W.widen (k := 1) (n := 4096) (by omega) (by omega) ?_
  refine va_putF (D := (dC, dI)) (ci := 5) (v := .ref q1) (ty := .array .int) (C := RX5) (T := TX5) (N := 13) hx hb hts iX5 tyX5 tyX5_ok nmX5 hown hK hP hD hS 0 rfl rfl 1 (by decide) (hts _ m_285) (fun _ h9 => h9) rfl hin rfl (by decide +kernel) rfl rfl (Nat.le_of_ble_eq_true rfl) dX5_init_10 (fun H locs hP hD hS => ?_)
  have hP : va_P (dC, dI) vwCl [(mo, .inr (5, [.int 0, .ref q1, .null, .int 0, .int 0, .int 0, .int 0, .int 0, .int 0, .int 0, .null, .null, .null])), (q1, .inl (c1, 4096, .inl (fun _ => (0 : Int32))))] H := hP
  have hD : va_D A [(mo, .inr (5, [.int 0, .ref q1, .null, .int 0, .int 0, .int 0, .int 0, .int 0, .int 0, .int 0, .null, .null, .null])), (q1, .inl (c1, 4096, .inl (fun _ => (0 : Int32))))] := hD
  refine lv_aload_n hx hb dX5_init_13 rfl (lv_at hl 0 rfl) ?_
  refine lv_sipush (v := nI 4104) hx hb dX5_init_14 (by decide) ?_
  refine va_newa (atype := .int) (ty := .int) (N' := 4104) (a0 := (4104, .inl (fun _ => 0))) hx hb (hts _ m_80) rfl hK hP hD hS hA (fun _ => rfl) (nI_pos (by decide)) (nI_clamp (by decide)) (by decide) (Nat.le_of_ble_eq_true rfl) (Nat.le_of_ble_eq_true rfl) dX5_init_17 (fun q2 c2 H hK hP hD hS => ?_)
  have hK : va_K (dC, dI) vwCl [(c1, .int), (c2, .int)] s := hK
  have hP : va_P (dC, dI) vwCl [(mo, .inr (5, [.int 0, .ref q1, .null, .int 0, .int 0, .int 0, .int 0, .int 0, .int 0, .int 0, .null, .null, .null])), (q1, .inl (c1, 4096, .inl (fun _ => (0 : Int32)))), (q2, .inl (c2, 4104, .inl (fun _ => 0)))] H := hP
  have hD : va_D A [(mo, .inr (5, [.int 0, .ref q1, .null, .int 0, .int 0, .int 0, .int 0, .int 0, .int 0, .int 0, .null, .null, .null])), (q1, .inl (c1, 4096, .inl (fun _ => (0 : Int32)))), (q2, .inl (c2, 4104, .inl (fun _ => 0)))] := hD
  have hP : va_P (dC, dI) vwCl [(mo, .inr (5, [.int 0, .ref q1, .null, .int 0, .int 0, .int 0, .int 0, .int 0, .int 0, .int 0, .null, .null, .null])), (q1, .inl (c1, 4096, .inl (fun _ => (0 : Int32)))), (q2, .inl (c2, 4104, .inl (fun _ => (0 : Int32))))] H := hP
  have hD : va_D A [(mo, .inr (5, [.int 0, .ref q1, .null, .int 0, .int 0, .int 0, .int 0, .int 0, .int 0, .int 0, .null, .null, .null])), (q1, .inl (c1, 4096, .inl (fun _ => (0 : Int32)))), (q2, .inl (c2, 4104, .inl (fun _ => (0 : Int32))))] := hD
  refine W.widen (k := 2) (n := 8200) (by omega) (by omega) ?_
  refine va_putF (D := (dC, dI)) (ci := 5) (v := .ref q2) (ty := .array .int) (C := RX5) (T := TX5) (N := 13) hx hb hts iX5 tyX5 tyX5_ok nmX5 hown hK hP hD hS 0 rfl rfl 2 (by decide) (hts _ m_286) (fun _ h9 => h9) rfl hin rfl (by decide +kernel) rfl rfl (Nat.le_of_ble_eq_true rfl) dX5_init_19 (fun H locs hP hD hS => ?_)
  have hP : va_P (dC, dI) vwCl [(mo, .inr (5, [.int 0, .ref q1, .ref q2, .int 0, .int 0, .int 0, .int 0, .int 0, .int 0, .int 0, .null, .null, .null])), (q1, .inl (c1, 4096, .inl (fun _ => (0 : Int32)))), (q2, .inl (c2, 4104, .inl (fun _ => (0 : Int32))))] H := hP
  have hD : va_D A [(mo, .inr (5, [.int 0, .ref q1, .ref q2, .int 0, .int 0, .int 0, .int 0, .int 0, .int 0, .int 0, .null, .null, .null])), (q1, .inl (c1, 4096, .inl (fun _ => (0 : Int32)))), (q2, .inl (c2, 4104, .inl (fun _ => (0 : Int32))))] := hD
  refine lv_aload_n hx hb dX5_init_22 rfl (lv_at hl 0 rfl) ?_
  refine lv_sipush (v := nI 8192) hx hb dX5_init_23 (by decide) ?_
  refine va_newa (atype := .int) (ty := .int) (N' := 8192) (a0 := (8192, .inl (fun _ => 0))) hx hb (hts _ m_80) rfl hK hP hD hS hA (fun _ => rfl) (nI_pos (by decide)) (nI_clamp (by decide)) (by decide) (Nat.le_of_ble_eq_true rfl) (Nat.le_of_ble_eq_true rfl) dX5_init_26 (fun q3 c3 H hK hP hD hS => ?_)
  have hK : va_K (dC, dI) vwCl [(c1, .int), (c2, .int), (c3, .int)] s := hK
  have hP : va_P (dC, dI) vwCl [(mo, .inr (5, [.int 0, .ref q1, .ref q2, .int 0, .int 0, .int 0, .int 0, .int 0, .int 0, .int 0, .null, .null, .null])), (q1, .inl (c1, 4096, .inl (fun _ => (0 : Int32)))), (q2, .inl (c2, 4104, .inl (fun _ => (0 : Int32)))), (q3, .inl (c3, 8192, .inl (fun _ => 0)))] H := hP
  have hD : va_D A [(mo, .inr (5, [.int 0, .ref q1, .ref q2, .int 0, .int 0, .int 0, .int 0, .int 0, .int 0, .int 0, .null, .null, .null])), (q1, .inl (c1, 4096, .inl (fun _ => (0 : Int32)))), (q2, .inl (c2, 4104, .inl (fun _ => (0 : Int32)))), (q3, .inl (c3, 8192, .inl (fun _ => 0)))] := hD
  have hP : va_P (dC, dI) vwCl [(mo, .inr (5, [.int 0, .ref q1, .ref q2, .int 0, .int 0, .int 0, .int 0, .int 0, .int 0, .int 0, .null, .null, .null])), (q1, .inl (c1, 4096, .inl (fun _ => (0 : Int32)))), (q2, .inl (c2, 4104, .inl (fun _ => (0 : Int32)))), (q3, .inl (c3, 8192, .inl (fun _ => (0 : Int32))))] H := hP
  have hD : va_D A [(mo, .inr (5, [.int 0, .ref q1, .ref q2, .int 0, .int 0, .int 0, .int 0, .int 0, .int 0, .int 0, .null, .null, .null])), (q1, .inl (c1, 4096, .inl (fun _ => (0 : Int32)))), (q2, .inl (c2, 4104, .inl (fun _ => (0 : Int32)))), (q3, .inl (c3, 8192, .inl (fun _ => (0 : Int32))))] := hD
  refine W.widen (k := 3) (n := 16392) (by omega) (by omega) ?_
  refine va_putF (D := (dC, dI)) (ci := 5) (v := .ref q3) (ty := .array .int) (C := RX5) (T := TX5) (N := 13) hx hb hts iX5 tyX5 tyX5_ok nmX5 hown hK hP hD hS 0 rfl rfl 10 (by decide) (hts _ m_294) (fun _ h9 => h9) rfl hin rfl (by decide +kernel) rfl rfl (Nat.le_of_ble_eq_true rfl) dX5_init_28 (fun H locs hP hD hS => ?_)
  have hP : va_P (dC, dI) vwCl [(mo, .inr (5, [.int 0, .ref q1, .ref q2, .int 0, .int 0, .int 0, .int 0, .int 0, .int 0, .int 0, .ref q3, .null, .null])), (q1, .inl (c1, 4096, .inl (fun _ => (0 : Int32)))), (q2, .inl (c2, 4104, .inl (fun _ => (0 : Int32)))), (q3, .inl (c3, 8192, .inl (fun _ => (0 : Int32))))] H := hP
  have hD : va_D A [(mo, .inr (5, [.int 0, .ref q1, .ref q2, .int 0, .int 0, .int 0, .int 0, .int 0, .int 0, .int 0, .ref q3, .null, .null])), (q1, .inl (c1, 4096, .inl (fun _ => (0 : Int32)))), (q2, .inl (c2, 4104, .inl (fun _ => (0 : Int32)))), (q3, .inl (c3, 8192, .inl (fun _ => (0 : Int32))))] := hD
  refine lv_aload_n hx hb dX5_init_31 rfl (lv_at hl 0 rfl) ?_
  refine lv_sipush (v := nI 8192) hx hb dX5_init_32 (by decide) ?_
  refine va_newa (atype := .int) (ty := .int) (N' := 8192) (a0 := (8192, .inl (fun _ => 0))) hx hb (hts _ m_80) rfl hK hP hD hS hA (fun _ => rfl) (nI_pos (by decide)) (nI_clamp (by decide)) (by decide) (Nat.le_of_ble_eq_true rfl) (Nat.le_of_ble_eq_true rfl) dX5_init_35 (fun q4 c4 H hK hP hD hS => ?_)
  have hK : va_K (dC, dI) vwCl [(c1, .int), (c2, .int), (c3, .int), (c4, .int)] s := hK
  have hP : va_P (dC, dI) vwCl [(mo, .inr (5, [.int 0, .ref q1, .ref q2, .int 0, .int 0, .int 0, .int 0, .int 0, .int 0, .int 0, .ref q3, .null, .null])), (q1, .inl (c1, 4096, .inl (fun _ => (0 : Int32)))), (q2, .inl (c2, 4104, .inl (fun _ => (0 : Int32)))), (q3, .inl (c3, 8192, .inl (fun _ => (0 : Int32)))), (q4, .inl (c4, 8192, .inl (fun _ => 0)))] H := hP
  have hD : va_D A [(mo, .inr (5, [.int 0, .ref q1, .ref q2, .int 0, .int 0, .int 0, .int 0, .int 0, .int 0, .int 0, .ref q3, .null, .null])), (q1, .inl (c1, 4096, .inl (fun _ => (0 : Int32)))), (q2, .inl (c2, 4104, .inl (fun _ => (0 : Int32)))), (q3, .inl (c3, 8192, .inl (fun _ => (0 : Int32)))), (q4, .inl (c4, 8192, .inl (fun _ => 0)))] := hD
  have hP : va_P (dC, dI) vwCl [(mo, .inr (5, [.int 0, .ref q1, .ref q2, .int 0, .int 0, .int 0, .int 0, .int 0, .int 0, .int 0, .ref q3, .null, .null])), (q1, .inl (c1, 4096, .inl (fun _ => (0 : Int32)))), (q2, .inl (c2, 4104, .inl (fun _ => (0 : Int32)))), (q3, .inl (c3, 8192, .inl (fun _ => (0 : Int32)))), (q4, .inl (c4, 8192, .inl (fun _ => (0 : Int32))))] H := hP
  have hD : va_D A [(mo, .inr (5, [.int 0, .ref q1, .ref q2, .int 0, .int 0, .int 0, .int 0, .int 0, .int 0, .int 0, .ref q3, .null, .null])), (q1, .inl (c1, 4096, .inl (fun _ => (0 : Int32)))), (q2, .inl (c2, 4104, .inl (fun _ => (0 : Int32)))), (q3, .inl (c3, 8192, .inl (fun _ => (0 : Int32)))), (q4, .inl (c4, 8192, .inl (fun _ => (0 : Int32))))] := hD
  refine W.widen (k := 4) (n := 24584) (by omega) (by omega) ?_
  refine va_putF (D := (dC, dI)) (ci := 5) (v := .ref q4) (ty := .array .int) (C := RX5) (T := TX5) (N := 13) hx hb hts iX5 tyX5 tyX5_ok nmX5 hown hK hP hD hS 0 rfl rfl 11 (by decide) (hts _ m_295) (fun _ h9 => h9) rfl hin rfl (by decide +kernel) rfl rfl (Nat.le_of_ble_eq_true rfl) dX5_init_37 (fun H locs hP hD hS => ?_)
  have hP : va_P (dC, dI) vwCl [(mo, .inr (5, [.int 0, .ref q1, .ref q2, .int 0, .int 0, .int 0, .int 0, .int 0, .int 0, .int 0, .ref q3, .ref q4, .null])), (q1, .inl (c1, 4096, .inl (fun _ => (0 : Int32)))), (q2, .inl (c2, 4104, .inl (fun _ => (0 : Int32)))), (q3, .inl (c3, 8192, .inl (fun _ => (0 : Int32)))), (q4, .inl (c4, 8192, .inl (fun _ => (0 : Int32))))] H := hP
  have hD : va_D A [(mo, .inr (5, [.int 0, .ref q1, .ref q2, .int 0, .int 0, .int 0, .int 0, .int 0, .int 0, .int 0, .ref q3, .ref q4, .null])), (q1, .inl (c1, 4096, .inl (fun _ => (0 : Int32)))), (q2, .inl (c2, 4104, .inl (fun _ => (0 : Int32)))), (q3, .inl (c3, 8192, .inl (fun _ => (0 : Int32)))), (q4, .inl (c4, 8192, .inl (fun _ => (0 : Int32))))] := hD
  refine lv_aload_n hx hb dX5_init_40 rfl (lv_at hl 0 rfl) ?_
  refine lv_sipush (v := nI 24000) hx hb dX5_init_41 (by decide) ?_
  refine va_newa (atype := .int) (ty := .int) (N' := 24000) (a0 := (24000, .inl (fun _ => 0))) hx hb (hts _ m_80) rfl hK hP hD hS hA (fun _ => rfl) (nI_pos (by decide)) (nI_clamp (by decide)) (by decide) (Nat.le_of_ble_eq_true rfl) (Nat.le_of_ble_eq_true rfl) dX5_init_44 (fun q5 c5 H hK hP hD hS => ?_)
  have hK : va_K (dC, dI) vwCl [(c1, .int), (c2, .int), (c3, .int), (c4, .int), (c5, .int)] s := hK
  have hP : va_P (dC, dI) vwCl [(mo, .inr (5, [.int 0, .ref q1, .ref q2, .int 0, .int 0, .int 0, .int 0, .int 0, .int 0, .int 0, .ref q3, .ref q4, .null])), (q1, .inl (c1, 4096, .inl (fun _ => (0 : Int32)))), (q2, .inl (c2, 4104, .inl (fun _ => (0 : Int32)))), (q3, .inl (c3, 8192, .inl (fun _ => (0 : Int32)))), (q4, .inl (c4, 8192, .inl (fun _ => (0 : Int32)))), (q5, .inl (c5, 24000, .inl (fun _ => 0)))] H := hP
  have hD : va_D A [(mo, .inr (5, [.int 0, .ref q1, .ref q2, .int 0, .int 0, .int 0, .int 0, .int 0, .int 0, .int 0, .ref q3, .ref q4, .null])), (q1, .inl (c1, 4096, .inl (fun _ => (0 : Int32)))), (q2, .inl (c2, 4104, .inl (fun _ => (0 : Int32)))), (q3, .inl (c3, 8192, .inl (fun _ => (0 : Int32)))), (q4, .inl (c4, 8192, .inl (fun _ => (0 : Int32)))), (q5, .inl (c5, 24000, .inl (fun _ => 0)))] := hD
  have hP : va_P (dC, dI) vwCl [(mo, .inr (5, [.int 0, .ref q1, .ref q2, .int 0, .int 0, .int 0, .int 0, .int 0, .int 0, .int 0, .ref q3, .ref q4, .null])), (q1, .inl (c1, 4096, .inl (fun _ => (0 : Int32)))), (q2, .inl (c2, 4104, .inl (fun _ => (0 : Int32)))), (q3, .inl (c3, 8192, .inl (fun _ => (0 : Int32)))), (q4, .inl (c4, 8192, .inl (fun _ => (0 : Int32)))), (q5, .inl (c5, 24000, .inl (fun _ => (0 : Int32))))] H := hP
  have hD : va_D A [(mo, .inr (5, [.int 0, .ref q1, .ref q2, .int 0, .int 0, .int 0, .int 0, .int 0, .int 0, .int 0, .ref q3, .ref q4, .null])), (q1, .inl (c1, 4096, .inl (fun _ => (0 : Int32)))), (q2, .inl (c2, 4104, .inl (fun _ => (0 : Int32)))), (q3, .inl (c3, 8192, .inl (fun _ => (0 : Int32)))), (q4, .inl (c4, 8192, .inl (fun _ => (0 : Int32)))), (q5, .inl (c5, 24000, .inl (fun _ => (0 : Int32))))] := hD
  refine W.widen (k := 5) (n := 48584) (by omega) (by omega) ?_
  refine va_putF (D := (dC, dI)) (ci := 5) (v := .ref q5) (ty := .array .int) (C := RX5) (T := TX5) (N := 13) hx hb hts iX5 tyX5 tyX5_ok nmX5 hown hK hP hD hS 0 rfl rfl 12 (by decide) (hts _ m_296) (fun _ h9 => h9) rfl hin rfl (by decide +kernel) rfl rfl (Nat.le_of_ble_eq_true rfl) dX5_init_46 (fun H locs hP hD hS => ?_)
  have hP : va_P (dC, dI) vwCl [(mo, .inr (5, [.int 0, .ref q1, .ref q2, .int 0, .int 0, .int 0, .int 0, .int 0, .int 0, .int 0, .ref q3, .ref q4, .ref q5])), (q1, .inl (c1, 4096, .inl (fun _ => (0 : Int32)))), (q2, .inl (c2, 4104, .inl (fun _ => (0 : Int32)))), (q3, .inl (c3, 8192, .inl (fun _ => (0 : Int32)))), (q4, .inl (c4, 8192, .inl (fun _ => (0 : Int32)))), (q5, .inl (c5, 24000, .inl (fun _ => (0 : Int32))))] H := hP
  have hD : va_D A [(mo, .inr (5, [.int 0, .ref q1, .ref q2, .int 0, .int 0, .int 0, .int 0, .int 0, .int 0, .int 0, .ref q3, .ref q4, .ref q5])), (q1, .inl (c1, 4096, .inl (fun _ => (0 : Int32)))), (q2, .inl (c2, 4104, .inl (fun _ => (0 : Int32)))), (q3, .inl (c3, 8192, .inl (fun _ => (0 : Int32)))), (q4, .inl (c4, 8192, .inl (fun _ => (0 : Int32)))), (q5, .inl (c5, 24000, .inl (fun _ => (0 : Int32))))] := hD
  exact kend_v hx hb hr hlocks dX5_init_49 hK hP hD hS (((q1, q2, q3, q4, q5), (c1, c2, c3, c4, c5))) (trivial) [0, 1, 2, 3, 4, 5] [0, 1, 2, 3, 4] rfl (by decide) rfl

