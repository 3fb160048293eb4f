/-! How long what is written can be: at most 16386 bytes. -/
theorem vint1 {k m : Nat} (h : m < 128) : (vint k m).length = 1 := by
  cases k with
  | zero => rfl
  | succ k => unfold vint; rw [if_pos h]; rfl
theorem vint_len {k n : Nat} (h : n < 16384) : (vint (k + 1) n).length ≤ 2 := by
  unfold vint
  split
  · exact Nat.le_succ 1
  · rw [List.length_cons, vint1 (by omega)]; exact Nat.le_refl 2
theorem wgs_len (r : List Int32) (w i : Nat) : ∀ g, (wgs r w i g).length = g * w := by
  intro g
  induction g with
  | zero => simp [wgs]
  | succ g ih => rw [wgs, List.length_append, ih, leb_len, Nat.succ_mul]
theorem gfF_spec (r : List Int32) : ∀ (n i : Nat), r.length ≤ i + 8 * n → (r.length ≤ i + gfF r n i * 8 ∨ 8 ≤ same r (i + gfF r n i * 8)) ∧ (i ≤ r.length + 7 → i + gfF r n i * 8 ≤ r.length + 7) := by
  intro n
  induction n with
  | zero => intro i h; unfold gfF; exact ⟨Or.inl (by omega), by omega⟩
  | succ n ih =>
    intro i h
    unfold gfF
    split
    · rename_i hc
      have h2 := ih (i + 8) (by omega)
      rw [show i + (gfF r n (i + 8) + 1) * 8 = i + 8 + gfF r n (i + 8) * 8 by omega]
      exact ⟨h2.1, fun _ => h2.2 (by omega)⟩
    · rename_i hc
      rw [Nat.zero_mul, Nat.add_zero]
      refine ⟨?_, fun h => h⟩
      rcases Nat.lt_or_ge i r.length with q | q
      · exact Or.inr (Nat.le_of_not_lt fun q2 => hc ⟨q, q2⟩)
      · exact Or.inl q
theorem gf_spec (r : List Int32) (i : Nat) : (r.length ≤ i + gf r i * 8 ∨ 8 ≤ same r (i + gf r i * 8)) ∧ (i ≤ r.length + 7 → i + gf r i * 8 ≤ r.length + 7) := gfF_spec r r.length i (by omega)
theorem wrF_len (r : List Int32) {w : Nat} (hw : w ≤ 32) (hr : r.length ≤ 4096) : ∀ (n i : Nat), i ≤ r.length + 7 → (wrF r w n i).length ≤ 32 * ((r.length + 7 - i) / 8) + 2 ∧ ((r.length ≤ i ∨ 8 ≤ same r i) → (wrF r w n i).length ≤ 32 * ((r.length + 7 - i) / 8)) := by
  intro n
  induction n with
  | zero => intro i _; unfold wrF; exact ⟨Nat.zero_le _, fun _ => Nat.zero_le _⟩
  | succ n ih =>
    intro i hi
    unfold wrF
    by_cases h : i < r.length
    · rw [if_pos h]
      by_cases hs : 8 ≤ same r i
      · rw [if_pos hs]
        have hsl := same_le r (i := i) (by omega)
        have h2 := (ih (i + same r i) (by omega)).1
        have hv : (vint 9 (same r i * 2)).length ≤ 2 := vint_len (k := 8) (n := same r i * 2) (by omega)
        have e : (wOne (r.getD i 0) (same r i) w ++ wrF r w n (i + same r i)).length = (vint 9 (same r i * 2)).length + (w + 7) / 8 + (wrF r w n (i + same r i)).length := by rw [List.length_append, wOne, List.length_append, leb_len]
        rw [e]
        exact ⟨by omega, fun _ => by omega⟩
      · rw [if_neg hs]
        have hg := gf_spec r i
        have hg2 := hg.2 (by omega)
        have h2 := (ih (i + gf r i * 8) hg2).2 hg.1
        have hv : (vint 9 (gf r i * 2 + 1)).length ≤ 2 := vint_len (k := 8) (n := gf r i * 2 + 1) (by omega)
        have e : (wGrp r w i (gf r i) ++ wrF r w n (i + gf r i * 8)).length = (vint 9 (gf r i * 2 + 1)).length + gf r i * w + (wrF r w n (i + gf r i * 8)).length := by rw [List.length_append, wGrp, List.length_append, wgs_len]
        have hm : gf r i * w ≤ gf r i * 32 := Nat.mul_le_mul_left _ hw
        rw [e]
        exact ⟨by omega, fun q => absurd q (by omega)⟩
    · rw [if_neg h]
      exact ⟨Nat.zero_le _, fun _ => Nat.zero_le _⟩
theorem wr_len (r : List Int32) {w : Nat} (hw : w ≤ 32) (hr : r.length ≤ 4096) : (wrF r w 4096 0).length ≤ 16386 := by
  have h := (wrF_len r hw hr 4096 0 (by omega)).1
  omega

