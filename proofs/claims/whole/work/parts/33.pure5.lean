theorem bec_fun {n : Nat} {xs ys zs zs' : List Nat} {x r r' : Int32} (h : bec n xs ys x r zs) (h' : bec n xs ys x r' zs') : r = r' ∧ zs = zs' := by
  unfold bec at h h'
  split at h
  · rename_i q; rw [if_pos q] at h'; exact ⟨h.1.trans h'.1.symm, h.2.trans h'.2.symm⟩
  · rename_i q; rw [if_neg q] at h'; exact ⟨h.1.trans h'.1.symm, h.2.trans h'.2.symm⟩
theorem app_fun {r r2 r2' : List Int32} {v x a a' : Int32} (h : app r v x a r2) (h' : app r v x a' r2') : a = a' ∧ r2 = r2' := by
  unfold app at h h'
  split at h
  · rename_i q; rw [if_pos q] at h'; exact ⟨h.1.trans h'.1.symm, h.2.trans h'.2.symm⟩
  · rename_i q; rw [if_neg q] at h'; exact ⟨h.1.trans h'.1.symm, h.2.trans h'.2.symm⟩
theorem law_cmp {L i : Nat} (hL : L ≤ 3072) (hi : i ≤ 3100) : nI L - nI 6 < nI i ↔ L < i + 6 := by
  rw [Int32.lt_iff_toInt_lt, pk_sub_toInt (by omega) (by decide), nI_toInt (by omega)]
  omega
/-- two answers of feed -/
theorem feed_fun {tp a b : List Nat} {r r' : Int32} {l : List Nat} (h : (8192 - tp.length < 20 ∧ r = nI 0 ∧ a = tp) ∨ (¬ 8192 - tp.length < 20 ∧ r = nI 1 ∧ a = l)) (h' : (8192 - tp.length < 20 ∧ r' = nI 0 ∧ b = tp) ∨ (¬ 8192 - tp.length < 20 ∧ r' = nI 1 ∧ b = l)) : r = r' ∧ a = b := by
  rcases h with ⟨h1, h2, h3⟩ | ⟨h1, h2, h3⟩ <;> rcases h' with ⟨g1, g2, g3⟩ | ⟨g1, g2, g3⟩
  · exact ⟨h2.trans g2.symm, h3.trans g3.symm⟩
  · exact absurd h1 g1
  · exact absurd g1 h1
  · exact ⟨h2.trans g2.symm, h3.trans g3.symm⟩
theorem end_fun {inp tp a b ta tb : List Nat} {x r r' : Int32} (h : (r = nI 0 ∧ bec 8192 inp tp x 0 a ∧ ta = tp) ∨ (r = nI 1 ∧ bec 8192 inp tp x 1 a ∧ ta = [])) (h' : (r' = nI 0 ∧ bec 8192 inp tp x 0 b ∧ tb = tp) ∨ (r' = nI 1 ∧ bec 8192 inp tp x 1 b ∧ tb = [])) : r = r' ∧ a = b ∧ ta = tb ∧ (ta = tp ∨ ta = []) := by
  rcases h with ⟨h1, h2, h3⟩ | ⟨h1, h2, h3⟩ <;> rcases h' with ⟨g1, g2, g3⟩ | ⟨g1, g2, g3⟩
  · exact ⟨h1.trans g1.symm, (bec_fun h2 g2).2, h3.trans g3.symm, Or.inl h3⟩
  · exact absurd (bec_fun h2 g2).1 (by decide)
  · exact absurd (bec_fun h2 g2).1 (by decide)
  · exact ⟨h1.trans g1.symm, (bec_fun h2 g2).2, h3.trans g3.symm, Or.inr h3⟩
theorem width_fun {wd a b : Nat} {x r r' : Int32} (hw : wd ≤ 32) (h : ((x < 0 ∨ nI 32 < x) ∧ r = nI 0 ∧ a = wd) ∨ (¬ (x < 0 ∨ nI 32 < x) ∧ r = nI 1 ∧ a = x.toNatClampNeg ∧ a ≤ 32)) (h' : ((x < 0 ∨ nI 32 < x) ∧ r' = nI 0 ∧ b = wd) ∨ (¬ (x < 0 ∨ nI 32 < x) ∧ r' = nI 1 ∧ b = x.toNatClampNeg)) : r = r' ∧ a = b ∧ a ≤ 32 := by
  rcases h with ⟨h1, h2, h3⟩ | ⟨h1, h2, h3, h4⟩ <;> rcases h' with ⟨g1, g2, g3⟩ | ⟨g1, g2, g3⟩
  · exact ⟨h2.trans g2.symm, h3.trans g3.symm, by rw [h3]; exact hw⟩
  · exact absurd h1 g1
  · exact absurd g1 h1
  · exact ⟨h2.trans g2.symm, h3.trans g3.symm, h4⟩
theorem enc_fun {row : List Int32} {wd : Nat} {a b : List Nat} {r r' : Int32} (hw : wd ≤ 32) (hr : row.length ≤ 4096) (h : (¬ fitsW row wd ∧ r = -1 ∧ a = []) ∨ (fitsW row wd ∧ r = nI a.length ∧ a = ad 16386 [] (wrF row wd 4096 0))) (h' : (¬ fitsW row wd ∧ r' = -1 ∧ b = []) ∨ (fitsW row wd ∧ r' = nI b.length ∧ b = wrF row wd 4096 0)) : r = r' ∧ a = b := by
  have hz : ad 16386 [] (wrF row wd 4096 0) = wrF row wd 4096 0 := ad_room (by have := wr_len row hw hr; simp; omega)
  rw [hz] at h
  rcases h with ⟨h1, h2, h3⟩ | ⟨h1, h2, h3⟩ <;> rcases h' with ⟨g1, g2, g3⟩ | ⟨g1, g2, g3⟩
  · exact ⟨h2.trans g2.symm, h3.trans g3.symm⟩
  · exact absurd g1 h1
  · exact absurd h1 g1
  · have e : a = b := h3.trans g3.symm
    exact ⟨by rw [h2, g2, e], e⟩
/-- decode: the class's answer beside the reference's: refused or a fault, and the row stays; or the row that was read -/
theorem dec_fun {inp : List Nat} {wd r0 p0 : Nat} {row spr2 row2 : List Int32} {u1 : Nat × Nat} {x r r' : Int32}
    (h : ((x < 0 ∨ nI 4096 < x) ∧ r = -1 ∧ u1 = (r0, p0)) ∨ (∃ j, j ≤ 4096 ∧ x = nI j ∧ r = nI (rdF inp wd j j 0 []).1 ∧ ((¬ (rdF inp wd j j 0 []).1 = 0 ∧ u1 = (r0, p0)) ∨ ((rdF inp wd j j 0 []).1 = 0 ∧ u1 = (p0, r0) ∧ spr2 = (rdF inp wd j j 0 []).2))))
    (h' : ((x < 0 ∨ nI 4096 < x) ∧ r' = -1 ∧ row2 = row) ∨ ∃ j, j ≤ 4096 ∧ x = nI j ∧ r' = nI (rdF inp wd j j 0 []).1 ∧ ((¬ (rdF inp wd j j 0 []).1 = 0 ∧ row2 = row) ∨ ((rdF inp wd j j 0 []).1 = 0 ∧ row2 = (rdF inp wd j j 0 []).2))) :
    r = r' ∧ ((u1 = (r0, p0) ∧ row2 = row) ∨ (u1 = (p0, r0) ∧ row2 = spr2)) := by
  have hno : ∀ j, j ≤ 4096 → ¬ (nI j < 0 ∨ nI 4096 < nI j) := fun j hj q => by
    rcases q with q | q
    · exact nI_pos (by omega) q
    · exact nI_nlt hj (by decide) q
  rcases h with ⟨h1, h2, h3⟩ | ⟨j, hj, rfl, h2, h3⟩ <;> rcases h' with ⟨g1, g2, g3⟩ | ⟨j', hj', e, g2, g3⟩
  · exact ⟨h2.trans g2.symm, Or.inl ⟨h3, g3⟩⟩
  · rw [e] at h1; exact absurd h1 (hno j' hj')
  · exact absurd g1 (hno j hj)
  · obtain rfl : j = j' := (nI_eq (by omega) (by omega)).mp e
    refine ⟨h2.trans g2.symm, ?_⟩
    rcases h3 with ⟨a1, a2⟩ | ⟨a1, a2, a3⟩ <;> rcases g3 with ⟨b1, b2⟩ | ⟨b1, b2⟩
    · exact Or.inl ⟨a2, b2⟩
    · exact absurd b1 a1
    · exact absurd a1 b1
    · exact Or.inr ⟨a2, b2.trans a3.symm⟩

