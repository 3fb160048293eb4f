/-! What a state is: bytes as a list of numbers below 256, a row as a list of ints. -/
/-- the number without a sign in 32 bits -/
def uv (x : Int32) : Nat := x.toBitVec.toNat
theorem uv_lt (x : Int32) : uv x < 4294967296 := x.toBitVec.isLt
theorem uv_nI {n : Nat} (h : n < 4294967296) : uv (nI n) = n := pk_tn h
theorem uv_mod (n : Nat) : uv (nI n) = n % 4294967296 := by
  show (BitVec.ofNat 32 n).toNat = _
  rw [BitVec.toNat_ofNat]
theorem nI_uv (x : Int32) : nI (uv x) = x := by
  obtain ⟨n, hn, rfl⟩ : ∃ n, n < 4294967296 ∧ x = nI n := ⟨uv x, uv_lt x, by
    apply Int32.toBitVec_inj.mp
    show x.toBitVec = BitVec.ofNat 32 x.toBitVec.toNat
    rw [BitVec.ofNat_toNat, BitVec.setWidth_eq]⟩
  rw [uv_nI hn]
theorem sb_uv (x : Int32) : x.toInt8.toInt32 = sb_b (uv x % 256) := by
  unfold sb_b
  congr 1
  apply Int8.toBitVec_inj.mp
  rw [Int32.toBitVec_toInt8, Int32.toBitVec_toInt8, BitVec.signExtend_eq_setWidth_of_le _ (by decide), BitVec.signExtend_eq_setWidth_of_le _ (by decide)]
  show x.toBitVec.setWidth 8 = (BitVec.ofNat 32 (uv x % 256)).setWidth 8
  apply BitVec.eq_of_toNat_eq
  rw [BitVec.toNat_setWidth, BitVec.toNat_setWidth, BitVec.toNat_ofNat]
  show uv x % 2 ^ 8 = _
  omega
theorem gd_l {α : Type} {xs ys : List α} {i : Nat} {d : α} (h : i < xs.length) : (xs ++ ys).getD i d = xs.getD i d := by simp [List.getD_eq_getElem?_getD, List.getElem?_append_left h]
theorem gd_r {α : Type} {xs ys : List α} {i : Nat} {d : α} (h : xs.length ≤ i) : (xs ++ ys).getD i d = ys.getD (i - xs.length) d := by simp [List.getD_eq_getElem?_getD, List.getElem?_append_right h]
def bHas (f : Nat → Int32) (xs : List Nat) : Prop := ∀ i, i < xs.length → xs.getD i 0 < 256 ∧ f i = sb_b (xs.getD i 0)
theorem bHas_nil (f : Nat → Int32) : bHas f [] := fun i h => absurd h (Nat.not_lt_zero i)
theorem bHas_push {f : Nat → Int32} {xs : List Nat} {b : Nat} (h : bHas f xs) (hb : b < 256) : bHas (upd f xs.length (sb_b b)) (xs ++ [b]) := by
  intro i hi
  rw [List.length_append] at hi
  by_cases hx : i < xs.length
  · have h2 := h i hx
    rw [gd_l hx, pk_un (Nat.ne_of_lt hx)]
    exact h2
  · have hx : i = xs.length := by simp at hi; omega
    subst hx
    rw [pk_us]
    simp [hb]
theorem bHas_take {f : Nat → Int32} {xs : List Nat} (h : bHas f xs) (n : Nat) : bHas f (xs.take n) := by
  intro i hi
  rw [List.length_take] at hi
  have h2 := h i (by omega)
  rw [show (xs.take n).getD i 0 = xs.getD i 0 by simp [List.getD_eq_getElem?_getD, List.getElem?_take]; rw [if_pos (by omega)]]
  exact h2
theorem bHas_congr {f g : Nat → Int32} {xs : List Nat} (h : bHas f xs) (e : ∀ i, i < xs.length → g i = f i) : bHas g xs := fun i hi => ⟨(h i hi).1, by rw [e i hi]; exact (h i hi).2⟩
theorem bHas_cpy {f g : Nat → Int32} {xs : List Nat} {n : Nat} (h : bHas f xs) : bHas (va_cpy f g 0 0 n) (xs.take n) := by
  refine bHas_congr (bHas_take h n) (fun i hi => ?_)
  rw [List.length_take] at hi
  exact sb_cpy0 (by omega)
theorem bHas_fit {f : Nat → Int32} {xs : List Nat} (h : bHas f xs) {i : Nat} (hi : i < xs.length) : fits .byte (.int (f i)) = true := by rw [(h i hi).2]; exact sb_fitB _
theorem bHas_and {f : Nat → Int32} {xs : List Nat} (h : bHas f xs) {i : Nat} (hi : i < xs.length) : f i &&& nI 255 = nI (xs.getD i 0) := by
  rw [(h i hi).2]; exact (sb_byte _ (h i hi).1).1
/-- a byte more, up to a bound -/
def ad (n : Nat) (xs ys : List Nat) : List Nat := (xs ++ ys).take n
theorem ad_len {n : Nat} (xs ys : List Nat) : (ad n xs ys).length ≤ n := by unfold ad; rw [List.length_take]; omega
theorem ad_nil {n : Nat} {xs : List Nat} (h : xs.length ≤ n) : ad n xs [] = xs := by unfold ad; rw [List.append_nil, List.take_of_length_le h]
theorem ad_ad {n : Nat} (xs ys zs : List Nat) : ad n (ad n xs ys) zs = ad n xs (ys ++ zs) := by
  unfold ad
  rw [← List.append_assoc, List.take_append, List.take_append (l₁ := xs ++ ys), List.take_take, Nat.min_self, List.length_take]
  congr 1
  by_cases h : n ≤ (xs ++ ys).length
  · rw [Nat.min_eq_left h, Nat.sub_self, Nat.sub_eq_zero_of_le h]
  · rw [Nat.min_eq_right (by omega)]
theorem ad_full {n : Nat} {xs ys : List Nat} (h : xs.length = n) : ad n xs ys = xs := by unfold ad; rw [List.take_append, List.take_of_length_le (by omega), show n - xs.length = 0 by omega, List.take_zero, List.append_nil]
theorem ad_room {n : Nat} {xs ys : List Nat} (h : xs.length + ys.length ≤ n) : ad n xs ys = xs ++ ys := by unfold ad; exact List.take_of_length_le (by rw [List.length_append]; exact h)
/-- the answer of 'at' on bytes -/
def bAt (xs : List Nat) (x : Int32) : Int32 := if x < 0 ∨ nI xs.length ≤ x then -1 else nI (xs.getD x.toNatClampNeg 0)
theorem bAt_out {xs : List Nat} {x : Int32} (h : x < 0 ∨ nI xs.length ≤ x) : bAt xs x = -1 := if_pos h
theorem bAt_in {xs : List Nat} {j : Nat} (h : j < xs.length) (hx : xs.length < 2 ^ 31) : bAt xs (nI j) = nI (xs.getD j 0) := by
  unfold bAt
  rw [if_neg (by rintro (q | q); exact nI_pos (by omega) q; exact nI_ge h hx q), nI_clamp (by omega)]
theorem bAt_end {xs : List Nat} {j : Nat} (h : xs.length ≤ j) (hj : j < 2 ^ 31) : bAt xs (nI j) = -1 := bAt_out (Or.inr (nI_le h hj))
def rHas (f : Nat → Int32) (r : List Int32) : Prop := ∀ i, i < r.length → f i = r.getD i 0
theorem rHas_nil (f : Nat → Int32) : rHas f [] := fun i h => absurd h (Nat.not_lt_zero i)
theorem rHas_fill {f g : Nat → Int32} {r : List Int32} {t : Nat} {v : Int32} (h : rHas f r) (h1 : ∀ i, i < r.length → g i = f i) (h2 : ∀ i, r.length ≤ i → i < r.length + t → g i = v) : rHas g (r ++ List.replicate t v) := by
  intro i hi
  rw [List.length_append, List.length_replicate] at hi
  by_cases hx : i < r.length
  · rw [gd_l hx, h1 i hx]; exact h i hx
  · rw [gd_r (by omega), h2 i (by omega) hi]
    have h5 : i - r.length < t := by omega
    simp [List.getD_eq_getElem?_getD, List.getElem?_replicate, h5]
/-- the answer of 'at' on a row -/
def rAt (r : List Int32) (x : Int32) : Int32 := if x < 0 ∨ nI r.length ≤ x then 0 else r.getD x.toNatClampNeg 0
theorem rAt_out {r : List Int32} {x : Int32} (h : x < 0 ∨ nI r.length ≤ x) : rAt r x = 0 := if_pos h
theorem rAt_nI {r : List Int32} {j : Nat} (hj : j < 2 ^ 31) (hr : r.length < 2 ^ 31) : rAt r (nI j) = r.getD j 0 := by
  unfold rAt
  by_cases h : j < r.length
  · rw [if_neg (by rintro (q | q); exact nI_pos hj q; exact nI_ge h hr q), nI_clamp hj]
  · rw [if_pos (Or.inr (nI_le (by omega) hj))]
    simp [List.getD_eq_getElem?_getD, List.getElem?_eq_none (by omega : r.length ≤ j)]
/-- x >>> k -/
def sh (x : Int32) (k : Nat) : Int32 := (x.toUInt32 >>> ((nI k).toUInt32 &&& Int32.toUInt32 31)).toInt32
theorem sh_amt : ∀ k, k < 32 → (((nI k).toUInt32 &&& Int32.toUInt32 31).toBitVec % 32).toNat = k := by decide +kernel
theorem uv_sh (x : Int32) {k : Nat} (h : k < 32) : uv (sh x k) = uv x / 2 ^ k := pk_ushr x (nI k) k (sh_amt k h)
/-- the four bytes of a number, the highest first -/
def four (x : Int32) : List Nat := [uv x / 2 ^ 24 % 256, uv x / 2 ^ 16 % 256, uv x / 2 ^ 8 % 256, uv x / 2 ^ 0 % 256]
/-- Bytes.become: the first x of ys, if there are so many and they fit -/
def bec (n : Nat) (xs ys : List Nat) (x r : Int32) (zs : List Nat) : Prop := if x < 0 ∨ nI ys.length < x ∨ nI n < x then r = 0 ∧ zs = xs else r = 1 ∧ zs = ys.take x.toNatClampNeg
theorem bec_no {n : Nat} {xs ys : List Nat} {x : Int32} (h : x < 0 ∨ nI ys.length < x ∨ nI n < x) : bec n xs ys x (nI 0) xs := by unfold bec; rw [if_pos h]; exact ⟨rfl, rfl⟩
theorem bec_yes {n : Nat} {xs ys : List Nat} {j : Nat} (h : j ≤ ys.length) (hn : j ≤ n) (hj : n < 2 ^ 31 ∧ ys.length < 2 ^ 31) : bec n xs ys (nI j) (nI 1) (ys.take j) := by
  unfold bec
  rw [if_neg, nI_clamp (by omega)]
  · exact ⟨rfl, rfl⟩
  · rintro (q | q | q)
    · exact nI_pos (by omega) q
    · exact nI_nlt h (by omega) q
    · exact nI_nlt hn (by omega) q
/-- Row.append -/
def app (r : List Int32) (v x r0 : Int32) (r2 : List Int32) : Prop := if x < 1 ∨ nI (4096 - r.length) < x then r0 = 0 ∧ r2 = r else r0 = 1 ∧ r2 = r ++ List.replicate x.toNatClampNeg v
theorem app_no {r : List Int32} {v x : Int32} (h : x < 1 ∨ nI (4096 - r.length) < x) : app r v x (nI 0) r := by unfold app; rw [if_pos h]; exact ⟨rfl, rfl⟩
theorem app_yes {r : List Int32} {v : Int32} {t : Nat} (h : ¬ t < 1) (h2 : t ≤ 4096 - r.length) : app r v (nI t) (nI 1) (r ++ List.replicate t v) := by
  unfold app
  rw [if_neg, nI_clamp (by omega)]
  · exact ⟨rfl, rfl⟩
  · rintro (q | q)
    · exact h ((nI_ltI (a := t) (b := 1) (by omega) (by decide)).mp q)
    · exact nI_nlt h2 (by omega) q
theorem bec_len {n : Nat} {xs ys zs : List Nat} {x r : Int32} (h : xs.length ≤ n) (h2 : ys.length ≤ n) (hb : bec n xs ys x r zs) : zs.length ≤ n := by
  unfold bec at hb
  split at hb
  · rw [hb.2]; exact h
  · rw [hb.2, List.length_take]; omega
theorem bec_len2 {n : Nat} {xs ys zs : List Nat} {r : Int32} (h : xs.length ≤ n) (h2 : ys.length < 2 ^ 31 ∧ n < 2 ^ 31) (hb : bec n xs ys (nI ys.length) r zs) : zs.length ≤ n := by
  unfold bec at hb
  split at hb
  · rw [hb.2]; exact h
  · rename_i h3
    have h4 : ¬ nI n < nI ys.length := fun q => h3 (Or.inr (Or.inr q))
    rw [nI_ltI (by omega) (by omega)] at h4
    rw [hb.2, List.length_take]; omega
theorem bec_01 {n : Nat} {xs ys zs : List Nat} {x r : Int32} (hb : bec n xs ys x r zs) : r = 0 ∨ r = 1 := by
  unfold bec at hb
  split at hb
  · exact Or.inl hb.1
  · exact Or.inr hb.1
theorem app_01 {r : List Int32} {v x r0 : Int32} {r2 : List Int32} (h : app r v x r0 r2) : r0 = 0 ∨ r0 = 1 := by
  unfold app at h
  split at h
  · exact Or.inl h.1
  · exact Or.inr h.1
theorem app_len {r : List Int32} {v x r0 : Int32} {r2 : List Int32} (hn : r.length ≤ 4096) (h : app r v x r0 r2) : r2.length ≤ 4096 := by
  unfold app at h
  split at h
  · rw [h.2]; exact hn
  · rename_i h3
    have h4 : ¬ x < 0 := fun q => h3 (Or.inl (Int32.lt_trans q (by decide)))
    obtain ⟨j, hj, rfl⟩ := nI_of h4
    have h5 : ¬ nI (4096 - r.length) < nI j := fun q => h3 (Or.inr q)
    rw [nI_ltI (by omega) hj] at h5
    rw [h.2, nI_clamp hj, List.length_append, List.length_replicate]
    omega
theorem bool_n {r : Int32} (h : r = 0 ∨ r = 1) : narrow .boolean (.int r) = .int r := by
  rcases h with h | h <;> rw [h] <;> rfl

