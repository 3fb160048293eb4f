/-! The reference's side: bytes held in ints, numbers bit by bit. -/
def mB (f : Nat → Int32) (xs : List Nat) : Prop := ∀ i, i < xs.length → xs.getD i 0 < 256 ∧ f i = nI (xs.getD i 0)
theorem mB_nil (f : Nat → Int32) : mB f [] := fun i h => absurd h (Nat.not_lt_zero i)
theorem mB_push {f : Nat → Int32} {xs : List Nat} {b : Nat} (h : mB f xs) (hb : b < 256) : mB (upd f xs.length (nI b)) (xs ++ [b]) := by
  intro i hi
  rw [List.length_append] at hi
  by_cases hx : i < xs.length
  · rw [gd_l hx, pk_un (Nat.ne_of_lt hx)]
    exact h i hx
  · have hx : i = xs.length := by simp at hi; omega
    subst hx
    rw [pk_us]
    simp [hb]
theorem mB_256 {f : Nat → Int32} {xs : List Nat} (h : mB f xs) (i : Nat) : xs.getD i 0 < 256 := by
  rcases Nat.lt_or_ge i xs.length with q | q
  · exact (h i q).1
  · rw [gd_out q]; decide
theorem mB_take {f g : Nat → Int32} {xs : List Nat} {n : Nat} (h : mB f xs) (hn : n ≤ xs.length) (e : ∀ i, i < n → g i = f i) : mB g (xs.take n) := by
  intro i hi
  rw [List.length_take] at hi
  rw [show (xs.take n).getD i 0 = xs.getD i 0 by simp [List.getD_eq_getElem?_getD, List.getElem?_take]; rw [if_pos (by omega)], e i (by omega)]
  exact h i (by omega)
theorem mB_app {f g : Nat → Int32} {xs ys : List Nat} (h : mB f xs) (h1 : ∀ i, i < xs.length → g i = f i) (h2 : ∀ i, i < ys.length → ys.getD i 0 < 256 ∧ g (xs.length + i) = nI (ys.getD i 0)) : mB g (xs ++ ys) := by
  intro i hi
  rw [List.length_append] at hi
  by_cases hx : i < xs.length
  · rw [gd_l hx, h1 i hx]; exact h i hx
  · rw [gd_r (by omega)]
    have h3 := h2 (i - xs.length) (by omega)
    rw [show xs.length + (i - xs.length) = i by omega] at h3
    exact h3
theorem nx_or (a b : Nat) : nI a ||| nI b = nI (a ||| b) := by
  apply Int32.toBitVec_inj.1
  show BitVec.ofNat 32 a ||| BitVec.ofNat 32 b = BitVec.ofNat 32 (a ||| b)
  apply BitVec.eq_of_getLsbD_eq
  intro i hi
  simp [hi]
theorem nI_orS {a b i : Nat} (ha : a < 2 ^ i) : nI a ||| nI (b * 2 ^ i) = nI (a + b * 2 ^ i) := by
  rw [nx_or, Nat.or_comm, ← Nat.shiftLeft_eq, ← Nat.shiftLeft_add_eq_or_of_lt ha, Nat.add_comm]
theorem sar_byte (x : Int32) {s : Nat} (h : s ≤ 24) : uv (x >>> (nI s &&& 31)) % 256 = uv x / 2 ^ s % 256 := by
  apply Nat.eq_of_testBit_eq
  intro j
  rw [show (256 : Nat) = 2 ^ 8 from rfl, Nat.testBit_mod_two_pow, Nat.testBit_mod_two_pow, Nat.testBit_div_two_pow]
  by_cases hj : j < 8
  · have h1 := b_sshr s (by omega) x (i := j) (by omega)
    rw [if_pos (by omega)] at h1
    have h2 : (uv (x >>> (nI s &&& 31))).testBit j = bt (x >>> (nI s &&& 31)) j := rfl
    have h3 : (uv x).testBit (j + s) = bt x (s + j) := by rw [Nat.add_comm]; rfl
    rw [h2, h3, h1]
  · simp [hj]
theorem sar_and (x : Int32) {s : Nat} (h : s ≤ 24) : (x >>> (nI s &&& 31)) &&& nI 255 = nI (uv x / 2 ^ s % 256) := by
  rw [← sar_byte x h]
  exact pk_and _ 8 (by decide)
theorem and255 (x : Int32) : x &&& nI 255 = nI (uv x % 256) := pk_and x 8 (by decide)
theorem and1 (x : Int32) : x &&& nI 1 = nI (uv x % 2) := pk_and x 1 (by decide)
theorem shrN {n k : Nat} (h : n < 2 ^ 31) (hk : k < 32) : nI n >>> (nI k &&& 31) = nI (n / 2 ^ k) := pk_shrN h _ k (s_l k hk)
theorem shlN {n k : Nat} (hk : k < 32) (h : n * 2 ^ k < 2 ^ 32) : nI n <<< (nI k &&& 31) = nI (n * 2 ^ k) := pk_shlN _ k (s_l k hk) h
theorem mod_bit {Y n t : Nat} (h : t < n) : Y % 2 ^ n / 2 ^ t % 2 = Y / 2 ^ t % 2 := by
  have e : 2 ^ n = 2 ^ t * (2 * 2 ^ (n - t - 1)) := by rw [← Nat.pow_succ', ← Nat.pow_add]; congr 1; omega
  have e2 : Y = Y % 2 ^ n + 2 ^ t * (2 * (2 ^ (n - t - 1) * (Y / 2 ^ n))) := by
    have h3 := Nat.mod_add_div Y (2 ^ n)
    rw [← Nat.mul_assoc 2, ← Nat.mul_assoc (2 ^ t), ← e]
    exact h3.symm
  have e3 : Y / 2 ^ t % 2 = (Y % 2 ^ n + 2 ^ t * (2 * (2 ^ (n - t - 1) * (Y / 2 ^ n)))) / 2 ^ t % 2 := by rw [← e2]
  rw [e3, Nat.add_mul_div_left _ _ (Nat.pow_pos (by decide)), Nat.add_mul_mod_self_left]
/-- bit p of the first k numbers -/
theorem gv_bit {r : List Int32} {w : Nat} (hf : fitsW r w) (i : Nat) : ∀ k p, p < w * k → gv r w i k / 2 ^ p % 2 = uv (r.getD (i + p / w) 0) / 2 ^ (p % w) % 2 := by
  intro k
  induction k with
  | zero => intro p h; simp at h
  | succ k ih =>
    intro p h
    show (gv r w i k + uv (r.getD (i + k) 0) * 2 ^ (w * k)) / 2 ^ p % 2 = _
    by_cases hp : p < w * k
    · rw [← ih p hp]
      have e : uv (r.getD (i + k) 0) * 2 ^ (w * k) = 2 ^ p * (2 * (2 ^ (w * k - p - 1) * uv (r.getD (i + k) 0))) := by
        rw [← Nat.mul_assoc 2, ← Nat.mul_assoc (2 ^ p), ← Nat.pow_succ', ← Nat.pow_add, show p + (w * k - p - 1).succ = w * k by omega, Nat.mul_comm]
      rw [e, Nat.add_mul_div_left _ _ (Nat.pow_pos (by decide)), Nat.add_mul_mod_self_left]
    · have hlt := gv_lt hf i k
      rw [Nat.mul_succ] at h
      have hd : p = w * k + (p - w * k) := by omega
      have e1 : p / w = k := by
        rw [hd, Nat.mul_add_div (by omega), Nat.div_eq_of_lt (by omega), Nat.add_zero]
      have e2 : p % w = p - w * k := by
        have h3 := Nat.mul_add_mod w k (p - w * k)
        rw [← hd, Nat.mod_eq_of_lt (a := p - w * k) (by omega)] at h3
        exact h3
      rw [e1, e2]
      have e3 : 2 ^ p = 2 ^ (w * k) * 2 ^ (p - w * k) := by rw [← Nat.pow_add, ← hd]
      rw [e3, ← Nat.div_div_eq_div_mul, Nat.mul_comm (uv _), Nat.add_mul_div_left _ _ (Nat.pow_pos (by decide)), Nat.div_eq_of_lt hlt, Nat.zero_add]
theorem lev_bit {bs : List Nat} (hb : ∀ i, bs.getD i 0 < 256) (a : Nat) : ∀ k p, p < 8 * k → lev bs a k / 2 ^ p % 2 = bs.getD (a + p / 8) 0 / 2 ^ (p % 8) % 2 := by
  intro k
  induction k with
  | zero => intro p h; simp at h
  | succ k ih =>
    intro p h
    show (lev bs a k + bs.getD (a + k) 0 * 256 ^ k) / 2 ^ p % 2 = _
    by_cases hp : p < 8 * k
    · rw [← ih p hp]
      have e : bs.getD (a + k) 0 * 256 ^ k = 2 ^ p * (2 * (2 ^ (8 * k - p - 1) * bs.getD (a + k) 0)) := by
        rw [← Nat.mul_assoc 2, ← Nat.mul_assoc (2 ^ p), ← Nat.pow_succ', ← Nat.pow_add, show p + (8 * k - p - 1).succ = 8 * k by omega, Nat.mul_comm, p256]
      rw [e, Nat.add_mul_div_left _ _ (Nat.pow_pos (by decide)), Nat.add_mul_mod_self_left]
    · have hlt := lev_lt hb a k
      have e1 : p / 8 = k := by omega
      have e2 : p % 8 = p - 8 * k := by omega
      rw [e1, e2]
      have e3 : 2 ^ p = 256 ^ k * 2 ^ (p - 8 * k) := by rw [p256, ← Nat.pow_add]; congr 1; omega
      rw [e3, ← Nat.div_div_eq_div_mul, Nat.mul_comm (bs.getD _ _), Nat.add_mul_div_left _ _ (p256_pos k), Nat.div_eq_of_lt hlt, Nat.zero_add]
theorem mod_step (X i : Nat) : X % 2 ^ (i + 1) = X % 2 ^ i + X / 2 ^ i % 2 * 2 ^ i := by rw [Nat.mod_pow_succ, Nat.mul_comm (2 ^ i)]
/-- byte j of groups from i on -/
def Gb (r : List Int32) (w i j : Nat) : Nat := gv r w (i + j / w * 8) 8 / 256 ^ (j % w) % 256
theorem Gb_bit {r : List Int32} {w : Nat} (hf : fitsW r w) (hw : 0 < w) (i j : Nat) {t : Nat} (ht : t < 8) : Gb r w i j / 2 ^ t % 2 = uv (r.getD (i + (8 * j + t) / w) 0) / 2 ^ ((8 * j + t) % w) % 2 := by
  unfold Gb
  have hm : j % w < w := Nat.mod_lt _ hw
  have hj : w * (j / w) + j % w = j := Nat.div_add_mod j w
  have e0 : gv r w (i + j / w * 8) 8 / 256 ^ (j % w) % 256 / 2 ^ t % 2 = gv r w (i + j / w * 8) 8 / 256 ^ (j % w) / 2 ^ t % 2 := mod_bit (n := 8) ht
  rw [e0, Nat.div_div_eq_div_mul, p256, ← Nat.pow_add, gv_bit hf _ 8 _ (by omega)]
  have e1 : 8 * j + t = w * (8 * (j / w)) + (8 * (j % w) + t) := by
    have : w * (8 * (j / w)) = 8 * (w * (j / w)) := by rw [Nat.mul_left_comm]
    omega
  rw [e1, Nat.mul_add_div hw, Nat.mul_add_mod]
  congr 4
  omega
theorem Gb_lt (r : List Int32) (w i j : Nat) : Gb r w i j < 256 := Nat.mod_lt _ (by decide)
theorem wgs_map (r : List Int32) {w : Nat} (hw : 0 < w) (i : Nat) : ∀ g, wgs r w i g = (List.range (g * w)).map (Gb r w i) := by
  intro g
  induction g with
  | zero => simp [wgs]
  | succ g ih =>
    rw [wgs, ih, Nat.succ_mul, List.range_add, List.map_append, List.map_map]
    congr 1
    unfold leb
    apply List.map_congr_left
    intro j hj
    have hj : j < w := List.mem_range.mp hj
    show _ = Gb r w i (g * w + j)
    unfold Gb
    rw [Nat.mul_comm g w, Nat.mul_add_div hw, Nat.mul_add_mod, Nat.div_eq_of_lt hj, Nat.mod_eq_of_lt hj, Nat.add_zero]
theorem wgs_w0 (r : List Int32) (i : Nat) : ∀ g, wgs r 0 i g = [] := by
  intro g
  induction g with
  | zero => rfl
  | succ g ih => rw [wgs, ih]; rfl
theorem wgs_Gb (r : List Int32) (w i g : Nat) : wgs r w i g = (List.range (w * g)).map (Gb r w i) := by
  rcases Nat.eq_zero_or_pos w with rfl | h
  · rw [wgs_w0, Nat.zero_mul]; rfl
  · rw [wgs_map r h, Nat.mul_comm]

