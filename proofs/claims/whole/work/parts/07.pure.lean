/-! What is written: runs, groups, heads, as lists of numbers below 256. -/
theorem tw_len {α : Type} (p : α → Bool) (z : α) : ∀ (l : List α) (d : Nat), d ≤ l.length → (∀ j, j < d → p (l.getD j z) = true) → (d < l.length → p (l.getD d z) = false) → (l.takeWhile p).length = d := by
  intro l
  induction l with
  | nil => intro d h1 _ _; simp at h1; simp [h1]
  | cons x xs ih =>
    intro d h1 h2 h3
    cases d with
    | zero =>
      have h := h3 (by simp)
      rw [List.getD_cons_zero] at h
      simp [List.takeWhile_cons, h]
    | succ d =>
      have h := h2 0 (by omega)
      rw [List.getD_cons_zero] at h
      have h4 := ih d (by simp at h1; omega) (fun j hj => by have := h2 (j + 1) (by omega); rw [List.getD_cons_succ] at this; exact this) (fun hd => by have := h3 (by simp; omega); rw [List.getD_cons_succ] at this; exact this)
      simp [List.takeWhile_cons, h, h4]
theorem gd_drop {α : Type} (r : List α) (i j : Nat) (d : α) : (r.drop i).getD j d = r.getD (i + j) d := by simp [List.getD_eq_getElem?_getD, List.getElem?_drop]
theorem gd_out {α : Type} {r : List α} {j : Nat} {d : α} (h : r.length ≤ j) : r.getD j d = d := by simp [List.getD_eq_getElem?_getD, List.getElem?_eq_none h]
/-- how many are the same from i on -/
def same (r : List Int32) (i : Nat) : Nat := ((r.drop i).takeWhile (fun x => decide (x = r.getD i 0))).length
theorem same_of {r : List Int32} {i d : Nat} (h1 : i + d ≤ r.length) (h2 : ∀ j, j < d → r.getD (i + j) 0 = r.getD i 0) (h3 : i + d < r.length → r.getD (i + d) 0 ≠ r.getD i 0) : same r i = d := by
  unfold same
  refine tw_len _ 0 _ d (by rw [List.length_drop]; omega) (fun j hj => ?_) (fun hd => ?_)
  · rw [gd_drop, decide_eq_true_iff]; exact h2 j hj
  · rw [gd_drop, decide_eq_false_iff_not]; exact h3 (by rw [List.length_drop] at hd; omega)
theorem same_le (r : List Int32) {i : Nat} (hi : i ≤ r.length) : i + same r i ≤ r.length := by
  have h := (List.takeWhile_prefix (fun x => decide (x = r.getD i 0)) (l := r.drop i)).length_le
  rw [List.length_drop] at h
  unfold same
  omega
theorem same_pos {r : List Int32} {i : Nat} (hi : i < r.length) : 1 ≤ same r i := by
  unfold same
  rw [List.drop_eq_getElem_cons hi, List.takeWhile_cons]
  have h : r[i] = r.getD i 0 := by simp [List.getD_eq_getElem?_getD, List.getElem?_eq_getElem hi]
  rw [if_pos (by rw [decide_eq_true_iff]; exact h)]
  simp
/-- how many groups from i on, until one begins with a number that is the same as at least seven behind it -/
def gfF (r : List Int32) : Nat → Nat → Nat
  | 0, _ => 0
  | n + 1, i => if i < r.length ∧ same r i < 8 then gfF r n (i + 8) + 1 else 0
def gf (r : List Int32) (i : Nat) : Nat := gfF r r.length i
theorem gfF_of (r : List Int32) : ∀ (n i g : Nat), g ≤ n → (∀ q, q < g → i + 8 * q < r.length ∧ same r (i + 8 * q) < 8) → (r.length ≤ i + 8 * g ∨ 8 ≤ same r (i + 8 * g)) → gfF r n i = g := by
  intro n
  induction n with
  | zero => intro i g h _ _; unfold gfF; omega
  | succ n ih =>
    intro i g h h1 h2
    unfold gfF
    cases g with
    | zero =>
      rw [if_neg]
      rintro ⟨a, b⟩
      rw [Nat.mul_zero, Nat.add_zero] at h2
      omega
    | succ g =>
      have h0 := h1 0 (by omega)
      rw [Nat.mul_zero, Nat.add_zero] at h0
      rw [if_pos h0, ih (i + 8) g (by omega) (fun q hq => by have := h1 (q + 1) (by omega); rw [show i + 8 + 8 * q = i + 8 * (q + 1) by omega]; exact this) (by rw [show i + 8 + 8 * g = i + 8 * (g + 1) by omega]; exact h2)]
theorem gf_of {r : List Int32} {i g : Nat} (h1 : ∀ q, q < g → i + 8 * q < r.length ∧ same r (i + 8 * q) < 8) (h2 : r.length ≤ i + 8 * g ∨ 8 ≤ same r (i + 8 * g)) : gf r i = g := by
  refine gfF_of r _ i g ?_ h1 h2
  cases g with
  | zero => omega
  | succ g => have := (h1 g (by omega)).1; omega
/-- a head: seven bits a byte, the lowest first -/
def vint : Nat → Nat → List Nat
  | 0, n => [n % 256]
  | k + 1, n => if n < 128 then [n] else (n % 128 + 128) :: vint k (n / 128)
/-- the lowest n bytes of a number, the lowest first -/
def leb (v n : Nat) : List Nat := (List.range n).map (fun j => v / 256 ^ j % 256)
theorem leb_succ (v n : Nat) : leb v (n + 1) = leb v n ++ [v / 256 ^ n % 256] := by unfold leb; rw [List.range_succ, List.map_append]; rfl
theorem leb_zero (v : Nat) : leb v 0 = [] := rfl
theorem leb_len (v n : Nat) : (leb v n).length = n := by unfold leb; simp
/-- the first k numbers from i on, each of w bits, as one number -/
def gv (r : List Int32) (w i : Nat) : Nat → Nat
  | 0 => 0
  | k + 1 => gv r w i k + uv (r.getD (i + k) 0) * 2 ^ (w * k)
def fitsW (r : List Int32) (w : Nat) : Prop := ∀ j, uv (r.getD j 0) < 2 ^ w
theorem gv_lt {r : List Int32} {w : Nat} (hf : fitsW r w) (i : Nat) : ∀ k, gv r w i k < 2 ^ (w * k) := by
  intro k
  induction k with
  | zero => simp [gv]
  | succ k ih =>
    unfold gv
    have h := hf (i + k)
    rw [Nat.mul_succ, Nat.pow_add]
    have h2 : uv (r.getD (i + k) 0) * 2 ^ (w * k) + 2 ^ (w * k) ≤ 2 ^ w * 2 ^ (w * k) := by
      rw [← Nat.succ_mul]
      exact Nat.mul_le_mul_right _ h
    rw [Nat.mul_comm (2 ^ (w * k)) (2 ^ w)]
    omega
theorem gv_more (r : List Int32) (w i k : Nat) : ∀ n, ∃ c, gv r w i (k + n) = gv r w i k + 2 ^ (w * k) * c := by
  intro n
  induction n with
  | zero => exact ⟨0, by simp⟩
  | succ n ih =>
    obtain ⟨c, hc⟩ := ih
    refine ⟨c + uv (r.getD (i + (k + n)) 0) * 2 ^ (w * n), ?_⟩
    show gv r w i (k + n) + uv (r.getD (i + (k + n)) 0) * 2 ^ (w * (k + n)) = _
    rw [hc, Nat.mul_add (2 ^ (w * k)), Nat.mul_add w k n, Nat.pow_add]
    have : uv (r.getD (i + (k + n)) 0) * (2 ^ (w * k) * 2 ^ (w * n)) = 2 ^ (w * k) * (uv (r.getD (i + (k + n)) 0) * 2 ^ (w * n)) := by
      rw [← Nat.mul_assoc, ← Nat.mul_assoc, Nat.mul_comm (2 ^ (w * k))]
    omega
theorem p256 (j : Nat) : 256 ^ j = 2 ^ (8 * j) := by rw [Nat.pow_mul]
theorem p256_le {j n : Nat} (h : 8 * j ≤ n) : 2 ^ n = 256 ^ j * 2 ^ (n - 8 * j) := by rw [p256, ← Nat.pow_add]; congr 1; omega
theorem p256_pos (j : Nat) : 0 < 256 ^ j := Nat.pow_pos (by decide)
/-- a byte is settled as soon as its bits are there -/
theorem gv_byte (r : List Int32) (w i : Nat) {j k n : Nat} (hk : k ≤ n) (h : 8 * (j + 1) ≤ w * k) : gv r w i k / 256 ^ j % 256 = gv r w i n / 256 ^ j % 256 := by
  obtain ⟨c, hc⟩ := gv_more r w i k (n - k)
  rw [show k + (n - k) = n by omega] at hc
  rw [hc, p256_le h, Nat.pow_succ, Nat.mul_assoc, Nat.mul_assoc, Nat.add_mul_div_left _ _ (p256_pos j), Nat.add_mul_mod_self_left]
theorem gv_add (r : List Int32) (w i : Nat) {j k : Nat} (h : 8 * j ≤ w * k) : gv r w i (k + 1) / 256 ^ j = gv r w i k / 256 ^ j + uv (r.getD (i + k) 0) * 2 ^ (w * k - 8 * j) := by
  show (gv r w i k + uv (r.getD (i + k) 0) * 2 ^ (w * k)) / 256 ^ j = _
  rw [p256_le h, Nat.mul_comm (uv _) (256 ^ j * _), Nat.mul_assoc, Nat.add_mul_div_left _ _ (p256_pos j), Nat.mul_comm (2 ^ (w * k - 8 * j))]
theorem gv_div_lt {r : List Int32} {w : Nat} (hf : fitsW r w) (i : Nat) {j k : Nat} (h : 8 * j ≤ w * k) : gv r w i k / 256 ^ j < 2 ^ (w * k - 8 * j) := by
  rw [Nat.div_lt_iff_lt_mul (p256_pos j), Nat.mul_comm, ← p256_le h]
  exact gv_lt hf i k
/-- g groups from i on -/
def wgs (r : List Int32) (w i : Nat) : Nat → List Nat
  | 0 => []
  | g + 1 => wgs r w i g ++ leb (gv r w (i + g * 8) 8) w
def wOne (x : Int32) (t w : Nat) : List Nat := vint 9 (t * 2) ++ leb (uv x) ((w + 7) / 8)
def wGrp (r : List Int32) (w i g : Nat) : List Nat := vint 9 (g * 2 + 1) ++ wgs r w i g
/-- what is written, from i on, at most n runs -/
def wrF (r : List Int32) (w : Nat) : Nat → Nat → List Nat
  | 0, _ => []
  | n + 1, i => if i < r.length then (if 8 ≤ same r i then wOne (r.getD i 0) (same r i) w ++ wrF r w n (i + same r i) else wGrp r w i (gf r i) ++ wrF r w n (i + gf r i * 8)) else []
/-- j bytes from a on as one number, the lowest first -/
def lev (bs : List Nat) (a : Nat) : Nat → Nat
  | 0 => 0
  | j + 1 => lev bs a j + bs.getD (a + j) 0 * 256 ^ j
theorem lev_lt {bs : List Nat} (hb : ∀ i, bs.getD i 0 < 256) (a : Nat) : ∀ j, lev bs a j < 256 ^ j := by
  intro j
  induction j with
  | zero => simp [lev]
  | succ j ih =>
    unfold lev
    have h := hb (a + j)
    have h2 : bs.getD (a + j) 0 * 256 ^ j + 256 ^ j ≤ 256 * 256 ^ j := by
      rw [← Nat.succ_mul]
      exact Nat.mul_le_mul_right _ h
    rw [Nat.pow_succ, Nat.mul_comm (256 ^ j) 256]
    omega
theorem lev_more (bs : List Nat) (a k : Nat) : ∀ n, ∃ c, lev bs a (k + n) = lev bs a k + 256 ^ k * c := by
  intro n
  induction n with
  | zero => exact ⟨0, by simp⟩
  | succ n ih =>
    obtain ⟨c, hc⟩ := ih
    refine ⟨c + bs.getD (a + (k + n)) 0 * 256 ^ n, ?_⟩
    show lev bs a (k + n) + bs.getD (a + (k + n)) 0 * 256 ^ (k + n) = _
    rw [hc, Nat.mul_add, Nat.pow_add]
    have : bs.getD (a + (k + n)) 0 * (256 ^ k * 256 ^ n) = 256 ^ k * (bs.getD (a + (k + n)) 0 * 256 ^ n) := by
      rw [← Nat.mul_assoc, ← Nat.mul_assoc, Nat.mul_comm (256 ^ k)]
    omega
/-- a number is settled as soon as its bytes are there -/
theorem lev_num (bs : List Nat) (a w : Nat) {j k n : Nat} (hj : j ≤ n) (h : w * (k + 1) ≤ 8 * j) : lev bs a j / 2 ^ (w * k) % 2 ^ w = lev bs a n / 2 ^ (w * k) % 2 ^ w := by
  obtain ⟨c, hc⟩ := lev_more bs a j (n - j)
  rw [show j + (n - j) = n by omega] at hc
  have e : 256 ^ j = 2 ^ (w * k) * (2 ^ w * 2 ^ (8 * j - w * (k + 1))) := by
    rw [← Nat.pow_add, ← Nat.pow_add, p256]
    congr 1
    rw [Nat.mul_succ] at h ⊢
    omega
  rw [hc, e, Nat.mul_assoc, Nat.mul_assoc, Nat.add_mul_div_left _ _ (Nat.pow_pos (by decide)), Nat.add_mul_mod_self_left]
theorem lev_add (bs : List Nat) (a w : Nat) {j k : Nat} (h : w * k ≤ 8 * j) : lev bs a (j + 1) / 2 ^ (w * k) = lev bs a j / 2 ^ (w * k) + bs.getD (a + j) 0 * 2 ^ (8 * j - w * k) := by
  show (lev bs a j + bs.getD (a + j) 0 * 256 ^ j) / 2 ^ (w * k) = _
  have e : 256 ^ j = 2 ^ (w * k) * 2 ^ (8 * j - w * k) := by rw [← Nat.pow_add, p256]; congr 1; omega
  rw [e, Nat.mul_comm (bs.getD _ _) (_ * _), Nat.mul_assoc, Nat.add_mul_div_left _ _ (Nat.pow_pos (by decide)), Nat.mul_comm (2 ^ (8 * j - w * k))]
theorem lev_div_lt {bs : List Nat} (hb : ∀ i, bs.getD i 0 < 256) (a w : Nat) {j k : Nat} (h : w * k ≤ 8 * j) : lev bs a j / 2 ^ (w * k) < 2 ^ (8 * j - w * k) := by
  rw [Nat.div_lt_iff_lt_mul (Nat.pow_pos (by decide)), ← Nat.pow_add, show 8 * j - w * k + w * k = 8 * j by omega, ← p256]
  exact lev_lt hb a j
theorem bHas_256 {f : Nat → Int32} {xs : List Nat} (h : bHas f xs) (i : Nat) : xs.getD i 0 < 256 := by
  rcases Nat.lt_or_ge i xs.length with q | q
  · exact (h i q).1
  · rw [gd_out q]; decide
/-! What is read. A head: how it ends (0, or the fault), how far, and the number. -/
def hdF (bs : List Nat) : Nat → Nat → Nat → Nat → Nat × Nat × Nat
  | 0, _, a, acc => (2, a, acc)
  | n + 1, i, a, acc =>
    if a < bs.length then
      (if i = 9 ∧ 1 < bs.getD a 0 then (2, a + 1, acc)
       else if bs.getD a 0 < 128 then ((if bs.getD a 0 = 0 ∧ 0 < i then 2 else 0), a + 1, acc + bs.getD a 0 % 128 * 2 ^ (7 * i))
       else hdF bs n (i + 1) (a + 1) (acc + bs.getD a 0 % 128 * 2 ^ (7 * i)))
    else (1, a, acc)
/-- the numbers 0 .. k of width w in W bytes from a on -/
def gn (bs : List Nat) (a w W k : Nat) : List Int32 := (List.range k).map (fun q => nI (lev bs a W / 2 ^ (w * q) % 2 ^ w))
theorem gn_succ (bs : List Nat) (a w W k : Nat) : gn bs a w W (k + 1) = gn bs a w W k ++ [nI (lev bs a W / 2 ^ (w * k) % 2 ^ w)] := by unfold gn; rw [List.range_succ, List.map_append]; rfl
theorem gn_len (bs : List Nat) (a w W k : Nat) : (gn bs a w W k).length = k := by unfold gn; simp
/-- a run: how it ends, how far, and the row behind it -/
def runF (bs : List Nat) (w n a : Nat) (r : List Int32) : Nat × Nat × List Int32 :=
  let h := hdF bs 10 0 a 0
  if h.1 ≠ 0 then (h.1, h.2.1, r)
  else if h.2.2 ≤ 1 then (3, h.2.1, r)
  else if h.2.2 % 2 = 0 then
    (if n - r.length < h.2.2 / 2 then (4, h.2.1, r)
     else if bs.length - h.2.1 < (w + 7) / 8 then (1, h.2.1, r)
     else if 2 ^ w ≤ lev bs h.2.1 ((w + 7) / 8) then (5, h.2.1, r)
     else (0, h.2.1 + (w + 7) / 8, r ++ List.replicate (h.2.2 / 2) (nI (lev bs h.2.1 ((w + 7) / 8)))))
  else
    (if (n - r.length + 7) / 8 < h.2.2 / 2 then (4, h.2.1, r)
     else if bs.length - h.2.1 < h.2.2 / 2 * w then (1, h.2.1, r)
     else if ∀ q, q < h.2.2 / 2 * 8 → n - r.length ≤ q → lev bs h.2.1 (h.2.2 / 2 * w) / 2 ^ (w * q) % 2 ^ w = 0 then (0, h.2.1 + h.2.2 / 2 * w, r ++ (gn bs h.2.1 w (h.2.2 / 2 * w) (h.2.2 / 2 * 8)).take (n - r.length))
     else (5, h.2.1, r))
def rdF (bs : List Nat) (w n : Nat) : Nat → Nat → List Int32 → Nat × List Int32
  | 0, a, r => ((if a < bs.length then 6 else 0), r)
  | k + 1, a, r => if r.length < n then (if (runF bs w n a r).1 ≠ 0 then ((runF bs w n a r).1, r) else rdF bs w n k (runF bs w n a r).2.1 (runF bs w n a r).2.2) else ((if a < bs.length then 6 else 0), r)
section RUN
variable {bs : List Nat} {w n a a1 hv q : Nat} {r : List Int32}
theorem run_hd (hh : hdF bs 10 0 a 0 = (q, a1, hv)) (hq : ¬ q = 0) : runF bs w n a r = (q, a1, r) := by unfold runF; simp only [hh]; rw [if_pos (show q ≠ 0 from hq)]
theorem run_empty (hh : hdF bs 10 0 a 0 = (0, a1, hv)) (h : hv ≤ 1) : runF bs w n a r = (3, a1, r) := by unfold runF; simp only [hh]; rw [if_neg (by decide), if_pos h]
theorem run_one_many (hh : hdF bs 10 0 a 0 = (0, a1, hv)) (h : ¬ hv ≤ 1) (he : hv % 2 = 0) (h2 : n - r.length < hv / 2) : runF bs w n a r = (4, a1, r) := by unfold runF; simp only [hh]; rw [if_neg (by decide), if_neg h, if_pos he, if_pos h2]
theorem run_one_cut (hh : hdF bs 10 0 a 0 = (0, a1, hv)) (h : ¬ hv ≤ 1) (he : hv % 2 = 0) (h2 : ¬ n - r.length < hv / 2) (h3 : bs.length - a1 < (w + 7) / 8) : runF bs w n a r = (1, a1, r) := by unfold runF; simp only [hh]; rw [if_neg (by decide), if_neg h, if_pos he, if_neg h2, if_pos h3]
theorem run_one_bits (hh : hdF bs 10 0 a 0 = (0, a1, hv)) (h : ¬ hv ≤ 1) (he : hv % 2 = 0) (h2 : ¬ n - r.length < hv / 2) (h3 : ¬ bs.length - a1 < (w + 7) / 8) (h4 : 2 ^ w ≤ lev bs a1 ((w + 7) / 8)) : runF bs w n a r = (5, a1, r) := by unfold runF; simp only [hh]; rw [if_neg (by decide), if_neg h, if_pos he, if_neg h2, if_neg h3, if_pos h4]
theorem run_one_ok (hh : hdF bs 10 0 a 0 = (0, a1, hv)) (h : ¬ hv ≤ 1) (he : hv % 2 = 0) (h2 : ¬ n - r.length < hv / 2) (h3 : ¬ bs.length - a1 < (w + 7) / 8) (h4 : ¬ 2 ^ w ≤ lev bs a1 ((w + 7) / 8)) : runF bs w n a r = (0, a1 + (w + 7) / 8, r ++ List.replicate (hv / 2) (nI (lev bs a1 ((w + 7) / 8)))) := by unfold runF; simp only [hh]; rw [if_neg (by decide), if_neg h, if_pos he, if_neg h2, if_neg h3, if_neg h4]
theorem run_grp_many (hh : hdF bs 10 0 a 0 = (0, a1, hv)) (h : ¬ hv ≤ 1) (he : ¬ hv % 2 = 0) (h2 : (n - r.length + 7) / 8 < hv / 2) : runF bs w n a r = (4, a1, r) := by unfold runF; simp only [hh]; rw [if_neg (by decide), if_neg h, if_neg he, if_pos h2]
theorem run_grp_cut (hh : hdF bs 10 0 a 0 = (0, a1, hv)) (h : ¬ hv ≤ 1) (he : ¬ hv % 2 = 0) (h2 : ¬ (n - r.length + 7) / 8 < hv / 2) (h3 : bs.length - a1 < hv / 2 * w) : runF bs w n a r = (1, a1, r) := by unfold runF; simp only [hh]; rw [if_neg (by decide), if_neg h, if_neg he, if_neg h2, if_pos h3]
theorem run_grp_bits (hh : hdF bs 10 0 a 0 = (0, a1, hv)) (h : ¬ hv ≤ 1) (he : ¬ hv % 2 = 0) (h2 : ¬ (n - r.length + 7) / 8 < hv / 2) (h3 : ¬ bs.length - a1 < hv / 2 * w) (h4 : ¬ ∀ q, q < hv / 2 * 8 → n - r.length ≤ q → lev bs a1 (hv / 2 * w) / 2 ^ (w * q) % 2 ^ w = 0) : runF bs w n a r = (5, a1, r) := by unfold runF; simp only [hh]; rw [if_neg (by decide), if_neg h, if_neg he, if_neg h2, if_neg h3, if_neg h4]
theorem run_grp_ok (hh : hdF bs 10 0 a 0 = (0, a1, hv)) (h : ¬ hv ≤ 1) (he : ¬ hv % 2 = 0) (h2 : ¬ (n - r.length + 7) / 8 < hv / 2) (h3 : ¬ bs.length - a1 < hv / 2 * w) (h4 : ∀ q, q < hv / 2 * 8 → n - r.length ≤ q → lev bs a1 (hv / 2 * w) / 2 ^ (w * q) % 2 ^ w = 0) : runF bs w n a r = (0, a1 + hv / 2 * w, r ++ (gn bs a1 w (hv / 2 * w) (hv / 2 * 8)).take (n - r.length)) := by unfold runF; simp only [hh]; rw [if_neg (by decide), if_neg h, if_neg he, if_neg h2, if_neg h3, if_pos h4]
end RUN
theorem rdF_full {bs : List Nat} {w n k a : Nat} {r : List Int32} (h : ¬ r.length < n) : rdF bs w n k a r = ((if a < bs.length then 6 else 0), r) := by
  cases k with
  | zero => rfl
  | succ k => rw [rdF, if_neg h]
theorem wrF_end {r : List Int32} {w k i : Nat} (h : ¬ i < r.length) : wrF r w k i = [] := by
  cases k with
  | zero => rfl
  | succ k => rw [wrF, if_neg h]
theorem fitsW_of {r : List Int32} {w : Nat} (h : ∀ j, j < r.length → uv (r.getD j 0) < 2 ^ w) : fitsW r w := fun j => by
  rcases Nat.lt_or_ge j r.length with q | q
  · exact h j q
  · rw [gd_out q]; exact Nat.pow_pos (by decide)
theorem rk_len {α : Type} {r l : List α} {m : Nat} (hm : m ≤ 4096) (hrm : r.length ≤ m) : (r ++ l.take (m - r.length)).length ≤ 4096 := by rw [List.length_append, List.length_take]; omega
theorem cmpE {a b : Nat} (ha : a < 2 ^ 64) (hb : b < 2 ^ 64) : lg_cmp (lN a) (lN b) = 0 ↔ a = b := by
  rw [lg_cmp_eq]
  refine ⟨fun h => ?_, fun h => by rw [h]⟩
  have h2 := congrArg (fun x : Int64 => x.toBitVec.toNat) h
  simp only [wb_tn ha, wb_tn hb] at h2
  exact h2
theorem nI_z32 {a : Nat} (h : a < 2 ^ 32) : nI a = 0 ↔ a = 0 := by
  refine ⟨fun q => ?_, fun q => by rw [q]; rfl⟩
  have h2 := congrArg uv q
  rw [uv_nI h] at h2
  exact h2
theorem or128 {a : Nat} (h : a < 128) : nI a ||| nI 128 = nI (a + 128) := by
  revert a
  decide +kernel
theorem mask32 (x : Int32) : x.toInt64 &&& lN 4294967295 = lN (uv x) := by
  apply wb_inj
  rw [Int64.toBitVec_and, wb_tb, wb_tb]
  rw [show x.toInt64.toBitVec = x.toBitVec.signExtend 64 from Int32.toBitVec_toInt64 x]
  apply BitVec.eq_of_getLsbD_eq
  intro i hi
  rw [BitVec.getLsbD_and, BitVec.getLsbD_signExtend, BitVec.getLsbD_ofNat, BitVec.getLsbD_ofNat, show (4294967295 : Nat) = 2 ^ 32 - 1 from rfl, Nat.testBit_two_pow_sub_one]
  by_cases h : i < 32
  · simp [h, hi, uv, BitVec.testBit_toNat]
  · have h3 : (uv x).testBit i = false := Nat.testBit_lt_two_pow (Nat.lt_of_lt_of_le (uv_lt x) (show 2 ^ 32 ≤ 2 ^ i from Nat.pow_le_pow_right (by decide) (by omega)))
    simp [h, h3]
theorem app_get {r : List Int32} {v r0 : Int32} {t : Nat} {r2 : List Int32} (h : 1 ≤ t) (h2 : t ≤ 4096 - r.length) (ha : app r v (nI t) r0 r2) : r0 = 1 ∧ r2 = r ++ List.replicate t v := by
  unfold app at ha
  rw [if_neg, nI_clamp (by omega)] at ha
  · exact ha
  · rintro (q | q)
    · exact absurd ((nI_ltI (a := t) (b := 1) (by omega) (by decide)).mp q) (by omega)
    · exact nI_nlt h2 (by omega) q
theorem hdF_step (bs : List Nat) (i a acc n : Nat) : hdF bs (n + 1) i a acc = if a < bs.length then (if i = 9 ∧ 1 < bs.getD a 0 then (2, a + 1, acc) else if bs.getD a 0 < 128 then ((if bs.getD a 0 = 0 ∧ 0 < i then 2 else 0), a + 1, acc + bs.getD a 0 % 128 * 2 ^ (7 * i)) else hdF bs n (i + 1) (a + 1) (acc + bs.getD a 0 % 128 * 2 ^ (7 * i))) else (1, a, acc) := rfl
theorem vint_step {k n : Nat} (h : ¬ n < 128) : vint (k + 1) n = (n % 128 + 128) :: vint k (n / 128) := by rw [vint, if_neg h]
theorem vint_small {k n : Nat} (h : n < 128) : vint k n = [n % 256] := by
  cases k with
  | zero => rfl
  | succ k => rw [vint, if_pos h, Nat.mod_eq_of_lt (by omega)]
theorem wrF_one {r : List Int32} {w n i : Nat} (h : i < r.length) (hs : 8 ≤ same r i) : wrF r w (n + 1) i = wOne (r.getD i 0) (same r i) w ++ wrF r w n (i + same r i) := by rw [wrF, if_pos h, if_pos hs]
theorem wrF_grp {r : List Int32} {w n i : Nat} (h : i < r.length) (hs : ¬ 8 ≤ same r i) : wrF r w (n + 1) i = wGrp r w i (gf r i) ++ wrF r w n (i + gf r i * 8) := by rw [wrF, if_pos h, if_neg hs]
theorem rdF_step {bs : List Nat} {w n k a : Nat} {r : List Int32} (h : r.length < n) : rdF bs w n (k + 1) a r = if (runF bs w n a r).1 ≠ 0 then ((runF bs w n a r).1, r) else rdF bs w n k (runF bs w n a r).2.1 (runF bs w n a r).2.2 := by rw [rdF, if_pos h]

