theorem rd_fault {bs : List Nat} {w n k a q a1 : Nat} {r r1 : List Int32} (hr : r.length < n) (h : runF bs w n a r = (q, a1, r1)) (hq : ¬ q = 0) : (rdF bs w n (k + 1) a r).1 = q := by
  rw [rdF_step hr, h, if_pos (show q ≠ 0 from hq)]
theorem rd_ok {bs : List Nat} {w n k a a1 : Nat} {r r1 : List Int32} (hr : r.length < n) (h : runF bs w n a r = (0, a1, r1)) : rdF bs w n (k + 1) a r = rdF bs w n k a1 r1 := by
  rw [rdF_step hr, h, if_neg (show ¬ (0 : Nat) ≠ 0 by decide)]
theorem rHas_app {f g : Nat → Int32} {r l : List Int32} (h : rHas f r) (h1 : ∀ i, i < r.length → g i = f i) (h2 : ∀ i, i < l.length → g (r.length + i) = l.getD i 0) : rHas g (r ++ l) := by
  intro i hi
  rw [List.length_append] at hi
  by_cases hx : i < r.length
  · rw [gd_l hx, h1 i hx]; exact h i hx
  · rw [gd_r (by omega), ← h2 (i - r.length) (by omega)]
    congr 1
    omega
theorem gn_take {bs : List Nat} {a w W k m q : Nat} (hq : q < k) (hm : q < m) : ((gn bs a w W k).take m).getD q 0 = nI (lev bs a W / 2 ^ (w * q) % 2 ^ w) := by
  unfold gn
  rw [List.getD_eq_getElem?_getD, List.getElem?_take, if_pos hm, List.getElem?_map, List.getElem?_range hq]
  rfl
theorem uv_z {x : Int32} : x = 0 ↔ uv x = 0 := by
  refine ⟨fun h => by rw [h]; rfl, fun h => ?_⟩
  rw [← nI_uv x, h]
  rfl
/-- which of the five numbers holds byte q -/
def pk5 (a1 a2 a3 a4 a5 : Int32) (q : Nat) : Int32 := if q < 4 then a1 else if q < 8 then a2 else if q < 12 then a3 else if q < 16 then a4 else a5
def fb5 (a1 a2 a3 a4 a5 : Int32) (q : Nat) : Nat := uv (pk5 a1 a2 a3 a4 a5 q) / 2 ^ (24 - 8 * (q % 4)) % 256
theorem fb5_all (a1 a2 a3 a4 a5 : Int32) : (List.range 20).map (fb5 a1 a2 a3 a4 a5) = four a1 ++ (four a2 ++ (four a3 ++ (four a4 ++ four a5))) := rfl
theorem mB_fb {f g : Nat → Int32} {tp : List Nat} {a1 a2 a3 a4 a5 : Int32} (h : mB f tp) (h1 : ∀ i, i < tp.length → g i = f i) (h2 : ∀ q, q < 20 → g (tp.length + q) = nI (fb5 a1 a2 a3 a4 a5 q)) : mB g (tp ++ (four a1 ++ (four a2 ++ (four a3 ++ (four a4 ++ four a5))))) := by
  rw [← fb5_all]
  refine mB_app h h1 (fun i hi => ?_)
  rw [List.length_map, List.length_range] at hi
  have e : ((List.range 20).map (fb5 a1 a2 a3 a4 a5)).getD i 0 = fb5 a1 a2 a3 a4 a5 i := by
    rw [List.getD_eq_getElem?_getD, List.getElem?_map, List.getElem?_range hi]
    rfl
  rw [e]
  exact ⟨Nat.mod_lt _ (by decide), h2 i hi⟩

