/-! numbers: what calls ask first -/
def inB (v a b : Int32) : Bool := !(decide (v < a)) && !(decide (b < v))
theorem inB_f1 {v a b : Int32} (h : v < a) : inB v a b = false := by simp [inB, h]
theorem inB_f2 {v a b : Int32} (h : b < v) : inB v a b = false := by simp [inB, h]
theorem inB_t {v a b : Int32} (h : ¬ v < a) (h2 : ¬ b < v) : inB v a b = true := by simp [inB, h, h2]
theorem inB_spec {v a b : Int32} : inB v a b = true ↔ a.toInt ≤ v.toInt ∧ v.toInt ≤ b.toInt := by
  constructor
  · intro h
    simp only [inB, Bool.and_eq_true, Bool.not_eq_true', decide_eq_false_iff_not, Int32.lt_iff_toInt_lt] at h
    omega
  · intro h
    simp only [inB, Bool.and_eq_true, Bool.not_eq_true', decide_eq_false_iff_not, Int32.lt_iff_toInt_lt]
    omega
theorem inB_none (v : Int32) : inB v 0 (-1) = false := by
  rcases h : inB v 0 (-1) with _ | _
  · rfl
  · have h1 := inB_spec.mp h
    have e0 : (0 : Int32).toInt = 0 := by decide
    have e1 : (-1 : Int32).toInt = -1 := by decide
    rw [e0, e1] at h1
    omega
theorem wk_b0 {b : Bool} {r : Int32} (h : r = if b = true then 1 else 0) (c : r = 0) : b = false := by
  cases b
  · rfl
  · rw [h] at c
    exact absurd c (by decide)
theorem wk_b1 {b : Bool} {r : Int32} (h : r = if b = true then 1 else 0) (c : ¬ r = 0) : b = true := by
  cases b
  · rw [h] at c
    exact absurd rfl c
  · rfl
theorem wk_nar {b : Bool} {r : Int32} (h : r = if b = true then 1 else 0) : narrow .boolean (.int r) = .int r := by
  rw [h]
  cases b <;> rfl
theorem wk_eq {a b : Int32} (h : a.toInt = b.toInt) : a = b := Int32.toInt_inj.mp h
theorem wk_rng (x : Int32) : -2147483648 ≤ x.toInt ∧ x.toInt < 2147483648 := by
  have h1 := Int32.le_toInt x
  have h2 := Int32.toInt_lt x
  omega
theorem wk_bmod {z : Int} (h1 : -2147483648 ≤ z) (h2 : z < 2147483648) : z.bmod (2 ^ 32) = z := by
  apply Int.bmod_eq_of_le <;> omega
/-- the rest by 16, as the machine reckons it -/
theorem wk_rem16 (x : Int32) : (x - x / 16 * 16).toInt = x.toInt.tmod 16 := by
  have hr := wk_rng x
  have e16 : (16 : Int32).toInt = 16 := by decide
  have hq : (x / 16).toInt = x.toInt.tdiv 16 := by
    rw [Int32.toInt_div_of_ne_right _ _ (by decide), e16]
  have hm := Int.mul_tdiv_add_tmod x.toInt 16
  have hl := Int.tmod_lt_of_pos x.toInt (show (0 : Int) < 16 by decide)
  have hg := Int.lt_tmod_of_pos x.toInt (show (0 : Int) < 16 by decide)
  by_cases hs : 0 ≤ x.toInt
  · have h0 := Int.tmod_nonneg 16 hs
    rw [Int32.toInt_sub, Int32.toInt_mul, hq, e16, wk_bmod (z := x.toInt.tdiv 16 * 16) (by omega) (by omega), wk_bmod (by omega) (by omega)]
    omega
  · have h0 := Int.tmod_nonneg 16 (show 0 ≤ -x.toInt by omega)
    rw [Int.neg_tmod] at h0
    rw [Int32.toInt_sub, Int32.toInt_mul, hq, e16, wk_bmod (z := x.toInt.tdiv 16 * 16) (by omega) (by omega), wk_bmod (by omega) (by omega)]
    omega
theorem wk_x16 (x : Int32) : (x ^^^ 16).toInt < 0 ↔ x.toInt < 0 := by
  have a : (x ^^^ 16).toBitVec.msb = decide ((x ^^^ 16).toInt < 0) := BitVec.msb_eq_toInt
  have b : x.toBitVec.msb = decide (x.toInt < 0) := BitVec.msb_eq_toInt
  have h : (x ^^^ 16).toBitVec.msb = x.toBitVec.msb := by
    rw [Int32.toBitVec_xor, BitVec.msb_xor, show (16 : Int32).toBitVec.msb = false by decide, Bool.xor_false]
  rw [a, b] at h
  constructor
  · intro k
    rw [decide_eq_true k] at h
    exact of_decide_eq_true h.symm
  · intro k
    rw [decide_eq_true k] at h
    exact of_decide_eq_true h
theorem wk_fm1 {x y m : Int32} (hy : y = x ^^^ 16) (hm : m = x - x / 16 * 16) (c : 0 ≤ y) : vp_in m 16 := by
  rw [vp_in_iff, hm, wk_rem16]
  have c1 : ¬ (x ^^^ 16).toInt < 0 := by
    rw [hy, Int32.le_iff_toInt_le, show (0 : Int32).toInt = 0 by decide] at c
    omega
  rw [wk_x16] at c1
  have h0 := Int.tmod_nonneg 16 (show 0 ≤ x.toInt by omega)
  have hl := Int.tmod_lt_of_pos x.toInt (show (0 : Int) < 16 by decide)
  omega
theorem wk_fm2 {m : Int32} (c : m = 0) : vp_in m 16 := by
  rw [c]
  exact wk_in rfl
theorem wk_fm3 {x y m r : Int32} (hy : y = x ^^^ 16) (hm : m = x - x / 16 * 16) (c : ¬ 0 ≤ y) (c2 : ¬ m = 0) (hr : r = m + 16) : vp_in r 16 := by
  have e16 : (16 : Int32).toInt = 16 := by decide
  have c1 : (x ^^^ 16).toInt < 0 := by
    rw [hy, Int32.le_iff_toInt_le, show (0 : Int32).toInt = 0 by decide] at c
    omega
  rw [wk_x16] at c1
  have h0 := Int.tmod_nonneg 16 (show 0 ≤ -x.toInt by omega)
  rw [Int.neg_tmod] at h0
  have hg := Int.lt_tmod_of_pos x.toInt (show (0 : Int) < 16 by decide)
  have hz : m.toInt = x.toInt.tmod 16 := by rw [hm, wk_rem16]
  have hne : m.toInt ≠ 0 := fun h => c2 (wk_eq (by rw [h]; decide))
  rw [vp_in_iff, hr, Int32.toInt_add, e16, hz, wk_bmod (by omega) (by omega)]
  omega
/-- what a fresh object answers to set and count -/
def sSet (x1 x2 : Int32) : Int32 := if x1 = 0 then (if inB x2 1 9 = true then 9 else -1) else if x1 = 1 then (if inB x2 0 2000 = true then 0 else -1) else if x1 = 2 then (if inB x2 0 1 = true then 0 else -1) else -1
def sCount (x1 : Int32) : Int32 := if x1 = 0 then 0 else if x1 = 1 then 0 else if x1 = 2 then 2 else if x1 = 3 then 0 else if x1 = 4 then 0 else if x1 = 5 then 0 else if x1 = 6 then 0 else if x1 = 7 then 0 else -1
