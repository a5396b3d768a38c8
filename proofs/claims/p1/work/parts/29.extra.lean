theorem inB_012 {v : Int32} (h : inB v 0 2 = true) : v = 0 ∨ v = 1 ∨ v = 2 := by
  have h1 := inB_spec.mp h
  rw [show (0 : Int32).toInt = 0 by decide, show (2 : Int32).toInt = 2 by decide] at h1
  rcases (show v.toInt = 0 ∨ v.toInt = 1 ∨ v.toInt = 2 by omega) with e | e | e
  · exact Or.inl (wk_eq (by rw [e]; decide))
  · exact Or.inr (Or.inl (wk_eq (by rw [e]; decide)))
  · exact Or.inr (Or.inr (wk_eq (by rw [e]; decide)))
theorem sSet_out {x1 x2 : Int32} (h : inB x1 0 2 = false) : (-1 : Int32) = sSet x1 x2 := by
  have h0 : ¬ x1 = 0 := fun e => by rw [e] at h; exact absurd h (by decide)
  have h1 : ¬ x1 = 1 := fun e => by rw [e] at h; exact absurd h (by decide)
  have h2 : ¬ x1 = 2 := fun e => by rw [e] at h; exact absurd h (by decide)
  simp [sSet, h0, h1, h2]
theorem inB_ne {v a : Int32} (h : ¬ v = a) : inB v a a = false := by
  rcases k : inB v a a with _ | _
  · rfl
  · exact absurd (inB_eq k) h
theorem wk_pass {i v : Int32} {w1 w2 : Int64} (e1 : w1 = i.toInt64) (e2 : w2 = if 0 < w1 then w1 else -w1) (e3 : v = lg_cmp w2 2) (h0 : ¬ i = 0) (h1 : ¬ i = 1) (h2 : ¬ i = -1) : 0 ≤ v := by
  have hr := wk_rng i
  have a0 : i.toInt ≠ 0 := fun h => h0 (wk_eq (by rw [h]; decide))
  have a1 : i.toInt ≠ 1 := fun h => h1 (wk_eq (by rw [h]; decide))
  have a2 : i.toInt ≠ -1 := fun h => h2 (wk_eq (by rw [h]; decide))
  have t1 : w1.toInt = i.toInt := by rw [e1, Int32.toInt_toInt64]
  have z : (0 : Int64).toInt = 0 := by decide
  have z2 : (2 : Int64).toInt = 2 := by decide
  have t2 : 2 ≤ w2.toInt := by
    rw [e2]
    by_cases hc : 0 < w1
    · rw [if_pos hc]
      rw [Int64.lt_iff_toInt_lt, z] at hc
      omega
    · rw [if_neg hc]
      rw [Int64.lt_iff_toInt_lt, z] at hc
      rw [Int64.toInt_neg, Int.bmod_eq_of_le (by omega) (by omega)]
      omega
  rw [e3]
  unfold lg_cmp
  by_cases g1 : w2 > 2
  · rw [if_pos g1]; decide
  · rw [if_neg g1]
    by_cases g2 : w2 = 2
    · rw [if_pos g2]; decide
    · exfalso
      apply g2
      apply Int64.toInt_inj.mp
      have g3 : ¬ (2 : Int64).toInt < w2.toInt := fun h => g1 (Int64.lt_iff_toInt_lt.mpr h)
      rw [z2] at g3 ⊢
      omega
theorem inB_pm {i : Int32} (h : (inB i 1 1 || inB i (-1) (-1)) = true) : i = 1 ∨ i = -1 := by
  rcases Bool.or_eq_true_iff.mp h with k | k
  · exact Or.inl (inB_eq k)
  · exact Or.inr (inB_eq k)
theorem inB_npm {i : Int32} (h : (inB i 1 1 || inB i (-1) (-1)) = false) : (-1 : Int32) = sPass i := by
  rw [Bool.or_eq_false_iff] at h
  simp [sPass, h.1, h.2]
