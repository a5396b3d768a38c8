theorem wk_100 {n v : Int32} (h : inB n 0 100 = true) (e : v = 0 + n) : v.toInt ≤ 100 := by
  have h1 := inB_spec.mp h
  rw [show (0 : Int32).toInt = 0 by decide, show (100 : Int32).toInt = 100 by decide] at h1
  rw [e, Int32.zero_add]
  exact h1.2
theorem wk_1000 {n v : Int32} (h : inB n 0 100 = true) (e : v = 0 + n) : v ≤ 1000 := by
  have h1 := wk_100 h e
  rw [Int32.le_iff_toInt_le, show (1000 : Int32).toInt = 1000 by decide]
  omega
theorem wk_n1000 {n v : Int32} (h : inB n 0 100 = true) (e : v = 0 + n) : ¬ 1000 < v := by
  have h1 := wk_100 h e
  rw [Int32.lt_iff_toInt_lt, show (1000 : Int32).toInt = 1000 by decide]
  omega
