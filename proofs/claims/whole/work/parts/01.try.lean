theorem pt_test (a b : Int) (h : a < b) : a + 1 ≤ b := by omega
