theorem j_ss0 {h : jH} {a  : Nat} {x w  : jE}  : j_set (j_set h a x) a w = (j_set h a w) := by
  refine Prod.ext rfl (funext fun j => ?_)
  simp only [j_set]
  by_cases e : j = a
  · subst e
    simp []
  · simp [e]
theorem j_ss1 {h : jH} {a b0 : Nat} {x w z0 : jE} (n0 : a ≠ b0) : j_set (j_set (j_set h a x) b0 z0) a w = (j_set (j_set h a w) b0 z0) := by
  refine Prod.ext rfl (funext fun j => ?_)
  simp only [j_set]
  by_cases e : j = a
  · subst e
    simp [n0]
  · simp [e]
theorem j_ss2 {h : jH} {a b0 b1 : Nat} {x w z0 z1 : jE} (n0 : a ≠ b0) (n1 : a ≠ b1) : j_set (j_set (j_set (j_set h a x) b0 z0) b1 z1) a w = (j_set (j_set (j_set h a w) b0 z0) b1 z1) := by
  refine Prod.ext rfl (funext fun j => ?_)
  simp only [j_set]
  by_cases e : j = a
  · subst e
    simp [n0, n1]
  · simp [e]
theorem j_ss3 {h : jH} {a b0 b1 b2 : Nat} {x w z0 z1 z2 : jE} (n0 : a ≠ b0) (n1 : a ≠ b1) (n2 : a ≠ b2) : j_set (j_set (j_set (j_set (j_set h a x) b0 z0) b1 z1) b2 z2) a w = (j_set (j_set (j_set (j_set h a w) b0 z0) b1 z1) b2 z2) := by
  refine Prod.ext rfl (funext fun j => ?_)
  simp only [j_set]
  by_cases e : j = a
  · subst e
    simp [n0, n1, n2]
  · simp [e]
theorem j_ss4 {h : jH} {a b0 b1 b2 b3 : Nat} {x w z0 z1 z2 z3 : jE} (n0 : a ≠ b0) (n1 : a ≠ b1) (n2 : a ≠ b2) (n3 : a ≠ b3) : j_set (j_set (j_set (j_set (j_set (j_set h a x) b0 z0) b1 z1) b2 z2) b3 z3) a w = (j_set (j_set (j_set (j_set (j_set h a w) b0 z0) b1 z1) b2 z2) b3 z3) := by
  refine Prod.ext rfl (funext fun j => ?_)
  simp only [j_set]
  by_cases e : j = a
  · subst e
    simp [n0, n1, n2, n3]
  · simp [e]
theorem j_ss5 {h : jH} {a b0 b1 b2 b3 b4 : Nat} {x w z0 z1 z2 z3 z4 : jE} (n0 : a ≠ b0) (n1 : a ≠ b1) (n2 : a ≠ b2) (n3 : a ≠ b3) (n4 : a ≠ b4) : j_set (j_set (j_set (j_set (j_set (j_set (j_set h a x) b0 z0) b1 z1) b2 z2) b3 z3) b4 z4) a w = (j_set (j_set (j_set (j_set (j_set (j_set h a w) b0 z0) b1 z1) b2 z2) b3 z3) b4 z4) := by
  refine Prod.ext rfl (funext fun j => ?_)
  simp only [j_set]
  by_cases e : j = a
  · subst e
    simp [n0, n1, n2, n3, n4]
  · simp [e]
theorem j_ss6 {h : jH} {a b0 b1 b2 b3 b4 b5 : Nat} {x w z0 z1 z2 z3 z4 z5 : jE} (n0 : a ≠ b0) (n1 : a ≠ b1) (n2 : a ≠ b2) (n3 : a ≠ b3) (n4 : a ≠ b4) (n5 : a ≠ b5) : j_set (j_set (j_set (j_set (j_set (j_set (j_set (j_set h a x) b0 z0) b1 z1) b2 z2) b3 z3) b4 z4) b5 z5) a w = (j_set (j_set (j_set (j_set (j_set (j_set (j_set h a w) b0 z0) b1 z1) b2 z2) b3 z3) b4 z4) b5 z5) := by
  refine Prod.ext rfl (funext fun j => ?_)
  simp only [j_set]
  by_cases e : j = a
  · subst e
    simp [n0, n1, n2, n3, n4, n5]
  · simp [e]
