theorem j_ss7 {h : jH} {a b0 b1 b2 b3 b4 b5 b6 : Nat} {x w z0 z1 z2 z3 z4 z5 z6 : jE} (n0 : a ≠ b0) (n1 : a ≠ b1) (n2 : a ≠ b2) (n3 : a ≠ b3) (n4 : a ≠ b4) (n5 : a ≠ b5) (n6 : a ≠ b6) : j_set (j_set (j_set (j_set (j_set (j_set (j_set (j_set (j_set h a x) b0 z0) b1 z1) b2 z2) b3 z3) b4 z4) b5 z5) b6 z6) a w = (j_set (j_set (j_set (j_set (j_set (j_set (j_set (j_set h a w) b0 z0) b1 z1) b2 z2) b3 z3) b4 z4) b5 z5) b6 z6) := by
  refine Prod.ext rfl (funext fun j => ?_)
  simp only [j_set]
  by_cases e : j = a
  · subst e
    simp [n0, n1, n2, n3, n4, n5, n6]
  · simp [e]
theorem j_ss8 {h : jH} {a b0 b1 b2 b3 b4 b5 b6 b7 : Nat} {x w z0 z1 z2 z3 z4 z5 z6 z7 : jE} (n0 : a ≠ b0) (n1 : a ≠ b1) (n2 : a ≠ b2) (n3 : a ≠ b3) (n4 : a ≠ b4) (n5 : a ≠ b5) (n6 : a ≠ b6) (n7 : a ≠ b7) : j_set (j_set (j_set (j_set (j_set (j_set (j_set (j_set (j_set (j_set h a x) b0 z0) b1 z1) b2 z2) b3 z3) b4 z4) b5 z5) b6 z6) b7 z7) a w = (j_set (j_set (j_set (j_set (j_set (j_set (j_set (j_set (j_set h a w) b0 z0) b1 z1) b2 z2) b3 z3) b4 z4) b5 z5) b6 z6) b7 z7) := by
  refine Prod.ext rfl (funext fun j => ?_)
  simp only [j_set]
  by_cases e : j = a
  · subst e
    simp [n0, n1, n2, n3, n4, n5, n6, n7]
  · simp [e]
theorem j_ss9 {h : jH} {a b0 b1 b2 b3 b4 b5 b6 b7 b8 : Nat} {x w z0 z1 z2 z3 z4 z5 z6 z7 z8 : jE} (n0 : a ≠ b0) (n1 : a ≠ b1) (n2 : a ≠ b2) (n3 : a ≠ b3) (n4 : a ≠ b4) (n5 : a ≠ b5) (n6 : a ≠ b6) (n7 : a ≠ b7) (n8 : a ≠ b8) : j_set (j_set (j_set (j_set (j_set (j_set (j_set (j_set (j_set (j_set (j_set h a x) b0 z0) b1 z1) b2 z2) b3 z3) b4 z4) b5 z5) b6 z6) b7 z7) b8 z8) a w = (j_set (j_set (j_set (j_set (j_set (j_set (j_set (j_set (j_set (j_set h a w) b0 z0) b1 z1) b2 z2) b3 z3) b4 z4) b5 z5) b6 z6) b7 z7) b8 z8) := by
  refine Prod.ext rfl (funext fun j => ?_)
  simp only [j_set]
  by_cases e : j = a
  · subst e
    simp [n0, n1, n2, n3, n4, n5, n6, n7, n8]
  · simp [e]
theorem j_ss10 {h : jH} {a b0 b1 b2 b3 b4 b5 b6 b7 b8 b9 : Nat} {x w z0 z1 z2 z3 z4 z5 z6 z7 z8 z9 : jE} (n0 : a ≠ b0) (n1 : a ≠ b1) (n2 : a ≠ b2) (n3 : a ≠ b3) (n4 : a ≠ b4) (n5 : a ≠ b5) (n6 : a ≠ b6) (n7 : a ≠ b7) (n8 : a ≠ b8) (n9 : a ≠ b9) : j_set (j_set (j_set (j_set (j_set (j_set (j_set (j_set (j_set (j_set (j_set (j_set h a x) b0 z0) b1 z1) b2 z2) b3 z3) b4 z4) b5 z5) b6 z6) b7 z7) b8 z8) b9 z9) a w = (j_set (j_set (j_set (j_set (j_set (j_set (j_set (j_set (j_set (j_set (j_set h a w) b0 z0) b1 z1) b2 z2) b3 z3) b4 z4) b5 z5) b6 z6) b7 z7) b8 z8) b9 z9) := by
  refine Prod.ext rfl (funext fun j => ?_)
  simp only [j_set]
  by_cases e : j = a
  · subst e
    simp [n0, n1, n2, n3, n4, n5, n6, n7, n8, n9]
  · simp [e]
theorem j_ss11 {h : jH} {a b0 b1 b2 b3 b4 b5 b6 b7 b8 b9 b10 : Nat} {x w z0 z1 z2 z3 z4 z5 z6 z7 z8 z9 z10 : jE} (n0 : a ≠ b0) (n1 : a ≠ b1) (n2 : a ≠ b2) (n3 : a ≠ b3) (n4 : a ≠ b4) (n5 : a ≠ b5) (n6 : a ≠ b6) (n7 : a ≠ b7) (n8 : a ≠ b8) (n9 : a ≠ b9) (n10 : a ≠ b10) : j_set (j_set (j_set (j_set (j_set (j_set (j_set (j_set (j_set (j_set (j_set (j_set (j_set h a x) b0 z0) b1 z1) b2 z2) b3 z3) b4 z4) b5 z5) b6 z6) b7 z7) b8 z8) b9 z9) b10 z10) a w = (j_set (j_set (j_set (j_set (j_set (j_set (j_set (j_set (j_set (j_set (j_set (j_set h a w) b0 z0) b1 z1) b2 z2) b3 z3) b4 z4) b5 z5) b6 z6) b7 z7) b8 z8) b9 z9) b10 z10) := by
  refine Prod.ext rfl (funext fun j => ?_)
  simp only [j_set]
  by_cases e : j = a
  · subst e
    simp [n0, n1, n2, n3, n4, n5, n6, n7, n8, n9, n10]
  · simp [e]
theorem j_ss12 {h : jH} {a b0 b1 b2 b3 b4 b5 b6 b7 b8 b9 b10 b11 : Nat} {x w z0 z1 z2 z3 z4 z5 z6 z7 z8 z9 z10 z11 : jE} (n0 : a ≠ b0) (n1 : a ≠ b1) (n2 : a ≠ b2) (n3 : a ≠ b3) (n4 : a ≠ b4) (n5 : a ≠ b5) (n6 : a ≠ b6) (n7 : a ≠ b7) (n8 : a ≠ b8) (n9 : a ≠ b9) (n10 : a ≠ b10) (n11 : a ≠ b11) : j_set (j_set (j_set (j_set (j_set (j_set (j_set (j_set (j_set (j_set (j_set (j_set (j_set (j_set h a x) b0 z0) b1 z1) b2 z2) b3 z3) b4 z4) b5 z5) b6 z6) b7 z7) b8 z8) b9 z9) b10 z10) b11 z11) a w = (j_set (j_set (j_set (j_set (j_set (j_set (j_set (j_set (j_set (j_set (j_set (j_set (j_set h a w) b0 z0) b1 z1) b2 z2) b3 z3) b4 z4) b5 z5) b6 z6) b7 z7) b8 z8) b9 z9) b10 z10) b11 z11) := by
  refine Prod.ext rfl (funext fun j => ?_)
  simp only [j_set]
  by_cases e : j = a
  · subst e
    simp [n0, n1, n2, n3, n4, n5, n6, n7, n8, n9, n10, n11]
  · simp [e]
theorem j_ss13 {h : jH} {a b0 b1 b2 b3 b4 b5 b6 b7 b8 b9 b10 b11 b12 : Nat} {x w z0 z1 z2 z3 z4 z5 z6 z7 z8 z9 z10 z11 z12 : jE} (n0 : a ≠ b0) (n1 : a ≠ b1) (n2 : a ≠ b2) (n3 : a ≠ b3) (n4 : a ≠ b4) (n5 : a ≠ b5) (n6 : a ≠ b6) (n7 : a ≠ b7) (n8 : a ≠ b8) (n9 : a ≠ b9) (n10 : a ≠ b10) (n11 : a ≠ b11) (n12 : a ≠ b12) : j_set (j_set (j_set (j_set (j_set (j_set (j_set (j_set (j_set (j_set (j_set (j_set (j_set (j_set (j_set h a x) b0 z0) b1 z1) b2 z2) b3 z3) b4 z4) b5 z5) b6 z6) b7 z7) b8 z8) b9 z9) b10 z10) b11 z11) b12 z12) a w = (j_set (j_set (j_set (j_set (j_set (j_set (j_set (j_set (j_set (j_set (j_set (j_set (j_set (j_set h a w) b0 z0) b1 z1) b2 z2) b3 z3) b4 z4) b5 z5) b6 z6) b7 z7) b8 z8) b9 z9) b10 z10) b11 z11) b12 z12) := by
  refine Prod.ext rfl (funext fun j => ?_)
  simp only [j_set]
  by_cases e : j = a
  · subst e
    simp [n0, n1, n2, n3, n4, n5, n6, n7, n8, n9, n10, n11, n12]
  · simp [e]
theorem j_ss14 {h : jH} {a b0 b1 b2 b3 b4 b5 b6 b7 b8 b9 b10 b11 b12 b13 : Nat} {x w z0 z1 z2 z3 z4 z5 z6 z7 z8 z9 z10 z11 z12 z13 : jE} (n0 : a ≠ b0) (n1 : a ≠ b1) (n2 : a ≠ b2) (n3 : a ≠ b3) (n4 : a ≠ b4) (n5 : a ≠ b5) (n6 : a ≠ b6) (n7 : a ≠ b7) (n8 : a ≠ b8) (n9 : a ≠ b9) (n10 : a ≠ b10) (n11 : a ≠ b11) (n12 : a ≠ b12) (n13 : a ≠ b13) : j_set (j_set (j_set (j_set (j_set (j_set (j_set (j_set (j_set (j_set (j_set (j_set (j_set (j_set (j_set (j_set h a x) b0 z0) b1 z1) b2 z2) b3 z3) b4 z4) b5 z5) b6 z6) b7 z7) b8 z8) b9 z9) b10 z10) b11 z11) b12 z12) b13 z13) a w = (j_set (j_set (j_set (j_set (j_set (j_set (j_set (j_set (j_set (j_set (j_set (j_set (j_set (j_set (j_set h a w) b0 z0) b1 z1) b2 z2) b3 z3) b4 z4) b5 z5) b6 z6) b7 z7) b8 z8) b9 z9) b10 z10) b11 z11) b12 z12) b13 z13) := by
  refine Prod.ext rfl (funext fun j => ?_)
  simp only [j_set]
  by_cases e : j = a
  · subst e
    simp [n0, n1, n2, n3, n4, n5, n6, n7, n8, n9, n10, n11, n12, n13]
  · simp [e]
theorem j_ss15 {h : jH} {a b0 b1 b2 b3 b4 b5 b6 b7 b8 b9 b10 b11 b12 b13 b14 : Nat} {x w z0 z1 z2 z3 z4 z5 z6 z7 z8 z9 z10 z11 z12 z13 z14 : jE} (n0 : a ≠ b0) (n1 : a ≠ b1) (n2 : a ≠ b2) (n3 : a ≠ b3) (n4 : a ≠ b4) (n5 : a ≠ b5) (n6 : a ≠ b6) (n7 : a ≠ b7) (n8 : a ≠ b8) (n9 : a ≠ b9) (n10 : a ≠ b10) (n11 : a ≠ b11) (n12 : a ≠ b12) (n13 : a ≠ b13) (n14 : a ≠ b14) : j_set (j_set (j_set (j_set (j_set (j_set (j_set (j_set (j_set (j_set (j_set (j_set (j_set (j_set (j_set (j_set (j_set h a x) b0 z0) b1 z1) b2 z2) b3 z3) b4 z4) b5 z5) b6 z6) b7 z7) b8 z8) b9 z9) b10 z10) b11 z11) b12 z12) b13 z13) b14 z14) a w = (j_set (j_set (j_set (j_set (j_set (j_set (j_set (j_set (j_set (j_set (j_set (j_set (j_set (j_set (j_set (j_set h a w) b0 z0) b1 z1) b2 z2) b3 z3) b4 z4) b5 z5) b6 z6) b7 z7) b8 z8) b9 z9) b10 z10) b11 z11) b12 z12) b13 z13) b14 z14) := by
  refine Prod.ext rfl (funext fun j => ?_)
  simp only [j_set]
  by_cases e : j = a
  · subst e
    simp [n0, n1, n2, n3, n4, n5, n6, n7, n8, n9, n10, n11, n12, n13, n14]
  · simp [e]
theorem j_ss16 {h : jH} {a b0 b1 b2 b3 b4 b5 b6 b7 b8 b9 b10 b11 b12 b13 b14 b15 : Nat} {x w z0 z1 z2 z3 z4 z5 z6 z7 z8 z9 z10 z11 z12 z13 z14 z15 : jE} (n0 : a ≠ b0) (n1 : a ≠ b1) (n2 : a ≠ b2) (n3 : a ≠ b3) (n4 : a ≠ b4) (n5 : a ≠ b5) (n6 : a ≠ b6) (n7 : a ≠ b7) (n8 : a ≠ b8) (n9 : a ≠ b9) (n10 : a ≠ b10) (n11 : a ≠ b11) (n12 : a ≠ b12) (n13 : a ≠ b13) (n14 : a ≠ b14) (n15 : a ≠ b15) : j_set (j_set (j_set (j_set (j_set (j_set (j_set (j_set (j_set (j_set (j_set (j_set (j_set (j_set (j_set (j_set (j_set (j_set h a x) b0 z0) b1 z1) b2 z2) b3 z3) b4 z4) b5 z5) b6 z6) b7 z7) b8 z8) b9 z9) b10 z10) b11 z11) b12 z12) b13 z13) b14 z14) b15 z15) a w = (j_set (j_set (j_set (j_set (j_set (j_set (j_set (j_set (j_set (j_set (j_set (j_set (j_set (j_set (j_set (j_set (j_set h a w) b0 z0) b1 z1) b2 z2) b3 z3) b4 z4) b5 z5) b6 z6) b7 z7) b8 z8) b9 z9) b10 z10) b11 z11) b12 z12) b13 z13) b14 z14) b15 z15) := by
  refine Prod.ext rfl (funext fun j => ?_)
  simp only [j_set]
  by_cases e : j = a
  · subst e
    simp [n0, n1, n2, n3, n4, n5, n6, n7, n8, n9, n10, n11, n12, n13, n14, n15]
  · simp [e]
