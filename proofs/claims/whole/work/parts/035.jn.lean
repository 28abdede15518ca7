/-- the model's object, at 27, its arrays at 28 .. 49 -/
abbrev mO (sz at_ fr wd ps ts es op cl : Int32) : jE := jO 8 [.ref 28, .int sz, .ref 29, .ref 30, .int at_, .int fr, .int wd, .ref 31, .int ps, .ref 32, .ref 33, .int ts, .ref 34, .ref 35, .ref 36, .ref 37, .ref 38, .ref 39, .ref 40, .ref 41, .ref 42, .ref 43, .int es, .int op, .ref 44, .ref 45, .ref 46, .ref 47, .ref 48, .ref 49, .int cl]
theorem jn_lt {x b : Int32} {N : Nat} (h0 : ¬ x < 0) (h1 : x < b) (hb : b.toInt = N) : ∃ t : Nat, t < N ∧ x = nI t := by
  obtain ⟨j, hj, rfl⟩ := nI_of h0
  refine ⟨j, ?_, rfl⟩
  have h2 := Int32.lt_iff_toInt_lt.mp h1
  rw [nI_toInt hj, hb] at h2
  omega
theorem jn_ge {x b : Int32} {N : Nat} (h0 : ¬ x < 0) (h1 : ¬ b ≤ x) (hb : b.toInt = N) : ∃ t : Nat, t < N ∧ x = nI t := by
  obtain ⟨j, hj, rfl⟩ := nI_of h0
  refine ⟨j, ?_, rfl⟩
  have h2 : ¬ b.toInt ≤ (nI j).toInt := fun z => h1 (Int32.le_iff_toInt_le.mpr z)
  rw [nI_toInt hj, hb] at h2
  omega
theorem jn_P {P : Nat} (h : P < 2147483648) : (nI P).toInt = (P : Int) := nI_toInt (by omega)
/-- what 'within' says of an int -/
theorem jn_w {x : Int32} {b : Int64} {N : Nat} (h0 : ¬ x.toInt64 < 0) (h1 : ¬ b < x.toInt64) (hb : b.toInt = (N : Int)) : ∃ t : Nat, t < N + 1 ∧ x = nI t := by
  have e : x.toInt64.toInt = x.toInt := by simp
  have h2 : ¬ x.toInt64.toInt < (0 : Int64).toInt := fun z => h0 (Int64.lt_iff_toInt_lt.mpr z)
  have h3 : ¬ b.toInt < x.toInt64.toInt := fun z => h1 (Int64.lt_iff_toInt_lt.mpr z)
  have e0 : (0 : Int64).toInt = 0 := by decide
  rw [e, e0] at h2
  rw [e, hb] at h3
  have h4 : ¬ x < 0 := fun z => h2 (by have := Int32.lt_iff_toInt_lt.mp z; simpa using this)
  obtain ⟨j, hj, rfl⟩ := nI_of h4
  refine ⟨j, ?_, rfl⟩
  rw [nI_toInt hj] at h3
  omega
theorem jix_P {i : Int32} {P N : Nat} (h0 : ¬ i < 0) (h1 : ¬ nI P ≤ i) (hP : P ≤ N) (hN : N < 2147483648 := by decide) : jix i i.toNatClampNeg N := by
  obtain ⟨t, ht, rfl⟩ := jn_ge h0 h1 (jn_P (by omega))
  rw [nI_clamp (by omega)]
  exact jix_nI (by omega) (by omega)
theorem j_tbl3 {x : Int32} (h0 : ¬ x = 0) (h1 : ¬ x = 1) (h2 : ¬ x = 2) (h3 : ¬ x = 3) : x.toInt < 0 ∨ 3 < x.toInt := by
  have a0 : x.toInt ≠ 0 := fun z => h0 (Int32.toInt_inj.mp (by simpa using z))
  have a1 : x.toInt ≠ 1 := fun z => h1 (Int32.toInt_inj.mp (by simpa using z))
  have a2 : x.toInt ≠ 2 := fun z => h2 (Int32.toInt_inj.mp (by simpa using z))
  have a3 : x.toInt ≠ 3 := fun z => h3 (Int32.toInt_inj.mp (by simpa using z))
  omega
/-- the class's object, at 0 -/
abbrev xO (ru dr : Nat) (tc : Int32) : jE := jO 7 [.ref 1, .ref 3, .ref 6, .ref 7, .ref 8, .ref 12, .ref ru, .ref dr, .int tc]
