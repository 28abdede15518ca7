theorem jn_e {x : Int32} {E : Nat} (h0 : ¬ x < 1) (h1 : ¬ nI E < x) (hE : E < 2147483648) : ∃ e : Nat, e < E ∧ x = nI (e + 1) := by
  have h2 : ¬ x.toInt < 1 := fun z => h0 (Int32.lt_iff_toInt_lt.mpr (by simpa using z))
  have h3 : ¬ (nI E).toInt < x.toInt := fun z => h1 (Int32.lt_iff_toInt_lt.mpr z)
  rw [jn_P hE] at h3
  have h4 : ¬ x < 0 := fun z => h2 (by have := Int32.lt_iff_toInt_lt.mp z; have e0 : (0 : Int32).toInt = 0 := by decide
                                       rw [e0] at this; omega)
  obtain ⟨j, hj, rfl⟩ := nI_of h4
  rw [nI_toInt hj] at h2 h3
  refine ⟨j - 1, by omega, ?_⟩
  congr 1
  omega
/-- the sum over the entries up to i: of those whose month is at most m, what g says -/
def j_be (g : Nat → Int64) (mo : Nat → Int32) (m : Int32) : Nat → Int64
  | 0 => 0
  | i + 1 => if m < mo i then j_be g mo m i else j_be g mo m i + g i
theorem j_be_t {g : Nat → Int64} {mo : Nat → Int32} {m : Int32} {i : Nat} (h : ¬ m < mo i) : j_be g mo m (i + 1) = j_be g mo m i + g i := if_neg h
theorem j_be_f {g : Nat → Int64} {mo : Nat → Int32} {m : Int32} {i : Nat} (h : m < mo i) : j_be g mo m (i + 1) = j_be g mo m i := if_pos h
