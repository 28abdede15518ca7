/-- the sum of those of the first n longs whose int is x, the others counted as 0 -/
def j_tc (a : Nat → Int64) (c : Nat → Int32) (x : Int32) (b : Int64) : Nat → Int64
  | 0 => b
  | i + 1 => j_tc a c x b i + (if c i = x then a i else 0)
/-- k less 1, g times -/
def j_dn (k : Int64) : Nat → Int64
  | 0 => k
  | g + 1 => j_dn k g - 1
theorem j_dn_int (k : Int64) : ∀ g, g ≤ k.toInt.toNat → (j_dn k g).toInt = k.toInt - g
  | 0, _ => by simp [j_dn]
  | g + 1, h => by
    have ih := j_dn_int k g (by omega)
    have hk := Int64.toInt_lt k
    have hl := Int64.le_toInt k
    show (j_dn k g - 1).toInt = _
    rw [Int64.toInt_sub, ih]
    have e1 : (1 : Int64).toInt = 1 := by decide
    rw [e1, Int.bmod_eq_of_le (by omega) (by omega)]
    omega
theorem j_dn_le {k : Int64} {g : Nat} (h : g ≤ k.toInt.toNat) : j_dn k g ≤ 0 ↔ k.toInt ≤ (g : Int) := by
  rw [Int64.le_iff_toInt_le, j_dn_int k g h]
  have e0 : (0 : Int64).toInt = 0 := by decide
  rw [e0]
  omega
/-- what balance sums: entry by entry, row by row -/
def j_bl (ac : Nat → Int32) (am : Nat → Int64) (er ey : Nat → Int32) (a m : Int32) (R : Nat → Nat) : Nat → Int64
  | 0 => 0
  | e + 1 => if m < ey (e + 1) / 30 then j_bl ac am er ey a m R e else j_tc (fun k => am (8 * (e + 1) + k)) (fun k => ac (8 * (e + 1) + k)) a (j_bl ac am er ey a m R e) (R (e + 1))
theorem j_mx_n (c : Nat → Int64) (i : Nat) : nI (j_mx c (i + 1)) = if c i ≤ c (j_mx c i) then nI (j_mx c i) else nI i := by
  by_cases h : c i ≤ c (j_mx c i)
  · rw [if_pos h, j_mx_f h]
  · rw [if_neg h, j_mx_t h]
