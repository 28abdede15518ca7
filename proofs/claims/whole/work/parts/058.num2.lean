/-- the end of the next word from a on; the number that it is; whether it is one, of at most m -/
def x_ne (tx : Nat → Int32) (L a : Nat) : Nat := x_we tx L (x_ws tx L a)
def x_v (tx : Nat → Int32) (L a : Nat) : Int32 := x_nm tx (x_ws tx L a) (x_dg tx (x_we tx L (x_ws tx L a)) (x_ws tx L a) - x_ws tx L a)
def x_ok (tx : Nat → Int32) (L a : Nat) (m : Int32) : Prop := ¬ x_we tx L (x_ws tx L a) ≤ x_ws tx L a ∧ x_we tx L (x_ws tx L a) - x_ws tx L a ≤ 6 ∧ x_we tx L (x_ws tx L a) ≤ x_dg tx (x_we tx L (x_ws tx L a)) (x_ws tx L a) ∧ x_v tx L a ≤ m
theorem x_nc_eq (tx : Nat → Int32) (a : Nat) : ∀ i, x_nc tx a i = x_nm tx a i
  | 0 => rfl
  | i + 1 => by
    simp only [x_nc, x_nm, x_nc_eq tx a i]
    rw [Int32.sub_eq_add_neg, Int32.sub_eq_add_neg, Int32.add_assoc]
theorem x_ne_le (tx : Nat → Int32) {L a : Nat} (h : a ≤ L) : x_ne tx L a ≤ L := (x_we_spec tx (x_ws_spec tx h).2.1).2.1
theorem x_dgt {c : Int32} (h1 : ¬ c < 48) (h2 : c ≤ 57) : ∃ d : Nat, d < 10 ∧ c = nI (48 + d) := by
  have a1 : ¬ c.toInt < 48 := fun z => h1 (Int32.lt_iff_toInt_lt.mpr (by simpa using z))
  have a2 : c.toInt ≤ 57 := by have := Int32.le_iff_toInt_le.mp h2; simpa using this
  have a0 : ¬ c < 0 := by
    intro z
    have z1 := Int32.lt_iff_toInt_lt.mp z
    have e0 : (0 : Int32).toInt = 0 := by decide
    rw [e0] at z1
    omega
  obtain ⟨j, hj, rfl⟩ := nI_of a0
  rw [nI_toInt hj] at a1 a2
  exact ⟨j - 48, by omega, by congr 1; omega⟩
theorem x_nm_nat (tx : Nat → Int32) (a : Nat) : ∀ i, i ≤ 6 → (∀ j, j < i → ¬ tx (a + j) < 48 ∧ tx (a + j) ≤ 57) → ∃ v : Nat, v < 10 ^ i ∧ x_nm tx a i = nI v
  | 0, _, _ => ⟨0, by decide, rfl⟩
  | i + 1, h, hd => by
    obtain ⟨v, hv, e⟩ := x_nm_nat tx a i (by omega) (fun j hj => hd j (by omega))
    obtain ⟨d, hd1, e2⟩ := x_dgt (hd i (by omega)).1 (hd i (by omega)).2
    refine ⟨10 * v + d, by rw [Nat.pow_succ]; omega, ?_⟩
    simp only [x_nm, e, e2]
    have e10 : (10 : Int32) = nI 10 := rfl
    have e48 : (48 : Int32) = nI 48 := rfl
    rw [e10, e48, pk_mul, nI_add, pk_sub (by omega)]
    congr 1
    omega
theorem x_v_nat {tx : Nat → Int32} {L a : Nat} {m : Int32} (ha : a ≤ L) (h : x_ok tx L a m) : ∃ v : Nat, v < 1000000 ∧ x_v tx L a = nI v := by
  obtain ⟨h1, h2, h3, h4⟩ := h
  have hs := x_ws_spec tx ha
  have ht := x_we_spec tx hs.2.1
  have hd := x_dg_spec tx ht.1
  obtain ⟨v, hv, e⟩ := x_nm_nat tx (x_ws tx L a) (x_dg tx (x_we tx L (x_ws tx L a)) (x_ws tx L a) - x_ws tx L a) (by have := hd.2.1; omega) (fun j hj => (hd.2.2.1 (x_ws tx L a + j) (by omega) (by omega)).2)
  refine ⟨v, Nat.lt_of_lt_of_le hv ?_, e⟩
  have : (10 : Nat) ^ (x_dg tx (x_we tx L (x_ws tx L a)) (x_ws tx L a) - x_ws tx L a) ≤ 10 ^ 6 := Nat.pow_le_pow_right (by decide) (by have := hd.2.1; omega)
  exact this
theorem x_v_nn {tx : Nat → Int32} {L a : Nat} {m : Int32} (ha : a ≤ L) (h : x_ok tx L a m) : 0 ≤ x_v tx L a := by
  obtain ⟨v, hv, e⟩ := x_v_nat ha h
  rw [e]
  exact nI_pos' (by omega)
set_option maxRecDepth 20000 in
theorem s_X8_num2 {l : Launch} {G : jG} {h : jH} {Q : Option Value → jH → Prop} {cl es fr m0 op ps ts wd : Int32} {L a : Nat} {tx : Nat → Int32} (H0 : h.2 27 = some (mO (nI L) (nI a) fr wd ps ts es op cl)) (H1 : h.2 28 = some (jI 600 tx)) (hL : L ≤ 600) (ha : a ≤ L)
    (K1 : x_ok tx L a m0 → Q (some (.int (x_v tx L a))) (j_set h 27 (mO (nI L) (nI (x_ne tx L a)) (nI (x_ws tx L a)) (wd + 1) ps ts es op cl))) (K2 : ¬ x_ok tx L a m0 → Q (some (.int (-1))) (j_set h 27 (mO (nI L) (nI (x_ne tx L a)) (nI (x_ws tx L a)) wd ps ts es op cl))) : J l G mX8_number 0 0 0 (lv_args 0 [.ref 27, .int m0]) [] h Q := by
  refine s_X8_number H0 H1 hL ha ?_ ?_ ?_ ?_ ?_
  · exact fun c1 => K2 (fun z => z.1 c1)
  · exact fun c1 c2 c3 c4 => K1 ⟨c1, c2, c3, c4⟩
  · exact fun c1 c2 c3 c4 => K2 (fun z => c4 z.2.2.2)
  · exact fun c1 c2 c3 => K2 (fun z => c3 z.2.2.1)
  · exact fun c1 c2 => K2 (fun z => c2 z.2.1)
set_option maxRecDepth 20000 in
theorem s_X5_num2 {l : Launch} {G : jG} {h : jH} {Q : Option Value → jH → Prop} {L a : Nat} {ws wn m0 : Int32} {by_ : Nat → Int32} (H0 : h.2 1 = some (jO 5 [.ref 2, .int (nI L), .int ws, .int (nI a), .int wn])) (H1 : h.2 2 = some (jC 600 by_)) (hL : L ≤ 600) (ha : a ≤ L)
    (K1 : x_ok by_ L a m0 → Q (some (.int (x_v by_ L a))) (j_set h 1 (jO 5 [.ref 2, .int (nI L), .int (nI (x_ws by_ L a)), .int (nI (x_ne by_ L a)), .int (wn + 1)]))) (K2 : ¬ x_ok by_ L a m0 → Q (some (.int (-1))) (j_set h 1 (jO 5 [.ref 2, .int (nI L), .int (nI (x_ws by_ L a)), .int (nI (x_ne by_ L a)), .int (wn + 1)]))) : J l G mX5_nextNumber 0 0 0 (lv_args 0 [.ref 1, .int m0]) [] h Q := by
  refine s_X5_nextNumber H0 H1 hL ha ?_ ?_ ?_ ?_ ?_
  · exact fun c1 => K2 (fun z => z.1 c1)
  · exact fun c1 c2 c3 c4 => K2 (fun z => absurd c4 (by rw [x_nc_eq]; exact Int32.not_lt.mpr z.2.2.2))
  · intro c1 c2 c3 c4
    rw [x_nc_eq] at c4 ⊢
    exact K1 ⟨c1, c2, c3, Int32.not_lt.mp c4⟩
  · exact fun c1 c2 c3 => K2 (fun z => c3 z.2.2.1)
  · exact fun c1 c2 => K2 (fun z => c2 z.2.1)
theorem x_ship : x_lt 1936222576 [115, 104, 105, 112] 4 := ⟨rfl, by decide⟩
theorem x_gear : x_lt 1734697330 [103, 101, 97, 114] 4 := ⟨rfl, by decide⟩
theorem x_cost : x_lt 1668248436 [99, 111, 115, 116] 4 := ⟨rfl, by decide⟩
theorem x_role : x_lt 1919904869 [114, 111, 108, 101] 4 := ⟨rfl, by decide⟩
theorem x_least : x_lt 465557353332 [108, 101, 97, 115, 116] 5 := ⟨rfl, by decide⟩
