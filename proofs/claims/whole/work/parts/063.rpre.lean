theorem iS_P {c : Nat} {P T : Nat} {ta : Nat → Option Nat} {tb shp : Nat → Nat} {sh se : Nat → Int32} {sa : Nat → Int64} {cst : Nat → Nat → Int64} {dys : Nat → Nat → Int32} {prt : Nat → Nat → Int64} {shs : Nat → Nat → Nat → Int64} {co : Nat → Int64} {dy : Nat → Int32} {pa ss lo : Nat → Int64} {P2 : Nat} (hp : P ≤ P2) (h : iS c P T ta tb shp sh se sa cst dys prt shs co dy pa ss lo) : iS c P2 T ta tb shp sh se sa cst dys prt shs co dy pa ss lo := by
  refine ⟨fun t ht => ?_, h.2⟩
  obtain ⟨a1, a2, a3, a4, a5, a6, a7, a8, a9, b1⟩ := h.1 t ht
  refine ⟨a1, a2, a3, a4, a5, a6, a7, fun p hp2 => ?_, a9, b1⟩
  obtain ⟨e1, d, e2, e3, e4⟩ := a8 p hp2
  exact ⟨e1, d, e2, e3, fun z => e4 (by omega)⟩
theorem j_ad_eq {b : Int64} {a1 a2 : Nat → Int64} : ∀ {n : Nat}, (∀ k, k < n → a1 k = a2 k) → j_ad b a1 n = j_ad b a2 n
  | 0, _ => rfl
  | n + 1, h => by rw [j_ad, j_ad, j_ad_eq (fun k hk => h k (by omega)), h n (by omega)]
theorem j_ld_eq {b : Int64} {a1 a2 : Nat → Int64} : ∀ {n : Nat}, (∀ k, k < n → a1 k = a2 k) → j_ld b a1 n = j_ld b a2 n
  | 0, _ => rfl
  | n + 1, h => by rw [j_ld, j_ld, j_ld_eq (fun k hk => h k (by omega)), h n (by omega)]
theorem j_tc_sc {a1 a2 : Nat → Int64} {c1 c2 : Nat → Int32} {x : Int32} {b : Int64} : ∀ {n : Nat}, (∀ k, k < n → c1 k = c2 k ∧ a1 k = a2 k) → j_tc a2 c2 x b n = b + j_sc a1 c1 x n
  | 0, _ => by rw [j_tc, j_sc]; simp
  | n + 1, h => by
    rw [j_tc, j_tc_sc (a1 := a1) (c1 := c1) (fun k hk => h k (by omega)), j_sc, (h n (by omega)).1, (h n (by omega)).2]
    by_cases q : c2 n = x
    · rw [if_pos q, if_pos q, Int64.add_assoc]
    · rw [if_neg q, if_neg q]; simp
theorem j_bm_be {ac ey : Nat → Int32} {am : Nat → Int64} {rr : Nat → Nat} {eac : Nat → Nat → Int32} {eam : Nat → Nat → Int64} {a m : Int32} : ∀ {E : Nat}, (∀ e, e < E → ∀ k, k < rr e → eac e k = ac (8 * (e + 1) + k) ∧ eam e k = am (8 * (e + 1) + k)) → j_bm ac am ey rr a m E = j_be (fun e => j_sc (eam e) (eac e) a (rr e)) (fun e => ey (e + 1) / 30) m E
  | 0, _ => rfl
  | E + 1, h => by
    have ih := j_bm_be (ey := ey) (rr := rr) (a := a) (m := m) (E := E) (fun e he => h e (by omega))
    by_cases q : m < ey (E + 1) / 30
    · rw [j_bm_f q, j_be_f q]; exact ih
    · rw [j_bm_t q, j_be_t (mo := fun e => ey (e + 1) / 30) q, ih]
      exact j_tc_sc (h E (by omega))
theorem iT_row {h : jH} {T : Nat} {tb shp : Nat → Nat} {sa : Nat → Int64} {se : Nat → Int32} {cst : Nat → Nat → Int64} {dys : Nat → Nat → Int32} {prt : Nat → Nat → Int64} {shs : Nat → Nat → Nat → Int64} (hT : iT h T tb shp sa se cst dys prt shs) : ∀ t, t < T → ∀ w, w < 4 → h.2 (tb t + 5 + w) = some (jL 12 (shs t w)) := by
  intro t ht w hw
  obtain ⟨h0, h1, h2, h3, h4, h5, h6, h7, h8⟩ := hT t ht
  rcases (show w = 0 ∨ w = 1 ∨ w = 2 ∨ w = 3 by omega) with rfl | rfl | rfl | rfl
  · exact h5
  · exact h6
  · exact h7
  · exact h8
theorem j_rows_at (a : Nat) : ∀ w, w < 4 → j_rows a w = some (a + w) := fun w hw => by unfold j_rows; rw [if_pos hw]
theorem n_sub100 (w : Int32) : ((w - 100).toInt = w.toInt - 100 ∧ -2147483548 ≤ w.toInt) ∨ ((w - 100).toInt = w.toInt - 100 + 4294967296 ∧ w.toInt < -2147483548) := by
  have h1 := Int32.le_toInt w
  have h2 := Int32.toInt_lt w
  rw [Int32.toInt_sub, n32_100]
  rcases Int.lt_or_le w.toInt (-2147483548) with q | q
  · right
    refine ⟨?_, q⟩
    have e2 : ((2 ^ 32 : Nat) : Int) = 4294967296 := by rfl
    rw [← Int.add_mul_bmod_self_right (w.toInt - 100) 1 (2 ^ 32), Int.bmod_eq_of_le (by rw [e2]; omega) (by rw [e2]; omega), e2]
    omega
  · left
    exact ⟨Int.bmod_eq_of_le (by omega) (by omega), q⟩
theorem n_nat {a : Int32} {N : Nat} (h0 : 0 ≤ a.toInt) (h1 : a.toInt < N) : ∃ j : Nat, j < N ∧ a = nI j := by
  have hz : ¬ a < 0 := by simp only [Int32.lt_iff_toInt_lt, n32_0]; omega
  obtain ⟨j, hj, rfl⟩ := nI_of hz
  rw [nI_toInt hj] at h1
  exact ⟨j, by omega, rfl⟩
theorem iE_cg {h : jH} {E : Nat} {eb rr : Nat → Nat} {ey tk tn : Nat → Int32} {eac : Nat → Nat → Int32} {eam : Nat → Nat → Int64} {ey2 tk2 tn2 : Nat → Int32} (hE : iE h E eb rr ey tk tn eac eam) (h1 : ∀ e, e < E → ey2 (e + 1) = ey (e + 1)) (h2 : ∀ e, e < E → tk2 (e + 1) = tk (e + 1)) (h3 : ∀ e, e < E → tn2 (e + 1) = tn (e + 1)) : iE h E eb rr ey2 tk2 tn2 eac eam := by
  intro e he
  rw [h1 e he, h2 e he, h3 e he]
  exact hE e he
