theorem o_mn {a b : Nat} (ha : a < 4000000000000000000) (hb : b < 4000000000000000000) : (lN a - lN b).toInt = (a : Int) - b := by
  rw [Int64.toInt_sub, pk_lT (by omega), pk_lT (by omega)]
  exact Int.bmod_eq_of_le (by omega) (by omega)
theorem o_ring1 (x y z w : Int64) : x - ((y - z) + w) = (x - w) + (z - y) := by grind
theorem o_ring2 (x y w : Int64) : x - ((y - y) + w) = (x - w) + 0 := by grind
theorem o_ring3 (x : Int64) : x - x = 0 := by grind
theorem o_F3 {cst a p2 : Nat → Int64} {plc c2 : Nat → Int32} {G0 G2 ow0 cr0 ow1 crw : Int64} {g y : Nat} (hk : ∀ k, k < 10 → plc k = c2 k ∧ cst k = a k) (h1 : p2 1 = G0) (h3 : p2 3 = G2) (e3 : ow0 = G0 - j_tc a c2 2 0 10) (e4 : cr0 = G2 - j_tc a c2 1 0 10) (e5 : ow1 = ow0 + (if 0 ≤ cr0 then 0 else cr0)) (e6 : crw = if 0 ≤ cr0 then cr0 else 0) (hG : G2 = lN g) (hg : g < 4000000000000000000) (hC : j_sc cst plc 1 10 = lN y) (hy : y < 4000000000000000000) : o_bcP cst p2 plc = va_up (va_up p2 3 crw) 1 ow1 ∧ ∃ s, s ≤ g ∧ crw = lN s := by
  rw [j_tc_sc hk, Int64.zero_add] at e3 e4
  have hc : cr0.toInt = (g : Int) - y := by rw [e4, hG, hC, o_mn hg hy]
  unfold o_bcP
  rw [va_up_n (j := 1) _ _ (by omega), h1, h3]
  by_cases q : y ≤ g
  · have q1 : ¬ G2 < j_sc cst plc 1 10 := by rw [hG, hC, pk_lLT (by omega) (by omega)]; omega
    have q2 : 0 ≤ cr0 := by rw [Int64.le_iff_toInt_le, hc, n64_0]; omega
    rw [if_neg q1]
    rw [if_pos q2] at e5 e6
    refine ⟨?_, g - y, by omega, by rw [e6, e4, hG, hC, lN_sub q]⟩
    rw [e6, e4, e5, e3, o_ring2]
  · have q1 : G2 < j_sc cst plc 1 10 := by rw [hG, hC, pk_lLT (by omega) (by omega)]; omega
    have q2 : ¬ 0 ≤ cr0 := by rw [Int64.le_iff_toInt_le, hc, n64_0]; omega
    rw [if_pos q1]
    rw [if_neg q2] at e5 e6
    refine ⟨?_, 0, by omega, e6⟩
    rw [e6, e5, e4, e3, o_ring1, o_ring3]
theorem o_pay (x v : Int64) : (if x < v then x else v) = (if v ≤ x then v else x) := by
  by_cases q : x < v
  · rw [if_pos q, if_neg (Int64.not_le.mpr q)]
  · rw [if_neg q, if_pos (Int64.not_lt.mp q)]
theorem o_tu {a b : Nat} (ha : a < 4000000000000000000) (hb : b < 4000000000000000000) : (if 0 < lN a - lN b then lN a - lN b else 0) = (if lN a ≤ lN b then 0 else lN a - lN b) := by
  have z := o_mn ha hb
  by_cases q : a ≤ b
  · rw [if_neg (by rw [Int64.lt_iff_toInt_lt, z, n64_0]; omega), if_pos ((pk_lLE (by omega) (by omega)).mpr q)]
  · rw [if_pos (by rw [Int64.lt_iff_toInt_lt, z, n64_0]; omega), if_neg (fun w => q ((pk_lLE (by omega) (by omega)).mp w))]
theorem o_F5 {t P : Nat} {rn : Nat → Nat} {lst dys : Nat → Int32} {s0 s1 s2 s3 p3 ad ss gt ls : Nat → Int64} {ow : Int64} (hP : P ≤ 12) (h1 : p3 1 = ow) (hg : ∀ p, p < P → s0 p = gt p ∧ ∃ b, b < 4000000000000000000 ∧ gt p = lN b) (hl : ∀ p, p < P → (lst (rn p)).toInt64 * (dys p).toInt64 = ls p ∧ ∃ a, a < 4000000000000000000 ∧ ls p = lN a) (hs : ∀ p, p < 12 → s1 p = ss (48 * t + 4 * p + 1) ∧ s2 p = ss (48 * t + 4 * p + 2) ∧ s3 p = ss (48 * t + 4 * p + 3)) : ∀ i, i ≤ P → (j_so rn lst dys s0 (p3, s1, ad, s2, s3) i).1 = va_up p3 1 (j_ms t ls gt (ow, ad, ss) i).1 ∧ (j_so rn lst dys s0 (p3, s1, ad, s2, s3) i).2.2.1 = (j_ms t ls gt (ow, ad, ss) i).2.1 ∧ (∀ p, p < 12 → (j_so rn lst dys s0 (p3, s1, ad, s2, s3) i).2.1 p = (j_ms t ls gt (ow, ad, ss) i).2.2 (48 * t + 4 * p + 1) ∧ (j_so rn lst dys s0 (p3, s1, ad, s2, s3) i).2.2.2.1 p = (j_ms t ls gt (ow, ad, ss) i).2.2 (48 * t + 4 * p + 2) ∧ (j_so rn lst dys s0 (p3, s1, ad, s2, s3) i).2.2.2.2 p = (j_ms t ls gt (ow, ad, ss) i).2.2 (48 * t + 4 * p + 3) ∧ (j_ms t ls gt (ow, ad, ss) i).2.2 (48 * t + 4 * p) = if p < i then gt p else ss (48 * t + 4 * p)) ∧ ∀ j, (j < 48 * t ∨ 48 * t + 48 ≤ j) → (j_ms t ls gt (ow, ad, ss) i).2.2 j = ss j
  | 0, _ => by
    refine ⟨?_, rfl, fun p hp => ?_, fun j _ => rfl⟩
    · show p3 = va_up p3 1 ow
      funext j
      by_cases q : j = 1
      · subst q; rw [va_up_e, h1]
      · rw [va_up_n _ _ q]
    · obtain ⟨a1, a2, a3⟩ := hs p hp
      refine ⟨a1, a2, a3, ?_⟩
      rw [if_neg (by omega)]
      rfl
  | i + 1, hi => by
    obtain ⟨i1, i2, i3, i4⟩ := o_F5 hP h1 hg hl hs i (by omega)
    obtain ⟨g1, b, hb, eb⟩ := hg i (by omega)
    obtain ⟨l1, a, ha, ea⟩ := hl i (by omega)
    have tu : (if 0 < ls i - gt i then ls i - gt i else 0) = (if ls i ≤ gt i then 0 else ls i - gt i) := by
      rw [ea, eb]; exact o_tu ha hb
    have py : ∀ x : Int64, (if x < gt i + (if ls i ≤ gt i then 0 else ls i - gt i) then x else gt i + (if ls i ≤ gt i then 0 else ls i - gt i)) = (if gt i + (if ls i ≤ gt i then 0 else ls i - gt i) ≤ x then gt i + (if ls i ≤ gt i then 0 else ls i - gt i) else x) := fun x => o_pay x _
    simp only [j_so, j_ms, o_tuP, o_tu1, o_pyA, o_py2, o_py3]
    simp only [l1, g1, tu, va_up_e]
    generalize j_ms t ls gt (ow, ad, ss) i = m at i1 i2 i3 i4 ⊢
    generalize j_so rn lst dys s0 (p3, s1, ad, s2, s3) i = z at i1 i2 i3 i4 ⊢
    obtain ⟨z1, z2, z3, z4, z5⟩ := z
    obtain ⟨m1, m2, m3⟩ := m
    simp only at i1 i2 i3 i4 ⊢
    subst i2
    simp only [py]
    generalize (if ls i ≤ gt i then (0 : Int64) else ls i - gt i) = lp
    generalize (if gt i + lp ≤ z3 i then gt i + lp else z3 i) = of
    refine ⟨?_, trivial, fun p hp => ?_, fun j hj => ?_⟩
    · rw [i1, va_up_e, va_up_up]
    · obtain ⟨a1, a2, a3, a4⟩ := i3 p hp
      by_cases q : p = i
      · subst q
        refine ⟨?_, ?_, ?_, ?_⟩
        · rw [va_up_e, va_up_n _ _ (by omega), va_up_n _ _ (by omega), va_up_e]
        · rw [va_up_e, va_up_n _ _ (by omega), va_up_e]
        · rw [va_up_e, va_up_e]
        · rw [va_up_n _ _ (by omega), va_up_n _ _ (by omega), va_up_n _ _ (by omega), va_up_e, if_pos (by omega)]
      · refine ⟨?_, ?_, ?_, ?_⟩
        · rw [va_up_n _ _ q, va_up_n _ _ (by omega), va_up_n _ _ (by omega), va_up_n _ _ (by omega), va_up_n _ _ (by omega)]; exact a1
        · rw [va_up_n _ _ q, va_up_n _ _ (by omega), va_up_n _ _ (by omega), va_up_n _ _ (by omega), va_up_n _ _ (by omega)]; exact a2
        · rw [va_up_n _ _ q, va_up_n _ _ (by omega), va_up_n _ _ (by omega), va_up_n _ _ (by omega), va_up_n _ _ (by omega)]; exact a3
        · rw [va_up_n _ _ (by omega), va_up_n _ _ (by omega), va_up_n _ _ (by omega), va_up_n _ _ (by omega), a4]
          by_cases q2 : p < i
          · rw [if_pos q2, if_pos (by omega)]
          · rw [if_neg q2, if_neg (by omega)]
    · rw [va_up_n _ _ (by omega), va_up_n _ _ (by omega), va_up_n _ _ (by omega), va_up_n _ _ (by omega)]
      exact i4 j hj
theorem o_ct {d d' : Nat → Int32} : ∀ {n : Nat}, (∀ k, k < n → d k = d' k) → j_ct d n = j_ct d' n
  | 0, _ => rfl
  | n + 1, h => by rw [j_ct, j_ct, o_ct (fun k hk => h k (by omega)), h n (by omega)]
theorem o_ct0 {d : Nat → Int32} {P : Nat} : ∀ m, (∀ k, P ≤ k → k < P + m → d k = 0) → j_ct d (P + m) = j_ct d P
  | 0, _ => rfl
  | m + 1, h => by
    show j_ct d (P + m + 1) = _
    rw [j_ct_f (by rw [h (P + m) (by omega) (by omega)]; decide)]
    exact o_ct0 m (fun k h1 h2 => h k h1 (by omega))
theorem o_mc (d : Nat → Int32) : ∀ n, j_mn d n = nI (j_ct d n)
  | 0 => rfl
  | n + 1 => by
    rw [j_mn, o_mc d n]
    by_cases q : d n ≤ 0
    · rw [if_pos q, j_ct_f q]; simp
    · rw [if_neg q, j_ct_t q, nI_1]
