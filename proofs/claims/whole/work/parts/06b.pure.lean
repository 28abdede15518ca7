theorem j_mx_cg {c c' : Nat → Int64} : ∀ {n : Nat}, (∀ k, k < n → c k = c' k) → j_mx c n = j_mx c' n
  | 0, _ => rfl
  | n + 1, h => by
    have ih := j_mx_cg (c := c) (c' := c') (n := n) (fun k hk => h k (by omega))
    have q := j_mx_le c' n
    rw [j_mx, j_mx, ih, h n (by omega), h (j_mx c' n) (by omega)]
theorem j_mx_lt (c : Nat → Int64) {n : Nat} (h : 0 < n) : j_mx c n < n := by
  have := j_mx_le c n
  omega
theorem j_gv_cg {n : Nat} {s s' c c' : Nat → Int64} (hn : 0 < n) (hs : ∀ k, k < n → s k = s' k) (hc : ∀ k, k < n → c k = c' k) : ∀ g, (∀ k, k < n → (j_gv n s c g).1 k = (j_gv n s' c' g).1 k) ∧ ∀ k, k < n → (j_gv n s c g).2 k = (j_gv n s' c' g).2 k
  | 0 => ⟨hs, hc⟩
  | g + 1 => by
    obtain ⟨i1, i2⟩ := j_gv_cg hn hs hc g
    have e := j_mx_cg i2
    have q := j_mx_lt (j_gv n s' c' g).2 hn
    simp only [j_gv]
    rw [e, i1 _ q]
    refine ⟨fun k hk => ?_, fun k hk => ?_⟩
    · by_cases z : k = j_mx (j_gv n s' c' g).2 n
      · subst z; rw [va_up_e, va_up_e]
      · rw [va_up_n _ _ z, va_up_n _ _ z]; exact i1 k hk
    · by_cases z : k = j_mx (j_gv n s' c' g).2 n
      · subst z; rw [va_up_e, va_up_e]
      · rw [va_up_n _ _ z, va_up_n _ _ z]; exact i2 k hk
theorem j_gv_lN {n B : Nat} {s c : Nat → Int64} (hs : ∀ k, k < n → ∃ a, a ≤ B ∧ s k = lN a) : ∀ g k, k < n → ∃ a, a ≤ B + g ∧ (j_gv n s c g).1 k = lN a
  | 0, k, hk => hs k hk
  | g + 1, k, hk => by
    simp only [j_gv]
    obtain ⟨a, ha, e⟩ := j_gv_lN (c := c) hs g k hk
    by_cases z : k = j_mx (j_gv n s c g).2 n
    · rw [← z, va_up_e, e, lN_1]
      exact ⟨a + 1, by omega, rfl⟩
    · rw [va_up_n _ _ z, e]
      exact ⟨a, by omega, rfl⟩
/-- the sum of the first n -/
def nS (f : Nat → Nat) : Nat → Nat
  | 0 => 0
  | i + 1 => nS f i + f i
theorem nS_le {f : Nat → Nat} : ∀ {n k : Nat}, k < n → f k ≤ nS f n
  | 0, _, h => by omega
  | n + 1, k, h => by
    rw [nS]
    by_cases q : k = n
    · subst q; omega
    · have := nS_le (f := f) (n := n) (k := k) (by omega); omega
theorem j_sm_lN {a : Nat → Int64} {w : Nat → Nat} : ∀ {n : Nat}, (∀ k, k < n → a k = lN (w k)) → j_sm a n = lN (nS w n)
  | 0, _ => rfl
  | n + 1, h => by rw [j_sm, nS, j_sm_lN (fun k hk => h k (by omega)), h n (by omega), lN_add]
theorem j_ld_lN {q : Nat → Int64} {f : Nat → Nat} {s : Nat} : ∀ {n : Nat}, (∀ k, k < n → q k = lN (f k)) → nS f n ≤ s → j_ld (lN s) q n = lN (s - nS f n)
  | 0, _, _ => by rw [j_ld, nS, Nat.sub_zero]
  | n + 1, h, hs => by
    rw [nS] at hs
    rw [j_ld, nS, j_ld_lN (fun k hk => h k (by omega)) (by omega), h n (by omega), lN_sub (by omega), Nat.sub_sub]
theorem nS_q {s W : Nat} {w : Nat → Nat} (hW : 0 < W) : ∀ n, W * nS (fun k => s * w k / W) n ≤ s * nS w n ∧ s * nS w n ≤ W * nS (fun k => s * w k / W) n + n * W
  | 0 => by simp [nS]
  | n + 1 => by
    obtain ⟨i1, i2⟩ := nS_q (s := s) (w := w) hW n
    have e1 := Nat.div_add_mod (s * w n) W
    have e2 := Nat.mod_lt (s * w n) hW
    simp only [nS]
    rw [Nat.mul_add, Nat.mul_add, Nat.succ_mul]
    omega
theorem nS_sum {s n : Nat} {w : Nat → Nat} (hW : 0 < nS w n) : nS (fun k => s * w k / nS w n) n ≤ s ∧ s ≤ nS (fun k => s * w k / nS w n) n + n := by
  obtain ⟨i1, i2⟩ := nS_q (s := s) (w := w) hW n
  constructor
  · rw [Nat.mul_comm s] at i1
    exact Nat.le_of_mul_le_mul_left i1 hW
  · rw [Nat.mul_comm s, Nat.mul_comm n, ← Nat.mul_add] at i2
    exact Nat.le_of_mul_le_mul_left i2 hW
theorem o_dv {n s : Nat} {pw we ps cu ge re : Nat → Int64} {w : Nat → Nat} (hn : 0 < n) (hp : ∀ k, k < n → pw k = lN (w k)) (hq : ∀ k, k < n → we k = lN (w k)) (hW : 0 < nS w n) (hW2 : nS w n < 2 ^ 63) (hs : s < 2 ^ 63) (hb : ∀ k, k < n → s * w k < 2 ^ 63) : ∀ k, k < n → o_dvS n (lN s) pw ps cu k = o_pcG n (lN s) we ge re k ∧ ∃ g, g ≤ s + n ∧ o_pcG n (lN s) we ge re k = lN g := by
  have e1 : j_sm pw n = lN (nS w n) := j_sm_lN hp
  have e2 : j_sm we n = lN (nS w n) := j_sm_lN hq
  obtain ⟨b1, b2⟩ := nS_sum (s := s) hW
  have q1 : ∀ k, k < n → lN s * pw k / j_sm pw n = lN (s * w k / nS w n) := fun k hk => by
    rw [e1, hp k hk, lN_mul, pk_lDiv (hb k hk) hW hW2]
  have q2 : ∀ k, k < n → lN s * we k / j_sm we n = lN (s * w k / nS w n) := fun k hk => by
    rw [e2, hq k hk, lN_mul, pk_lDiv (hb k hk) hW hW2]
  have d1 : j_ld (lN s) (fun k => lN s * pw k / j_sm pw n) n = lN (s - nS (fun k => s * w k / nS w n) n) := j_ld_lN q1 b1
  have d2 : j_ld (lN s) (fun k => lN s * we k / j_sm we n) n = lN (s - nS (fun k => s * w k / nS w n) n) := j_ld_lN q2 b1
  have t : (lN (s - nS (fun k => s * w k / nS w n) n)).toInt.toNat = s - nS (fun k => s * w k / nS w n) n := by
    rw [pk_lT (by omega)]; rfl
  intro k hk
  unfold o_dvS o_pcG
  rw [d1, d2, t, Nat.min_eq_right (by omega)]
  refine ⟨(j_gv_cg hn (fun i hi => ?_) (fun i hi => ?_) _).1 k hk, ?_⟩
  · rw [j_f0_at, if_pos hi, j_f0_at, if_pos hi, q1 i hi, q2 i hi]
  · rw [j_f0_at, if_pos hi, j_f0_at, if_pos hi, q1 i hi, q2 i hi, e1, e2, hp i hi, hq i hi]
  · obtain ⟨a, ha, ea⟩ := j_gv_lN (n := n) (B := s) (c := (j_f0 re (fun k => lN s * we k - lN s * we k / j_sm we n * j_sm we n) n)) (s := j_f0 ge (fun k => lN s * we k / j_sm we n) n) (fun i hi => ⟨s * w i / nS w n, Nat.le_trans (nS_le (f := fun k => s * w k / nS w n) hi) b1, by rw [j_f0_at, if_pos hi, q2 i hi]⟩) (s - nS (fun k => s * w k / nS w n) n) k hk
    exact ⟨a, by omega, ea⟩
theorem n64_of {x : Int64} (h : 0 ≤ x.toInt) : ∃ k : Nat, x = lN k ∧ (k : Int) = x.toInt ∧ k < 2 ^ 63 := by
  obtain ⟨k, hk, e⟩ := pk_lOf (x := x) (by rw [Int64.lt_iff_toInt_lt, n64_0]; omega)
  exact ⟨k, e, by rw [e, pk_lT hk], hk⟩
theorem o_left {x : Int64} (h : -9000000000000000000 < x.toInt) : (if 0 < x then x else 0) = (if 0 ≤ x then x else 0) ∧ (if 0 < -x then -x else 0) = (if 0 ≤ x then 0 else -x) := by
  have hn : (-x).toInt = -x.toInt := by
    rw [Int64.toInt_neg]
    have := Int64.toInt_lt x
    exact Int.bmod_eq_of_le (by omega) (by omega)
  constructor
  · by_cases q : 0 < x
    · rw [if_pos q, if_pos (Int64.le_of_lt q)]
    · by_cases q2 : 0 ≤ x
      · rw [if_neg q, if_pos q2]
        simp only [Int64.lt_iff_toInt_lt, Int64.le_iff_toInt_le, n64_0] at q q2
        apply Int64.toInt_inj.mp
        rw [n64_0]; omega
      · rw [if_neg q, if_neg q2]
  · by_cases q : 0 < -x
    · have q2 : ¬ 0 ≤ x := by
        simp only [Int64.lt_iff_toInt_lt, Int64.le_iff_toInt_le, n64_0, hn] at q ⊢
        omega
      rw [if_pos q, if_neg q2]
    · by_cases q2 : 0 ≤ x
      · rw [if_neg q, if_pos q2]
      · exfalso
        simp only [Int64.lt_iff_toInt_lt, Int64.le_iff_toInt_le, n64_0, hn] at q q2
        omega
theorem j_sc_lN {a : Nat → Int64} {c : Nat → Int32} {x : Int32} {B : Nat} : ∀ {n : Nat}, (∀ k, k < n → ∃ b, b ≤ B ∧ a k = lN b) → ∃ y, y ≤ n * B ∧ j_sc a c x n = lN y
  | 0, _ => ⟨0, by omega, rfl⟩
  | n + 1, h => by
    obtain ⟨y, hy, e⟩ := j_sc_lN (a := a) (c := c) (x := x) (n := n) (fun k hk => h k (by omega))
    obtain ⟨b, hb, eb⟩ := h n (by omega)
    rw [j_sc, e, eb, Nat.succ_mul]
    by_cases q : c n = x
    · rw [if_pos q, lN_add]; exact ⟨y + b, by omega, rfl⟩
    · rw [if_neg q]; exact ⟨y, by omega, rfl⟩
theorem o_F1 {sp : Nat} {sal lf0 ls1 lf : Int64} {cst prt lo a : Nat → Int64} {plc c2 : Nat → Int32} (hk : ∀ k, k < 10 → plc k = c2 k ∧ cst k = a k) (e0 : lf0 = (sal - j_tc a c2 0 0 10) - lo sp) (e1 : ls1 = if 0 ≤ lf0 then 0 else -lf0) (e2 : lf = if 0 ≤ lf0 then lf0 else 0) (hb : -9000000000000000000 < lf0.toInt) : o_blP sp sal cst prt lo plc = va_up (va_up (va_up prt 4 (lo sp)) 0 lf) 5 ls1 ∧ o_blL sp sal cst prt lo plc = va_up lo sp ls1 := by
  have q : (sal - j_sc cst plc 0 10) - lo sp = lf0 := by rw [e0, j_tc_sc hk, Int64.zero_add]
  obtain ⟨z1, z2⟩ := o_left hb
  unfold o_blP o_blL
  rw [q, z1, z2, ← e1, ← e2]
  exact ⟨rfl, rfl⟩
theorem nI_l2 {a : Nat} (h : a < 2147483648) : (nI a).toInt64 = lN a := nI_l h
theorem n100 {a b : Nat} (h : a + b ≤ 100) : ((100 : Int32) - nI a) - nI b = nI (100 - a - b) := by
  rw [show (100 : Int32) = nI 100 from rfl, pk_sub (by omega), pk_sub (by omega)]
/-- the three weights -/
def w3n (a b : Nat) : Nat → Nat := fun k => if k = 0 then a else if k = 1 then b else 100 - a - b
theorem w3n_s {a b : Nat} (h : a + b ≤ 100) : nS (w3n a b) 3 = 100 := by
  simp [nS, w3n]; omega
theorem w3_at {pw : Nat → Int64} {a b : Nat} (h : a + b ≤ 100) : ∀ k, k < 3 → va_up (va_up (va_up pw 0 ((nI a).toInt64)) 1 ((nI b).toInt64)) 2 ((((100 : Int32) - nI a) - nI b).toInt64) k = lN (w3n a b k) := by
  intro k hk
  rw [n100 h, nI_l2 (by omega), nI_l2 (by omega), nI_l2 (by omega)]
  rcases (show k = 0 ∨ k = 1 ∨ k = 2 by omega) with rfl | rfl | rfl <;> rfl
theorem w3n_le {a b : Nat} (h : a + b ≤ 100) (k : Nat) : w3n a b k ≤ 100 := by
  unfold w3n; split
  · omega
  · split <;> omega
theorem o_F2 {p1 pw ps cu we ge re : Nat → Int64} {f1 rs : Nat → Int32} {a b s : Nat} (h0 : (if f1 0 < 0 then 0 else f1 0) = nI a) (h1 : (if f1 1 < 0 then 0 else f1 1) = nI b) (r0 : rs 0 = nI a) (r1 : rs 1 = nI b) (hab : a + b ≤ 100) (hs : s ≤ 1000000000000) (hl : p1 0 = lN s) : ∀ k, k < 3 → o_plS p1 pw ps cu f1 k = o_pcG 3 (lN s) (va_up (va_up (va_up we 0 ((rs 0).toInt64)) 1 ((rs 1).toInt64)) 2 (((100 - (rs 0)) - (rs 1)).toInt64)) ge re k ∧ ∃ g, g ≤ s + 3 ∧ o_pcG 3 (lN s) (va_up (va_up (va_up we 0 ((rs 0).toInt64)) 1 ((rs 1).toInt64)) 2 (((100 - (rs 0)) - (rs 1)).toInt64)) ge re k = lN g := by
  intro k hk
  unfold o_plS
  rw [h0, h1, r0, r1, hl]
  refine o_dv (w := w3n a b) (by omega) (w3_at hab) (w3_at hab) (by rw [w3n_s hab]; omega) (by rw [w3n_s hab]; omega) (by omega) (fun i hi => ?_) k hk
  have := w3n_le hab i
  exact Nat.lt_of_le_of_lt (Nat.mul_le_mul hs this) (by omega)
theorem o_W3 {pw : Nat → Int64} {f1 : Nat → Int32} {a b : Nat} (h0 : (if f1 0 < 0 then 0 else f1 0) = nI a) (h1 : (if f1 1 < 0 then 0 else f1 1) = nI b) (hab : a + b ≤ 100) : 0 < j_sm (va_up (va_up (va_up pw 0 ((if f1 0 < 0 then 0 else f1 0).toInt64)) (0 + 1) ((if f1 1 < 0 then 0 else f1 1).toInt64)) ((0 + 1) + 1) (((100 - (if f1 0 < 0 then 0 else f1 0)) - (if f1 1 < 0 then 0 else f1 1)).toInt64)) (((0 + 1) + 1) + 1) := by
  rw [h0, h1, j_sm_lN (w := w3n a b) (n := 3) (w3_at hab), w3n_s hab]
  decide
theorem o_W3m {we : Nat → Int64} {rs : Nat → Int32} {a b : Nat} (r0 : rs 0 = nI a) (r1 : rs 1 = nI b) (hab : a + b ≤ 100) : ¬ j_sm (va_up (va_up (va_up we 0 ((rs 0).toInt64)) 1 ((rs 1).toInt64)) 2 (((100 - (rs 0)) - (rs 1)).toInt64)) 3 = 0 := by
  rw [r0, r1, j_sm_lN (w := w3n a b) (n := 3) (w3_at hab), w3n_s hab]
  decide
