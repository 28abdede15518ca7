theorem o_sub3 {a b c : Nat} (ha : a < 1000000000000000000) (hb : b < 1000000000000000000) (hc : c < 1000000000000000000) : ((lN a - lN b) - lN c).toInt = (a : Int) - b - c := by
  rw [Int64.toInt_sub, o_mn (by omega) (by omega), pk_lT (by omega)]
  exact Int.bmod_eq_of_le (by omega) (by omega)
theorem o_F0 {sal lf0 ls1 lf C LO : Int64} {SA y L c : Nat} (hc : c < 512) (hs : sal = lN SA) (hSA : SA ≤ 1000000000000) (hC : C = lN y) (hy : y ≤ 10 * (c * 1000000000)) (hL : LO = lN L) (hLb : L ≤ c * 10000000000000) (e0 : lf0 = (sal - C) - LO) (e1 : ls1 = if 0 ≤ lf0 then 0 else -lf0) (e2 : lf = if 0 ≤ lf0 then lf0 else 0) : -9000000000000000000 < lf0.toInt ∧ (∃ s, s ≤ 1000000000000 ∧ lf = lN s) ∧ 0 ≤ ls1.toInt ∧ ls1.toInt ≤ ((c + 1 : Nat) : Int) * 10000000000000 := by
  have hl : lf0.toInt = (SA : Int) - y - L := by rw [e0, hs, hC, hL]; exact o_sub3 (by omega) (by omega) (by omega)
  refine ⟨by omega, ?_, ?_⟩
  · by_cases q : 0 ≤ lf0
    · rw [if_pos q] at e2
      rw [Int64.le_iff_toInt_le, n64_0] at q
      obtain ⟨k, k1, k2, _⟩ := n64_of q
      exact ⟨k, by omega, by rw [e2, k1]⟩
    · rw [if_neg q] at e2
      exact ⟨0, by omega, e2⟩
  · by_cases q : 0 ≤ lf0
    · rw [if_pos q] at e1
      rw [e1, n64_0]
      omega
    · rw [if_neg q] at e1
      rw [Int64.le_iff_toInt_le, n64_0] at q
      have hn : (-lf0).toInt = -lf0.toInt := by
        rw [Int64.toInt_neg]
        have := Int64.toInt_lt lf0
        exact Int.bmod_eq_of_le (by omega) (by omega)
      rw [e1, hn]
      omega
theorem o_P3 {c sp a b : Nat} {sal lf0 ls1 lf ow0 cr0 ow1 crw : Int64} {cst prt lo pw ps cu w1 w2 w3 p1 p2 p3 S G lo1 ca : Nat → Int64} {f1 f2 rs c2 : Nat → Int32} (hc : c < 512) (hk : ∀ k, k < 10 → f2 k = c2 k ∧ cst k = ca k) (hcb : ∀ k, k < 10 → 0 ≤ (cst k).toInt ∧ (cst k).toInt ≤ (c : Int) * 1000000000) (hsa : 0 ≤ sal.toInt) (hsa2 : sal.toInt ≤ 1000000000000) (hlo : 0 ≤ (lo sp).toInt) (hlo2 : (lo sp).toInt ≤ (c : Int) * 10000000000000) (h0 : (if f1 0 < 0 then 0 else f1 0) = nI a) (h1 : (if f1 1 < 0 then 0 else f1 1) = nI b) (r0 : rs 0 = nI a) (r1 : rs 1 = nI b) (hab : a + b ≤ 100) (hp1 : o_blP sp sal cst prt lo f2 = p1) (hlo1 : o_blL sp sal cst prt lo f2 = lo1) (hS : o_plS p1 pw ps cu f1 = S) (hp2 : o_plP p1 pw ps cu f1 = p2) (hp3 : o_bcP cst p2 f2 = p3) (e0 : lf0 = (sal - j_tc ca c2 0 0 10) - lo sp) (e1 : ls1 = if 0 ≤ lf0 then 0 else -lf0) (e2 : lf = if 0 ≤ lf0 then lf0 else 0) (hG : o_pcG 3 lf (va_up (va_up (va_up w1 0 ((rs 0).toInt64)) 1 ((rs 1).toInt64)) 2 (((100 - (rs 0)) - (rs 1)).toInt64)) w2 w3 = G) (e3 : ow0 = G 0 - j_tc ca c2 2 0 10) (e4 : cr0 = G 2 - j_tc ca c2 1 0 10) (e5 : ow1 = ow0 + (if 0 ≤ cr0 then 0 else cr0)) (e6 : crw = if 0 ≤ cr0 then cr0 else 0) : lo1 = va_up lo sp ls1 ∧ 0 ≤ ls1.toInt ∧ ls1.toInt ≤ ((c + 1 : Nat) : Int) * 10000000000000 ∧ p3 0 = lf ∧ p3 1 = ow1 ∧ p3 2 = G 1 ∧ p3 3 = crw ∧ p3 4 = lo sp ∧ p3 5 = ls1 ∧ ∃ s, s ≤ 1000000000003 ∧ crw = lN s := by
  obtain ⟨SA, s1, s2, _⟩ := n64_of hsa
  obtain ⟨LO, l1, l2, _⟩ := n64_of hlo
  have hcl : ∀ k, k < 10 → ∃ z, z ≤ c * 1000000000 ∧ cst k = lN z := fun k hk2 => by
    obtain ⟨z, z1, z2, _⟩ := n64_of (hcb k hk2).1
    exact ⟨z, by have := (hcb k hk2).2; omega, z1⟩
  obtain ⟨y0, hy0, ey0⟩ := j_sc_lN (c := f2) (x := 0) hcl
  obtain ⟨y1, hy1, ey1⟩ := j_sc_lN (c := f2) (x := 1) hcl
  obtain ⟨f0, ⟨s, hs, es⟩, f3, f4⟩ := o_F0 hc s1 (by omega) (show j_tc ca c2 0 0 10 = lN y0 by rw [j_tc_sc hk, Int64.zero_add, ey0]) hy0 l1 (by omega) e0 e1 e2
  obtain ⟨g1, g2⟩ := o_F1 (prt := prt) hk e0 e1 e2 f0
  have hp1' := hp1.symm.trans g1
  have hl : p1 0 = lN s := by rw [hp1', ← es]; rfl
  have hSG := fun k hk2 => o_F2 (pw := pw) (ps := ps) (cu := cu) (we := w1) (ge := w2) (re := w3) h0 h1 r0 r1 hab hs hl k hk2
  rw [← es, hG, hS] at hSG
  have hp2' : p2 = va_up (va_up (va_up p1 1 (G 0)) 2 (G 1)) 3 (G 2) := by
    rw [← (hSG 0 (by omega)).1, ← (hSG 1 (by omega)).1, ← (hSG 2 (by omega)).1, ← hp2, ← hS]
    rfl
  obtain ⟨g, hg, eg⟩ := (hSG 2 (by omega)).2
  obtain ⟨u1, s', hs', es'⟩ := o_F3 (p2 := p2) hk (by rw [hp2']; rfl) (by rw [hp2']; rfl) e3 e4 e5 e6 eg (by omega) ey1 (by omega)
  have hp3' := hp3.symm.trans u1
  rw [hp2', hp1'] at hp3'
  refine ⟨hlo1.symm.trans g2, f3, f4, ?_, ?_, ?_, ?_, ?_, ?_, s', by omega, es'⟩ <;> rw [hp3'] <;> rfl
theorem o_CA {P s : Nat} {crw : Int64} {wc wm WW Wm S CC Gz R3 GP : Nat → Int64} {w : Nat → Nat} (hP : P ≤ 12) (hs : s ≤ 1000000000003) (hcr : crw = lN s) (hc : ∀ k, k < P → wc k = lN (w k)) (hm : ∀ k, k < P → wm k = lN (w k)) (hw : ∀ k, k < P → w k ≤ 400000) (hpos : ¬ j_sm wm P ≤ 0) (hGP : o_pcG P crw (j_f0 Wm wm P) Gz R3 = GP) : ∀ p, p < P → o_dvS P crw (j_f0 WW wc P) S CC p = GP p ∧ ∃ b, b < 4000000000000000000 ∧ GP p = lN b := by
  have hns : ∀ n, n ≤ P → nS w n ≤ n * 400000 := by
    intro n
    induction n with
    | zero => intro _; simp [nS]
    | succ n ih => intro hn; have := ih (by omega); have := hw n (by omega); rw [nS, Nat.succ_mul]; omega
  have hn1 := hns P (Nat.le_refl P)
  have hb : nS w P ≤ 4800000 := by omega
  rw [j_sm_lN hm] at hpos
  have hW : 0 < nS w P := by
    rcases Nat.eq_zero_or_pos (nS w P) with z | z
    · rw [z] at hpos; exact absurd (by decide) hpos
    · exact z
  have hP0 : 0 < P := by
    rcases Nat.eq_zero_or_pos P with z | z
    · subst z; simp [nS] at hW
    · exact z
  intro p hp
  have z := o_dv (n := P) (s := s) (pw := j_f0 WW wc P) (we := j_f0 Wm wm P) (ps := S) (cu := CC) (ge := Gz) (re := R3) (w := w) hP0 (fun k hk => by rw [j_f0_at, if_pos hk]; exact hc k hk) (fun k hk => by rw [j_f0_at, if_pos hk]; exact hm k hk) hW (by omega) (by omega) (fun k hk => Nat.lt_of_le_of_lt (Nat.mul_le_mul hs (hw k hk)) (by omega)) p hp
  rw [← hcr, hGP] at z
  obtain ⟨z1, g, hg, eg⟩ := z
  exact ⟨z1, g, by omega, eg⟩
theorem o_pp {d w : Nat} (hd : d ≤ 400) (hw : w ≤ 999999) : (nI d).toInt64 * (nI w).toInt64 = lN (d * w) ∧ d * w ≤ 399999600 := by
  rw [nI_l2 (by omega), nI_l2 (by omega), lN_mul]
  exact ⟨rfl, Nat.mul_le_mul hd hw⟩
theorem xR_pc {rs f1 f2 f3 f4 : Nat → Int32} (h : xR rs f1 f2 f3 f4) {p a : Nat} (hp : p < 2) (hr : rs p = nI a) : (if f1 p < 0 then 0 else f1 p) = nI a := by
  rcases h.1 p hp with ⟨_, q1, q2⟩ | ⟨_, q1, q2⟩
  · rw [q1, hr, if_neg (by rw [← hr]; exact Int32.not_lt.mpr q2)]
  · rw [q1, if_pos (by decide), ← hr, q2]
/-- four rows -/
def o_4 (r0 r1 r2 r3 : Nat → Int64) : Nat → Nat → Int64 := fun w => if w = 0 then r0 else if w = 1 then r1 else if w = 2 then r2 else r3
