theorem l_cm0 {m C : Nat} (hm : m < 120) (hC : C ≤ 120) : (if nI C < nI m + 1 then nI m + 1 else nI C) = nI (max C (m + 1)) := by
  rw [nI_1]
  by_cases q : C < m + 1
  · rw [if_pos ((nI_ltI (by omega) (by omega)).mpr q), Nat.max_eq_right (by omega)]
  · rw [if_neg (fun z => q ((nI_ltI (by omega) (by omega)).mp z)), Nat.max_eq_left (by omega)]
theorem l_cm1 {m C : Nat} (hm : m < 120) (hC : C ≤ 120) (h : nI m + 1 ≤ nI C) : nI C + 0 = nI (max C (m + 1)) ∧ nI (max C (m + 1)) - nI C = 0 := by
  rw [nI_1] at h
  have q := (nI_leI (by omega) (by omega)).mp h
  rw [Nat.max_eq_left (by omega)]
  exact ⟨by simp, by simp⟩
theorem l_cm2 {m C : Nat} (hm : m < 120) (hC : C ≤ 120) (h : ¬ (nI m + 1 ≤ nI C)) : nI C + ((nI m + 1) - nI C) = nI (max C (m + 1)) ∧ nI (max C (m + 1)) - nI C = (nI m + 1) - nI C := by
  rw [nI_1] at h ⊢
  have q : ¬ (m + 1 ≤ C) := fun z => h ((nI_leI (by omega) (by omega)).mpr z)
  rw [Nat.max_eq_right (by omega)]
  refine ⟨?_, rfl⟩
  rw [Int32.add_comm, Int32.sub_add_cancel]
theorem iB_open {E R R0 : Nat} {op dd : Int32} {ea : Nat → Option Nat} {eb rr : Nat → Nat} {ey er tk tn : Nat → Int32} {eac : Nat → Nat → Int32} {eam : Nat → Nat → Int64} {ac : Nat → Int32} {am : Nat → Int64} {da : Nat → Int32} {dm : Nat → Int64} {d0 : Int32} (hB : iB E R R0 op dd ea eb rr ey er tk tn eac eam ac am da dm) : iB E 0 0 1 d0 ea eb rr (va_up ey 0 d0) (va_up er 0 0) tk tn eac eam ac am da dm := by
  refine ⟨fun e he => ?_, by rw [va_up_e]; rfl, fun _ => ⟨rfl, (va_up_e _ _ _).symm, fun k hk => absurd hk (Nat.not_lt_zero k)⟩⟩
  rw [va_up_n _ _ (by omega)]
  exact hB.1 e he
theorem iB_row {E R R0 : Nat} {op dd : Int32} {ea : Nat → Option Nat} {eb rr : Nat → Nat} {ey er tk tn : Nat → Int32} {eac : Nat → Nat → Int32} {eam : Nat → Nat → Int64} {ac : Nat → Int32} {am : Nat → Int64} {da : Nat → Int32} {dm : Nat → Int64} {a0 : Int32} {v : Int64} (hB : iB E R R0 op dd ea eb rr ey er tk tn eac eam ac am da dm) (ho : ¬ op = 0) (hR : R < 8) : iB E (R + 1) (R + 1) op dd ea eb rr ey (va_up er 0 (nI (R + 1))) tk tn eac eam (va_up ac R a0) (va_up am R v) (va_up da R a0) (va_up dm R v) := by
  refine ⟨fun e he => ?_, va_up_e _ _ _, fun z => ⟨rfl, (hB.2.2 ho).2.1, fun k hk => ?_⟩⟩
  · obtain ⟨b1, b2, b3, b4, b5, b6⟩ := hB.1 e he
    refine ⟨b1, (va_up_n _ _ (by omega)).trans b2, b3, b4, b5, fun k hk => ?_⟩
    rw [va_up_n _ _ (by omega), va_up_n _ _ (by omega)]
    exact b6 k hk
  · by_cases q : k = R
    · subst q
      rw [va_up_e, va_up_e, va_up_e, va_up_e]
      exact ⟨rfl, rfl⟩
    · rw [va_up_n _ _ q, va_up_n _ _ q, va_up_n _ _ q, va_up_n _ _ q]
      exact (hB.2.2 ho).2.2 k (by omega)
theorem iB_add {E R R0 : Nat} {op dd : Int32} {ea : Nat → Option Nat} {eb rr : Nat → Nat} {ey er tk tn : Nat → Int32} {eac : Nat → Nat → Int32} {eam : Nat → Nat → Int64} {ac : Nat → Int32} {am : Nat → Int64} {da : Nat → Int32} {dm : Nat → Int64} {a rn : Nat} {x k1 n1 : Int32} {na va : Nat → Int32} {nm vm : Nat → Int64} (hB : iB E R R0 op dd ea eb rr ey er tk tn eac eam ac am da dm) (hr : rn ≤ 8) (hx : x = nI rn) (hk1 : 0 ≤ k1) (hn1 : 0 ≤ n1) (h1 : ∀ k, k < rn → na k = va k ∧ nm k = vm k) : ∀ e, e < E + 1 → va_up ea E (some a) e = some (va_up eb E a e) ∧ va_up er (E + 1) x (e + 1) = nI (va_up rr E rn e) ∧ va_up rr E rn e ≤ 8 ∧ 0 ≤ va_up tk (E + 1) k1 (e + 1) ∧ 0 ≤ va_up tn (E + 1) n1 (e + 1) ∧ ∀ k, k < va_up rr E rn e → va_up eac E na e k = j_fl ac (8 * (E + 1)) va rn (8 * (e + 1) + k) ∧ va_up eam E nm e k = j_fl am (8 * (E + 1)) vm rn (8 * (e + 1) + k) := by
  intro e he
  by_cases q : e = E
  · subst q
    simp only [va_up_e]
    refine ⟨trivial, hx, hr, hk1, hn1, fun k hk => ?_⟩
    rw [j_fl_at, j_fl_at, if_pos (by omega), if_pos (by omega), show 8 * (e + 1) + k - 8 * (e + 1) = k by omega]
    exact h1 k hk
  · obtain ⟨b1, b2, b3, b4, b5, b6⟩ := hB.1 e (by omega)
    have q1 : e + 1 ≠ E + 1 := by omega
    rw [va_up_n _ _ q, va_up_n _ _ q, va_up_n _ _ q, va_up_n _ _ q1, va_up_n _ _ q1, va_up_n _ _ q1, va_up_n _ _ q, va_up_n _ _ q]
    refine ⟨congrArg _ rfl |>.trans b1, b2, b3, b4, b5, fun k hk => ?_⟩
    rw [j_fl_lo (by omega), j_fl_lo (by omega)]
    exact b6 k hk
theorem iE_add {h : jH} {E : Nat} {eb rr : Nat → Nat} {ey tk tn : Nat → Int32} {eac : Nat → Nat → Int32} {eam : Nat → Nat → Int64} {a R : Nat} {y k1 n1 : Int32} {na : Nat → Int32} {nm : Nat → Int64} (hE : iE h E eb rr ey tk tn eac eam) (h0 : h.2 a = some (jO 2 [.ref (a + 1), .ref (a + 2), .int (nI R), .int y, .int k1, .int n1])) (h1 : h.2 (a + 1) = some (jI 8 na)) (h2 : h.2 (a + 2) = some (jL 8 nm)) : iE h (E + 1) (va_up eb E a) (va_up rr E R) (va_up ey (E + 1) y) (va_up tk (E + 1) k1) (va_up tn (E + 1) n1) (va_up eac E na) (va_up eam E nm) := by
  intro e he
  by_cases q : e = E
  · subst q
    simp only [va_up_e]
    exact ⟨h0, h1, h2⟩
  · have q1 : e + 1 ≠ E + 1 := by omega
    rw [va_up_n _ _ q, va_up_n _ _ q, va_up_n _ _ q, va_up_n _ _ q, va_up_n _ _ q1, va_up_n _ _ q1, va_up_n _ _ q1]
    exact hE e (by omega)
theorem iE_tn {h : jH} {E : Nat} {eb rr : Nat → Nat} {ey tk tn : Nat → Int32} {eac : Nat → Nat → Int32} {eam : Nat → Nat → Int64} {a t : Nat} {x r y kk : Int32} (hE : iE h E eb rr ey tk tn eac eam) (ht : t < E) (ha : eb t = a) (hr : r = nI (rr t)) (hy : y = ey (t + 1)) (hk : kk = tk (t + 1)) (hd : ∀ e, e < E → e ≠ t → eb e + 3 ≤ a ∨ a + 3 ≤ eb e) : iE (j_set h a (jO 2 [.ref (a + 1), .ref (a + 2), .int r, .int y, .int kk, .int x])) E eb rr ey tk (va_up tn (t + 1) x) eac eam := by
  subst ha hr hy hk
  intro e he
  obtain ⟨h0, h1, h2⟩ := hE e he
  by_cases q : e = t
  · subst q
    rw [va_up_e]
    exact ⟨j_hs, j_hn (by omega) h1, j_hn (by omega) h2⟩
  · have z := hd e he q
    rw [va_up_n _ _ (by omega)]
    exact ⟨j_hn (by omega) h0, j_hn (by omega) h1, j_hn (by omega) h2⟩
theorem iD_enter {nx : Nat} {T E dr : Nat} {tb eb : Nat → Nat} (hD : iD nx T E dr tb eb) : iD (nx + 3) T (E + 1) nx tb (va_up eb E dr) := by
  obtain ⟨d1, d2, d3, d4, d5, d6, d7, d8, d9, d0⟩ := hD
  refine ⟨by omega, fun t ht => ⟨(d2 t ht).1, by have := (d2 t ht).2; omega⟩, d3, fun e he => ?_, fun e f he hf hn => ?_, fun e t he ht => ?_, Or.inr d1, by omega, fun e he => ?_, fun t ht => ?_⟩
  · by_cases q : e = E
    · subst q; rw [va_up_e]; exact ⟨d7, by omega⟩
    · rw [va_up_n _ _ q]; exact ⟨(d4 e (by omega)).1, by have := (d4 e (by omega)).2; omega⟩
  · by_cases q : e = E
    · by_cases q2 : f = E
      · omega
      · subst q; rw [va_up_e, va_up_n _ _ q2]; have := d9 f (by omega); omega
    · by_cases q2 : f = E
      · subst q2; rw [va_up_e, va_up_n _ _ q]; have := d9 e (by omega); omega
      · rw [va_up_n _ _ q, va_up_n _ _ q2]; exact d5 e f (by omega) (by omega) hn
  · by_cases q : e = E
    · subst q; rw [va_up_e]; exact d0 t ht
    · rw [va_up_n _ _ q]; exact d6 e t (by omega) ht
  · by_cases q : e = E
    · subst q; rw [va_up_e]; omega
    · rw [va_up_n _ _ q]; have := (d4 e (by omega)).2; omega
  · have := (d2 t ht).2; omega
theorem iD_correct {nx : Nat} {T E dr : Nat} {tb eb : Nat → Nat} (hD : iD nx T E dr tb eb) : iD (nx + 3) T (E + 1) dr tb (va_up eb E nx) := by
  obtain ⟨d1, d2, d3, d4, d5, d6, d7, d8, d9, d0⟩ := hD
  refine ⟨by omega, fun t ht => ⟨(d2 t ht).1, by have := (d2 t ht).2; omega⟩, d3, fun e he => ?_, fun e f he hf hn => ?_, fun e t he ht => ?_, d7, by omega, fun e he => ?_, d0⟩
  · by_cases q : e = E
    · subst q; rw [va_up_e]; exact ⟨Or.inr d1, by omega⟩
    · rw [va_up_n _ _ q]; exact ⟨(d4 e (by omega)).1, by have := (d4 e (by omega)).2; omega⟩
  · by_cases q : e = E
    · by_cases q2 : f = E
      · omega
      · subst q; rw [va_up_e, va_up_n _ _ q2]; have := (d4 f (by omega)).2; omega
    · by_cases q2 : f = E
      · subst q2; rw [va_up_e, va_up_n _ _ q]; have := (d4 e (by omega)).2; omega
      · rw [va_up_n _ _ q, va_up_n _ _ q2]; exact d5 e f (by omega) (by omega) hn
  · by_cases q : e = E
    · subst q; rw [va_up_e]; have := (d2 t ht).2; omega
    · rw [va_up_n _ _ q]; exact d6 e t (by omega) ht
  · by_cases q : e = E
    · subst q; rw [va_up_e]; omega
    · rw [va_up_n _ _ q]; exact d9 e (by omega)
theorem iD_trip {nx : Nat} {T E dr : Nat} {tb eb : Nat → Nat} (hD : iD nx T E dr tb eb) : iD (nx + 9) (T + 1) E dr (va_up tb T nx) eb := by
  obtain ⟨d1, d2, d3, d4, d5, d6, d7, d8, d9, d0⟩ := hD
  refine ⟨by omega, fun t ht => ?_, fun t u ht hu hn => ?_, fun e he => ⟨(d4 e he).1, by have := (d4 e he).2; omega⟩, d5, fun e t he ht => ?_, d7, by omega, d9, fun t ht => ?_⟩
  · by_cases q : t = T
    · subst q; rw [va_up_e]; omega
    · rw [va_up_n _ _ q]; have := d2 t (by omega); omega
  · by_cases q : t = T
    · by_cases q2 : u = T
      · omega
      · subst q; rw [va_up_e, va_up_n _ _ q2]; have := (d2 u (by omega)).2; omega
    · by_cases q2 : u = T
      · subst q2; rw [va_up_e, va_up_n _ _ q]; have := (d2 t (by omega)).2; omega
      · rw [va_up_n _ _ q, va_up_n _ _ q2]; exact d3 t u (by omega) (by omega) hn
  · by_cases q : t = T
    · subst q; rw [va_up_e]; have := (d4 e he).2; omega
    · rw [va_up_n _ _ q]; exact d6 e t he (by omega)
  · by_cases q : t = T
    · subst q; rw [va_up_e]; omega
    · rw [va_up_n _ _ q]; exact d0 t (by omega)
