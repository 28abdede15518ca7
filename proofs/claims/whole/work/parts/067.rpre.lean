theorem va_up_up {α : Type} (f : Nat → α) (i : Nat) (a b : α) : va_up (va_up f i a) i b = va_up f i b := by
  funext j
  by_cases q : j = i
  · subst q; rw [va_up_e, va_up_e]
  · rw [va_up_n _ _ q, va_up_n _ _ q, va_up_n _ _ q]
theorem iB_enter {E R R0 : Nat} {op dd : Int32} {ea : Nat → Option Nat} {eb rr : Nat → Nat} {ey er tk tn : Nat → Int32} {eac : Nat → Nat → Int32} {eam : Nat → Nat → Int64} {ac : Nat → Int32} {am : Nat → Int64} {da : Nat → Int32} {dm : Nat → Int64} {a : Nat} (hB : iB E R R0 op dd ea eb rr ey er tk tn eac eam ac am da dm) (ho : ¬ op = 0) (hr : R ≤ 8) : iB (E + 1) 0 R0 0 0 (va_up ea E (some a)) (va_up eb E a) (va_up rr E R) (va_up ey (E + 1) (ey 0)) (va_up er (E + 1) (er 0)) (va_up tk (E + 1) 0) (va_up tn (E + 1) 0) (va_up eac E da) (va_up eam E dm) (j_fl ac (8 * (E + 1)) (fun k => ac (8 * 0 + k)) R) (j_fl am (8 * (E + 1)) (fun k => 1 * am (8 * 0 + k)) R) (fun _ => 0) (fun _ => 0) := by
  obtain ⟨r1, r2, r3⟩ := hB.2.2 ho
  refine ⟨iB_add hB hr (by rw [hB.2.1, r1]) (by decide) (by decide) (fun k hk => ⟨?_, ?_⟩), (va_up_n _ _ (by omega)).trans hB.2.1, fun z => absurd rfl z⟩
  · show da k = ac (8 * 0 + k)
    rw [show 8 * 0 + k = k by omega]
    exact (r3 k hk).1
  · show dm k = 1 * am (8 * 0 + k)
    rw [show 8 * 0 + k = k by omega, Int64.one_mul]
    exact (r3 k hk).2
theorem iB_correct {E R R0 : Nat} {op dd : Int32} {ea : Nat → Option Nat} {eb rr : Nat → Nat} {ey er tk tn : Nat → Int32} {eac : Nat → Nat → Int32} {eam : Nat → Nat → Int64} {ac : Nat → Int32} {am : Nat → Int64} {da : Nat → Int32} {dm : Nat → Int64} {a t : Nat} {d0 : Int32} (hB : iB E R R0 op dd ea eb rr ey er tk tn eac eam ac am da dm) (ht : t < E) (hE : E < 60) (hR : R ≤ 8) : iB (E + 1) R R0 op dd (va_up ea E (some a)) (va_up eb E a) (va_up rr E (rr t)) (va_up ey (E + 1) d0) (va_up er (E + 1) (er (t + 1))) (va_up tk (E + 1) (nI (t + 1))) (va_up (va_up tn (E + 1) 0) (t + 1) (nI (E + 1))) (va_up eac E (j_f0 (fun _ => 0) (eac t) (rr t))) (va_up eam E (j_f0 (fun _ => 0) (fun k => -(eam t k)) (rr t))) (j_fl ac (8 * (E + 1)) (fun k => ac (8 * (t + 1) + k)) (rr t)) (j_fl am (8 * (E + 1)) (fun k => (-1) * am (8 * (t + 1) + k)) (rr t)) da dm := by
  obtain ⟨b1, b2, b3, b4, b5, b6⟩ := hB.1 t ht
  have z := iB_add (a := a) (rn := rr t) (x := er (t + 1)) (k1 := nI (t + 1)) (n1 := 0) (na := j_f0 (fun _ => 0) (eac t) (rr t)) (va := fun k => ac (8 * (t + 1) + k)) (nm := j_f0 (fun _ => 0) (fun k => -(eam t k)) (rr t)) (vm := fun k => (-1) * am (8 * (t + 1) + k)) hB b3 b2 (nI_pos' (by omega)) (by decide) (fun k hk => by
    rw [j_f0_at, if_pos hk, j_f0_at, if_pos hk]
    refine ⟨(b6 k hk).1, ?_⟩
    show -(eam t k) = (-1) * am (8 * (t + 1) + k)
    rw [Int64.neg_mul, Int64.one_mul, (b6 k hk).2])
  refine ⟨fun e he => ?_, (va_up_n _ _ (by omega)).trans hB.2.1, fun zz => ?_⟩
  · obtain ⟨a1, a2, a3, a4, a5, a6⟩ := z e he
    refine ⟨a1, a2, a3, a4, ?_, a6⟩
    by_cases q : e = t
    · subst q; rw [va_up_e]; exact nI_pos' (by omega)
    · rw [va_up_n _ _ (by omega)]; exact a5
  · obtain ⟨r1, r2, r3⟩ := hB.2.2 zz
    refine ⟨r1, r2.trans (va_up_n _ _ (by omega)).symm, fun k hk => ?_⟩
    rw [j_fl_lo (by omega), j_fl_lo (by omega)]
    exact r3 k hk
