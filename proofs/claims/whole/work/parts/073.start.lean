theorem lw_in {w : Cond} (h : w ∈ tables_1) : w ∈ lw_tbl := List.mem_append_right _ h
theorem g_cls {s : State} {A : Array Value} (hts : ∀ w ∈ jWS, w.before A s = true) : ∃ D : va_G, ∀ (c : Nat) (q : vw_C), vwCl[c]? = some q → u_Kn s q.1 q.2.1 q.2.2 (D.1 c) (D.2 c) := by
  obtain ⟨c0, i0, k0⟩ := u_known (C := RX0) (T := TX0) (N := 5) (n := 5) hts jinX0 (hts _ jiiX0)
  have h : ∀ c : Nat, ∃ (cC : ClassId) (iS : Nat → Nat), ∀ q : vw_C, vwCl[c]? = some q → u_Kn s q.1 q.2.1 q.2.2 cC iS := by
    intro c
    match c with
    | 0 => exact ⟨c0, i0, fun q hq => by cases hq; exact k0⟩
    | 1 =>
      obtain ⟨a, i, k⟩ := u_known (C := RX1) (T := TX1) (N := 3) (n := 3) hts jinX1 (hts _ jiiX1)
      exact ⟨a, i, fun q hq => by cases hq; exact k⟩
    | 2 =>
      obtain ⟨a, i, k⟩ := u_known (C := RX2) (T := TX2) (N := 6) (n := 6) hts jinX2 (hts _ jiiX2)
      exact ⟨a, i, fun q hq => by cases hq; exact k⟩
    | 3 =>
      obtain ⟨a, i, k⟩ := u_known (C := RX3) (T := TX3) (N := 4) (n := 4) hts jinX3 (hts _ jiiX3)
      exact ⟨a, i, fun q hq => by cases hq; exact k⟩
    | 4 =>
      obtain ⟨a, i, k⟩ := u_known (C := RX4) (T := TX4) (N := 4) (n := 4) hts jinX4 (hts _ jiiX4)
      exact ⟨a, i, fun q hq => by cases hq; exact k⟩
    | 5 =>
      obtain ⟨a, i, k⟩ := u_known (C := RX5) (T := TX5) (N := 5) (n := 5) hts jinX5 (hts _ jiiX5)
      exact ⟨a, i, fun q hq => by cases hq; exact k⟩
    | 6 =>
      obtain ⟨a, i, k⟩ := u_known (C := RX6) (T := TX6) (N := 7) (n := 7) hts jinX6 (hts _ jiiX6)
      exact ⟨a, i, fun q hq => by cases hq; exact k⟩
    | 7 =>
      obtain ⟨a, i, k⟩ := u_known (C := RX7) (T := TX7) (N := 9) (n := 9) hts jinX7 (hts _ jiiX7)
      exact ⟨a, i, fun q hq => by cases hq; exact k⟩
    | 8 =>
      obtain ⟨a, i, k⟩ := u_known (C := RX8) (T := TX8) (N := 31) (n := 31) hts jinX8 (hts _ jiiX8)
      exact ⟨a, i, fun q hq => by cases hq; exact k⟩
    | c + 9 => exact ⟨c0, i0, fun q hq => by simp [vwCl] at hq⟩
  exact ⟨(fun c => (h c).choose, fun c => (h c).choose_spec.choose), fun c q hq => (h c).choose_spec.choose_spec q hq⟩
theorem g_aol {A : Array Value} {first s : State} {o : Option Outcome} {idx : List Nat} (h : (Cond.arrayOver (.array .long)).holds A first o s idx = true) :
    ∃ comp c k, s.vm.findClass (FieldType.array .long).toString = some comp ∧ s.vm.classes[c]? = some k ∧ k.kind = .array comp (.array .long) ∧ s.vm.findClass ("[" ++ (FieldType.array .long).toString) = some c := by
  simp only [Cond.holds, Cond.value, beq_iff_eq] at h
  cases hc : s.vm.findClass (FieldType.array .long).toString with
  | none => simp [hc] at h
  | some comp =>
    simp only [hc, Option.bind_some, Option.bind_eq_some_iff, Option.map_eq_some_iff] at h
    obtain ⟨c, hi, k, hk, hb⟩ := h
    obtain ⟨hlt, hp, -⟩ := Array.findIdx?_eq_some_iff_getElem.mp hi
    have hkk : s.vm.classes[c] = k := (Array.getElem?_eq_some_iff.mp hk).2
    rw [hkk] at hp
    cases hkind : k.kind with
    | array component ty =>
      rw [hkind] at hb hp
      simp at hb hp
      exact ⟨comp, c, k, rfl, hk, by rw [hkind, hp, hb.1], hb.2⟩
    | _ => rw [hkind] at hb; simp at hb
theorem g_arr {s : State} {A : Array Value} (hts : ∀ w ∈ lw_tbl, w.before A s = true) : ∃ cA : Nat → ClassId, ∀ (D : va_G) (ad : Nat → Nat) (Xp : State → Prop) (k : Nat) (q : ClassId × FieldType), (j_tys (s.heap, D, cA, ad, Xp))[k]? = some q → ArrOfT s q.1 q.2 ∧ va_RA s q.1 q.2 := by
  have hp : ∀ ty : FieldType, (Cond.arrayClass ty).before A s = true → ∃ c, ArrOfT s c ty ∧ s.vm.findClass ("[" ++ ty.toString) = some c := fun ty h => by
    obtain ⟨c, k, comp, h1, h2, h3⟩ := Cond.arrayClass_spec h
    exact ⟨c, fun N z => ⟨(fun k h => by cases h), k, h2, comp, h3⟩, h1⟩
  have ho : ∀ n : String, (Cond.arrayOver (.object n)).before A s = true → ∃ c, ArrOfT s c (.object n) ∧ va_RA s c (.object n) := fun n h => by
    obtain ⟨comp, c, k, h1, h2, h3, h4, h5⟩ := Cond.arrayOver_spec h
    exact ⟨c, fun N z => ⟨(fun k h => by cases h), k, h3, comp, h4⟩, k, comp, h3, h4, h1, h5⟩
  obtain ⟨a0, p0, q0⟩ := hp .int (hts _ (lw_in (List.mem_of_getElem? (i := 68) (by decide +kernel))))
  obtain ⟨a1, p1, q1⟩ := hp .long (hts _ (lw_in (List.mem_of_getElem? (i := 69) (by decide +kernel))))
  obtain ⟨a2, p2, q2⟩ := hp .char (hts _ (lw_in (List.mem_of_getElem? (i := 47) (by decide +kernel))))
  obtain ⟨a3, p3, q3⟩ := hp .boolean (hts _ (lw_in (List.mem_of_getElem? (i := 734) (by decide +kernel))))
  obtain ⟨a4, p4⟩ := ho RX6 (hts _ (lw_in (List.mem_of_getElem? (i := 71) (by decide +kernel))))
  obtain ⟨a5, p5⟩ := ho RX2 (hts _ (lw_in (List.mem_of_getElem? (i := 99) (by decide +kernel))))
  obtain ⟨comp, a6, k6, r1, r2, r3, r4⟩ := g_aol (hts _ (lw_in (List.mem_of_getElem? (i := 345) (by decide +kernel))))
  refine ⟨fun t => if t = 0 then a0 else if t = 1 then a1 else if t = 2 then a2 else if t = 3 then a3 else if t = 4 then a4 else if t = 5 then a5 else a6, fun D ad Xp k q hq => ?_⟩
  match k, hq with
  | 0, hq => cases hq; exact ⟨p0, q0⟩
  | 1, hq => cases hq; exact ⟨p1, q1⟩
  | 2, hq => cases hq; exact ⟨p2, q2⟩
  | 3, hq => cases hq; exact ⟨p3, q3⟩
  | 4, hq => cases hq; exact p4
  | 5, hq => cases hq; exact p5
  | 6, hq => cases hq; exact ⟨fun N z => ⟨(fun k h => by cases h), k6, r2, comp, r3⟩, r4⟩
  | k + 7, hq => simp [j_tys] at hq
theorem g_aolS {s : State} {A : Array Value} (hts : ∀ w ∈ lw_tbl, w.before A s = true) : va_AOL s := by
  obtain ⟨comp, a6, k6, r1, r2, r3, r4⟩ := g_aol (hts _ (lw_in (List.mem_of_getElem? (i := 345) (by decide +kernel))))
  obtain ⟨c, k, cc, h1, h2, h3⟩ := Cond.arrayClass_spec (hts (Cond.arrayClass .long) (lw_in (List.mem_of_getElem? (i := 69) (by decide +kernel))))
  have e : comp = c := Option.some.inj (r1.symm.trans h1)
  subst e
  exact ⟨comp, a6, k6, k, cc, r1, r2, r3, r4, h2, h3⟩
theorem g_nw {s : State} {A : Array Value} (hts : ∀ w ∈ lw_tbl, w.before A s = true) : ∀ w ∈ jNW, va_Nw w s := by
  intro w hw
  refine va_Nw.of (j_nw_tab (jNW_ok w hw)) (hts w (lw_in ?_))
  simp only [jNW, List.mem_cons, List.not_mem_nil, or_false] at hw
  rcases hw with rfl | rfl | rfl | rfl | rfl | rfl | rfl | rfl | rfl | rfl | rfl | rfl | rfl | rfl | rfl | rfl | rfl | rfl | rfl | rfl | rfl | rfl | rfl
  · exact List.mem_of_getElem? (i := 26) (by decide +kernel)
  · exact List.mem_of_getElem? (i := 34) (by decide +kernel)
  · exact List.mem_of_getElem? (i := 50) (by decide +kernel)
  · exact List.mem_of_getElem? (i := 55) (by decide +kernel)
  · exact List.mem_of_getElem? (i := 57) (by decide +kernel)
  · exact List.mem_of_getElem? (i := 58) (by decide +kernel)
  · exact List.mem_of_getElem? (i := 60) (by decide +kernel)
  · exact List.mem_of_getElem? (i := 74) (by decide +kernel)
  · exact List.mem_of_getElem? (i := 80) (by decide +kernel)
  · exact List.mem_of_getElem? (i := 94) (by decide +kernel)
  · exact List.mem_of_getElem? (i := 101) (by decide +kernel)
  · exact List.mem_of_getElem? (i := 108) (by decide +kernel)
  · exact List.mem_of_getElem? (i := 110) (by decide +kernel)
  · exact List.mem_of_getElem? (i := 112) (by decide +kernel)
  · exact List.mem_of_getElem? (i := 114) (by decide +kernel)
  · exact List.mem_of_getElem? (i := 159) (by decide +kernel)
  · exact List.mem_of_getElem? (i := 161) (by decide +kernel)
  · exact List.mem_of_getElem? (i := 163) (by decide +kernel)
  · exact List.mem_of_getElem? (i := 349) (by decide +kernel)
  · exact List.mem_of_getElem? (i := 351) (by decide +kernel)
  · exact List.mem_of_getElem? (i := 353) (by decide +kernel)
  · exact List.mem_of_getElem? (i := 355) (by decide +kernel)
  · exact List.mem_of_getElem? (i := 357) (by decide +kernel)
