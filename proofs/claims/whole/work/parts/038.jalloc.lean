section JAL
variable {l : Launch} {G : jG} {y : MethodName} {cc : ByteArray} {n : Nat} {r : Option FieldType} {rm : Room} {nc ns pc : Nat} {lv : List (Nat × Value)} {st : List Value} {h : jH} {Q : Option Value → jH → Prop}
/-- more cells -/
def j_inc (h : jH) (m : Nat) : jH := (h.1 + m, h.2)
theorem j_newcA {idx ci N nx : Nat} {C : String} {T : u_T} {tyf : Nat → FieldType} {fs : List Value} (hx : h.1 = nx) (hd : decode cc pc = .ok (.new idx, 3)) (hc : vwCl[ci]? = some (C, T, N)) (hin : ∀ w ∈ u_ws C T N, w ∈ jWS) (hty : ∀ k, k < N → parseFieldDescriptor (T k).2.2.1 = some (tyf k)) (hcl : Cond.classLink y.cls idx C ∈ jWS) (hins : Cond.instantiable C N ∈ jWS) (hini : Cond.initialized C ∈ jWS) (hfs : ∀ j, j < N → defaultValue (tyf j) = jv G (vp_V fs j)) (h1 : nc + 1 ≤ rm.cells) (h2 : ns + N ≤ rm.slots)
    (kk : J l G (y, cc, n, r, rm) (nc + 1) (ns + N) (pc + 3) lv (.ref nx :: st) (j_set (j_inc h 1) nx (jO ci fs)) Q) : J l G (y, cc, n, r, rm) nc ns pc lv st h Q := by
  subst hx
  exact j_newc hd hc hin hty hcl hins hini hfs h1 h2 kk
theorem j_newIA {i : Int32} {N nx : Nat} (hx : h.1 = nx) (hd : decode cc pc = .ok (.newarray .int, 2)) (hi : ¬ i < 0) (hN : i.toNatClampNeg = N) (hby : N * 4 ≤ 536870912) (h1 : nc + 1 ≤ rm.cells) (h2 : ns + N ≤ rm.slots) (kk : J l G (y, cc, n, r, rm) (nc + 1) (ns + N) (pc + 2) lv (.ref nx :: st) (j_set (j_inc h 1) nx (jI N (fun _ => 0))) Q) : J l G (y, cc, n, r, rm) nc ns pc lv (.int i :: st) h Q := by
  subst hx
  exact j_newI hd jac_int hi hN hby h1 h2 kk
theorem j_newLA {i : Int32} {N nx : Nat} (hx : h.1 = nx) (hd : decode cc pc = .ok (.newarray .long, 2)) (hi : ¬ i < 0) (hN : i.toNatClampNeg = N) (hby : N * 8 ≤ 536870912) (h1 : nc + 1 ≤ rm.cells) (h2 : ns + N ≤ rm.slots) (kk : J l G (y, cc, n, r, rm) (nc + 1) (ns + N) (pc + 2) lv (.ref nx :: st) (j_set (j_inc h 1) nx (jL N (fun _ => 0))) Q) : J l G (y, cc, n, r, rm) nc ns pc lv (.int i :: st) h Q := by
  subst hx
  exact j_newL hd jac_long hi hN hby h1 h2 kk
theorem j_newCA {i : Int32} {N nx : Nat} (hx : h.1 = nx) (hd : decode cc pc = .ok (.newarray .char, 2)) (hi : ¬ i < 0) (hN : i.toNatClampNeg = N) (hby : N * 2 ≤ 536870912) (h1 : nc + 1 ≤ rm.cells) (h2 : ns + N ≤ rm.slots) (kk : J l G (y, cc, n, r, rm) (nc + 1) (ns + N) (pc + 2) lv (.ref nx :: st) (j_set (j_inc h 1) nx (jC N (fun _ => 0))) Q) : J l G (y, cc, n, r, rm) nc ns pc lv (.int i :: st) h Q := by
  subst hx
  exact j_newC hd jac_char hi hN hby h1 h2 kk
theorem j_newZA {i : Int32} {N nx : Nat} (hx : h.1 = nx) (hd : decode cc pc = .ok (.newarray .boolean, 2)) (hi : ¬ i < 0) (hN : i.toNatClampNeg = N) (hby : N * 1 ≤ 536870912) (h1 : nc + 1 ≤ rm.cells) (h2 : ns + N ≤ rm.slots) (kk : J l G (y, cc, n, r, rm) (nc + 1) (ns + N) (pc + 2) lv (.ref nx :: st) (j_set (j_inc h 1) nx (jZ N (fun _ => 0))) Q) : J l G (y, cc, n, r, rm) nc ns pc lv (.int i :: st) h Q := by
  subst hx
  exact j_newZ hd jac_boolean hi hN hby h1 h2 kk
theorem j_newqA {idx nx : Nat} {C : String} (t : Nat) {i : Int32} {N : Nat} (hx : h.1 = nx) (hd : decode cc pc = .ok (.anewarray idx, 3)) (ht : (j_tys G)[t]? = some (G.2.2.1 t, .object C)) (hcl : Cond.classLink y.cls idx C ∈ jWS) (hao : ∀ U, j_env G U → va_AO C U) (hi : ¬ i < 0) (hN : i.toNatClampNeg = N) (hby : N * 4 ≤ 536870912) (h1 : nc + 1 ≤ rm.cells) (h2 : ns + N ≤ rm.slots)
    (kk : J l G (y, cc, n, r, rm) (nc + 1) (ns + N) (pc + 3) lv (.ref nx :: st) (j_set (j_inc h 1) nx (jQ t N (fun _ => none))) Q) : J l G (y, cc, n, r, rm) nc ns pc lv (.int i :: st) h Q := by
  subst hx
  exact j_newq t hd ht hcl hao hi hN hby h1 h2 kk
theorem j_ao6 {G : jG} : ∀ U, j_env G U → va_AO RX6 U := fun _ h => h.2.2.2.1
theorem j_ao2 {G : jG} : ∀ U, j_env G U → va_AO RX2 U := fun _ h => h.2.2.2.2.1
end JAL
theorem dfX0 (G : jG) : ∀ j, j < 5 → defaultValue (tyX0 j) = jv G (vp_V [.null, .int 0, .null, .int 0, .int 0] j) := by
  intro j hj
  rcases (show j = 0 ∨ j = 1 ∨ j = 2 ∨ j = 3 ∨ j = 4 by omega) with rfl | rfl | rfl | rfl | rfl <;> rfl
theorem dfX1 (G : jG) : ∀ j, j < 3 → defaultValue (tyX1 j) = jv G (vp_V [.null, .null, .int 0] j) := by
  intro j hj
  rcases (show j = 0 ∨ j = 1 ∨ j = 2 by omega) with rfl | rfl | rfl <;> rfl
theorem dfX2 (G : jG) : ∀ j, j < 6 → defaultValue (tyX2 j) = jv G (vp_V [.null, .null, .int 0, .int 0, .int 0, .int 0] j) := by
  intro j hj
  rcases (show j = 0 ∨ j = 1 ∨ j = 2 ∨ j = 3 ∨ j = 4 ∨ j = 5 by omega) with rfl | rfl | rfl | rfl | rfl | rfl <;> rfl
theorem dfX3 (G : jG) : ∀ j, j < 4 → defaultValue (tyX3 j) = jv G (vp_V [.null, .null, .null, .int 0] j) := by
  intro j hj
  rcases (show j = 0 ∨ j = 1 ∨ j = 2 ∨ j = 3 by omega) with rfl | rfl | rfl | rfl <;> rfl
theorem dfX4 (G : jG) : ∀ j, j < 4 → defaultValue (tyX4 j) = jv G (vp_V [.null, .null, .null, .null] j) := by
  intro j hj
  rcases (show j = 0 ∨ j = 1 ∨ j = 2 ∨ j = 3 by omega) with rfl | rfl | rfl | rfl <;> rfl
theorem dfX5 (G : jG) : ∀ j, j < 5 → defaultValue (tyX5 j) = jv G (vp_V [.null, .int 0, .int 0, .int 0, .int 0] j) := by
  intro j hj
  rcases (show j = 0 ∨ j = 1 ∨ j = 2 ∨ j = 3 ∨ j = 4 by omega) with rfl | rfl | rfl | rfl | rfl <;> rfl
theorem dfX6 (G : jG) : ∀ j, j < 7 → defaultValue (tyX6 j) = jv G (vp_V [.int 0, .long 0, .null, .null, .null, .null, .int 0] j) := by
  intro j hj
  rcases (show j = 0 ∨ j = 1 ∨ j = 2 ∨ j = 3 ∨ j = 4 ∨ j = 5 ∨ j = 6 by omega) with rfl | rfl | rfl | rfl | rfl | rfl | rfl <;> rfl
theorem dfX7 (G : jG) : ∀ j, j < 9 → defaultValue (tyX7 j) = jv G (vp_V [.null, .null, .null, .null, .null, .null, .null, .null, .int 0] j) := by
  intro j hj
  rcases (show j = 0 ∨ j = 1 ∨ j = 2 ∨ j = 3 ∨ j = 4 ∨ j = 5 ∨ j = 6 ∨ j = 7 ∨ j = 8 by omega) with rfl | rfl | rfl | rfl | rfl | rfl | rfl | rfl | rfl <;> rfl
theorem dfX8 (G : jG) : ∀ j, j < 31 → defaultValue (tyX8 j) = jv G (vp_V [.null, .int 0, .null, .null, .int 0, .int 0, .int 0, .null, .int 0, .null, .null, .int 0, .null, .null, .null, .null, .null, .null, .null, .null, .null, .null, .int 0, .int 0, .null, .null, .null, .null, .null, .null, .int 0] j) := by
  intro j hj
  rcases (show j = 0 ∨ j = 1 ∨ j = 2 ∨ j = 3 ∨ j = 4 ∨ j = 5 ∨ j = 6 ∨ j = 7 ∨ j = 8 ∨ j = 9 ∨ j = 10 ∨ j = 11 ∨ j = 12 ∨ j = 13 ∨ j = 14 ∨ j = 15 ∨ j = 16 ∨ j = 17 ∨ j = 18 ∨ j = 19 ∨ j = 20 ∨ j = 21 ∨ j = 22 ∨ j = 23 ∨ j = 24 ∨ j = 25 ∨ j = 26 ∨ j = 27 ∨ j = 28 ∨ j = 29 ∨ j = 30 by omega) with rfl | rfl | rfl | rfl | rfl | rfl | rfl | rfl | rfl | rfl | rfl | rfl | rfl | rfl | rfl | rfl | rfl | rfl | rfl | rfl | rfl | rfl | rfl | rfl | rfl | rfl | rfl | rfl | rfl | rfl | rfl <;> rfl
