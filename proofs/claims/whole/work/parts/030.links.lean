theorem jin_of {C : String} {T : u_T} {N : Nat} (ps : List Nat) (hp : u_ws C T N = ps.filterMap (fun i => tables_1[i]?)) (hg : (u_ws C T N).all goodWord = true) : ∀ w ∈ u_ws C T N, w ∈ jWS := by
  intro w hw
  have h1 := List.all_eq_true.mp hg w hw
  rw [hp] at hw
  obtain ⟨i, -, hi⟩ := List.mem_filterMap.mp hw
  exact jWS_of (List.mem_of_getElem? hi) h1
theorem jWS_sel {w : Cond} (h : w ∈ k2_sels lw_privs) (hg : goodWord w = true) : w ∈ jWS := List.mem_filter.mpr ⟨List.mem_append_left _ h, hg⟩
theorem jinX0 : ∀ w ∈ u_ws RX0 TX0 5, w ∈ jWS := jin_of [133, 135, 137, 139, 141] (by decide +kernel) (by decide +kernel)
theorem jiiX0 : Cond.instantiable RX0 5 ∈ jWS := jWS_of (List.mem_of_getElem? (i := 93) (by decide +kernel)) rfl
theorem jinX1 : ∀ w ∈ u_ws RX1 TX1 3, w ∈ jWS := jin_of [61, 63, 65] (by decide +kernel) (by decide +kernel)
theorem jiiX1 : Cond.instantiable RX1 3 ∈ jWS := jWS_of (List.mem_of_getElem? (i := 49) (by decide +kernel)) rfl
theorem jinX2 : ∀ w ∈ u_ws RX2 TX2 6, w ∈ jWS := jin_of [115, 117, 119, 121, 123, 125] (by decide +kernel) (by decide +kernel)
theorem jiiX2 : Cond.instantiable RX2 6 ∈ jWS := jWS_of (List.mem_of_getElem? (i := 100) (by decide +kernel)) rfl
theorem jinX3 : ∀ w ∈ u_ws RX3 TX3 4, w ∈ jWS := jin_of [83, 85, 87, 89] (by decide +kernel) (by decide +kernel)
theorem jiiX3 : Cond.instantiable RX3 4 ∈ jWS := jWS_of (List.mem_of_getElem? (i := 73) (by decide +kernel)) rfl
theorem jinX4 : ∀ w ∈ u_ws RX4 TX4 4, w ∈ jWS := jin_of [164, 166, 168, 170] (by decide +kernel) (by decide +kernel)
theorem jiiX4 : Cond.instantiable RX4 4 ∈ jWS := jWS_of (List.mem_of_getElem? (i := 145) (by decide +kernel)) rfl
theorem jinX5 : ∀ w ∈ u_ws RX5 TX5 5, w ∈ jWS := jin_of [36, 38, 40, 42, 44] (by decide +kernel) (by decide +kernel)
theorem jiiX5 : Cond.instantiable RX5 5 ∈ jWS := jWS_of (List.mem_of_getElem? (i := 25) (by decide +kernel)) rfl
theorem jinX6 : ∀ w ∈ u_ws RX6 TX6 7, w ∈ jWS := jin_of [358, 360, 362, 364, 366, 368, 370] (by decide +kernel) (by decide +kernel)
theorem jiiX6 : Cond.instantiable RX6 7 ∈ jWS := jWS_of (List.mem_of_getElem? (i := 339) (by decide +kernel)) rfl
theorem jinX7 : ∀ w ∈ u_ws RX7 TX7 9, w ∈ jWS := jin_of [182, 184, 186, 188, 190, 192, 194, 196, 198] (by decide +kernel) (by decide +kernel)
theorem jiiX7 : Cond.instantiable RX7 9 ∈ jWS := jWS_of (List.mem_of_getElem? (i := 17) (by decide +kernel)) rfl
theorem jinX8 : ∀ w ∈ u_ws RX8 TX8 31, w ∈ jWS := jin_of [671, 673, 675, 677, 679, 681, 683, 685, 687, 689, 691, 693, 695, 697, 699, 701, 703, 705, 707, 709, 711, 713, 715, 717, 719, 721, 723, 725, 727, 729, 731] (by decide +kernel) (by decide +kernel)
theorem jiiX8 : Cond.instantiable RX8 31 ∈ jWS := jWS_of (List.mem_of_getElem? (i := 635) (by decide +kernel)) rfl
theorem jitL : Cond.initialized RL ∈ jWS := jWS_of (List.mem_of_getElem? (i := 0) (by decide +kernel)) rfl
theorem jitX7 : Cond.initialized RX7 ∈ jWS := jWS_of (List.mem_of_getElem? (i := 1) (by decide +kernel)) rfl
theorem jitX5 : Cond.initialized RX5 ∈ jWS := jWS_of (List.mem_of_getElem? (i := 2) (by decide +kernel)) rfl
theorem jitX1 : Cond.initialized RX1 ∈ jWS := jWS_of (List.mem_of_getElem? (i := 3) (by decide +kernel)) rfl
theorem jitX3 : Cond.initialized RX3 ∈ jWS := jWS_of (List.mem_of_getElem? (i := 4) (by decide +kernel)) rfl
theorem jitX0 : Cond.initialized RX0 ∈ jWS := jWS_of (List.mem_of_getElem? (i := 5) (by decide +kernel)) rfl
theorem jitX2 : Cond.initialized RX2 ∈ jWS := jWS_of (List.mem_of_getElem? (i := 6) (by decide +kernel)) rfl
theorem jitX4 : Cond.initialized RX4 ∈ jWS := jWS_of (List.mem_of_getElem? (i := 7) (by decide +kernel)) rfl
theorem jitJ7 : Cond.initialized RJ7 ∈ jWS := jWS_of (List.mem_of_getElem? (i := 8) (by decide +kernel)) rfl
theorem jitX8 : Cond.initialized RX8 ∈ jWS := jWS_of (List.mem_of_getElem? (i := 9) (by decide +kernel)) rfl
theorem jitJ0 : Cond.initialized RJ0 ∈ jWS := jWS_of (List.mem_of_getElem? (i := 10) (by decide +kernel)) rfl
theorem jitJ1 : Cond.initialized RJ1 ∈ jWS := jWS_of (List.mem_of_getElem? (i := 11) (by decide +kernel)) rfl
theorem jitJ3 : Cond.initialized RJ3 ∈ jWS := jWS_of (List.mem_of_getElem? (i := 12) (by decide +kernel)) rfl
theorem jitJ2 : Cond.initialized RJ2 ∈ jWS := jWS_of (List.mem_of_getElem? (i := 13) (by decide +kernel)) rfl
theorem jitJ9 : Cond.initialized RJ9 ∈ jWS := jWS_of (List.mem_of_getElem? (i := 14) (by decide +kernel)) rfl
theorem jitX6 : Cond.initialized RX6 ∈ jWS := jWS_of (List.mem_of_getElem? (i := 15) (by decide +kernel)) rfl
theorem jac_char : Cond.arrayClass .char ∈ jWS := jWS_of (List.mem_of_getElem? (i := 47) (by decide +kernel)) rfl
theorem jac_int : Cond.arrayClass .int ∈ jWS := jWS_of (List.mem_of_getElem? (i := 68) (by decide +kernel)) rfl
theorem jac_long : Cond.arrayClass .long ∈ jWS := jWS_of (List.mem_of_getElem? (i := 69) (by decide +kernel)) rfl
theorem jac_byte : Cond.arrayClass .byte ∈ jWS := jWS_of (List.mem_of_getElem? (i := 313) (by decide +kernel)) rfl
theorem jac_boolean : Cond.arrayClass .boolean ∈ jWS := jWS_of (List.mem_of_getElem? (i := 734) (by decide +kernel)) rfl
theorem job1 : Cond.instanceMethod objectInit ∈ jWS := jWS_of (List.mem_of_getElem? (i := 22) (by decide +kernel)) rfl
theorem job2 : Cond.code objectInit ⟨#[0xb1]⟩ 1 none ∈ jWS := jWS_of (List.mem_of_getElem? (i := 23) (by decide +kernel)) rfl
theorem jfX7_12 : jFld RX7 12 7 0 (.object "CrewShares$RulesText") true := ⟨RX7, TX7, 9, tyX7, rfl, by decide, jinX7, tyX7_ok, nmX7, rfl, rfl, rfl, Or.inl (jWS_of (List.mem_of_getElem? (i := 173) (by decide +kernel)) rfl)⟩
theorem jgX7_12 : ∃ (C : String) (T : u_T) (N : Nat), vwCl[7]? = some (C, T, N) ∧ Cond.fieldLink RX7 12 C (T 0).2.1 (T 0).2.2.1 ∈ jWS := ⟨RX7, TX7, 9, rfl, jWS_of (List.mem_of_getElem? (i := 173) (by decide +kernel)) rfl⟩
theorem jfX7_21 : jFld RX7 21 7 1 (.object "CrewShares$Crew") true := ⟨RX7, TX7, 9, tyX7, rfl, by decide, jinX7, tyX7_ok, nmX7, rfl, rfl, rfl, Or.inl (jWS_of (List.mem_of_getElem? (i := 174) (by decide +kernel)) rfl)⟩
theorem jgX7_21 : ∃ (C : String) (T : u_T) (N : Nat), vwCl[7]? = some (C, T, N) ∧ Cond.fieldLink RX7 21 C (T 1).2.1 (T 1).2.2.1 ∈ jWS := ⟨RX7, TX7, 9, rfl, jWS_of (List.mem_of_getElem? (i := 174) (by decide +kernel)) rfl⟩
theorem jfX7_25 : jFld RX7 25 7 2 (.array .long) true := ⟨RX7, TX7, 9, tyX7, rfl, by decide, jinX7, tyX7_ok, nmX7, rfl, rfl, rfl, Or.inl (jWS_of (List.mem_of_getElem? (i := 175) (by decide +kernel)) rfl)⟩
theorem jgX7_25 : ∃ (C : String) (T : u_T) (N : Nat), vwCl[7]? = some (C, T, N) ∧ Cond.fieldLink RX7 25 C (T 2).2.1 (T 2).2.2.1 ∈ jWS := ⟨RX7, TX7, 9, rfl, jWS_of (List.mem_of_getElem? (i := 175) (by decide +kernel)) rfl⟩
theorem jfX7_31 : jFld RX7 31 7 3 (.array (.object "CrewShares$Trip")) true := ⟨RX7, TX7, 9, tyX7, rfl, by decide, jinX7, tyX7_ok, nmX7, rfl, rfl, rfl, Or.inl (jWS_of (List.mem_of_getElem? (i := 176) (by decide +kernel)) rfl)⟩
theorem jgX7_31 : ∃ (C : String) (T : u_T) (N : Nat), vwCl[7]? = some (C, T, N) ∧ Cond.fieldLink RX7 31 C (T 3).2.1 (T 3).2.2.1 ∈ jWS := ⟨RX7, TX7, 9, rfl, jWS_of (List.mem_of_getElem? (i := 176) (by decide +kernel)) rfl⟩
theorem jfX7_38 : jFld RX7 38 7 4 (.object "CrewShares$Parting") true := ⟨RX7, TX7, 9, tyX7, rfl, by decide, jinX7, tyX7_ok, nmX7, rfl, rfl, rfl, Or.inl (jWS_of (List.mem_of_getElem? (i := 177) (by decide +kernel)) rfl)⟩
theorem jgX7_38 : ∃ (C : String) (T : u_T) (N : Nat), vwCl[7]? = some (C, T, N) ∧ Cond.fieldLink RX7 38 C (T 4).2.1 (T 4).2.2.1 ∈ jWS := ⟨RX7, TX7, 9, rfl, jWS_of (List.mem_of_getElem? (i := 177) (by decide +kernel)) rfl⟩
theorem jfX7_45 : jFld RX7 45 7 5 (.object "CrewShares$Book") true := ⟨RX7, TX7, 9, tyX7, rfl, by decide, jinX7, tyX7_ok, nmX7, rfl, rfl, rfl, Or.inl (jWS_of (List.mem_of_getElem? (i := 178) (by decide +kernel)) rfl)⟩
theorem jgX7_45 : ∃ (C : String) (T : u_T) (N : Nat), vwCl[7]? = some (C, T, N) ∧ Cond.fieldLink RX7 45 C (T 5).2.1 (T 5).2.2.1 ∈ jWS := ⟨RX7, TX7, 9, rfl, jWS_of (List.mem_of_getElem? (i := 178) (by decide +kernel)) rfl⟩
theorem jfX7_52 : jFld RX7 52 7 6 (.object "CrewShares$Rules") false := ⟨RX7, TX7, 9, tyX7, rfl, by decide, jinX7, tyX7_ok, nmX7, rfl, rfl, rfl, Or.inl (jWS_of (List.mem_of_getElem? (i := 179) (by decide +kernel)) rfl)⟩
theorem jfX7_56 : jFld RX7 56 7 7 (.object "CrewShares$Rules") false := ⟨RX7, TX7, 9, tyX7, rfl, by decide, jinX7, tyX7_ok, nmX7, rfl, rfl, rfl, Or.inl (jWS_of (List.mem_of_getElem? (i := 180) (by decide +kernel)) rfl)⟩
theorem jfX7_86 : jFld RX7 86 7 8 (.int) false := ⟨RX7, TX7, 9, tyX7, rfl, by decide, jinX7, tyX7_ok, nmX7, rfl, rfl, rfl, Or.inl (jWS_of (List.mem_of_getElem? (i := 181) (by decide +kernel)) rfl)⟩
theorem jfX0_13 : jFld RX0 13 0 0 (.array (.object "CrewShares$Entry")) true := ⟨RX0, TX0, 5, tyX0, rfl, by decide, jinX0, tyX0_ok, nmX0, rfl, rfl, rfl, Or.inl (jWS_of (List.mem_of_getElem? (i := 128) (by decide +kernel)) rfl)⟩
theorem jgX0_13 : ∃ (C : String) (T : u_T) (N : Nat), vwCl[0]? = some (C, T, N) ∧ Cond.fieldLink RX0 13 C (T 0).2.1 (T 0).2.2.1 ∈ jWS := ⟨RX0, TX0, 5, rfl, jWS_of (List.mem_of_getElem? (i := 128) (by decide +kernel)) rfl⟩
theorem jfX0_18 : jFld RX0 18 0 2 (.object "CrewShares$Entry") false := ⟨RX0, TX0, 5, tyX0, rfl, by decide, jinX0, tyX0_ok, nmX0, rfl, rfl, rfl, Or.inl (jWS_of (List.mem_of_getElem? (i := 130) (by decide +kernel)) rfl)⟩
theorem jfX0_22 : jFld RX0 22 0 3 (.boolean) false := ⟨RX0, TX0, 5, tyX0, rfl, by decide, jinX0, tyX0_ok, nmX0, rfl, rfl, rfl, Or.inl (jWS_of (List.mem_of_getElem? (i := 131) (by decide +kernel)) rfl)⟩
theorem jfX0_72 : jFld RX0 72 0 4 (.int) false := ⟨RX0, TX0, 5, tyX0, rfl, by decide, jinX0, tyX0_ok, nmX0, rfl, rfl, rfl, Or.inl (jWS_of (List.mem_of_getElem? (i := 132) (by decide +kernel)) rfl)⟩
theorem jfX0_106 : jFld RX0 106 0 1 (.int) false := ⟨RX0, TX0, 5, tyX0, rfl, by decide, jinX0, tyX0_ok, nmX0, rfl, rfl, rfl, Or.inl (jWS_of (List.mem_of_getElem? (i := 129) (by decide +kernel)) rfl)⟩
theorem jfX1_9 : jFld RX1 9 1 0 (.array .int) true := ⟨RX1, TX1, 3, tyX1, rfl, by decide, jinX1, tyX1_ok, nmX1, rfl, rfl, rfl, Or.inl (jWS_of (List.mem_of_getElem? (i := 54) (by decide +kernel)) rfl)⟩
theorem jgX1_9 : ∃ (C : String) (T : u_T) (N : Nat), vwCl[1]? = some (C, T, N) ∧ Cond.fieldLink RX1 9 C (T 0).2.1 (T 0).2.2.1 ∈ jWS := ⟨RX1, TX1, 3, rfl, jWS_of (List.mem_of_getElem? (i := 54) (by decide +kernel)) rfl⟩
theorem jfX1_15 : jFld RX1 15 1 1 (.array .long) true := ⟨RX1, TX1, 3, tyX1, rfl, by decide, jinX1, tyX1_ok, nmX1, rfl, rfl, rfl, Or.inl (jWS_of (List.mem_of_getElem? (i := 56) (by decide +kernel)) rfl)⟩
theorem jgX1_15 : ∃ (C : String) (T : u_T) (N : Nat), vwCl[1]? = some (C, T, N) ∧ Cond.fieldLink RX1 15 C (T 1).2.1 (T 1).2.2.1 ∈ jWS := ⟨RX1, TX1, 3, rfl, jWS_of (List.mem_of_getElem? (i := 56) (by decide +kernel)) rfl⟩
theorem jfX1_19 : jFld RX1 19 1 2 (.int) false := ⟨RX1, TX1, 3, tyX1, rfl, by decide, jinX1, tyX1_ok, nmX1, rfl, rfl, rfl, Or.inl (jWS_of (List.mem_of_getElem? (i := 59) (by decide +kernel)) rfl)⟩
theorem jfX2_11 : jFld RX2 11 2 0 (.array .int) true := ⟨RX2, TX2, 6, tyX2, rfl, by decide, jinX2, tyX2_ok, nmX2, rfl, rfl, rfl, Or.inl (jWS_of (List.mem_of_getElem? (i := 105) (by decide +kernel)) rfl)⟩
theorem jgX2_11 : ∃ (C : String) (T : u_T) (N : Nat), vwCl[2]? = some (C, T, N) ∧ Cond.fieldLink RX2 11 C (T 0).2.1 (T 0).2.2.1 ∈ jWS := ⟨RX2, TX2, 6, rfl, jWS_of (List.mem_of_getElem? (i := 105) (by decide +kernel)) rfl⟩
theorem jfX2_15 : jFld RX2 15 2 1 (.array .long) true := ⟨RX2, TX2, 6, tyX2, rfl, by decide, jinX2, tyX2_ok, nmX2, rfl, rfl, rfl, Or.inl (jWS_of (List.mem_of_getElem? (i := 106) (by decide +kernel)) rfl)⟩
theorem jgX2_15 : ∃ (C : String) (T : u_T) (N : Nat), vwCl[2]? = some (C, T, N) ∧ Cond.fieldLink RX2 15 C (T 1).2.1 (T 1).2.2.1 ∈ jWS := ⟨RX2, TX2, 6, rfl, jWS_of (List.mem_of_getElem? (i := 106) (by decide +kernel)) rfl⟩
theorem jfX2_19 : jFld RX2 19 2 3 (.int) false := ⟨RX2, TX2, 6, tyX2, rfl, by decide, jinX2, tyX2_ok, nmX2, rfl, rfl, rfl, Or.inl (jWS_of (List.mem_of_getElem? (i := 109) (by decide +kernel)) rfl)⟩
theorem jfX2_23 : jFld RX2 23 2 2 (.int) false := ⟨RX2, TX2, 6, tyX2, rfl, by decide, jinX2, tyX2_ok, nmX2, rfl, rfl, rfl, Or.inl (jWS_of (List.mem_of_getElem? (i := 107) (by decide +kernel)) rfl)⟩
theorem jfX2_34 : jFld RX2 34 2 5 (.int) false := ⟨RX2, TX2, 6, tyX2, rfl, by decide, jinX2, tyX2_ok, nmX2, rfl, rfl, rfl, Or.inl (jWS_of (List.mem_of_getElem? (i := 113) (by decide +kernel)) rfl)⟩
theorem jfX2_37 : jFld RX2 37 2 4 (.int) false := ⟨RX2, TX2, 6, tyX2, rfl, by decide, jinX2, tyX2_ok, nmX2, rfl, rfl, rfl, Or.inl (jWS_of (List.mem_of_getElem? (i := 111) (by decide +kernel)) rfl)⟩
theorem jfX3_9 : jFld RX3 9 3 0 (.array .long) true := ⟨RX3, TX3, 4, tyX3, rfl, by decide, jinX3, tyX3_ok, nmX3, rfl, rfl, rfl, Or.inl (jWS_of (List.mem_of_getElem? (i := 78) (by decide +kernel)) rfl)⟩
theorem jgX3_9 : ∃ (C : String) (T : u_T) (N : Nat), vwCl[3]? = some (C, T, N) ∧ Cond.fieldLink RX3 9 C (T 0).2.1 (T 0).2.2.1 ∈ jWS := ⟨RX3, TX3, 4, rfl, jWS_of (List.mem_of_getElem? (i := 78) (by decide +kernel)) rfl⟩
theorem jfX3_15 : jFld RX3 15 3 1 (.array .long) true := ⟨RX3, TX3, 4, tyX3, rfl, by decide, jinX3, tyX3_ok, nmX3, rfl, rfl, rfl, Or.inl (jWS_of (List.mem_of_getElem? (i := 79) (by decide +kernel)) rfl)⟩
theorem jgX3_15 : ∃ (C : String) (T : u_T) (N : Nat), vwCl[3]? = some (C, T, N) ∧ Cond.fieldLink RX3 15 C (T 1).2.1 (T 1).2.2.1 ∈ jWS := ⟨RX3, TX3, 4, rfl, jWS_of (List.mem_of_getElem? (i := 79) (by decide +kernel)) rfl⟩
theorem jfX3_18 : jFld RX3 18 3 2 (.array .long) true := ⟨RX3, TX3, 4, tyX3, rfl, by decide, jinX3, tyX3_ok, nmX3, rfl, rfl, rfl, Or.inl (jWS_of (List.mem_of_getElem? (i := 81) (by decide +kernel)) rfl)⟩
theorem jgX3_18 : ∃ (C : String) (T : u_T) (N : Nat), vwCl[3]? = some (C, T, N) ∧ Cond.fieldLink RX3 18 C (T 2).2.1 (T 2).2.2.1 ∈ jWS := ⟨RX3, TX3, 4, rfl, jWS_of (List.mem_of_getElem? (i := 81) (by decide +kernel)) rfl⟩
theorem jfX3_21 : jFld RX3 21 3 3 (.int) false := ⟨RX3, TX3, 4, tyX3, rfl, by decide, jinX3, tyX3_ok, nmX3, rfl, rfl, rfl, Or.inl (jWS_of (List.mem_of_getElem? (i := 82) (by decide +kernel)) rfl)⟩
theorem jfX4_9 : jFld RX4 9 4 0 (.array .int) true := ⟨RX4, TX4, 4, tyX4, rfl, by decide, jinX4, tyX4_ok, nmX4, rfl, rfl, rfl, Or.inl (jWS_of (List.mem_of_getElem? (i := 157) (by decide +kernel)) rfl)⟩
theorem jgX4_9 : ∃ (C : String) (T : u_T) (N : Nat), vwCl[4]? = some (C, T, N) ∧ Cond.fieldLink RX4 9 C (T 0).2.1 (T 0).2.2.1 ∈ jWS := ⟨RX4, TX4, 4, rfl, jWS_of (List.mem_of_getElem? (i := 157) (by decide +kernel)) rfl⟩
theorem jfX4_15 : jFld RX4 15 4 1 (.array .int) true := ⟨RX4, TX4, 4, tyX4, rfl, by decide, jinX4, tyX4_ok, nmX4, rfl, rfl, rfl, Or.inl (jWS_of (List.mem_of_getElem? (i := 158) (by decide +kernel)) rfl)⟩
theorem jgX4_15 : ∃ (C : String) (T : u_T) (N : Nat), vwCl[4]? = some (C, T, N) ∧ Cond.fieldLink RX4 15 C (T 1).2.1 (T 1).2.2.1 ∈ jWS := ⟨RX4, TX4, 4, rfl, jWS_of (List.mem_of_getElem? (i := 158) (by decide +kernel)) rfl⟩
theorem jfX4_18 : jFld RX4 18 4 2 (.array .int) true := ⟨RX4, TX4, 4, tyX4, rfl, by decide, jinX4, tyX4_ok, nmX4, rfl, rfl, rfl, Or.inl (jWS_of (List.mem_of_getElem? (i := 160) (by decide +kernel)) rfl)⟩
theorem jgX4_18 : ∃ (C : String) (T : u_T) (N : Nat), vwCl[4]? = some (C, T, N) ∧ Cond.fieldLink RX4 18 C (T 2).2.1 (T 2).2.2.1 ∈ jWS := ⟨RX4, TX4, 4, rfl, jWS_of (List.mem_of_getElem? (i := 160) (by decide +kernel)) rfl⟩
theorem jfX4_21 : jFld RX4 21 4 3 (.array .int) true := ⟨RX4, TX4, 4, tyX4, rfl, by decide, jinX4, tyX4_ok, nmX4, rfl, rfl, rfl, Or.inl (jWS_of (List.mem_of_getElem? (i := 162) (by decide +kernel)) rfl)⟩
theorem jgX4_21 : ∃ (C : String) (T : u_T) (N : Nat), vwCl[4]? = some (C, T, N) ∧ Cond.fieldLink RX4 21 C (T 3).2.1 (T 3).2.2.1 ∈ jWS := ⟨RX4, TX4, 4, rfl, jWS_of (List.mem_of_getElem? (i := 162) (by decide +kernel)) rfl⟩
theorem jfX5_11 : jFld RX5 11 5 0 (.array .char) true := ⟨RX5, TX5, 5, tyX5, rfl, by decide, jinX5, tyX5_ok, nmX5, rfl, rfl, rfl, Or.inl (jWS_of (List.mem_of_getElem? (i := 30) (by decide +kernel)) rfl)⟩
theorem jgX5_11 : ∃ (C : String) (T : u_T) (N : Nat), vwCl[5]? = some (C, T, N) ∧ Cond.fieldLink RX5 11 C (T 0).2.1 (T 0).2.2.1 ∈ jWS := ⟨RX5, TX5, 5, rfl, jWS_of (List.mem_of_getElem? (i := 30) (by decide +kernel)) rfl⟩
theorem jfX5_15 : jFld RX5 15 5 1 (.int) false := ⟨RX5, TX5, 5, tyX5, rfl, by decide, jinX5, tyX5_ok, nmX5, rfl, rfl, rfl, Or.inl (jWS_of (List.mem_of_getElem? (i := 31) (by decide +kernel)) rfl)⟩
theorem jfX5_19 : jFld RX5 19 5 3 (.int) false := ⟨RX5, TX5, 5, tyX5, rfl, by decide, jinX5, tyX5_ok, nmX5, rfl, rfl, rfl, Or.inl (jWS_of (List.mem_of_getElem? (i := 33) (by decide +kernel)) rfl)⟩
theorem jfX5_22 : jFld RX5 22 5 4 (.int) false := ⟨RX5, TX5, 5, tyX5, rfl, by decide, jinX5, tyX5_ok, nmX5, rfl, rfl, rfl, Or.inl (jWS_of (List.mem_of_getElem? (i := 35) (by decide +kernel)) rfl)⟩
theorem jfX5_25 : jFld RX5 25 5 2 (.int) false := ⟨RX5, TX5, 5, tyX5, rfl, by decide, jinX5, tyX5_ok, nmX5, rfl, rfl, rfl, Or.inl (jWS_of (List.mem_of_getElem? (i := 32) (by decide +kernel)) rfl)⟩
theorem jfX6_9 : jFld RX6 9 6 2 (.array .long) true := ⟨RX6, TX6, 7, tyX6, rfl, by decide, jinX6, tyX6_ok, nmX6, rfl, rfl, rfl, Or.inl (jWS_of (List.mem_of_getElem? (i := 348) (by decide +kernel)) rfl)⟩
theorem jgX6_9 : ∃ (C : String) (T : u_T) (N : Nat), vwCl[6]? = some (C, T, N) ∧ Cond.fieldLink RX6 9 C (T 2).2.1 (T 2).2.2.1 ∈ jWS := ⟨RX6, TX6, 7, rfl, jWS_of (List.mem_of_getElem? (i := 348) (by decide +kernel)) rfl⟩
theorem jfX6_15 : jFld RX6 15 6 3 (.array .int) true := ⟨RX6, TX6, 7, tyX6, rfl, by decide, jinX6, tyX6_ok, nmX6, rfl, rfl, rfl, Or.inl (jWS_of (List.mem_of_getElem? (i := 350) (by decide +kernel)) rfl)⟩
theorem jgX6_15 : ∃ (C : String) (T : u_T) (N : Nat), vwCl[6]? = some (C, T, N) ∧ Cond.fieldLink RX6 15 C (T 3).2.1 (T 3).2.2.1 ∈ jWS := ⟨RX6, TX6, 7, rfl, jWS_of (List.mem_of_getElem? (i := 350) (by decide +kernel)) rfl⟩
theorem jfX6_19 : jFld RX6 19 6 4 (.array .long) true := ⟨RX6, TX6, 7, tyX6, rfl, by decide, jinX6, tyX6_ok, nmX6, rfl, rfl, rfl, Or.inl (jWS_of (List.mem_of_getElem? (i := 352) (by decide +kernel)) rfl)⟩
theorem jgX6_19 : ∃ (C : String) (T : u_T) (N : Nat), vwCl[6]? = some (C, T, N) ∧ Cond.fieldLink RX6 19 C (T 4).2.1 (T 4).2.2.1 ∈ jWS := ⟨RX6, TX6, 7, rfl, jWS_of (List.mem_of_getElem? (i := 352) (by decide +kernel)) rfl⟩
theorem jfX6_24 : jFld RX6 24 6 5 (.array (.array .long)) true := ⟨RX6, TX6, 7, tyX6, rfl, by decide, jinX6, tyX6_ok, nmX6, rfl, rfl, rfl, Or.inl (jWS_of (List.mem_of_getElem? (i := 354) (by decide +kernel)) rfl)⟩
theorem jgX6_24 : ∃ (C : String) (T : u_T) (N : Nat), vwCl[6]? = some (C, T, N) ∧ Cond.fieldLink RX6 24 C (T 5).2.1 (T 5).2.2.1 ∈ jWS := ⟨RX6, TX6, 7, rfl, jWS_of (List.mem_of_getElem? (i := 354) (by decide +kernel)) rfl⟩
theorem jfX6_27 : jFld RX6 27 6 0 (.int) true := ⟨RX6, TX6, 7, tyX6, rfl, by decide, jinX6, tyX6_ok, nmX6, rfl, rfl, rfl, Or.inl (jWS_of (List.mem_of_getElem? (i := 346) (by decide +kernel)) rfl)⟩
theorem jgX6_27 : ∃ (C : String) (T : u_T) (N : Nat), vwCl[6]? = some (C, T, N) ∧ Cond.fieldLink RX6 27 C (T 0).2.1 (T 0).2.2.1 ∈ jWS := ⟨RX6, TX6, 7, rfl, jWS_of (List.mem_of_getElem? (i := 346) (by decide +kernel)) rfl⟩
theorem jfX6_31 : jFld RX6 31 6 1 (.long) true := ⟨RX6, TX6, 7, tyX6, rfl, by decide, jinX6, tyX6_ok, nmX6, rfl, rfl, rfl, Or.inl (jWS_of (List.mem_of_getElem? (i := 347) (by decide +kernel)) rfl)⟩
theorem jgX6_31 : ∃ (C : String) (T : u_T) (N : Nat), vwCl[6]? = some (C, T, N) ∧ Cond.fieldLink RX6 31 C (T 1).2.1 (T 1).2.2.1 ∈ jWS := ⟨RX6, TX6, 7, rfl, jWS_of (List.mem_of_getElem? (i := 347) (by decide +kernel)) rfl⟩
theorem jfX6_35 : jFld RX6 35 6 6 (.boolean) false := ⟨RX6, TX6, 7, tyX6, rfl, by decide, jinX6, tyX6_ok, nmX6, rfl, rfl, rfl, Or.inl (jWS_of (List.mem_of_getElem? (i := 356) (by decide +kernel)) rfl)⟩
theorem jfX8_7 : jFld RX8 7 8 0 (.array .int) true := ⟨RX8, TX8, 31, tyX8, rfl, by decide, jinX8, tyX8_ok, nmX8, rfl, rfl, rfl, Or.inl (jWS_of (List.mem_of_getElem? (i := 640) (by decide +kernel)) rfl)⟩
theorem jgX8_7 : ∃ (C : String) (T : u_T) (N : Nat), vwCl[8]? = some (C, T, N) ∧ Cond.fieldLink RX8 7 C (T 0).2.1 (T 0).2.2.1 ∈ jWS := ⟨RX8, TX8, 31, rfl, jWS_of (List.mem_of_getElem? (i := 640) (by decide +kernel)) rfl⟩
theorem jfX8_13 : jFld RX8 13 8 2 (.array .int) true := ⟨RX8, TX8, 31, tyX8, rfl, by decide, jinX8, tyX8_ok, nmX8, rfl, rfl, rfl, Or.inl (jWS_of (List.mem_of_getElem? (i := 642) (by decide +kernel)) rfl)⟩
theorem jgX8_13 : ∃ (C : String) (T : u_T) (N : Nat), vwCl[8]? = some (C, T, N) ∧ Cond.fieldLink RX8 13 C (T 2).2.1 (T 2).2.2.1 ∈ jWS := ⟨RX8, TX8, 31, rfl, jWS_of (List.mem_of_getElem? (i := 642) (by decide +kernel)) rfl⟩
theorem jfX8_16 : jFld RX8 16 8 3 (.array .int) true := ⟨RX8, TX8, 31, tyX8, rfl, by decide, jinX8, tyX8_ok, nmX8, rfl, rfl, rfl, Or.inl (jWS_of (List.mem_of_getElem? (i := 643) (by decide +kernel)) rfl)⟩
theorem jgX8_16 : ∃ (C : String) (T : u_T) (N : Nat), vwCl[8]? = some (C, T, N) ∧ Cond.fieldLink RX8 16 C (T 3).2.1 (T 3).2.2.1 ∈ jWS := ⟨RX8, TX8, 31, rfl, jWS_of (List.mem_of_getElem? (i := 643) (by decide +kernel)) rfl⟩
theorem jfX8_19 : jFld RX8 19 8 7 (.array .long) true := ⟨RX8, TX8, 31, tyX8, rfl, by decide, jinX8, tyX8_ok, nmX8, rfl, rfl, rfl, Or.inl (jWS_of (List.mem_of_getElem? (i := 647) (by decide +kernel)) rfl)⟩
theorem jgX8_19 : ∃ (C : String) (T : u_T) (N : Nat), vwCl[8]? = some (C, T, N) ∧ Cond.fieldLink RX8 19 C (T 7).2.1 (T 7).2.2.1 ∈ jWS := ⟨RX8, TX8, 31, rfl, jWS_of (List.mem_of_getElem? (i := 647) (by decide +kernel)) rfl⟩
theorem jfX8_23 : jFld RX8 23 8 9 (.array .int) true := ⟨RX8, TX8, 31, tyX8, rfl, by decide, jinX8, tyX8_ok, nmX8, rfl, rfl, rfl, Or.inl (jWS_of (List.mem_of_getElem? (i := 649) (by decide +kernel)) rfl)⟩
theorem jgX8_23 : ∃ (C : String) (T : u_T) (N : Nat), vwCl[8]? = some (C, T, N) ∧ Cond.fieldLink RX8 23 C (T 9).2.1 (T 9).2.2.1 ∈ jWS := ⟨RX8, TX8, 31, rfl, jWS_of (List.mem_of_getElem? (i := 649) (by decide +kernel)) rfl⟩
theorem jfX8_26 : jFld RX8 26 8 10 (.array .long) true := ⟨RX8, TX8, 31, tyX8, rfl, by decide, jinX8, tyX8_ok, nmX8, rfl, rfl, rfl, Or.inl (jWS_of (List.mem_of_getElem? (i := 650) (by decide +kernel)) rfl)⟩
theorem jgX8_26 : ∃ (C : String) (T : u_T) (N : Nat), vwCl[8]? = some (C, T, N) ∧ Cond.fieldLink RX8 26 C (T 10).2.1 (T 10).2.2.1 ∈ jWS := ⟨RX8, TX8, 31, rfl, jWS_of (List.mem_of_getElem? (i := 650) (by decide +kernel)) rfl⟩
theorem jfX8_29 : jFld RX8 29 8 12 (.array .int) true := ⟨RX8, TX8, 31, tyX8, rfl, by decide, jinX8, tyX8_ok, nmX8, rfl, rfl, rfl, Or.inl (jWS_of (List.mem_of_getElem? (i := 652) (by decide +kernel)) rfl)⟩
theorem jgX8_29 : ∃ (C : String) (T : u_T) (N : Nat), vwCl[8]? = some (C, T, N) ∧ Cond.fieldLink RX8 29 C (T 12).2.1 (T 12).2.2.1 ∈ jWS := ⟨RX8, TX8, 31, rfl, jWS_of (List.mem_of_getElem? (i := 652) (by decide +kernel)) rfl⟩
theorem jfX8_32 : jFld RX8 32 8 13 (.array .long) true := ⟨RX8, TX8, 31, tyX8, rfl, by decide, jinX8, tyX8_ok, nmX8, rfl, rfl, rfl, Or.inl (jWS_of (List.mem_of_getElem? (i := 653) (by decide +kernel)) rfl)⟩
theorem jgX8_32 : ∃ (C : String) (T : u_T) (N : Nat), vwCl[8]? = some (C, T, N) ∧ Cond.fieldLink RX8 32 C (T 13).2.1 (T 13).2.2.1 ∈ jWS := ⟨RX8, TX8, 31, rfl, jWS_of (List.mem_of_getElem? (i := 653) (by decide +kernel)) rfl⟩
theorem jfX8_35 : jFld RX8 35 8 14 (.array .long) true := ⟨RX8, TX8, 31, tyX8, rfl, by decide, jinX8, tyX8_ok, nmX8, rfl, rfl, rfl, Or.inl (jWS_of (List.mem_of_getElem? (i := 654) (by decide +kernel)) rfl)⟩
theorem jgX8_35 : ∃ (C : String) (T : u_T) (N : Nat), vwCl[8]? = some (C, T, N) ∧ Cond.fieldLink RX8 35 C (T 14).2.1 (T 14).2.2.1 ∈ jWS := ⟨RX8, TX8, 31, rfl, jWS_of (List.mem_of_getElem? (i := 654) (by decide +kernel)) rfl⟩
theorem jfX8_38 : jFld RX8 38 8 15 (.array .int) true := ⟨RX8, TX8, 31, tyX8, rfl, by decide, jinX8, tyX8_ok, nmX8, rfl, rfl, rfl, Or.inl (jWS_of (List.mem_of_getElem? (i := 655) (by decide +kernel)) rfl)⟩
theorem jgX8_38 : ∃ (C : String) (T : u_T) (N : Nat), vwCl[8]? = some (C, T, N) ∧ Cond.fieldLink RX8 38 C (T 15).2.1 (T 15).2.2.1 ∈ jWS := ⟨RX8, TX8, 31, rfl, jWS_of (List.mem_of_getElem? (i := 655) (by decide +kernel)) rfl⟩
theorem jfX8_41 : jFld RX8 41 8 16 (.array .boolean) true := ⟨RX8, TX8, 31, tyX8, rfl, by decide, jinX8, tyX8_ok, nmX8, rfl, rfl, rfl, Or.inl (jWS_of (List.mem_of_getElem? (i := 656) (by decide +kernel)) rfl)⟩
theorem jgX8_41 : ∃ (C : String) (T : u_T) (N : Nat), vwCl[8]? = some (C, T, N) ∧ Cond.fieldLink RX8 41 C (T 16).2.1 (T 16).2.2.1 ∈ jWS := ⟨RX8, TX8, 31, rfl, jWS_of (List.mem_of_getElem? (i := 656) (by decide +kernel)) rfl⟩
theorem jfX8_45 : jFld RX8 45 8 17 (.array .long) true := ⟨RX8, TX8, 31, tyX8, rfl, by decide, jinX8, tyX8_ok, nmX8, rfl, rfl, rfl, Or.inl (jWS_of (List.mem_of_getElem? (i := 657) (by decide +kernel)) rfl)⟩
theorem jgX8_45 : ∃ (C : String) (T : u_T) (N : Nat), vwCl[8]? = some (C, T, N) ∧ Cond.fieldLink RX8 45 C (T 17).2.1 (T 17).2.2.1 ∈ jWS := ⟨RX8, TX8, 31, rfl, jWS_of (List.mem_of_getElem? (i := 657) (by decide +kernel)) rfl⟩
theorem jfX8_48 : jFld RX8 48 8 18 (.array .long) true := ⟨RX8, TX8, 31, tyX8, rfl, by decide, jinX8, tyX8_ok, nmX8, rfl, rfl, rfl, Or.inl (jWS_of (List.mem_of_getElem? (i := 658) (by decide +kernel)) rfl)⟩
theorem jgX8_48 : ∃ (C : String) (T : u_T) (N : Nat), vwCl[8]? = some (C, T, N) ∧ Cond.fieldLink RX8 48 C (T 18).2.1 (T 18).2.2.1 ∈ jWS := ⟨RX8, TX8, 31, rfl, jWS_of (List.mem_of_getElem? (i := 658) (by decide +kernel)) rfl⟩
theorem jfX8_51 : jFld RX8 51 8 19 (.array .long) true := ⟨RX8, TX8, 31, tyX8, rfl, by decide, jinX8, tyX8_ok, nmX8, rfl, rfl, rfl, Or.inl (jWS_of (List.mem_of_getElem? (i := 659) (by decide +kernel)) rfl)⟩
theorem jgX8_51 : ∃ (C : String) (T : u_T) (N : Nat), vwCl[8]? = some (C, T, N) ∧ Cond.fieldLink RX8 51 C (T 19).2.1 (T 19).2.2.1 ∈ jWS := ⟨RX8, TX8, 31, rfl, jWS_of (List.mem_of_getElem? (i := 659) (by decide +kernel)) rfl⟩
theorem jfX8_54 : jFld RX8 54 8 20 (.array .long) true := ⟨RX8, TX8, 31, tyX8, rfl, by decide, jinX8, tyX8_ok, nmX8, rfl, rfl, rfl, Or.inl (jWS_of (List.mem_of_getElem? (i := 660) (by decide +kernel)) rfl)⟩
theorem jgX8_54 : ∃ (C : String) (T : u_T) (N : Nat), vwCl[8]? = some (C, T, N) ∧ Cond.fieldLink RX8 54 C (T 20).2.1 (T 20).2.2.1 ∈ jWS := ⟨RX8, TX8, 31, rfl, jWS_of (List.mem_of_getElem? (i := 660) (by decide +kernel)) rfl⟩
theorem jfX8_57 : jFld RX8 57 8 21 (.array .long) true := ⟨RX8, TX8, 31, tyX8, rfl, by decide, jinX8, tyX8_ok, nmX8, rfl, rfl, rfl, Or.inl (jWS_of (List.mem_of_getElem? (i := 661) (by decide +kernel)) rfl)⟩
theorem jgX8_57 : ∃ (C : String) (T : u_T) (N : Nat), vwCl[8]? = some (C, T, N) ∧ Cond.fieldLink RX8 57 C (T 21).2.1 (T 21).2.2.1 ∈ jWS := ⟨RX8, TX8, 31, rfl, jWS_of (List.mem_of_getElem? (i := 661) (by decide +kernel)) rfl⟩
theorem jfX8_60 : jFld RX8 60 8 24 (.array .int) true := ⟨RX8, TX8, 31, tyX8, rfl, by decide, jinX8, tyX8_ok, nmX8, rfl, rfl, rfl, Or.inl (jWS_of (List.mem_of_getElem? (i := 664) (by decide +kernel)) rfl)⟩
theorem jgX8_60 : ∃ (C : String) (T : u_T) (N : Nat), vwCl[8]? = some (C, T, N) ∧ Cond.fieldLink RX8 60 C (T 24).2.1 (T 24).2.2.1 ∈ jWS := ⟨RX8, TX8, 31, rfl, jWS_of (List.mem_of_getElem? (i := 664) (by decide +kernel)) rfl⟩
theorem jfX8_63 : jFld RX8 63 8 25 (.array .int) true := ⟨RX8, TX8, 31, tyX8, rfl, by decide, jinX8, tyX8_ok, nmX8, rfl, rfl, rfl, Or.inl (jWS_of (List.mem_of_getElem? (i := 665) (by decide +kernel)) rfl)⟩
theorem jgX8_63 : ∃ (C : String) (T : u_T) (N : Nat), vwCl[8]? = some (C, T, N) ∧ Cond.fieldLink RX8 63 C (T 25).2.1 (T 25).2.2.1 ∈ jWS := ⟨RX8, TX8, 31, rfl, jWS_of (List.mem_of_getElem? (i := 665) (by decide +kernel)) rfl⟩
theorem jfX8_66 : jFld RX8 66 8 26 (.array .int) true := ⟨RX8, TX8, 31, tyX8, rfl, by decide, jinX8, tyX8_ok, nmX8, rfl, rfl, rfl, Or.inl (jWS_of (List.mem_of_getElem? (i := 666) (by decide +kernel)) rfl)⟩
theorem jgX8_66 : ∃ (C : String) (T : u_T) (N : Nat), vwCl[8]? = some (C, T, N) ∧ Cond.fieldLink RX8 66 C (T 26).2.1 (T 26).2.2.1 ∈ jWS := ⟨RX8, TX8, 31, rfl, jWS_of (List.mem_of_getElem? (i := 666) (by decide +kernel)) rfl⟩
theorem jfX8_69 : jFld RX8 69 8 27 (.array .int) true := ⟨RX8, TX8, 31, tyX8, rfl, by decide, jinX8, tyX8_ok, nmX8, rfl, rfl, rfl, Or.inl (jWS_of (List.mem_of_getElem? (i := 667) (by decide +kernel)) rfl)⟩
theorem jgX8_69 : ∃ (C : String) (T : u_T) (N : Nat), vwCl[8]? = some (C, T, N) ∧ Cond.fieldLink RX8 69 C (T 27).2.1 (T 27).2.2.1 ∈ jWS := ⟨RX8, TX8, 31, rfl, jWS_of (List.mem_of_getElem? (i := 667) (by decide +kernel)) rfl⟩
theorem jfX8_72 : jFld RX8 72 8 28 (.array .int) true := ⟨RX8, TX8, 31, tyX8, rfl, by decide, jinX8, tyX8_ok, nmX8, rfl, rfl, rfl, Or.inl (jWS_of (List.mem_of_getElem? (i := 668) (by decide +kernel)) rfl)⟩
theorem jgX8_72 : ∃ (C : String) (T : u_T) (N : Nat), vwCl[8]? = some (C, T, N) ∧ Cond.fieldLink RX8 72 C (T 28).2.1 (T 28).2.2.1 ∈ jWS := ⟨RX8, TX8, 31, rfl, jWS_of (List.mem_of_getElem? (i := 668) (by decide +kernel)) rfl⟩
theorem jfX8_75 : jFld RX8 75 8 29 (.array .long) true := ⟨RX8, TX8, 31, tyX8, rfl, by decide, jinX8, tyX8_ok, nmX8, rfl, rfl, rfl, Or.inl (jWS_of (List.mem_of_getElem? (i := 669) (by decide +kernel)) rfl)⟩
theorem jgX8_75 : ∃ (C : String) (T : u_T) (N : Nat), vwCl[8]? = some (C, T, N) ∧ Cond.fieldLink RX8 75 C (T 29).2.1 (T 29).2.2.1 ∈ jWS := ⟨RX8, TX8, 31, rfl, jWS_of (List.mem_of_getElem? (i := 669) (by decide +kernel)) rfl⟩
theorem jfX8_84 : jFld RX8 84 8 1 (.int) false := ⟨RX8, TX8, 31, tyX8, rfl, by decide, jinX8, tyX8_ok, nmX8, rfl, rfl, rfl, Or.inl (jWS_of (List.mem_of_getElem? (i := 641) (by decide +kernel)) rfl)⟩
theorem jfX8_88 : jFld RX8 88 8 4 (.int) false := ⟨RX8, TX8, 31, tyX8, rfl, by decide, jinX8, tyX8_ok, nmX8, rfl, rfl, rfl, Or.inl (jWS_of (List.mem_of_getElem? (i := 644) (by decide +kernel)) rfl)⟩
theorem jfX8_91 : jFld RX8 91 8 5 (.int) false := ⟨RX8, TX8, 31, tyX8, rfl, by decide, jinX8, tyX8_ok, nmX8, rfl, rfl, rfl, Or.inl (jWS_of (List.mem_of_getElem? (i := 645) (by decide +kernel)) rfl)⟩
theorem jfX8_98 : jFld RX8 98 8 6 (.int) false := ⟨RX8, TX8, 31, tyX8, rfl, by decide, jinX8, tyX8_ok, nmX8, rfl, rfl, rfl, Or.inl (jWS_of (List.mem_of_getElem? (i := 646) (by decide +kernel)) rfl)⟩
theorem jfX8_123 : jFld RX8 123 8 8 (.int) false := ⟨RX8, TX8, 31, tyX8, rfl, by decide, jinX8, tyX8_ok, nmX8, rfl, rfl, rfl, Or.inl (jWS_of (List.mem_of_getElem? (i := 648) (by decide +kernel)) rfl)⟩
theorem jfX8_126 : jFld RX8 126 8 11 (.int) false := ⟨RX8, TX8, 31, tyX8, rfl, by decide, jinX8, tyX8_ok, nmX8, rfl, rfl, rfl, Or.inl (jWS_of (List.mem_of_getElem? (i := 651) (by decide +kernel)) rfl)⟩
theorem jfX8_160 : jFld RX8 160 8 23 (.boolean) false := ⟨RX8, TX8, 31, tyX8, rfl, by decide, jinX8, tyX8_ok, nmX8, rfl, rfl, rfl, Or.inl (jWS_of (List.mem_of_getElem? (i := 663) (by decide +kernel)) rfl)⟩
theorem jfX8_166 : jFld RX8 166 8 30 (.int) false := ⟨RX8, TX8, 31, tyX8, rfl, by decide, jinX8, tyX8_ok, nmX8, rfl, rfl, rfl, Or.inl (jWS_of (List.mem_of_getElem? (i := 670) (by decide +kernel)) rfl)⟩
theorem jfX8_169 : jFld RX8 169 8 22 (.int) false := ⟨RX8, TX8, 31, tyX8, rfl, by decide, jinX8, tyX8_ok, nmX8, rfl, rfl, rfl, Or.inl (jWS_of (List.mem_of_getElem? (i := 662) (by decide +kernel)) rfl)⟩
theorem jfX7_81 : jFld RX7 81 1 1 (.array .long) true := ⟨RX1, TX1, 3, tyX1, rfl, by decide, jinX1, tyX1_ok, nmX1, rfl, rfl, rfl, Or.inr ⟨_, List.mem_of_getElem? (i := 4) rfl⟩⟩
theorem jfX7_97 : jFld RX7 97 6 2 (.array .long) true := ⟨RX6, TX6, 7, tyX6, rfl, by decide, jinX6, tyX6_ok, nmX6, rfl, rfl, rfl, Or.inr ⟨_, List.mem_of_getElem? (i := 18) rfl⟩⟩
theorem jfX7_100 : jFld RX7 100 6 3 (.array .int) true := ⟨RX6, TX6, 7, tyX6, rfl, by decide, jinX6, tyX6_ok, nmX6, rfl, rfl, rfl, Or.inr ⟨_, List.mem_of_getElem? (i := 19) rfl⟩⟩
theorem jfX7_117 : jFld RX7 117 6 4 (.array .long) true := ⟨RX6, TX6, 7, tyX6, rfl, by decide, jinX6, tyX6_ok, nmX6, rfl, rfl, rfl, Or.inr ⟨_, List.mem_of_getElem? (i := 20) rfl⟩⟩
theorem jfX7_120 : jFld RX7 120 6 5 (.array (.array .long)) true := ⟨RX6, TX6, 7, tyX6, rfl, by decide, jinX6, tyX6_ok, nmX6, rfl, rfl, rfl, Or.inr ⟨_, List.mem_of_getElem? (i := 21) rfl⟩⟩
theorem jfX7_163 : jFld RX7 163 6 6 (.boolean) false := ⟨RX6, TX6, 7, tyX6, rfl, by decide, jinX6, tyX6_ok, nmX6, rfl, rfl, rfl, Or.inr ⟨_, List.mem_of_getElem? (i := 22) rfl⟩⟩
theorem jfX0_50 : jFld RX0 50 2 2 (.int) false := ⟨RX2, TX2, 6, tyX2, rfl, by decide, jinX2, tyX2_ok, nmX2, rfl, rfl, rfl, Or.inr ⟨_, List.mem_of_getElem? (i := 11) rfl⟩⟩
theorem jfX0_65 : jFld RX0 65 2 3 (.int) false := ⟨RX2, TX2, 6, tyX2, rfl, by decide, jinX2, tyX2_ok, nmX2, rfl, rfl, rfl, Or.inr ⟨_, List.mem_of_getElem? (i := 12) rfl⟩⟩
theorem jfX0_98 : jFld RX0 98 2 4 (.int) false := ⟨RX2, TX2, 6, tyX2, rfl, by decide, jinX2, tyX2_ok, nmX2, rfl, rfl, rfl, Or.inr ⟨_, List.mem_of_getElem? (i := 13) rfl⟩⟩
theorem jfX0_101 : jFld RX0 101 2 5 (.int) false := ⟨RX2, TX2, 6, tyX2, rfl, by decide, jinX2, tyX2_ok, nmX2, rfl, rfl, rfl, Or.inr ⟨_, List.mem_of_getElem? (i := 14) rfl⟩⟩
theorem jfX4_46 : jFld RX4 46 5 4 (.int) false := ⟨RX5, TX5, 5, tyX5, rfl, by decide, jinX5, tyX5_ok, nmX5, rfl, rfl, rfl, Or.inr ⟨_, List.mem_of_getElem? (i := 1) rfl⟩⟩
theorem jfX6_55 : jFld RX6 55 1 2 (.int) false := ⟨RX1, TX1, 3, tyX1, rfl, by decide, jinX1, tyX1_ok, nmX1, rfl, rfl, rfl, Or.inr ⟨_, List.mem_of_getElem? (i := 6) rfl⟩⟩
theorem jfX6_60 : jFld RX6 60 4 3 (.array .int) true := ⟨RX4, TX4, 4, tyX4, rfl, by decide, jinX4, tyX4_ok, nmX4, rfl, rfl, rfl, Or.inr ⟨_, List.mem_of_getElem? (i := 17) rfl⟩⟩
theorem jfX6_65 : jFld RX6 65 1 0 (.array .int) true := ⟨RX1, TX1, 3, tyX1, rfl, by decide, jinX1, tyX1_ok, nmX1, rfl, rfl, rfl, Or.inr ⟨_, List.mem_of_getElem? (i := 3) rfl⟩⟩
theorem jfX6_103 : jFld RX6 103 3 1 (.array .long) true := ⟨RX3, TX3, 4, tyX3, rfl, by decide, jinX3, tyX3_ok, nmX3, rfl, rfl, rfl, Or.inr ⟨_, List.mem_of_getElem? (i := 8) rfl⟩⟩
theorem jfX6_108 : jFld RX6 108 4 2 (.array .int) true := ⟨RX4, TX4, 4, tyX4, rfl, by decide, jinX4, tyX4_ok, nmX4, rfl, rfl, rfl, Or.inr ⟨_, List.mem_of_getElem? (i := 16) rfl⟩⟩
theorem jfX6_115 : jFld RX6 115 1 1 (.array .long) true := ⟨RX1, TX1, 3, tyX1, rfl, by decide, jinX1, tyX1_ok, nmX1, rfl, rfl, rfl, Or.inr ⟨_, List.mem_of_getElem? (i := 5) rfl⟩⟩
theorem jfX6_118 : jFld RX6 118 4 1 (.array .int) true := ⟨RX4, TX4, 4, tyX4, rfl, by decide, jinX4, tyX4_ok, nmX4, rfl, rfl, rfl, Or.inr ⟨_, List.mem_of_getElem? (i := 15) rfl⟩⟩
theorem joX7_3 : Cond.methodLink RX7 3 objectInit ∈ jWS := jWS_of (List.mem_of_getElem? (i := 21) (by decide +kernel)) rfl
theorem jcX5_init : Cond.code yX5_init cX5_init 1 none ∈ jWS := jWS_of (List.mem_of_getElem? (i := 28) (by decide +kernel)) rfl
theorem jiX5_init : Cond.instanceMethod yX5_init ∈ jWS := jWS_of (List.mem_of_getElem? (i := 27) (by decide +kernel)) rfl
theorem jlX7_11 : j_li RX7 11 yX5_init cX5_init 1 0 := ⟨Or.inr ⟨jcX5_init, jitX5, ⟨_, List.mem_of_getElem? (i := 0) rfl⟩, by decide +kernel, by decide +kernel⟩, jiX5_init, rfl⟩
theorem jcX1_init : Cond.code yX1_init cX1_init 1 none ∈ jWS := jWS_of (List.mem_of_getElem? (i := 52) (by decide +kernel)) rfl
theorem jiX1_init : Cond.instanceMethod yX1_init ∈ jWS := jWS_of (List.mem_of_getElem? (i := 51) (by decide +kernel)) rfl
theorem jlX7_20 : j_li RX7 20 yX1_init cX1_init 1 0 := ⟨Or.inr ⟨jcX1_init, jitX1, ⟨_, List.mem_of_getElem? (i := 2) rfl⟩, by decide +kernel, by decide +kernel⟩, jiX1_init, rfl⟩
theorem jcX3_init : Cond.code yX3_init cX3_init 1 none ∈ jWS := jWS_of (List.mem_of_getElem? (i := 76) (by decide +kernel)) rfl
theorem jiX3_init : Cond.instanceMethod yX3_init ∈ jWS := jWS_of (List.mem_of_getElem? (i := 75) (by decide +kernel)) rfl
theorem jlX7_37 : j_li RX7 37 yX3_init cX3_init 1 0 := ⟨Or.inr ⟨jcX3_init, jitX3, ⟨_, List.mem_of_getElem? (i := 7) rfl⟩, by decide +kernel, by decide +kernel⟩, jiX3_init, rfl⟩
theorem jcX0_init : Cond.code yX0_init cX0_init 1 none ∈ jWS := jWS_of (List.mem_of_getElem? (i := 96) (by decide +kernel)) rfl
theorem jiX0_init : Cond.instanceMethod yX0_init ∈ jWS := jWS_of (List.mem_of_getElem? (i := 95) (by decide +kernel)) rfl
theorem jlX7_44 : j_li RX7 44 yX0_init cX0_init 1 0 := ⟨Or.inr ⟨jcX0_init, jitX0, ⟨_, List.mem_of_getElem? (i := 9) rfl⟩, by decide +kernel, by decide +kernel⟩, jiX0_init, rfl⟩
theorem jcX4_init : Cond.code yX4_init cX4_init 1 none ∈ jWS := jWS_of (List.mem_of_getElem? (i := 148) (by decide +kernel)) rfl
theorem jiX4_init : Cond.instanceMethod yX4_init ∈ jWS := jWS_of (List.mem_of_getElem? (i := 147) (by decide +kernel)) rfl
theorem jlX7_51 : j_li RX7 51 yX4_init cX4_init 1 0 := ⟨Or.inl ⟨jcX4_init, jitX4, jWS_of (List.mem_of_getElem? (i := 146) (by decide +kernel)) rfl, by decide +kernel, by decide +kernel⟩, jiX4_init, rfl⟩
theorem jcX5_append : Cond.code yX5_append cX5_append 2 (some FieldType.boolean) ∈ jWS := jWS_of (List.mem_of_getElem? (i := 208) (by decide +kernel)) rfl
theorem jiX5_append : Cond.instanceMethod yX5_append ∈ jWS := jWS_of (List.mem_of_getElem? (i := 206) (by decide +kernel)) rfl
theorem jvX5_append : Cond.selects yX5_append.cls yX5_append yX5_append ∈ jWS := jWS_of (List.mem_of_getElem? (i := 207) (by decide +kernel)) rfl
theorem jlX7_59 : j_lv2 RX7 59 yX5_append cX5_append 2 (some FieldType.boolean) 1 := ⟨⟨jcX5_append, jitX5, jWS_of (List.mem_of_getElem? (i := 205) (by decide +kernel)) rfl, by decide +kernel, by decide +kernel⟩, jiX5_append, jvX5_append⟩
theorem jcX4_takeText : Cond.code yX4_takeText cX4_takeText 3 (some FieldType.int) ∈ jWS := jWS_of (List.mem_of_getElem? (i := 216) (by decide +kernel)) rfl
theorem jiX4_takeText : Cond.instanceMethod yX4_takeText ∈ jWS := jWS_of (List.mem_of_getElem? (i := 214) (by decide +kernel)) rfl
theorem jvX4_takeText : Cond.selects yX4_takeText.cls yX4_takeText yX4_takeText ∈ jWS := jWS_of (List.mem_of_getElem? (i := 215) (by decide +kernel)) rfl
theorem jlX7_63 : j_lv2 RX7 63 yX4_takeText cX4_takeText 3 (some FieldType.int) 1 := ⟨⟨jcX4_takeText, jitX4, jWS_of (List.mem_of_getElem? (i := 213) (by decide +kernel)) rfl, by decide +kernel, by decide +kernel⟩, jiX4_takeText, jvX4_takeText⟩
theorem jcX5_empty : Cond.code yX5_empty cX5_empty 1 none ∈ jWS := jWS_of (List.mem_of_getElem? (i := 312) (by decide +kernel)) rfl
theorem jiX5_empty : Cond.instanceMethod yX5_empty ∈ jWS := jWS_of (List.mem_of_getElem? (i := 310) (by decide +kernel)) rfl
theorem jvX5_empty : Cond.selects yX5_empty.cls yX5_empty yX5_empty ∈ jWS := jWS_of (List.mem_of_getElem? (i := 311) (by decide +kernel)) rfl
theorem jlX7_67 : j_lv2 RX7 67 yX5_empty cX5_empty 1 none 0 := ⟨⟨jcX5_empty, jitX5, jWS_of (List.mem_of_getElem? (i := 309) (by decide +kernel)) rfl, by decide +kernel, by decide +kernel⟩, jiX5_empty, jvX5_empty⟩
theorem jcX1_join : Cond.code yX1_join cX1_join 2 (some FieldType.int) ∈ jWS := jWS_of (List.mem_of_getElem? (i := 321) (by decide +kernel)) rfl
theorem jiX1_join : Cond.instanceMethod yX1_join ∈ jWS := jWS_of (List.mem_of_getElem? (i := 319) (by decide +kernel)) rfl
theorem jvX1_join : Cond.selects yX1_join.cls yX1_join yX1_join ∈ jWS := jWS_of (List.mem_of_getElem? (i := 320) (by decide +kernel)) rfl
theorem jlX7_70 : j_lv2 RX7 70 yX1_join cX1_join 2 (some FieldType.int) 1 := ⟨⟨jcX1_join, jitX1, jWS_of (List.mem_of_getElem? (i := 318) (by decide +kernel)) rfl, by decide +kernel, by decide +kernel⟩, jiX1_join, jvX1_join⟩
theorem jcX1_has : Cond.code yX1_has cX1_has 2 (some FieldType.boolean) ∈ jWS := jWS_of (List.mem_of_getElem? (i := 329) (by decide +kernel)) rfl
theorem jiX1_has : Cond.instanceMethod yX1_has ∈ jWS := jWS_of (List.mem_of_getElem? (i := 327) (by decide +kernel)) rfl
theorem jvX1_has : Cond.selects yX1_has.cls yX1_has yX1_has ∈ jWS := jWS_of (List.mem_of_getElem? (i := 328) (by decide +kernel)) rfl
theorem jlX7_74 : j_lv2 RX7 74 yX1_has cX1_has 2 (some FieldType.boolean) 1 := ⟨⟨jcX1_has, jitX1, jWS_of (List.mem_of_getElem? (i := 326) (by decide +kernel)) rfl, by decide +kernel, by decide +kernel⟩, jiX1_has, jvX1_has⟩
theorem jcX7_areCents : Cond.code yX7_areCents cX7_areCents 2 (some FieldType.boolean) ∈ jWS := jWS_of (List.mem_of_getElem? (i := 332) (by decide +kernel)) rfl
theorem jsX7_areCents : Cond.static yX7_areCents ∈ jWS := jWS_of (List.mem_of_getElem? (i := 331) (by decide +kernel)) rfl
theorem jlX7_77 : j_ls RX7 77 yX7_areCents cX7_areCents 2 (some FieldType.boolean) 1 := ⟨⟨jcX7_areCents, jitX7, jWS_of (List.mem_of_getElem? (i := 330) (by decide +kernel)) rfl, by decide +kernel, by decide +kernel⟩, jsX7_areCents⟩
theorem jcX6_init : Cond.code yX6_init cX6_init 4 none ∈ jWS := jWS_of (List.mem_of_getElem? (i := 342) (by decide +kernel)) rfl
theorem jiX6_init : Cond.instanceMethod yX6_init ∈ jWS := jWS_of (List.mem_of_getElem? (i := 341) (by decide +kernel)) rfl
theorem jlX7_90 : j_li RX7 90 yX6_init cX6_init 4 2 := ⟨Or.inl ⟨jcX6_init, jitX6, jWS_of (List.mem_of_getElem? (i := 340) (by decide +kernel)) rfl, by decide +kernel, by decide +kernel⟩, jiX6_init, rfl⟩
theorem jcX7_tripToSettle : Cond.code yX7_tripToSettle cX7_tripToSettle 3 (some (FieldType.object "CrewShares$Trip")) ∈ jWS := jWS_of (List.mem_of_getElem? (i := 380) (by decide +kernel)) rfl
theorem jiX7_tripToSettle : Cond.instanceMethod yX7_tripToSettle ∈ jWS := jWS_of (List.mem_of_getElem? (i := 379) (by decide +kernel)) rfl
theorem jvX7_tripToSettle : Cond.selects yX7_tripToSettle.cls yX7_tripToSettle yX7_tripToSettle ∈ jWS := jWS_sel (List.mem_of_getElem? (i := 3) (by decide +kernel)) rfl
theorem jlX7_93 : j_lv2 RX7 93 yX7_tripToSettle cX7_tripToSettle 3 (some (FieldType.object "CrewShares$Trip")) 1 := ⟨⟨jcX7_tripToSettle, jitX7, jWS_of (List.mem_of_getElem? (i := 377) (by decide +kernel)) rfl, by decide +kernel, by decide +kernel⟩, jiX7_tripToSettle, jvX7_tripToSettle⟩
theorem jcX6_shareOut : Cond.code yX6_shareOut cX6_shareOut 6 none ∈ jWS := jWS_of (List.mem_of_getElem? (i := 396) (by decide +kernel)) rfl
theorem jiX6_shareOut : Cond.instanceMethod yX6_shareOut ∈ jWS := jWS_of (List.mem_of_getElem? (i := 394) (by decide +kernel)) rfl
theorem jvX6_shareOut : Cond.selects yX6_shareOut.cls yX6_shareOut yX6_shareOut ∈ jWS := jWS_of (List.mem_of_getElem? (i := 395) (by decide +kernel)) rfl
theorem jlX7_104 : j_lv2 RX7 104 yX6_shareOut cX6_shareOut 6 none 4 := ⟨⟨jcX6_shareOut, jitX6, jWS_of (List.mem_of_getElem? (i := 393) (by decide +kernel)) rfl, by decide +kernel, by decide +kernel⟩, jiX6_shareOut, jvX6_shareOut⟩
theorem jcX6_countAboard : Cond.code yX6_countAboard cX6_countAboard 3 (some FieldType.int) ∈ jWS := jWS_of (List.mem_of_getElem? (i := 467) (by decide +kernel)) rfl
theorem jiX6_countAboard : Cond.instanceMethod yX6_countAboard ∈ jWS := jWS_of (List.mem_of_getElem? (i := 465) (by decide +kernel)) rfl
theorem jvX6_countAboard : Cond.selects yX6_countAboard.cls yX6_countAboard yX6_countAboard ∈ jWS := jWS_of (List.mem_of_getElem? (i := 466) (by decide +kernel)) rfl
theorem jlX7_108 : j_lv2 RX7 108 yX6_countAboard cX6_countAboard 3 (some FieldType.int) 0 := ⟨⟨jcX6_countAboard, jitX6, jWS_of (List.mem_of_getElem? (i := 464) (by decide +kernel)) rfl, by decide +kernel, by decide +kernel⟩, jiX6_countAboard, jvX6_countAboard⟩
theorem jcX7_settledTrip : Cond.code yX7_settledTrip cX7_settledTrip 3 (some (FieldType.object "CrewShares$Trip")) ∈ jWS := jWS_of (List.mem_of_getElem? (i := 475) (by decide +kernel)) rfl
theorem jiX7_settledTrip : Cond.instanceMethod yX7_settledTrip ∈ jWS := jWS_of (List.mem_of_getElem? (i := 474) (by decide +kernel)) rfl
theorem jvX7_settledTrip : Cond.selects yX7_settledTrip.cls yX7_settledTrip yX7_settledTrip ∈ jWS := jWS_sel (List.mem_of_getElem? (i := 16) (by decide +kernel)) rfl
theorem jlX7_112 : j_lv2 RX7 112 yX7_settledTrip cX7_settledTrip 3 (some (FieldType.object "CrewShares$Trip")) 1 := ⟨⟨jcX7_settledTrip, jitX7, jWS_of (List.mem_of_getElem? (i := 472) (by decide +kernel)) rfl, by decide +kernel, by decide +kernel⟩, jiX7_settledTrip, jvX7_settledTrip⟩
theorem jcX6_isEven : Cond.code yX6_isEven cX6_isEven 6 (some FieldType.boolean) ∈ jWS := jWS_of (List.mem_of_getElem? (i := 493) (by decide +kernel)) rfl
theorem jiX6_isEven : Cond.instanceMethod yX6_isEven ∈ jWS := jWS_of (List.mem_of_getElem? (i := 491) (by decide +kernel)) rfl
theorem jvX6_isEven : Cond.selects yX6_isEven.cls yX6_isEven yX6_isEven ∈ jWS := jWS_of (List.mem_of_getElem? (i := 492) (by decide +kernel)) rfl
theorem jlX7_126 : j_lv2 RX7 126 yX6_isEven cX6_isEven 6 (some FieldType.boolean) 0 := ⟨⟨jcX6_isEven, jitX6, jWS_of (List.mem_of_getElem? (i := 490) (by decide +kernel)) rfl, by decide +kernel, by decide +kernel⟩, jiX6_isEven, jvX6_isEven⟩
theorem jcX0_begin : Cond.code yX0_begin cX0_begin 2 (some FieldType.boolean) ∈ jWS := jWS_of (List.mem_of_getElem? (i := 501) (by decide +kernel)) rfl
theorem jiX0_begin : Cond.instanceMethod yX0_begin ∈ jWS := jWS_of (List.mem_of_getElem? (i := 499) (by decide +kernel)) rfl
theorem jvX0_begin : Cond.selects yX0_begin.cls yX0_begin yX0_begin ∈ jWS := jWS_of (List.mem_of_getElem? (i := 500) (by decide +kernel)) rfl
theorem jlX7_130 : j_lv2 RX7 130 yX0_begin cX0_begin 2 (some FieldType.boolean) 1 := ⟨⟨jcX0_begin, jitX0, jWS_of (List.mem_of_getElem? (i := 498) (by decide +kernel)) rfl, by decide +kernel, by decide +kernel⟩, jiX0_begin, jvX0_begin⟩
theorem jcX0_addRow : Cond.code yX0_addRow cX0_addRow 4 (some FieldType.int) ∈ jWS := jWS_of (List.mem_of_getElem? (i := 528) (by decide +kernel)) rfl
theorem jiX0_addRow : Cond.instanceMethod yX0_addRow ∈ jWS := jWS_of (List.mem_of_getElem? (i := 526) (by decide +kernel)) rfl
theorem jvX0_addRow : Cond.selects yX0_addRow.cls yX0_addRow yX0_addRow ∈ jWS := jWS_of (List.mem_of_getElem? (i := 527) (by decide +kernel)) rfl
theorem jlX7_133 : j_lv2 RX7 133 yX0_addRow cX0_addRow 4 (some FieldType.int) 2 := ⟨⟨jcX0_addRow, jitX0, jWS_of (List.mem_of_getElem? (i := 525) (by decide +kernel)) rfl, by decide +kernel, by decide +kernel⟩, jiX0_addRow, jvX0_addRow⟩
theorem jcX0_takeIn : Cond.code yX0_takeIn cX0_takeIn 2 (some FieldType.int) ∈ jWS := jWS_of (List.mem_of_getElem? (i := 550) (by decide +kernel)) rfl
theorem jiX0_takeIn : Cond.instanceMethod yX0_takeIn ∈ jWS := jWS_of (List.mem_of_getElem? (i := 548) (by decide +kernel)) rfl
theorem jvX0_takeIn : Cond.selects yX0_takeIn.cls yX0_takeIn yX0_takeIn ∈ jWS := jWS_of (List.mem_of_getElem? (i := 549) (by decide +kernel)) rfl
theorem jlX7_137 : j_lv2 RX7 137 yX0_takeIn cX0_takeIn 2 (some FieldType.int) 0 := ⟨⟨jcX0_takeIn, jitX0, jWS_of (List.mem_of_getElem? (i := 547) (by decide +kernel)) rfl, by decide +kernel, by decide +kernel⟩, jiX0_takeIn, jvX0_takeIn⟩
theorem jcX0_giveUp : Cond.code yX0_giveUp cX0_giveUp 1 (some FieldType.int) ∈ jWS := jWS_of (List.mem_of_getElem? (i := 566) (by decide +kernel)) rfl
theorem jiX0_giveUp : Cond.instanceMethod yX0_giveUp ∈ jWS := jWS_of (List.mem_of_getElem? (i := 564) (by decide +kernel)) rfl
theorem jvX0_giveUp : Cond.selects yX0_giveUp.cls yX0_giveUp yX0_giveUp ∈ jWS := jWS_of (List.mem_of_getElem? (i := 565) (by decide +kernel)) rfl
theorem jlX7_140 : j_lv2 RX7 140 yX0_giveUp cX0_giveUp 1 (some FieldType.int) 0 := ⟨⟨jcX0_giveUp, jitX0, jWS_of (List.mem_of_getElem? (i := 563) (by decide +kernel)) rfl, by decide +kernel, by decide +kernel⟩, jiX0_giveUp, jvX0_giveUp⟩
theorem jcX0_closeUpTo : Cond.code yX0_closeUpTo cX0_closeUpTo 3 (some FieldType.int) ∈ jWS := jWS_of (List.mem_of_getElem? (i := 574) (by decide +kernel)) rfl
theorem jiX0_closeUpTo : Cond.instanceMethod yX0_closeUpTo ∈ jWS := jWS_of (List.mem_of_getElem? (i := 572) (by decide +kernel)) rfl
theorem jvX0_closeUpTo : Cond.selects yX0_closeUpTo.cls yX0_closeUpTo yX0_closeUpTo ∈ jWS := jWS_of (List.mem_of_getElem? (i := 573) (by decide +kernel)) rfl
theorem jlX7_143 : j_lv2 RX7 143 yX0_closeUpTo cX0_closeUpTo 3 (some FieldType.int) 1 := ⟨⟨jcX0_closeUpTo, jitX0, jWS_of (List.mem_of_getElem? (i := 571) (by decide +kernel)) rfl, by decide +kernel, by decide +kernel⟩, jiX0_closeUpTo, jvX0_closeUpTo⟩
theorem jcX0_takeBack : Cond.code yX0_takeBack cX0_takeBack 5 (some FieldType.int) ∈ jWS := jWS_of (List.mem_of_getElem? (i := 586) (by decide +kernel)) rfl
theorem jiX0_takeBack : Cond.instanceMethod yX0_takeBack ∈ jWS := jWS_of (List.mem_of_getElem? (i := 584) (by decide +kernel)) rfl
theorem jvX0_takeBack : Cond.selects yX0_takeBack.cls yX0_takeBack yX0_takeBack ∈ jWS := jWS_of (List.mem_of_getElem? (i := 585) (by decide +kernel)) rfl
theorem jlX7_146 : j_lv2 RX7 146 yX0_takeBack cX0_takeBack 5 (some FieldType.int) 2 := ⟨⟨jcX0_takeBack, jitX0, jWS_of (List.mem_of_getElem? (i := 583) (by decide +kernel)) rfl, by decide +kernel, by decide +kernel⟩, jiX0_takeBack, jvX0_takeBack⟩
theorem jcX0_totalOf : Cond.code yX0_totalOf cX0_totalOf 7 (some FieldType.long) ∈ jWS := jWS_of (List.mem_of_getElem? (i := 611) (by decide +kernel)) rfl
theorem jiX0_totalOf : Cond.instanceMethod yX0_totalOf ∈ jWS := jWS_of (List.mem_of_getElem? (i := 609) (by decide +kernel)) rfl
theorem jvX0_totalOf : Cond.selects yX0_totalOf.cls yX0_totalOf yX0_totalOf ∈ jWS := jWS_of (List.mem_of_getElem? (i := 610) (by decide +kernel)) rfl
theorem jlX7_150 : j_lv2 RX7 150 yX0_totalOf cX0_totalOf 7 (some FieldType.long) 2 := ⟨⟨jcX0_totalOf, jitX0, jWS_of (List.mem_of_getElem? (i := 608) (by decide +kernel)) rfl, by decide +kernel, by decide +kernel⟩, jiX0_totalOf, jvX0_totalOf⟩
theorem jcX0_tell : Cond.code yX0_tell cX0_tell 5 (some FieldType.long) ∈ jWS := jWS_of (List.mem_of_getElem? (i := 624) (by decide +kernel)) rfl
theorem jiX0_tell : Cond.instanceMethod yX0_tell ∈ jWS := jWS_of (List.mem_of_getElem? (i := 622) (by decide +kernel)) rfl
theorem jvX0_tell : Cond.selects yX0_tell.cls yX0_tell yX0_tell ∈ jWS := jWS_of (List.mem_of_getElem? (i := 623) (by decide +kernel)) rfl
theorem jlX7_154 : j_lv2 RX7 154 yX0_tell cX0_tell 5 (some FieldType.long) 3 := ⟨⟨jcX0_tell, jitX0, jWS_of (List.mem_of_getElem? (i := 621) (by decide +kernel)) rfl, by decide +kernel, by decide +kernel⟩, jiX0_tell, jvX0_tell⟩
theorem jcX7_tripAt : Cond.code yX7_tripAt cX7_tripAt 2 (some (FieldType.object "CrewShares$Trip")) ∈ jWS := jWS_of (List.mem_of_getElem? (i := 384) (by decide +kernel)) rfl
theorem jiX7_tripAt : Cond.instanceMethod yX7_tripAt ∈ jWS := jWS_of (List.mem_of_getElem? (i := 383) (by decide +kernel)) rfl
theorem jvX7_tripAt : Cond.selects yX7_tripAt.cls yX7_tripAt yX7_tripAt ∈ jWS := jWS_sel (List.mem_of_getElem? (i := 4) (by decide +kernel)) rfl
theorem jlX7_160 : j_lv2 RX7 160 yX7_tripAt cX7_tripAt 2 (some (FieldType.object "CrewShares$Trip")) 1 := ⟨⟨jcX7_tripAt, jitX7, jWS_of (List.mem_of_getElem? (i := 381) (by decide +kernel)) rfl, by decide +kernel, by decide +kernel⟩, jiX7_tripAt, jvX7_tripAt⟩
theorem joX0_3 : Cond.methodLink RX0 3 objectInit ∈ jWS := jWS_of (List.mem_of_getElem? (i := 97) (by decide +kernel)) rfl
theorem jcX2_init : Cond.code yX2_init cX2_init 1 none ∈ jWS := jWS_of (List.mem_of_getElem? (i := 103) (by decide +kernel)) rfl
theorem jiX2_init : Cond.instanceMethod yX2_init ∈ jWS := jWS_of (List.mem_of_getElem? (i := 102) (by decide +kernel)) rfl
theorem jlX0_17 : j_li RX0 17 yX2_init cX2_init 1 0 := ⟨Or.inr ⟨jcX2_init, jitX2, ⟨_, List.mem_of_getElem? (i := 10) rfl⟩, by decide +kernel, by decide +kernel⟩, jiX2_init, rfl⟩
theorem jcX0_takesDay : Cond.code yX0_takesDay cX0_takesDay 2 (some FieldType.boolean) ∈ jWS := jWS_of (List.mem_of_getElem? (i := 505) (by decide +kernel)) rfl
theorem jiX0_takesDay : Cond.instanceMethod yX0_takesDay ∈ jWS := jWS_of (List.mem_of_getElem? (i := 504) (by decide +kernel)) rfl
theorem jvX0_takesDay : Cond.selects yX0_takesDay.cls yX0_takesDay yX0_takesDay ∈ jWS := jWS_sel (List.mem_of_getElem? (i := 17) (by decide +kernel)) rfl
theorem jlX0_26 : j_lv2 RX0 26 yX0_takesDay cX0_takesDay 2 (some FieldType.boolean) 1 := ⟨⟨jcX0_takesDay, jitX0, jWS_of (List.mem_of_getElem? (i := 502) (by decide +kernel)) rfl, by decide +kernel, by decide +kernel⟩, jiX0_takesDay, jvX0_takesDay⟩
theorem jcX0_isFull : Cond.code yX0_isFull cX0_isFull 1 (some FieldType.boolean) ∈ jWS := jWS_of (List.mem_of_getElem? (i := 516) (by decide +kernel)) rfl
theorem jiX0_isFull : Cond.instanceMethod yX0_isFull ∈ jWS := jWS_of (List.mem_of_getElem? (i := 515) (by decide +kernel)) rfl
theorem jvX0_isFull : Cond.selects yX0_isFull.cls yX0_isFull yX0_isFull ∈ jWS := jWS_sel (List.mem_of_getElem? (i := 19) (by decide +kernel)) rfl
theorem jlX0_30 : j_lv2 RX0 30 yX0_isFull cX0_isFull 1 (some FieldType.boolean) 0 := ⟨⟨jcX0_isFull, jitX0, jWS_of (List.mem_of_getElem? (i := 513) (by decide +kernel)) rfl, by decide +kernel, by decide +kernel⟩, jiX0_isFull, jvX0_isFull⟩
theorem jcX2_startOn : Cond.code yX2_startOn cX2_startOn 2 none ∈ jWS := jWS_of (List.mem_of_getElem? (i := 520) (by decide +kernel)) rfl
theorem jiX2_startOn : Cond.instanceMethod yX2_startOn ∈ jWS := jWS_of (List.mem_of_getElem? (i := 518) (by decide +kernel)) rfl
theorem jvX2_startOn : Cond.selects yX2_startOn.cls yX2_startOn yX2_startOn ∈ jWS := jWS_of (List.mem_of_getElem? (i := 519) (by decide +kernel)) rfl
theorem jlX0_34 : j_lv2 RX0 34 yX2_startOn cX2_startOn 2 none 1 := ⟨⟨jcX2_startOn, jitX2, jWS_of (List.mem_of_getElem? (i := 517) (by decide +kernel)) rfl, by decide +kernel, by decide +kernel⟩, jiX2_startOn, jvX2_startOn⟩
theorem jcX0_isAccount : Cond.code yX0_isAccount cX0_isAccount 1 (some FieldType.boolean) ∈ jWS := jWS_of (List.mem_of_getElem? (i := 531) (by decide +kernel)) rfl
theorem jsX0_isAccount : Cond.static yX0_isAccount ∈ jWS := jWS_of (List.mem_of_getElem? (i := 530) (by decide +kernel)) rfl
theorem jlX0_38 : j_ls RX0 38 yX0_isAccount cX0_isAccount 1 (some FieldType.boolean) 1 := ⟨⟨jcX0_isAccount, jitX0, jWS_of (List.mem_of_getElem? (i := 529) (by decide +kernel)) rfl, by decide +kernel, by decide +kernel⟩, jsX0_isAccount⟩
theorem jcX2_isFull : Cond.code yX2_isFull cX2_isFull 1 (some FieldType.boolean) ∈ jWS := jWS_of (List.mem_of_getElem? (i := 537) (by decide +kernel)) rfl
theorem jiX2_isFull : Cond.instanceMethod yX2_isFull ∈ jWS := jWS_of (List.mem_of_getElem? (i := 535) (by decide +kernel)) rfl
theorem jvX2_isFull : Cond.selects yX2_isFull.cls yX2_isFull yX2_isFull ∈ jWS := jWS_of (List.mem_of_getElem? (i := 536) (by decide +kernel)) rfl
theorem jlX0_45 : j_lv2 RX0 45 yX2_isFull cX2_isFull 1 (some FieldType.boolean) 0 := ⟨⟨jcX2_isFull, jitX2, jWS_of (List.mem_of_getElem? (i := 534) (by decide +kernel)) rfl, by decide +kernel, by decide +kernel⟩, jiX2_isFull, jvX2_isFull⟩
theorem jcX2_add : Cond.code yX2_add cX2_add 4 none ∈ jWS := jWS_of (List.mem_of_getElem? (i := 541) (by decide +kernel)) rfl
theorem jiX2_add : Cond.instanceMethod yX2_add ∈ jWS := jWS_of (List.mem_of_getElem? (i := 539) (by decide +kernel)) rfl
theorem jvX2_add : Cond.selects yX2_add.cls yX2_add yX2_add ∈ jWS := jWS_of (List.mem_of_getElem? (i := 540) (by decide +kernel)) rfl
theorem jlX0_46 : j_lv2 RX0 46 yX2_add cX2_add 4 none 2 := ⟨⟨jcX2_add, jitX2, jWS_of (List.mem_of_getElem? (i := 538) (by decide +kernel)) rfl, by decide +kernel, by decide +kernel⟩, jiX2_add, jvX2_add⟩
theorem jcX2_total : Cond.code yX2_total cX2_total 4 (some FieldType.long) ∈ jWS := jWS_of (List.mem_of_getElem? (i := 554) (by decide +kernel)) rfl
theorem jiX2_total : Cond.instanceMethod yX2_total ∈ jWS := jWS_of (List.mem_of_getElem? (i := 552) (by decide +kernel)) rfl
theorem jvX2_total : Cond.selects yX2_total.cls yX2_total yX2_total ∈ jWS := jWS_of (List.mem_of_getElem? (i := 553) (by decide +kernel)) rfl
theorem jlX0_54 : j_lv2 RX0 54 yX2_total cX2_total 4 (some FieldType.long) 0 := ⟨⟨jcX2_total, jitX2, jWS_of (List.mem_of_getElem? (i := 551) (by decide +kernel)) rfl, by decide +kernel, by decide +kernel⟩, jiX2_total, jvX2_total⟩
theorem jcX0_putIn : Cond.code yX0_putIn cX0_putIn 2 (some FieldType.int) ∈ jWS := jWS_of (List.mem_of_getElem? (i := 558) (by decide +kernel)) rfl
theorem jiX0_putIn : Cond.instanceMethod yX0_putIn ∈ jWS := jWS_of (List.mem_of_getElem? (i := 557) (by decide +kernel)) rfl
theorem jvX0_putIn : Cond.selects yX0_putIn.cls yX0_putIn yX0_putIn ∈ jWS := jWS_sel (List.mem_of_getElem? (i := 20) (by decide +kernel)) rfl
theorem jlX0_58 : j_lv2 RX0 58 yX0_putIn cX0_putIn 2 (some FieldType.int) 1 := ⟨⟨jcX0_putIn, jitX0, jWS_of (List.mem_of_getElem? (i := 555) (by decide +kernel)) rfl, by decide +kernel, by decide +kernel⟩, jiX0_putIn, jvX0_putIn⟩
theorem jcX0_isMonth : Cond.code yX0_isMonth cX0_isMonth 1 (some FieldType.boolean) ∈ jWS := jWS_of (List.mem_of_getElem? (i := 577) (by decide +kernel)) rfl
theorem jsX0_isMonth : Cond.static yX0_isMonth ∈ jWS := jWS_of (List.mem_of_getElem? (i := 576) (by decide +kernel)) rfl
theorem jlX0_62 : j_ls RX0 62 yX0_isMonth cX0_isMonth 1 (some FieldType.boolean) 1 := ⟨⟨jcX0_isMonth, jitX0, jWS_of (List.mem_of_getElem? (i := 575) (by decide +kernel)) rfl, by decide +kernel, by decide +kernel⟩, jsX0_isMonth⟩
theorem jcX0_monthOf : Cond.code yX0_monthOf cX0_monthOf 1 (some FieldType.int) ∈ jWS := jWS_of (List.mem_of_getElem? (i := 512) (by decide +kernel)) rfl
theorem jsX0_monthOf : Cond.static yX0_monthOf ∈ jWS := jWS_of (List.mem_of_getElem? (i := 511) (by decide +kernel)) rfl
theorem jlX0_68 : j_ls RX0 68 yX0_monthOf cX0_monthOf 1 (some FieldType.int) 1 := ⟨⟨jcX0_monthOf, jitX0, jWS_of (List.mem_of_getElem? (i := 510) (by decide +kernel)) rfl, by decide +kernel, by decide +kernel⟩, jsX0_monthOf⟩
theorem jmX0_75 : Cond.methodLink RX0 75 Lib.Math.max.name ∈ jWS := jWS_of (List.mem_of_getElem? (i := 578) (by decide +kernel)) rfl
theorem jms_maxI : Cond.static Lib.Math.max.name ∈ jWS := jWS_of (List.mem_of_getElem? (i := 294) (by decide +kernel)) rfl
theorem jmc_maxI : Cond.code Lib.Math.max.name Lib.Math.max.code 2 (some .int) ∈ jWS := jWS_of (List.mem_of_getElem? (i := 295) (by decide +kernel)) rfl
theorem jcX0_entryAt : Cond.code yX0_entryAt cX0_entryAt 2 (some (FieldType.object "CrewShares$Entry")) ∈ jWS := jWS_of (List.mem_of_getElem? (i := 590) (by decide +kernel)) rfl
theorem jiX0_entryAt : Cond.instanceMethod yX0_entryAt ∈ jWS := jWS_of (List.mem_of_getElem? (i := 589) (by decide +kernel)) rfl
theorem jvX0_entryAt : Cond.selects yX0_entryAt.cls yX0_entryAt yX0_entryAt ∈ jWS := jWS_sel (List.mem_of_getElem? (i := 21) (by decide +kernel)) rfl
theorem jlX0_81 : j_lv2 RX0 81 yX0_entryAt cX0_entryAt 2 (some (FieldType.object "CrewShares$Entry")) 1 := ⟨⟨jcX0_entryAt, jitX0, jWS_of (List.mem_of_getElem? (i := 587) (by decide +kernel)) rfl, by decide +kernel, by decide +kernel⟩, jiX0_entryAt, jvX0_entryAt⟩
theorem jcX0_isClosed : Cond.code yX0_isClosed cX0_isClosed 2 (some FieldType.boolean) ∈ jWS := jWS_of (List.mem_of_getElem? (i := 509) (by decide +kernel)) rfl
theorem jiX0_isClosed : Cond.instanceMethod yX0_isClosed ∈ jWS := jWS_of (List.mem_of_getElem? (i := 508) (by decide +kernel)) rfl
theorem jvX0_isClosed : Cond.selects yX0_isClosed.cls yX0_isClosed yX0_isClosed ∈ jWS := jWS_sel (List.mem_of_getElem? (i := 18) (by decide +kernel)) rfl
theorem jlX0_85 : j_lv2 RX0 85 yX0_isClosed cX0_isClosed 2 (some FieldType.boolean) 1 := ⟨⟨jcX0_isClosed, jitX0, jWS_of (List.mem_of_getElem? (i := 506) (by decide +kernel)) rfl, by decide +kernel, by decide +kernel⟩, jiX0_isClosed, jvX0_isClosed⟩
theorem jcX2_isTakenBack : Cond.code yX2_isTakenBack cX2_isTakenBack 1 (some FieldType.boolean) ∈ jWS := jWS_of (List.mem_of_getElem? (i := 594) (by decide +kernel)) rfl
theorem jiX2_isTakenBack : Cond.instanceMethod yX2_isTakenBack ∈ jWS := jWS_of (List.mem_of_getElem? (i := 592) (by decide +kernel)) rfl
theorem jvX2_isTakenBack : Cond.selects yX2_isTakenBack.cls yX2_isTakenBack yX2_isTakenBack ∈ jWS := jWS_of (List.mem_of_getElem? (i := 593) (by decide +kernel)) rfl
theorem jlX0_88 : j_lv2 RX0 88 yX2_isTakenBack cX2_isTakenBack 1 (some FieldType.boolean) 0 := ⟨⟨jcX2_isTakenBack, jitX2, jWS_of (List.mem_of_getElem? (i := 591) (by decide +kernel)) rfl, by decide +kernel, by decide +kernel⟩, jiX2_isTakenBack, jvX2_isTakenBack⟩
theorem jcX2_takesOneBack : Cond.code yX2_takesOneBack cX2_takesOneBack 1 (some FieldType.boolean) ∈ jWS := jWS_of (List.mem_of_getElem? (i := 598) (by decide +kernel)) rfl
theorem jiX2_takesOneBack : Cond.instanceMethod yX2_takesOneBack ∈ jWS := jWS_of (List.mem_of_getElem? (i := 596) (by decide +kernel)) rfl
theorem jvX2_takesOneBack : Cond.selects yX2_takesOneBack.cls yX2_takesOneBack yX2_takesOneBack ∈ jWS := jWS_of (List.mem_of_getElem? (i := 597) (by decide +kernel)) rfl
theorem jlX0_91 : j_lv2 RX0 91 yX2_takesOneBack cX2_takesOneBack 1 (some FieldType.boolean) 0 := ⟨⟨jcX2_takesOneBack, jitX2, jWS_of (List.mem_of_getElem? (i := 595) (by decide +kernel)) rfl, by decide +kernel, by decide +kernel⟩, jiX2_takesOneBack, jvX2_takesOneBack⟩
theorem jcX2_addReversed : Cond.code yX2_addReversed cX2_addReversed 3 none ∈ jWS := jWS_of (List.mem_of_getElem? (i := 602) (by decide +kernel)) rfl
theorem jiX2_addReversed : Cond.instanceMethod yX2_addReversed ∈ jWS := jWS_of (List.mem_of_getElem? (i := 600) (by decide +kernel)) rfl
