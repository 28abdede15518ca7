set_option maxRecDepth 20000 in
theorem s_X5_append {l : Launch} {G : jG} {h : jH} {Q : Option Value → jH → Prop} {L : Nat} {ws we wn u : Int32} {by_ : Nat → Int32} (H0 : h.2 1 = some (jO 5 [.ref 2, .int (nI L), .int ws, .int we, .int wn])) (H1 : h.2 2 = some (jC 600 by_)) (hL : L ≤ 600) (K1 : u < 0 → Q (some (.int 0)) h) (K2 : ¬ (u < 0) → 255 < u → Q (some (.int 0)) h) (K3 : ¬ (u < 0) → ¬ (255 < u) → L < 600 → Q (some (.int 1)) (j_set (j_set h 2 (jC 600 (va_up by_ L ((u.toUInt32 % 65536).toInt32)))) 1 (jO 5 [.ref 2, .int (nI (L + 1)), .int ws, .int we, .int wn]))) (K4 : ¬ (u < 0) → ¬ (255 < u) → ¬ L < 600 → Q (some (.int 0)) h) : J l G mX5_append 0 0 0 (lv_args 0 [.ref 1, .int u]) [] h Q := by
  refine j_iload_n (pc := 0) dX5_append_0 rfl ?_
  refine j_if_lt (pc := 1) (tgt := 21) dX5_append_1 (by decide) (fun c1 => ?_) (fun c1 => ?_)
  · refine j_iconst (pc := 21) (v := 0) dX5_append_21 (by decide) ?_
    exact j_iret (pc := 22) dX5_append_22 rfl rfl (Nat.le_of_ble_eq_true rfl) (Nat.le_of_ble_eq_true rfl) (K1 c1)
  · refine j_iload_n (pc := 4) dX5_append_4 rfl ?_
    refine j_sipush (pc := 5) (v := 255) dX5_append_5 (by decide) ?_
    refine j_icmp_gt (pc := 8) (tgt := 21) dX5_append_8 (by decide) (fun c2 => ?_) (fun c2 => ?_)
    · refine j_iconst (pc := 21) (v := 0) dX5_append_21 (by decide) ?_
      exact j_iret (pc := 22) dX5_append_22 rfl rfl (Nat.le_of_ble_eq_true rfl) (Nat.le_of_ble_eq_true rfl) (K2 c1 c2)
    · refine j_aload_n (pc := 11) dX5_append_11 rfl ?_
      refine j_getf (pc := 12) dX5_append_12 jfX5_15 H0 rfl ?_
      refine j_sipush (pc := 15) (v := 600) dX5_append_15 (by decide) ?_
      refine j_icmp_ltN (a := L) (b := 600) (pc := 18) (tgt := 23) dX5_append_18 (by decide) (by omega) (by omega) (fun c3 => ?_) (fun c3 => ?_)
      · refine j_aload_n (pc := 23) dX5_append_23 rfl ?_
        refine j_getf (pc := 24) dX5_append_24 jfX5_11 H0 rfl ?_
        refine j_aload_n (pc := 27) dX5_append_27 rfl ?_
        refine j_getf (pc := 28) dX5_append_28 jfX5_15 H0 rfl ?_
        refine j_iload_n (pc := 31) dX5_append_31 rfl ?_
        refine j_i2c (pc := 32) dX5_append_32 ?_
        refine j_cast (pc := 33) dX5_append_33 H1 (jix_nI (by omega) (by decide)) (pk_nc u) ?_
        refine j_aload_n (pc := 34) dX5_append_34 rfl ?_
        refine j_dup (pc := 35) dX5_append_35 rfl ?_
        refine j_getf (pc := 36) dX5_append_36 jfX5_15 (j_hn (by decide) H0) rfl ?_
        refine j_iconst (pc := 39) (v := 1) dX5_append_39 (by decide) ?_
        refine j_iaddN (a := L) (b := 1) (pc := 40) dX5_append_40 ?_
        refine j_putf (pc := 41) dX5_append_41 jfX5_15 (j_hn (by decide) H0) rfl rfl (Nat.le_of_ble_eq_true rfl) ?_
        show J l G mX5_append _ _ 44 _ _ (j_set (j_set h 2 (jC 600 (va_up by_ L ((u.toUInt32 % 65536).toInt32)))) 1 (jO 5 [.ref 2, .int (nI (L + 1)), .int ws, .int we, .int wn])) Q
        refine j_iconst (pc := 44) (v := 1) dX5_append_44 (by decide) ?_
        exact j_iret (pc := 45) dX5_append_45 rfl rfl (Nat.le_of_ble_eq_true rfl) (Nat.le_of_ble_eq_true rfl) (K3 c1 c2 c3)
      · refine j_iconst (pc := 21) (v := 0) dX5_append_21 (by decide) ?_
        exact j_iret (pc := 22) dX5_append_22 rfl rfl (Nat.le_of_ble_eq_true rfl) (Nat.le_of_ble_eq_true rfl) (K4 c1 c2 c3)

set_option maxRecDepth 20000 in
theorem s_X1_join {l : Launch} {G : jG} {h : jH} {Q : Option Value → jH → Prop} {P : Nat} {u : Int32} {ro : Nat → Int32} (H0 : h.2 3 = some (jO 1 [.ref 4, .ref 5, .int (nI P)])) (H1 : h.2 4 = some (jI 12 ro)) (hP : P ≤ 12) (K1 : u < 0 → Q (some (.int (-1))) h) (K2 : ¬ (u < 0) → 10 ≤ u → Q (some (.int (-1))) h) (K3 : ¬ (u < 0) → ¬ (10 ≤ u) → P < 12 → Q (some (.int (nI ((P + 1) - 1)))) (j_set (j_set h 4 (jI 12 (va_up ro P u))) 3 (jO 1 [.ref 4, .ref 5, .int (nI (P + 1))]))) (K4 : ¬ (u < 0) → ¬ (10 ≤ u) → ¬ P < 12 → Q (some (.int (-1))) h) : J l G mX1_join 0 0 0 (lv_args 0 [.ref 3, .int u]) [] h Q := by
  refine j_iload_n (pc := 0) dX1_join_0 rfl ?_
  refine j_if_lt (pc := 1) (tgt := 19) dX1_join_1 (by decide) (fun c1 => ?_) (fun c1 => ?_)
  · refine j_iconst (pc := 19) (v := -1) dX1_join_19 (by decide) ?_
    exact j_iret (pc := 20) dX1_join_20 rfl rfl (Nat.le_of_ble_eq_true rfl) (Nat.le_of_ble_eq_true rfl) (K1 c1)
  · refine j_iload_n (pc := 4) dX1_join_4 rfl ?_
    refine j_bipush (pc := 5) (v := 10) dX1_join_5 (by decide) ?_
    refine j_icmp_ge (pc := 7) (tgt := 19) dX1_join_7 (by decide) (fun c2 => ?_) (fun c2 => ?_)
    · refine j_iconst (pc := 19) (v := -1) dX1_join_19 (by decide) ?_
      exact j_iret (pc := 20) dX1_join_20 rfl rfl (Nat.le_of_ble_eq_true rfl) (Nat.le_of_ble_eq_true rfl) (K2 c1 c2)
    · refine j_aload_n (pc := 10) dX1_join_10 rfl ?_
      refine j_getf (pc := 11) dX1_join_11 jfX1_19 H0 rfl ?_
      refine j_bipush (pc := 14) (v := 12) dX1_join_14 (by decide) ?_
      refine j_icmp_ltN (a := P) (b := 12) (pc := 16) (tgt := 21) dX1_join_16 (by decide) (by omega) (by omega) (fun c3 => ?_) (fun c3 => ?_)
      · refine j_aload_n (pc := 21) dX1_join_21 rfl ?_
        refine j_getf (pc := 22) dX1_join_22 jfX1_9 H0 rfl ?_
        refine j_aload_n (pc := 25) dX1_join_25 rfl ?_
        refine j_getf (pc := 26) dX1_join_26 jfX1_19 H0 rfl ?_
        refine j_iload_n (pc := 29) dX1_join_29 rfl ?_
        refine j_iast (pc := 30) dX1_join_30 H1 (jix_nI (by omega) (by decide)) ?_
        refine j_aload_n (pc := 31) dX1_join_31 rfl ?_
        refine j_dup (pc := 32) dX1_join_32 rfl ?_
        refine j_getf (pc := 33) dX1_join_33 jfX1_19 (j_hn (by decide) H0) rfl ?_
        refine j_iconst (pc := 36) (v := 1) dX1_join_36 (by decide) ?_
        refine j_iaddN (a := P) (b := 1) (pc := 37) dX1_join_37 ?_
        refine j_putf (pc := 38) dX1_join_38 jfX1_19 (j_hn (by decide) H0) rfl rfl (Nat.le_of_ble_eq_true rfl) ?_
        show J l G mX1_join _ _ 41 _ _ (j_set (j_set h 4 (jI 12 (va_up ro P u))) 3 (jO 1 [.ref 4, .ref 5, .int (nI (P + 1))])) Q
        refine j_aload_n (pc := 41) dX1_join_41 rfl ?_
        refine j_getf (pc := 42) dX1_join_42 jfX1_19 j_hs rfl ?_
        refine j_iconst (pc := 45) (v := 1) dX1_join_45 (by decide) ?_
        refine j_isubN (a := P + 1) (b := 1) (pc := 46) dX1_join_46 (by omega) ?_
        exact j_iret (pc := 47) dX1_join_47 rfl rfl (Nat.le_of_ble_eq_true rfl) (Nat.le_of_ble_eq_true rfl) (K3 c1 c2 c3)
      · refine j_iconst (pc := 19) (v := -1) dX1_join_19 (by decide) ?_
        exact j_iret (pc := 20) dX1_join_20 rfl rfl (Nat.le_of_ble_eq_true rfl) (Nat.le_of_ble_eq_true rfl) (K4 c1 c2 c3)

set_option maxRecDepth 20000 in
theorem s_X7_unit {l : Launch} {G : jG} {h : jH} {Q : Option Value → jH → Prop} {ru dq T : Nat} {L : Nat} {ws we wn u : Int32} {by_ : Nat → Int32} (H0 : h.2 0 = some (jO 7 [.ref 1, .ref 3, .ref 6, .ref 7, .ref 8, .ref 12, .ref ru, .ref dq, .int (nI T)])) (H1 : h.2 1 = some (jO 5 [.ref 2, .int (nI L), .int ws, .int we, .int wn])) (H2 : h.2 2 = some (jC 600 by_)) (hL : L ≤ 600) (K1 : u < 0 → Q (some (.int 0)) h) (K2 : ¬ (u < 0) → 255 < u → Q (some (.int 0)) h) (K3 : ¬ (u < 0) → ¬ (255 < u) → L < 600 → Q (some (.int 1)) (j_set (j_set h 2 (jC 600 (va_up by_ L ((u.toUInt32 % 65536).toInt32)))) 1 (jO 5 [.ref 2, .int (nI (L + 1)), .int ws, .int we, .int wn]))) (K4 : ¬ (u < 0) → ¬ (255 < u) → ¬ L < 600 → Q (some (.int 0)) h) : J l G mX7_unit 0 0 0 (lv_args 0 [.ref 0, .int u]) [] h Q := by
  refine j_aload_n (pc := 0) dX7_unit_0 rfl ?_
  refine j_getf (pc := 1) dX7_unit_1 jfX7_12 H0 rfl ?_
  refine j_iload_n (pc := 4) dX7_unit_4 rfl ?_
  refine j_V1 (rm' := rmX5_append) (pc := 5) dX7_unit_5 jlX7_59 H1 rfl ⟨Nat.le_of_ble_eq_true rfl, Nat.le_of_ble_eq_true rfl, Nat.le_of_ble_eq_true rfl, Nat.le_of_ble_eq_true rfl, Nat.le_of_ble_eq_true rfl, Nat.le_of_ble_eq_true rfl⟩ ?_
  refine s_X5_append (L := L) H1 H2 hL (fun c1 => ?_) (fun c2 c3 => ?_) (fun c4 c5 c6 => ?_) (fun c7 c8 c9 => ?_)
  · show J l G mX7_unit _ _ 8 _ [.int 0] h Q
    exact j_iret (pc := 8) dX7_unit_8 rfl rfl (Nat.le_of_ble_eq_true rfl) (Nat.le_of_ble_eq_true rfl) (K1 c1)
  · show J l G mX7_unit _ _ 8 _ [.int 0] h Q
    exact j_iret (pc := 8) dX7_unit_8 rfl rfl (Nat.le_of_ble_eq_true rfl) (Nat.le_of_ble_eq_true rfl) (K2 c2 c3)
  · show J l G mX7_unit _ _ 8 _ [.int 1] (j_set (j_set h 2 (jC 600 (va_up by_ L ((u.toUInt32 % 65536).toInt32)))) 1 (jO 5 [.ref 2, .int (nI (L + 1)), .int ws, .int we, .int wn])) Q
    exact j_iret (pc := 8) dX7_unit_8 rfl rfl (Nat.le_of_ble_eq_true rfl) (Nat.le_of_ble_eq_true rfl) (K3 c4 c5 c6)
  · show J l G mX7_unit _ _ 8 _ [.int 0] h Q
    exact j_iret (pc := 8) dX7_unit_8 rfl rfl (Nat.le_of_ble_eq_true rfl) (Nat.le_of_ble_eq_true rfl) (K4 c7 c8 c9)

set_option maxRecDepth 20000 in
theorem s_X7_person {l : Launch} {G : jG} {h : jH} {Q : Option Value → jH → Prop} {ru dq T : Nat} {P : Nat} {u : Int32} {ro : Nat → Int32} (H0 : h.2 0 = some (jO 7 [.ref 1, .ref 3, .ref 6, .ref 7, .ref 8, .ref 12, .ref ru, .ref dq, .int (nI T)])) (H1 : h.2 3 = some (jO 1 [.ref 4, .ref 5, .int (nI P)])) (H2 : h.2 4 = some (jI 12 ro)) (hP : P ≤ 12) (K1 : u < 0 → Q (some (.int (-1))) h) (K2 : ¬ (u < 0) → 10 ≤ u → Q (some (.int (-1))) h) (K3 : ¬ (u < 0) → ¬ (10 ≤ u) → P < 12 → Q (some (.int (nI ((P + 1) - 1)))) (j_set (j_set h 4 (jI 12 (va_up ro P u))) 3 (jO 1 [.ref 4, .ref 5, .int (nI (P + 1))]))) (K4 : ¬ (u < 0) → ¬ (10 ≤ u) → ¬ P < 12 → Q (some (.int (-1))) h) : J l G mX7_person 0 0 0 (lv_args 0 [.ref 0, .int u]) [] h Q := by
  refine j_aload_n (pc := 0) dX7_person_0 rfl ?_
  refine j_getf (pc := 1) dX7_person_1 jfX7_21 H0 rfl ?_
  refine j_iload_n (pc := 4) dX7_person_4 rfl ?_
  refine j_V1 (rm' := rmX1_join) (pc := 5) dX7_person_5 jlX7_70 H1 rfl ⟨Nat.le_of_ble_eq_true rfl, Nat.le_of_ble_eq_true rfl, Nat.le_of_ble_eq_true rfl, Nat.le_of_ble_eq_true rfl, Nat.le_of_ble_eq_true rfl, Nat.le_of_ble_eq_true rfl⟩ ?_
  refine s_X1_join (P := P) H1 H2 hP (fun c1 => ?_) (fun c2 c3 => ?_) (fun c4 c5 c6 => ?_) (fun c7 c8 c9 => ?_)
  · show J l G mX7_person _ _ 8 _ [.int (-1)] h Q
    exact j_iret (pc := 8) dX7_person_8 rfl rfl (Nat.le_of_ble_eq_true rfl) (Nat.le_of_ble_eq_true rfl) (K1 c1)
  · show J l G mX7_person _ _ 8 _ [.int (-1)] h Q
    exact j_iret (pc := 8) dX7_person_8 rfl rfl (Nat.le_of_ble_eq_true rfl) (Nat.le_of_ble_eq_true rfl) (K2 c2 c3)
  · show J l G mX7_person _ _ 8 _ [.int (nI ((P + 1) - 1))] (j_set (j_set h 4 (jI 12 (va_up ro P u))) 3 (jO 1 [.ref 4, .ref 5, .int (nI (P + 1))])) Q
    exact j_iret (pc := 8) dX7_person_8 rfl rfl (Nat.le_of_ble_eq_true rfl) (Nat.le_of_ble_eq_true rfl) (K3 c4 c5 c6)
  · show J l G mX7_person _ _ 8 _ [.int (-1)] h Q
    exact j_iret (pc := 8) dX7_person_8 rfl rfl (Nat.le_of_ble_eq_true rfl) (Nat.le_of_ble_eq_true rfl) (K4 c7 c8 c9)

set_option maxRecDepth 20000 in
theorem s_X7_advance {l : Launch} {G : jG} {h : jH} {Q : Option Value → jH → Prop} {ru dq T : Nat} {P : Nat} {p0 : Int32} {v : Int64} {ad : Nat → Int64} (H0 : h.2 0 = some (jO 7 [.ref 1, .ref 3, .ref 6, .ref 7, .ref 8, .ref 12, .ref ru, .ref dq, .int (nI T)])) (H1 : h.2 3 = some (jO 1 [.ref 4, .ref 5, .int (nI P)])) (H2 : h.2 5 = some (jL 12 ad)) (hP : P ≤ 12) (K1 : p0 < 0 → Q (some (.int 0)) h) (K2 : ¬ (p0 < 0) → (nI P) ≤ p0 → Q (some (.int 0)) h) (K3 : ¬ (p0 < 0) → ¬ ((nI P) ≤ p0) → v < 1 → Q (some (.int 0)) h) (K4 : ¬ (p0 < 0) → ¬ ((nI P) ≤ p0) → ¬ (v < 1) → 1000000000 < v → Q (some (.int 0)) h) (K5 : ¬ (p0 < 0) → ¬ ((nI P) ≤ p0) → ¬ (v < 1) → ¬ (1000000000 < v) → ∀ p : Nat, p0 = nI p → p < P → Q (some (.int 1)) (j_set h 5 (jL 12 (va_up ad p ((ad p) + v))))) : J l G mX7_advance 0 0 0 (lv_args 0 [.ref 0, .int p0, .long v]) [] h Q := by
  refine j_aload_n (pc := 0) dX7_advance_0 rfl ?_
  refine j_getf (pc := 1) dX7_advance_1 jfX7_21 H0 rfl ?_
  refine j_iload_n (pc := 4) dX7_advance_4 rfl ?_
  refine j_V1 (rm' := rmX1_has) (pc := 5) dX7_advance_5 jlX7_74 H1 rfl ⟨Nat.le_of_ble_eq_true rfl, Nat.le_of_ble_eq_true rfl, Nat.le_of_ble_eq_true rfl, Nat.le_of_ble_eq_true rfl, Nat.le_of_ble_eq_true rfl, Nat.le_of_ble_eq_true rfl⟩ ?_
  refine s_X1_has H1 (fun c1 => ?_) (fun c2 c3 => ?_) (fun c4 c5 => ?_)
  · show J l G mX7_advance _ _ 8 _ [.int 0] h Q
    refine j_if_eq (pc := 8) (tgt := 18) dX7_advance_8 (by decide) (fun c6 => ?_) (fun c6 => ?_)
    · refine j_iconst (pc := 18) (v := 0) dX7_advance_18 (by decide) ?_
      exact j_iret (pc := 19) dX7_advance_19 rfl rfl (Nat.le_of_ble_eq_true rfl) (Nat.le_of_ble_eq_true rfl) (K1 c1)
    · exact absurd c6 (by decide)
  · show J l G mX7_advance _ _ 8 _ [.int 0] h Q
    refine j_if_eq (pc := 8) (tgt := 18) dX7_advance_8 (by decide) (fun c7 => ?_) (fun c7 => ?_)
    · refine j_iconst (pc := 18) (v := 0) dX7_advance_18 (by decide) ?_
      exact j_iret (pc := 19) dX7_advance_19 rfl rfl (Nat.le_of_ble_eq_true rfl) (Nat.le_of_ble_eq_true rfl) (K2 c2 c3)
    · exact absurd c7 (by decide)
  · show J l G mX7_advance _ _ 8 _ [.int 1] h Q
    refine j_if_eq (pc := 8) (tgt := 18) dX7_advance_8 (by decide) (fun c8 => ?_) (fun c8 => ?_)
    · exact absurd c8 (by decide)
    · refine j_lload_n (pc := 11) dX7_advance_11 rfl ?_
      refine j_S1 (rm' := rmX7_areCents) (pc := 12) dX7_advance_12 jlX7_77 ⟨Nat.le_of_ble_eq_true rfl, Nat.le_of_ble_eq_true rfl, Nat.le_of_ble_eq_true rfl, Nat.le_of_ble_eq_true rfl, Nat.le_of_ble_eq_true rfl, Nat.le_of_ble_eq_true rfl⟩ ?_
      refine s_X7_areCents  (fun c9 => ?_) (fun c10 c11 => ?_) (fun c12 c13 => ?_)
      · show J l G mX7_advance _ _ 15 _ [.int 0] h Q
        refine j_if_ne (pc := 15) (tgt := 20) dX7_advance_15 (by decide) (fun c14 => ?_) (fun c14 => ?_)
        · exact absurd c14 (by decide)
        · refine j_iconst (pc := 18) (v := 0) dX7_advance_18 (by decide) ?_
          exact j_iret (pc := 19) dX7_advance_19 rfl rfl (Nat.le_of_ble_eq_true rfl) (Nat.le_of_ble_eq_true rfl) (K3 c4 c5 c9)
      · show J l G mX7_advance _ _ 15 _ [.int 0] h Q
        refine j_if_ne (pc := 15) (tgt := 20) dX7_advance_15 (by decide) (fun c15 => ?_) (fun c15 => ?_)
        · exact absurd c15 (by decide)
        · refine j_iconst (pc := 18) (v := 0) dX7_advance_18 (by decide) ?_
          exact j_iret (pc := 19) dX7_advance_19 rfl rfl (Nat.le_of_ble_eq_true rfl) (Nat.le_of_ble_eq_true rfl) (K4 c4 c5 c10 c11)
      · show J l G mX7_advance _ _ 15 _ [.int 1] h Q
        refine j_if_ne (pc := 15) (tgt := 20) dX7_advance_15 (by decide) (fun c16 => ?_) (fun c16 => ?_)
        · obtain ⟨p, hp, rfl⟩ : ∃ p : Nat, p < P ∧ p0 = nI p := jn_ge c4 c5 (jn_P (by omega))
          refine j_aload_n (pc := 20) dX7_advance_20 rfl ?_
          refine j_getf (pc := 21) dX7_advance_21 jfX7_21 H0 rfl ?_
          refine j_getf (pc := 24) dX7_advance_24 jfX7_81 H1 rfl ?_
          refine j_iload_n (pc := 27) dX7_advance_27 rfl ?_
          refine j_dup2 (pc := 28) dX7_advance_28 rfl rfl ?_
          refine j_lald (pc := 29) dX7_advance_29 H2 (jix_nI (by omega) (by decide)) ?_
          refine j_lload_n (pc := 30) dX7_advance_30 rfl ?_
          refine j_ladd (pc := 31) dX7_advance_31 ?_
          refine j_last (pc := 32) dX7_advance_32 H2 (jix_nI (by omega) (by decide)) ?_
          refine j_iconst (pc := 33) (v := 1) dX7_advance_33 (by decide) ?_
          exact j_iret (pc := 34) dX7_advance_34 rfl rfl (Nat.le_of_ble_eq_true rfl) (Nat.le_of_ble_eq_true rfl) (K5 c4 c5 c12 c13 p rfl hp)
        · exact absurd c16 (by decide)

set_option maxRecDepth 20000 in
theorem s_X7_tripAt {l : Launch} {G : jG} {h : jH} {Q : Option Value → jH → Prop} {ru dq T : Nat} {n0 : Int32} {ta : Nat → Option Nat} {tb : Nat → Nat} (H0 : h.2 0 = some (jO 7 [.ref 1, .ref 3, .ref 6, .ref 7, .ref 8, .ref 12, .ref ru, .ref dq, .int (nI T)])) (H1 : h.2 7 = some (jQ 4 20 ta)) (hT : T ≤ 20) (hta : ∀ t, t < T → ta t = some (tb t)) (K1 : n0 < 0 → Q (some (.null)) h) (K2 : ¬ (n0 < 0) → (nI T) ≤ n0 → Q (some (.null)) h) (K3 : ¬ (n0 < 0) → ¬ ((nI T) ≤ n0) → ∀ t : Nat, n0 = nI t → t < T → Q (some (.ref (tb t))) h) : J l G mX7_tripAt 0 0 0 (lv_args 0 [.ref 0, .int n0]) [] h Q := by
  refine j_iload_n (pc := 0) dX7_tripAt_0 rfl ?_
  refine j_if_lt (pc := 1) (tgt := 21) dX7_tripAt_1 (by decide) (fun c1 => ?_) (fun c1 => ?_)
  · refine j_aconst_null (pc := 21) dX7_tripAt_21 ?_
    exact j_aret (pc := 22) dX7_tripAt_22 rfl (Or.inl rfl) (Nat.le_of_ble_eq_true rfl) (Nat.le_of_ble_eq_true rfl) (K1 c1)
  · refine j_iload_n (pc := 4) dX7_tripAt_4 rfl ?_
    refine j_aload_n (pc := 5) dX7_tripAt_5 rfl ?_
    refine j_getf (pc := 6) dX7_tripAt_6 jfX7_86 H0 rfl ?_
    refine j_icmp_ge (pc := 9) (tgt := 21) dX7_tripAt_9 (by decide) (fun c2 => ?_) (fun c2 => ?_)
    · refine j_aconst_null (pc := 21) dX7_tripAt_21 ?_
      exact j_aret (pc := 22) dX7_tripAt_22 rfl (Or.inl rfl) (Nat.le_of_ble_eq_true rfl) (Nat.le_of_ble_eq_true rfl) (K2 c1 c2)
    · obtain ⟨t, ht, rfl⟩ : ∃ t : Nat, t < T ∧ n0 = nI t := jn_ge c1 c2 (jn_P (by omega))
      refine j_aload_n (pc := 12) dX7_tripAt_12 rfl ?_
      refine j_getf (pc := 13) dX7_tripAt_13 jfX7_31 H0 rfl ?_
      refine j_iload_n (pc := 16) dX7_tripAt_16 rfl ?_
      refine j_aaldR (pc := 17) dX7_tripAt_17 (t := 4) rfl rfl H1 (jix_nI (by omega) (by decide)) (hta t ht) ?_
      refine j_goto (pc := 18) (tgt := 22) dX7_tripAt_18 (by decide) ?_
      exact j_aret (pc := 22) dX7_tripAt_22 rfl (Or.inr ⟨_, rfl⟩) (Nat.le_of_ble_eq_true rfl) (Nat.le_of_ble_eq_true rfl) (K3 c1 c2 t rfl ht)

set_option maxRecDepth 20000 in
theorem s_X7_tripToSettle {l : Launch} {G : jG} {h : jH} {Q : Option Value → jH → Prop} {ru dq T : Nat} {n0 : Int32} {ta : Nat → Option Nat} {tb : Nat → Nat} {shp stl : Nat → Int32} {sal : Nat → Int64}  (H0 : h.2 0 = some (jO 7 [.ref 1, .ref 3, .ref 6, .ref 7, .ref 8, .ref 12, .ref ru, .ref dq, .int (nI T)])) (H1 : h.2 7 = some (jQ 4 20 ta)) (FT : ∀ t, t < T → h.2 (tb t) = some (jO 6 [.int (shp t), .long (sal t), .ref (tb t + 1), .ref (tb t + 2), .ref (tb t + 3), .ref (tb t + 4), .int (stl t)])) (hT : T ≤ 20) (hta : ∀ t, t < T → ta t = some (tb t)) (K1 : n0 < 0 → Q (some (.null)) h) (K2 : ¬ (n0 < 0) → (nI T) ≤ n0 → Q (some (.null)) h) (K3 : ¬ (n0 < 0) → ¬ ((nI T) ≤ n0) → ∀ t6 : Nat, n0 = nI t6 → t6 < T → ¬ (stl t6) = 0 → Q (some (.null)) h) (K4 : ¬ (n0 < 0) → ¬ ((nI T) ≤ n0) → ∀ t6 : Nat, n0 = nI t6 → t6 < T → (stl t6) = 0 → Q (some (.ref (tb t6))) h) : J l G mX7_tripToSettle 0 0 0 (lv_args 0 [.ref 0, .int n0]) [] h Q := by
  refine j_aload_n (pc := 0) dX7_tripToSettle_0 rfl ?_
  refine j_iload_n (pc := 1) dX7_tripToSettle_1 rfl ?_
  refine j_V1 (rm' := rmX7_tripAt) (pc := 2) dX7_tripToSettle_2 jlX7_160 H0 rfl ⟨Nat.le_of_ble_eq_true rfl, Nat.le_of_ble_eq_true rfl, Nat.le_of_ble_eq_true rfl, Nat.le_of_ble_eq_true rfl, Nat.le_of_ble_eq_true rfl, Nat.le_of_ble_eq_true rfl⟩ ?_
  refine s_X7_tripAt (T := T) H0 H1 hT hta (fun c1 => ?_) (fun c2 c3 => ?_) (fun c4 c5 t6 ec6 ht6 => ?_)
  · show J l G mX7_tripToSettle _ _ 5 _ [.null] h Q
    refine j_nstore_n (pc := 5) dX7_tripToSettle_5 (by decide) ?_
    refine j_nload_n (pc := 6) dX7_tripToSettle_6 rfl ?_
    refine j_ifnullN (pc := 7) (tgt := 21) dX7_tripToSettle_7 (by decide) ?_
    refine j_aconst_null (pc := 21) dX7_tripToSettle_21 ?_
    exact j_aret (pc := 22) dX7_tripToSettle_22 rfl (Or.inl rfl) (Nat.le_of_ble_eq_true rfl) (Nat.le_of_ble_eq_true rfl) (K1 c1)
  · show J l G mX7_tripToSettle _ _ 5 _ [.null] h Q
    refine j_nstore_n (pc := 5) dX7_tripToSettle_5 (by decide) ?_
    refine j_nload_n (pc := 6) dX7_tripToSettle_6 rfl ?_
    refine j_ifnullN (pc := 7) (tgt := 21) dX7_tripToSettle_7 (by decide) ?_
    refine j_aconst_null (pc := 21) dX7_tripToSettle_21 ?_
    exact j_aret (pc := 22) dX7_tripToSettle_22 rfl (Or.inl rfl) (Nat.le_of_ble_eq_true rfl) (Nat.le_of_ble_eq_true rfl) (K2 c2 c3)
  · show J l G mX7_tripToSettle _ _ 5 _ [.ref (tb t6)] h Q
    subst ec6
    refine j_astore_n (pc := 5) dX7_tripToSettle_5 (by decide) ?_
    refine j_aload_n (pc := 6) dX7_tripToSettle_6 rfl ?_
    refine j_ifnull (pc := 7) dX7_tripToSettle_7 ?_
    refine j_aload_n (pc := 10) dX7_tripToSettle_10 rfl ?_
    refine j_getf (pc := 11) dX7_tripToSettle_11 jfX7_163 (FT t6 ht6) rfl ?_
    refine j_if_ne (pc := 14) (tgt := 21) dX7_tripToSettle_14 (by decide) (fun c7 => ?_) (fun c7 => ?_)
    · refine j_aconst_null (pc := 21) dX7_tripToSettle_21 ?_
      exact j_aret (pc := 22) dX7_tripToSettle_22 rfl (Or.inl rfl) (Nat.le_of_ble_eq_true rfl) (Nat.le_of_ble_eq_true rfl) (K3 c4 c5 t6 rfl ht6 c7)
    · refine j_aload_n (pc := 17) dX7_tripToSettle_17 rfl ?_
      refine j_goto (pc := 18) (tgt := 22) dX7_tripToSettle_18 (by decide) ?_
      exact j_aret (pc := 22) dX7_tripToSettle_22 rfl (Or.inr ⟨_, rfl⟩) (Nat.le_of_ble_eq_true rfl) (Nat.le_of_ble_eq_true rfl) (K4 c4 c5 t6 rfl ht6 c7)

set_option maxRecDepth 20000 in
theorem s_X7_settledTrip {l : Launch} {G : jG} {h : jH} {Q : Option Value → jH → Prop} {ru dq T : Nat} {n0 : Int32} {ta : Nat → Option Nat} {tb : Nat → Nat} {shp stl : Nat → Int32} {sal : Nat → Int64}  (H0 : h.2 0 = some (jO 7 [.ref 1, .ref 3, .ref 6, .ref 7, .ref 8, .ref 12, .ref ru, .ref dq, .int (nI T)])) (H1 : h.2 7 = some (jQ 4 20 ta)) (FT : ∀ t, t < T → h.2 (tb t) = some (jO 6 [.int (shp t), .long (sal t), .ref (tb t + 1), .ref (tb t + 2), .ref (tb t + 3), .ref (tb t + 4), .int (stl t)])) (hT : T ≤ 20) (hta : ∀ t, t < T → ta t = some (tb t)) (K1 : n0 < 0 → Q (some (.null)) h) (K2 : ¬ (n0 < 0) → (nI T) ≤ n0 → Q (some (.null)) h) (K3 : ¬ (n0 < 0) → ¬ ((nI T) ≤ n0) → ∀ t6 : Nat, n0 = nI t6 → t6 < T → (stl t6) = 0 → Q (some (.null)) h) (K4 : ¬ (n0 < 0) → ¬ ((nI T) ≤ n0) → ∀ t6 : Nat, n0 = nI t6 → t6 < T → ¬ (stl t6) = 0 → Q (some (.ref (tb t6))) h) : J l G mX7_settledTrip 0 0 0 (lv_args 0 [.ref 0, .int n0]) [] h Q := by
  refine j_aload_n (pc := 0) dX7_settledTrip_0 rfl ?_
  refine j_iload_n (pc := 1) dX7_settledTrip_1 rfl ?_
  refine j_V1 (rm' := rmX7_tripAt) (pc := 2) dX7_settledTrip_2 jlX7_160 H0 rfl ⟨Nat.le_of_ble_eq_true rfl, Nat.le_of_ble_eq_true rfl, Nat.le_of_ble_eq_true rfl, Nat.le_of_ble_eq_true rfl, Nat.le_of_ble_eq_true rfl, Nat.le_of_ble_eq_true rfl⟩ ?_
  refine s_X7_tripAt (T := T) H0 H1 hT hta (fun c1 => ?_) (fun c2 c3 => ?_) (fun c4 c5 t6 ec6 ht6 => ?_)
  · show J l G mX7_settledTrip _ _ 5 _ [.null] h Q
    refine j_nstore_n (pc := 5) dX7_settledTrip_5 (by decide) ?_
    refine j_nload_n (pc := 6) dX7_settledTrip_6 rfl ?_
    refine j_ifnullN (pc := 7) (tgt := 21) dX7_settledTrip_7 (by decide) ?_
    refine j_aconst_null (pc := 21) dX7_settledTrip_21 ?_
    exact j_aret (pc := 22) dX7_settledTrip_22 rfl (Or.inl rfl) (Nat.le_of_ble_eq_true rfl) (Nat.le_of_ble_eq_true rfl) (K1 c1)
  · show J l G mX7_settledTrip _ _ 5 _ [.null] h Q
    refine j_nstore_n (pc := 5) dX7_settledTrip_5 (by decide) ?_
    refine j_nload_n (pc := 6) dX7_settledTrip_6 rfl ?_
    refine j_ifnullN (pc := 7) (tgt := 21) dX7_settledTrip_7 (by decide) ?_
    refine j_aconst_null (pc := 21) dX7_settledTrip_21 ?_
    exact j_aret (pc := 22) dX7_settledTrip_22 rfl (Or.inl rfl) (Nat.le_of_ble_eq_true rfl) (Nat.le_of_ble_eq_true rfl) (K2 c2 c3)
  · show J l G mX7_settledTrip _ _ 5 _ [.ref (tb t6)] h Q
    subst ec6
    refine j_astore_n (pc := 5) dX7_settledTrip_5 (by decide) ?_
    refine j_aload_n (pc := 6) dX7_settledTrip_6 rfl ?_
    refine j_ifnull (pc := 7) dX7_settledTrip_7 ?_
    refine j_aload_n (pc := 10) dX7_settledTrip_10 rfl ?_
    refine j_getf (pc := 11) dX7_settledTrip_11 jfX7_163 (FT t6 ht6) rfl ?_
    refine j_if_eq (pc := 14) (tgt := 21) dX7_settledTrip_14 (by decide) (fun c7 => ?_) (fun c7 => ?_)
    · refine j_aconst_null (pc := 21) dX7_settledTrip_21 ?_
      exact j_aret (pc := 22) dX7_settledTrip_22 rfl (Or.inl rfl) (Nat.le_of_ble_eq_true rfl) (Nat.le_of_ble_eq_true rfl) (K3 c4 c5 t6 rfl ht6 c7)
    · refine j_aload_n (pc := 17) dX7_settledTrip_17 rfl ?_
      refine j_goto (pc := 18) (tgt := 22) dX7_settledTrip_18 (by decide) ?_
      exact j_aret (pc := 22) dX7_settledTrip_22 rfl (Or.inr ⟨_, rfl⟩) (Nat.le_of_ble_eq_true rfl) (Nat.le_of_ble_eq_true rfl) (K4 c4 c5 t6 rfl ht6 c7)

set_option maxRecDepth 20000 in
theorem s_X7_cost {l : Launch} {G : jG} {h : jH} {Q : Option Value → jH → Prop} {ru dq T : Nat} {t0 k0 : Int32} {v : Int64} {cst : Nat → Nat → Int64} {ta : Nat → Option Nat} {tb : Nat → Nat} {shp stl : Nat → Int32} {sal : Nat → Int64}  (H0 : h.2 0 = some (jO 7 [.ref 1, .ref 3, .ref 6, .ref 7, .ref 8, .ref 12, .ref ru, .ref dq, .int (nI T)])) (H1 : h.2 7 = some (jQ 4 20 ta)) (FT : ∀ t, t < T → h.2 (tb t) = some (jO 6 [.int (shp t), .long (sal t), .ref (tb t + 1), .ref (tb t + 2), .ref (tb t + 3), .ref (tb t + 4), .int (stl t)])) (FC : ∀ t, t < T → h.2 (tb t + 1) = some (jL 10 (cst t))) (hT : T ≤ 20) (hta : ∀ t, t < T → ta t = some (tb t)) (K1 : t0 < 0 → Q (some (.int 0)) h) (K2 : ¬ (t0 < 0) → (nI T) ≤ t0 → Q (some (.int 0)) h) (K3 : ¬ (t0 < 0) → ¬ ((nI T) ≤ t0) → ∀ t6 : Nat, t0 = nI t6 → t6 < T → ¬ (stl t6) = 0 → Q (some (.int 0)) h) (K4 : ¬ (t0 < 0) → ¬ ((nI T) ≤ t0) → ∀ t10 : Nat, t0 = nI t10 → t10 < T → (stl t10) = 0 → k0 < 0 → Q (some (.int 0)) h) (K5 : ¬ (t0 < 0) → ¬ ((nI T) ≤ t0) → ∀ t10 : Nat, t0 = nI t10 → t10 < T → (stl t10) = 0 → ¬ (k0 < 0) → 10 ≤ k0 → Q (some (.int 0)) h) (K6 : ¬ (t0 < 0) → ¬ ((nI T) ≤ t0) → ∀ t10 : Nat, t0 = nI t10 → t10 < T → (stl t10) = 0 → ¬ (k0 < 0) → ¬ (10 ≤ k0) → v < 1 → Q (some (.int 0)) h) (K7 : ¬ (t0 < 0) → ¬ ((nI T) ≤ t0) → ∀ t10 : Nat, t0 = nI t10 → t10 < T → (stl t10) = 0 → ¬ (k0 < 0) → ¬ (10 ≤ k0) → ¬ (v < 1) → 1000000000 < v → Q (some (.int 0)) h) (K8 : ¬ (t0 < 0) → ¬ ((nI T) ≤ t0) → ∀ t10 : Nat, t0 = nI t10 → t10 < T → (stl t10) = 0 → ¬ (k0 < 0) → ¬ (10 ≤ k0) → ¬ (v < 1) → ¬ (1000000000 < v) → ∀ k : Nat, k0 = nI k → k < 10 → Q (some (.int 1)) (j_set h (tb t10 + 1) (jL 10 (va_up (cst t10) k (((cst t10) k) + v))))) : J l G mX7_cost 0 0 0 (lv_args 0 [.ref 0, .int t0, .int k0, .long v]) [] h Q := by
  refine j_aload_n (pc := 0) dX7_cost_0 rfl ?_
  refine j_iload_n (pc := 1) dX7_cost_1 rfl ?_
  refine j_V1 (rm' := rmX7_tripToSettle) (pc := 2) dX7_cost_2 jlX7_93 H0 rfl ⟨Nat.le_of_ble_eq_true rfl, Nat.le_of_ble_eq_true rfl, Nat.le_of_ble_eq_true rfl, Nat.le_of_ble_eq_true rfl, Nat.le_of_ble_eq_true rfl, Nat.le_of_ble_eq_true rfl⟩ ?_
  refine s_X7_tripToSettle (T := T) H0 H1 FT hT hta (fun c1 => ?_) (fun c2 c3 => ?_) (fun c4 c5 t6 ec6 ht6 c7 => ?_) (fun c8 c9 t10 ec10 ht10 c11 => ?_)
  · show J l G mX7_cost _ _ 5 _ [.null] h Q
    refine j_nstore (pc := 5) dX7_cost_5 (by decide) ?_
    refine j_nload (pc := 7) dX7_cost_7 rfl ?_
    refine j_ifnullN (pc := 9) (tgt := 29) dX7_cost_9 (by decide) ?_
    refine j_iconst (pc := 29) (v := 0) dX7_cost_29 (by decide) ?_
    exact j_iret (pc := 30) dX7_cost_30 rfl rfl (Nat.le_of_ble_eq_true rfl) (Nat.le_of_ble_eq_true rfl) (K1 c1)
  · show J l G mX7_cost _ _ 5 _ [.null] h Q
    refine j_nstore (pc := 5) dX7_cost_5 (by decide) ?_
    refine j_nload (pc := 7) dX7_cost_7 rfl ?_
    refine j_ifnullN (pc := 9) (tgt := 29) dX7_cost_9 (by decide) ?_
    refine j_iconst (pc := 29) (v := 0) dX7_cost_29 (by decide) ?_
    exact j_iret (pc := 30) dX7_cost_30 rfl rfl (Nat.le_of_ble_eq_true rfl) (Nat.le_of_ble_eq_true rfl) (K2 c2 c3)
  · show J l G mX7_cost _ _ 5 _ [.null] h Q
    subst ec6
    refine j_nstore (pc := 5) dX7_cost_5 (by decide) ?_
    refine j_nload (pc := 7) dX7_cost_7 rfl ?_
    refine j_ifnullN (pc := 9) (tgt := 29) dX7_cost_9 (by decide) ?_
    refine j_iconst (pc := 29) (v := 0) dX7_cost_29 (by decide) ?_
    exact j_iret (pc := 30) dX7_cost_30 rfl rfl (Nat.le_of_ble_eq_true rfl) (Nat.le_of_ble_eq_true rfl) (K3 c4 c5 t6 rfl ht6 c7)
  · show J l G mX7_cost _ _ 5 _ [.ref (tb t10)] h Q
    subst ec10
    refine j_astore (pc := 5) dX7_cost_5 (by decide) ?_
    refine j_aload (pc := 7) dX7_cost_7 rfl ?_
    refine j_ifnull (pc := 9) dX7_cost_9 ?_
    refine j_iload_n (pc := 12) dX7_cost_12 rfl ?_
    refine j_if_lt (pc := 13) (tgt := 29) dX7_cost_13 (by decide) (fun c12 => ?_) (fun c12 => ?_)
    · refine j_iconst (pc := 29) (v := 0) dX7_cost_29 (by decide) ?_
      exact j_iret (pc := 30) dX7_cost_30 rfl rfl (Nat.le_of_ble_eq_true rfl) (Nat.le_of_ble_eq_true rfl) (K4 c8 c9 t10 rfl ht10 c11 c12)
    · refine j_iload_n (pc := 16) dX7_cost_16 rfl ?_
      refine j_bipush (pc := 17) (v := 10) dX7_cost_17 (by decide) ?_
      refine j_icmp_ge (pc := 19) (tgt := 29) dX7_cost_19 (by decide) (fun c13 => ?_) (fun c13 => ?_)
      · refine j_iconst (pc := 29) (v := 0) dX7_cost_29 (by decide) ?_
        exact j_iret (pc := 30) dX7_cost_30 rfl rfl (Nat.le_of_ble_eq_true rfl) (Nat.le_of_ble_eq_true rfl) (K5 c8 c9 t10 rfl ht10 c11 c12 c13)
      · refine j_lload_n (pc := 22) dX7_cost_22 rfl ?_
        refine j_S1 (rm' := rmX7_areCents) (pc := 23) dX7_cost_23 jlX7_77 ⟨Nat.le_of_ble_eq_true rfl, Nat.le_of_ble_eq_true rfl, Nat.le_of_ble_eq_true rfl, Nat.le_of_ble_eq_true rfl, Nat.le_of_ble_eq_true rfl, Nat.le_of_ble_eq_true rfl⟩ ?_
        refine s_X7_areCents  (fun c14 => ?_) (fun c15 c16 => ?_) (fun c17 c18 => ?_)
        · show J l G mX7_cost _ _ 26 _ [.int 0] h Q
          refine j_if_ne (pc := 26) (tgt := 31) dX7_cost_26 (by decide) (fun c19 => ?_) (fun c19 => ?_)
          · exact absurd c19 (by decide)
          · refine j_iconst (pc := 29) (v := 0) dX7_cost_29 (by decide) ?_
            exact j_iret (pc := 30) dX7_cost_30 rfl rfl (Nat.le_of_ble_eq_true rfl) (Nat.le_of_ble_eq_true rfl) (K6 c8 c9 t10 rfl ht10 c11 c12 c13 c14)
        · show J l G mX7_cost _ _ 26 _ [.int 0] h Q
          refine j_if_ne (pc := 26) (tgt := 31) dX7_cost_26 (by decide) (fun c20 => ?_) (fun c20 => ?_)
          · exact absurd c20 (by decide)
          · refine j_iconst (pc := 29) (v := 0) dX7_cost_29 (by decide) ?_
            exact j_iret (pc := 30) dX7_cost_30 rfl rfl (Nat.le_of_ble_eq_true rfl) (Nat.le_of_ble_eq_true rfl) (K7 c8 c9 t10 rfl ht10 c11 c12 c13 c15 c16)
        · show J l G mX7_cost _ _ 26 _ [.int 1] h Q
          refine j_if_ne (pc := 26) (tgt := 31) dX7_cost_26 (by decide) (fun c21 => ?_) (fun c21 => ?_)
          · obtain ⟨k, hk, rfl⟩ : ∃ k : Nat, k < 10 ∧ k0 = nI k := jn_ge (N := 10) c12 c13 (by decide)
            refine j_aload (pc := 31) dX7_cost_31 rfl ?_
            refine j_getf (pc := 33) dX7_cost_33 jfX7_97 (FT t10 ht10) rfl ?_
            refine j_iload_n (pc := 36) dX7_cost_36 rfl ?_
            refine j_dup2 (pc := 37) dX7_cost_37 rfl rfl ?_
            refine j_lald (pc := 38) dX7_cost_38 (FC t10 ht10) (jix_nI (by omega) (by decide)) ?_
            refine j_lload_n (pc := 39) dX7_cost_39 rfl ?_
            refine j_ladd (pc := 40) dX7_cost_40 ?_
            refine j_last (pc := 41) dX7_cost_41 (FC t10 ht10) (jix_nI (by omega) (by decide)) ?_
            refine j_iconst (pc := 42) (v := 1) dX7_cost_42 (by decide) ?_
            exact j_iret (pc := 43) dX7_cost_43 rfl rfl (Nat.le_of_ble_eq_true rfl) (Nat.le_of_ble_eq_true rfl) (K8 c8 c9 t10 rfl ht10 c11 c12 c13 c17 c18 k rfl hk)
          · exact absurd c21 (by decide)

set_option maxRecDepth 20000 in
theorem s_X7_days {l : Launch} {G : jG} {h : jH} {Q : Option Value → jH → Prop} {ru dq T : Nat} {P : Nat} {t0 p0 n0 : Int32} {dys : Nat → Nat → Int32} {ta : Nat → Option Nat} {tb : Nat → Nat} {shp stl : Nat → Int32} {sal : Nat → Int64}  (H0 : h.2 0 = some (jO 7 [.ref 1, .ref 3, .ref 6, .ref 7, .ref 8, .ref 12, .ref ru, .ref dq, .int (nI T)])) (H1 : h.2 7 = some (jQ 4 20 ta)) (H2 : h.2 3 = some (jO 1 [.ref 4, .ref 5, .int (nI P)])) (FT : ∀ t, t < T → h.2 (tb t) = some (jO 6 [.int (shp t), .long (sal t), .ref (tb t + 1), .ref (tb t + 2), .ref (tb t + 3), .ref (tb t + 4), .int (stl t)])) (FD : ∀ t, t < T → h.2 (tb t + 2) = some (jI 12 (dys t))) (hT : T ≤ 20) (hta : ∀ t, t < T → ta t = some (tb t)) (hP : P ≤ 12) (K1 : t0 < 0 → Q (some (.int (-1))) h) (K2 : ¬ (t0 < 0) → (nI T) ≤ t0 → Q (some (.int (-1))) h) (K3 : ¬ (t0 < 0) → ¬ ((nI T) ≤ t0) → ∀ t6 : Nat, t0 = nI t6 → t6 < T → ¬ (stl t6) = 0 → Q (some (.int (-1))) h) (K4 : ¬ (t0 < 0) → ¬ ((nI T) ≤ t0) → ∀ t10 : Nat, t0 = nI t10 → t10 < T → (stl t10) = 0 → p0 < 0 → Q (some (.int (-1))) h) (K5 : ¬ (t0 < 0) → ¬ ((nI T) ≤ t0) → ∀ t10 : Nat, t0 = nI t10 → t10 < T → (stl t10) = 0 → ¬ (p0 < 0) → (nI P) ≤ p0 → Q (some (.int (-1))) h) (K6 : ¬ (t0 < 0) → ¬ ((nI T) ≤ t0) → ∀ t10 : Nat, t0 = nI t10 → t10 < T → (stl t10) = 0 → ¬ (p0 < 0) → ¬ ((nI P) ≤ p0) → n0 < 0 → Q (some (.int (-1))) h) (K7 : ¬ (t0 < 0) → ¬ ((nI T) ≤ t0) → ∀ t10 : Nat, t0 = nI t10 → t10 < T → (stl t10) = 0 → ¬ (p0 < 0) → ¬ ((nI P) ≤ p0) → ¬ (n0 < 0) → n0 ≤ 400 → ∀ p : Nat, p0 = nI p → p < P → Q (some (.int ((dys t10) p))) (j_set h (tb t10 + 2) (jI 12 (va_up (dys t10) p n0)))) (K8 : ¬ (t0 < 0) → ¬ ((nI T) ≤ t0) → ∀ t10 : Nat, t0 = nI t10 → t10 < T → (stl t10) = 0 → ¬ (p0 < 0) → ¬ ((nI P) ≤ p0) → ¬ (n0 < 0) → ¬ (n0 ≤ 400) → Q (some (.int (-1))) h) : J l G mX7_days 0 0 0 (lv_args 0 [.ref 0, .int t0, .int p0, .int n0]) [] h Q := by
  refine j_aload_n (pc := 0) dX7_days_0 rfl ?_
  refine j_iload_n (pc := 1) dX7_days_1 rfl ?_
  refine j_V1 (rm' := rmX7_tripToSettle) (pc := 2) dX7_days_2 jlX7_93 H0 rfl ⟨Nat.le_of_ble_eq_true rfl, Nat.le_of_ble_eq_true rfl, Nat.le_of_ble_eq_true rfl, Nat.le_of_ble_eq_true rfl, Nat.le_of_ble_eq_true rfl, Nat.le_of_ble_eq_true rfl⟩ ?_
  refine s_X7_tripToSettle (T := T) H0 H1 FT hT hta (fun c1 => ?_) (fun c2 c3 => ?_) (fun c4 c5 t6 ec6 ht6 c7 => ?_) (fun c8 c9 t10 ec10 ht10 c11 => ?_)
  · show J l G mX7_days _ _ 5 _ [.null] h Q
    refine j_nstore (pc := 5) dX7_days_5 (by decide) ?_
    refine j_nload (pc := 7) dX7_days_7 rfl ?_
    refine j_ifnullN (pc := 9) (tgt := 34) dX7_days_9 (by decide) ?_
    refine j_iconst (pc := 34) (v := -1) dX7_days_34 (by decide) ?_
    exact j_iret (pc := 35) dX7_days_35 rfl rfl (Nat.le_of_ble_eq_true rfl) (Nat.le_of_ble_eq_true rfl) (K1 c1)
  · show J l G mX7_days _ _ 5 _ [.null] h Q
    refine j_nstore (pc := 5) dX7_days_5 (by decide) ?_
    refine j_nload (pc := 7) dX7_days_7 rfl ?_
    refine j_ifnullN (pc := 9) (tgt := 34) dX7_days_9 (by decide) ?_
    refine j_iconst (pc := 34) (v := -1) dX7_days_34 (by decide) ?_
    exact j_iret (pc := 35) dX7_days_35 rfl rfl (Nat.le_of_ble_eq_true rfl) (Nat.le_of_ble_eq_true rfl) (K2 c2 c3)
  · show J l G mX7_days _ _ 5 _ [.null] h Q
    subst ec6
    refine j_nstore (pc := 5) dX7_days_5 (by decide) ?_
    refine j_nload (pc := 7) dX7_days_7 rfl ?_
    refine j_ifnullN (pc := 9) (tgt := 34) dX7_days_9 (by decide) ?_
    refine j_iconst (pc := 34) (v := -1) dX7_days_34 (by decide) ?_
    exact j_iret (pc := 35) dX7_days_35 rfl rfl (Nat.le_of_ble_eq_true rfl) (Nat.le_of_ble_eq_true rfl) (K3 c4 c5 t6 rfl ht6 c7)
  · show J l G mX7_days _ _ 5 _ [.ref (tb t10)] h Q
    subst ec10
    refine j_astore (pc := 5) dX7_days_5 (by decide) ?_
    refine j_aload (pc := 7) dX7_days_7 rfl ?_
    refine j_ifnull (pc := 9) dX7_days_9 ?_
    refine j_aload_n (pc := 12) dX7_days_12 rfl ?_
    refine j_getf (pc := 13) dX7_days_13 jfX7_21 H0 rfl ?_
    refine j_iload_n (pc := 16) dX7_days_16 rfl ?_
    refine j_V1 (rm' := rmX1_has) (pc := 17) dX7_days_17 jlX7_74 H2 rfl ⟨Nat.le_of_ble_eq_true rfl, Nat.le_of_ble_eq_true rfl, Nat.le_of_ble_eq_true rfl, Nat.le_of_ble_eq_true rfl, Nat.le_of_ble_eq_true rfl, Nat.le_of_ble_eq_true rfl⟩ ?_
    refine s_X1_has H2 (fun c12 => ?_) (fun c13 c14 => ?_) (fun c15 c16 => ?_)
    · show J l G mX7_days _ _ 20 _ [.int 0] h Q
      refine j_if_eq (pc := 20) (tgt := 34) dX7_days_20 (by decide) (fun c17 => ?_) (fun c17 => ?_)
      · refine j_iconst (pc := 34) (v := -1) dX7_days_34 (by decide) ?_
        exact j_iret (pc := 35) dX7_days_35 rfl rfl (Nat.le_of_ble_eq_true rfl) (Nat.le_of_ble_eq_true rfl) (K4 c8 c9 t10 rfl ht10 c11 c12)
      · exact absurd c17 (by decide)
    · show J l G mX7_days _ _ 20 _ [.int 0] h Q
      refine j_if_eq (pc := 20) (tgt := 34) dX7_days_20 (by decide) (fun c18 => ?_) (fun c18 => ?_)
      · refine j_iconst (pc := 34) (v := -1) dX7_days_34 (by decide) ?_
        exact j_iret (pc := 35) dX7_days_35 rfl rfl (Nat.le_of_ble_eq_true rfl) (Nat.le_of_ble_eq_true rfl) (K5 c8 c9 t10 rfl ht10 c11 c13 c14)
      · exact absurd c18 (by decide)
    · show J l G mX7_days _ _ 20 _ [.int 1] h Q
      refine j_if_eq (pc := 20) (tgt := 34) dX7_days_20 (by decide) (fun c19 => ?_) (fun c19 => ?_)
      · exact absurd c19 (by decide)
      · refine j_iload_n (pc := 23) dX7_days_23 rfl ?_
        refine j_if_lt (pc := 24) (tgt := 34) dX7_days_24 (by decide) (fun c20 => ?_) (fun c20 => ?_)
        · refine j_iconst (pc := 34) (v := -1) dX7_days_34 (by decide) ?_
          exact j_iret (pc := 35) dX7_days_35 rfl rfl (Nat.le_of_ble_eq_true rfl) (Nat.le_of_ble_eq_true rfl) (K6 c8 c9 t10 rfl ht10 c11 c15 c16 c20)
        · refine j_iload_n (pc := 27) dX7_days_27 rfl ?_
          refine j_sipush (pc := 28) (v := 400) dX7_days_28 (by decide) ?_
          refine j_icmp_le (pc := 31) (tgt := 36) dX7_days_31 (by decide) (fun c21 => ?_) (fun c21 => ?_)
          · obtain ⟨p, hp, rfl⟩ : ∃ p : Nat, p < P ∧ p0 = nI p := jn_ge c15 c16 (jn_P (by omega))
            refine j_aload (pc := 36) dX7_days_36 rfl ?_
            refine j_getf (pc := 38) dX7_days_38 jfX7_100 (FT t10 ht10) rfl ?_
            refine j_iload_n (pc := 41) dX7_days_41 rfl ?_
            refine j_iald (pc := 42) dX7_days_42 (FD t10 ht10) (jix_nI (by omega) (by decide)) ?_
            refine j_istore (pc := 43) dX7_days_43 (by decide) ?_
            refine j_aload (pc := 45) dX7_days_45 rfl ?_
            refine j_getf (pc := 47) dX7_days_47 jfX7_100 (FT t10 ht10) rfl ?_
            refine j_iload_n (pc := 50) dX7_days_50 rfl ?_
            refine j_iload_n (pc := 51) dX7_days_51 rfl ?_
            refine j_iast (pc := 52) dX7_days_52 (FD t10 ht10) (jix_nI (by omega) (by decide)) ?_
            refine j_iload (pc := 53) dX7_days_53 rfl ?_
            exact j_iret (pc := 55) dX7_days_55 rfl rfl (Nat.le_of_ble_eq_true rfl) (Nat.le_of_ble_eq_true rfl) (K7 c8 c9 t10 rfl ht10 c11 c15 c16 c20 c21 p rfl hp)
          · refine j_iconst (pc := 34) (v := -1) dX7_days_34 (by decide) ?_
            exact j_iret (pc := 35) dX7_days_35 rfl rfl (Nat.le_of_ble_eq_true rfl) (Nat.le_of_ble_eq_true rfl) (K8 c8 c9 t10 rfl ht10 c11 c15 c16 c20 c21)

set_option maxRecDepth 20000 in
theorem s_X7_part {l : Launch} {G : jG} {h : jH} {Q : Option Value → jH → Prop} {ru dq T : Nat} {t0 w0 : Int32} {prt : Nat → Nat → Int64} {ta : Nat → Option Nat} {tb : Nat → Nat} {shp stl : Nat → Int32} {sal : Nat → Int64}  (H0 : h.2 0 = some (jO 7 [.ref 1, .ref 3, .ref 6, .ref 7, .ref 8, .ref 12, .ref ru, .ref dq, .int (nI T)])) (H1 : h.2 7 = some (jQ 4 20 ta)) (FT : ∀ t, t < T → h.2 (tb t) = some (jO 6 [.int (shp t), .long (sal t), .ref (tb t + 1), .ref (tb t + 2), .ref (tb t + 3), .ref (tb t + 4), .int (stl t)])) (FP : ∀ t, t < T → h.2 (tb t + 3) = some (jL 6 (prt t))) (hT : T ≤ 20) (hta : ∀ t, t < T → ta t = some (tb t)) (K1 : t0 < 0 → Q (some (.long (-9223372036854775808))) h) (K2 : ¬ (t0 < 0) → (nI T) ≤ t0 → Q (some (.long (-9223372036854775808))) h) (K3 : ¬ (t0 < 0) → ¬ ((nI T) ≤ t0) → ∀ t6 : Nat, t0 = nI t6 → t6 < T → (stl t6) = 0 → Q (some (.long (-9223372036854775808))) h) (K4 : ¬ (t0 < 0) → ¬ ((nI T) ≤ t0) → ∀ t10 : Nat, t0 = nI t10 → t10 < T → ¬ (stl t10) = 0 → w0 < 0 → Q (some (.long (-9223372036854775808))) h) (K5 : ¬ (t0 < 0) → ¬ ((nI T) ≤ t0) → ∀ t10 : Nat, t0 = nI t10 → t10 < T → ¬ (stl t10) = 0 → ¬ (w0 < 0) → w0 < 6 → ∀ w : Nat, w0 = nI w → w < 6 → Q (some (.long ((prt t10) w))) h) (K6 : ¬ (t0 < 0) → ¬ ((nI T) ≤ t0) → ∀ t10 : Nat, t0 = nI t10 → t10 < T → ¬ (stl t10) = 0 → ¬ (w0 < 0) → ¬ (w0 < 6) → Q (some (.long (-9223372036854775808))) h) : J l G mX7_part 0 0 0 (lv_args 0 [.ref 0, .int t0, .int w0]) [] h Q := by
  refine j_aload_n (pc := 0) dX7_part_0 rfl ?_
  refine j_iload_n (pc := 1) dX7_part_1 rfl ?_
  refine j_V1 (rm' := rmX7_settledTrip) (pc := 2) dX7_part_2 jlX7_112 H0 rfl ⟨Nat.le_of_ble_eq_true rfl, Nat.le_of_ble_eq_true rfl, Nat.le_of_ble_eq_true rfl, Nat.le_of_ble_eq_true rfl, Nat.le_of_ble_eq_true rfl, Nat.le_of_ble_eq_true rfl⟩ ?_
  refine s_X7_settledTrip (T := T) H0 H1 FT hT hta (fun c1 => ?_) (fun c2 c3 => ?_) (fun c4 c5 t6 ec6 ht6 c7 => ?_) (fun c8 c9 t10 ec10 ht10 c11 => ?_)
  · show J l G mX7_part _ _ 5 _ [.null] h Q
    refine j_nstore_n (pc := 5) dX7_part_5 (by decide) ?_
    refine j_nload_n (pc := 6) dX7_part_6 rfl ?_
    refine j_ifnullN (pc := 7) (tgt := 20) dX7_part_7 (by decide) ?_
    refine j_ldc2 (pc := 20) dX7_part_20 jnX7_115 ?_
    exact j_lret (pc := 23) dX7_part_23 rfl (Nat.le_of_ble_eq_true rfl) (Nat.le_of_ble_eq_true rfl) (K1 c1)
  · show J l G mX7_part _ _ 5 _ [.null] h Q
    refine j_nstore_n (pc := 5) dX7_part_5 (by decide) ?_
    refine j_nload_n (pc := 6) dX7_part_6 rfl ?_
    refine j_ifnullN (pc := 7) (tgt := 20) dX7_part_7 (by decide) ?_
    refine j_ldc2 (pc := 20) dX7_part_20 jnX7_115 ?_
    exact j_lret (pc := 23) dX7_part_23 rfl (Nat.le_of_ble_eq_true rfl) (Nat.le_of_ble_eq_true rfl) (K2 c2 c3)
  · show J l G mX7_part _ _ 5 _ [.null] h Q
    subst ec6
    refine j_nstore_n (pc := 5) dX7_part_5 (by decide) ?_
    refine j_nload_n (pc := 6) dX7_part_6 rfl ?_
    refine j_ifnullN (pc := 7) (tgt := 20) dX7_part_7 (by decide) ?_
    refine j_ldc2 (pc := 20) dX7_part_20 jnX7_115 ?_
    exact j_lret (pc := 23) dX7_part_23 rfl (Nat.le_of_ble_eq_true rfl) (Nat.le_of_ble_eq_true rfl) (K3 c4 c5 t6 rfl ht6 c7)
  · show J l G mX7_part _ _ 5 _ [.ref (tb t10)] h Q
    subst ec10
    refine j_astore_n (pc := 5) dX7_part_5 (by decide) ?_
    refine j_aload_n (pc := 6) dX7_part_6 rfl ?_
    refine j_ifnull (pc := 7) dX7_part_7 ?_
    refine j_iload_n (pc := 10) dX7_part_10 rfl ?_
    refine j_if_lt (pc := 11) (tgt := 20) dX7_part_11 (by decide) (fun c12 => ?_) (fun c12 => ?_)
    · refine j_ldc2 (pc := 20) dX7_part_20 jnX7_115 ?_
      exact j_lret (pc := 23) dX7_part_23 rfl (Nat.le_of_ble_eq_true rfl) (Nat.le_of_ble_eq_true rfl) (K4 c8 c9 t10 rfl ht10 c11 c12)
    · refine j_iload_n (pc := 14) dX7_part_14 rfl ?_
      refine j_bipush (pc := 15) (v := 6) dX7_part_15 (by decide) ?_
      refine j_icmp_lt (pc := 17) (tgt := 24) dX7_part_17 (by decide) (fun c13 => ?_) (fun c13 => ?_)
      · obtain ⟨w, hw, rfl⟩ : ∃ w : Nat, w < 6 ∧ w0 = nI w := jn_lt (N := 6) c12 c13 (by decide)
        refine j_aload_n (pc := 24) dX7_part_24 rfl ?_
        refine j_getf (pc := 25) dX7_part_25 jfX7_117 (FT t10 ht10) rfl ?_
        refine j_iload_n (pc := 28) dX7_part_28 rfl ?_
        refine j_lald (pc := 29) dX7_part_29 (FP t10 ht10) (jix_nI (by omega) (by decide)) ?_
        exact j_lret (pc := 30) dX7_part_30 rfl (Nat.le_of_ble_eq_true rfl) (Nat.le_of_ble_eq_true rfl) (K5 c8 c9 t10 rfl ht10 c11 c12 c13 w rfl hw)
      · refine j_ldc2 (pc := 20) dX7_part_20 jnX7_115 ?_
        exact j_lret (pc := 23) dX7_part_23 rfl (Nat.le_of_ble_eq_true rfl) (Nat.le_of_ble_eq_true rfl) (K6 c8 c9 t10 rfl ht10 c11 c12 c13)

set_option maxRecDepth 20000 in
theorem s_X7_share {l : Launch} {G : jG} {h : jH} {Q : Option Value → jH → Prop} {ru dq T : Nat} {P : Nat} {t0 p0 w0 : Int32} {srw : Nat → Nat → Option Nat} {shs : Nat → Nat → Nat → Int64} {ta : Nat → Option Nat} {tb : Nat → Nat} {shp stl : Nat → Int32} {sal : Nat → Int64}  (H0 : h.2 0 = some (jO 7 [.ref 1, .ref 3, .ref 6, .ref 7, .ref 8, .ref 12, .ref ru, .ref dq, .int (nI T)])) (H1 : h.2 7 = some (jQ 4 20 ta)) (H2 : h.2 3 = some (jO 1 [.ref 4, .ref 5, .int (nI P)])) (FT : ∀ t, t < T → h.2 (tb t) = some (jO 6 [.int (shp t), .long (sal t), .ref (tb t + 1), .ref (tb t + 2), .ref (tb t + 3), .ref (tb t + 4), .int (stl t)])) (FS : ∀ t, t < T → h.2 (tb t + 4) = some (jQ 6 4 (srw t))) (FR : ∀ t, t < T → ∀ w, w < 4 → h.2 (tb t + 5 + w) = some (jL 12 (shs t w))) (hT : T ≤ 20) (hta : ∀ t, t < T → ta t = some (tb t)) (hP : P ≤ 12) (hsr : ∀ t, t < T → ∀ w, w < 4 → srw t w = some (tb t + 5 + w)) (K1 : t0 < 0 → Q (some (.long (-9223372036854775808))) h) (K2 : ¬ (t0 < 0) → (nI T) ≤ t0 → Q (some (.long (-9223372036854775808))) h) (K3 : ¬ (t0 < 0) → ¬ ((nI T) ≤ t0) → ∀ t6 : Nat, t0 = nI t6 → t6 < T → (stl t6) = 0 → Q (some (.long (-9223372036854775808))) h) (K4 : ¬ (t0 < 0) → ¬ ((nI T) ≤ t0) → ∀ t10 : Nat, t0 = nI t10 → t10 < T → ¬ (stl t10) = 0 → p0 < 0 → Q (some (.long (-9223372036854775808))) h) (K5 : ¬ (t0 < 0) → ¬ ((nI T) ≤ t0) → ∀ t10 : Nat, t0 = nI t10 → t10 < T → ¬ (stl t10) = 0 → ¬ (p0 < 0) → (nI P) ≤ p0 → Q (some (.long (-9223372036854775808))) h) (K6 : ¬ (t0 < 0) → ¬ ((nI T) ≤ t0) → ∀ t10 : Nat, t0 = nI t10 → t10 < T → ¬ (stl t10) = 0 → ¬ (p0 < 0) → ¬ ((nI P) ≤ p0) → w0 < 0 → Q (some (.long (-9223372036854775808))) h) (K7 : ¬ (t0 < 0) → ¬ ((nI T) ≤ t0) → ∀ t10 : Nat, t0 = nI t10 → t10 < T → ¬ (stl t10) = 0 → ¬ (p0 < 0) → ¬ ((nI P) ≤ p0) → ¬ (w0 < 0) → w0 < 4 → ∀ w : Nat, w0 = nI w → w < 4 → ∀ p : Nat, p0 = nI p → p < P → Q (some (.long ((shs t10 w) p))) h) (K8 : ¬ (t0 < 0) → ¬ ((nI T) ≤ t0) → ∀ t10 : Nat, t0 = nI t10 → t10 < T → ¬ (stl t10) = 0 → ¬ (p0 < 0) → ¬ ((nI P) ≤ p0) → ¬ (w0 < 0) → ¬ (w0 < 4) → Q (some (.long (-9223372036854775808))) h) : J l G mX7_share 0 0 0 (lv_args 0 [.ref 0, .int t0, .int p0, .int w0]) [] h Q := by
  refine j_aload_n (pc := 0) dX7_share_0 rfl ?_
  refine j_iload_n (pc := 1) dX7_share_1 rfl ?_
  refine j_V1 (rm' := rmX7_settledTrip) (pc := 2) dX7_share_2 jlX7_112 H0 rfl ⟨Nat.le_of_ble_eq_true rfl, Nat.le_of_ble_eq_true rfl, Nat.le_of_ble_eq_true rfl, Nat.le_of_ble_eq_true rfl, Nat.le_of_ble_eq_true rfl, Nat.le_of_ble_eq_true rfl⟩ ?_
  refine s_X7_settledTrip (T := T) H0 H1 FT hT hta (fun c1 => ?_) (fun c2 c3 => ?_) (fun c4 c5 t6 ec6 ht6 c7 => ?_) (fun c8 c9 t10 ec10 ht10 c11 => ?_)
  · show J l G mX7_share _ _ 5 _ [.null] h Q
    refine j_nstore (pc := 5) dX7_share_5 (by decide) ?_
    refine j_nload (pc := 7) dX7_share_7 rfl ?_
    refine j_ifnullN (pc := 9) (tgt := 32) dX7_share_9 (by decide) ?_
    refine j_ldc2 (pc := 32) dX7_share_32 jnX7_115 ?_
    exact j_lret (pc := 35) dX7_share_35 rfl (Nat.le_of_ble_eq_true rfl) (Nat.le_of_ble_eq_true rfl) (K1 c1)
  · show J l G mX7_share _ _ 5 _ [.null] h Q
    refine j_nstore (pc := 5) dX7_share_5 (by decide) ?_
    refine j_nload (pc := 7) dX7_share_7 rfl ?_
    refine j_ifnullN (pc := 9) (tgt := 32) dX7_share_9 (by decide) ?_
    refine j_ldc2 (pc := 32) dX7_share_32 jnX7_115 ?_
    exact j_lret (pc := 35) dX7_share_35 rfl (Nat.le_of_ble_eq_true rfl) (Nat.le_of_ble_eq_true rfl) (K2 c2 c3)
  · show J l G mX7_share _ _ 5 _ [.null] h Q
    subst ec6
    refine j_nstore (pc := 5) dX7_share_5 (by decide) ?_
    refine j_nload (pc := 7) dX7_share_7 rfl ?_
    refine j_ifnullN (pc := 9) (tgt := 32) dX7_share_9 (by decide) ?_
    refine j_ldc2 (pc := 32) dX7_share_32 jnX7_115 ?_
    exact j_lret (pc := 35) dX7_share_35 rfl (Nat.le_of_ble_eq_true rfl) (Nat.le_of_ble_eq_true rfl) (K3 c4 c5 t6 rfl ht6 c7)
  · show J l G mX7_share _ _ 5 _ [.ref (tb t10)] h Q
    subst ec10
    refine j_astore (pc := 5) dX7_share_5 (by decide) ?_
    refine j_aload (pc := 7) dX7_share_7 rfl ?_
    refine j_ifnull (pc := 9) dX7_share_9 ?_
    refine j_aload_n (pc := 12) dX7_share_12 rfl ?_
    refine j_getf (pc := 13) dX7_share_13 jfX7_21 H0 rfl ?_
    refine j_iload_n (pc := 16) dX7_share_16 rfl ?_
    refine j_V1 (rm' := rmX1_has) (pc := 17) dX7_share_17 jlX7_74 H2 rfl ⟨Nat.le_of_ble_eq_true rfl, Nat.le_of_ble_eq_true rfl, Nat.le_of_ble_eq_true rfl, Nat.le_of_ble_eq_true rfl, Nat.le_of_ble_eq_true rfl, Nat.le_of_ble_eq_true rfl⟩ ?_
    refine s_X1_has H2 (fun c12 => ?_) (fun c13 c14 => ?_) (fun c15 c16 => ?_)
    · show J l G mX7_share _ _ 20 _ [.int 0] h Q
      refine j_if_eq (pc := 20) (tgt := 32) dX7_share_20 (by decide) (fun c17 => ?_) (fun c17 => ?_)
      · refine j_ldc2 (pc := 32) dX7_share_32 jnX7_115 ?_
        exact j_lret (pc := 35) dX7_share_35 rfl (Nat.le_of_ble_eq_true rfl) (Nat.le_of_ble_eq_true rfl) (K4 c8 c9 t10 rfl ht10 c11 c12)
      · exact absurd c17 (by decide)
    · show J l G mX7_share _ _ 20 _ [.int 0] h Q
      refine j_if_eq (pc := 20) (tgt := 32) dX7_share_20 (by decide) (fun c18 => ?_) (fun c18 => ?_)
      · refine j_ldc2 (pc := 32) dX7_share_32 jnX7_115 ?_
        exact j_lret (pc := 35) dX7_share_35 rfl (Nat.le_of_ble_eq_true rfl) (Nat.le_of_ble_eq_true rfl) (K5 c8 c9 t10 rfl ht10 c11 c13 c14)
      · exact absurd c18 (by decide)
    · show J l G mX7_share _ _ 20 _ [.int 1] h Q
      refine j_if_eq (pc := 20) (tgt := 32) dX7_share_20 (by decide) (fun c19 => ?_) (fun c19 => ?_)
      · exact absurd c19 (by decide)
      · refine j_iload_n (pc := 23) dX7_share_23 rfl ?_
        refine j_if_lt (pc := 24) (tgt := 32) dX7_share_24 (by decide) (fun c20 => ?_) (fun c20 => ?_)
        · refine j_ldc2 (pc := 32) dX7_share_32 jnX7_115 ?_
          exact j_lret (pc := 35) dX7_share_35 rfl (Nat.le_of_ble_eq_true rfl) (Nat.le_of_ble_eq_true rfl) (K6 c8 c9 t10 rfl ht10 c11 c15 c16 c20)
        · refine j_iload_n (pc := 27) dX7_share_27 rfl ?_
          refine j_iconst (pc := 28) (v := 4) dX7_share_28 (by decide) ?_
          refine j_icmp_lt (pc := 29) (tgt := 36) dX7_share_29 (by decide) (fun c21 => ?_) (fun c21 => ?_)
          · obtain ⟨w, hw, rfl⟩ : ∃ w : Nat, w < 4 ∧ w0 = nI w := jn_lt (N := 4) c20 c21 (by decide)
            obtain ⟨p, hp, rfl⟩ : ∃ p : Nat, p < P ∧ p0 = nI p := jn_ge c15 c16 (jn_P (by omega))
            refine j_aload (pc := 36) dX7_share_36 rfl ?_
            refine j_getf (pc := 38) dX7_share_38 jfX7_120 (FT t10 ht10) rfl ?_
            refine j_iload_n (pc := 41) dX7_share_41 rfl ?_
            refine j_aaldR (pc := 42) dX7_share_42 (t := 6) rfl rfl (FS t10 ht10) (jix_nI (by omega) (by decide)) (hsr t10 ht10 w hw) ?_
            refine j_iload_n (pc := 43) dX7_share_43 rfl ?_
            refine j_lald (pc := 44) dX7_share_44 (FR t10 ht10 w hw) (jix_nI (by omega) (by decide)) ?_
            exact j_lret (pc := 45) dX7_share_45 rfl (Nat.le_of_ble_eq_true rfl) (Nat.le_of_ble_eq_true rfl) (K7 c8 c9 t10 rfl ht10 c11 c15 c16 c20 c21 w rfl hw p rfl hp)
          · refine j_ldc2 (pc := 32) dX7_share_32 jnX7_115 ?_
            exact j_lret (pc := 35) dX7_share_35 rfl (Nat.le_of_ble_eq_true rfl) (Nat.le_of_ble_eq_true rfl) (K8 c8 c9 t10 rfl ht10 c11 c15 c16 c20 c21)

set_option maxRecDepth 20000 in
theorem s_X7_carried {l : Launch} {G : jG} {h : jH} {Q : Option Value → jH → Prop} {ru dq T : Nat} {P : Nat} {w0 : Int32} {ad lo : Nat → Int64} (H0 : h.2 0 = some (jO 7 [.ref 1, .ref 3, .ref 6, .ref 7, .ref 8, .ref 12, .ref ru, .ref dq, .int (nI T)])) (H1 : h.2 3 = some (jO 1 [.ref 4, .ref 5, .int (nI P)])) (H2 : h.2 5 = some (jL 12 ad)) (H3 : h.2 6 = some (jL 4 lo)) (hP : P ≤ 12) (K1 : w0 < 0 → w0 < 100 → Q (some (.long (-1))) h) (K2 : w0 < 0 → ¬ (w0 < 100) → (w0 - 100) < 0 → Q (some (.long (-1))) h) (K3 : w0 < 0 → ¬ (w0 < 100) → ¬ ((w0 - 100) < 0) → (nI P) ≤ (w0 - 100) → Q (some (.long (-1))) h) (K4 : w0 < 0 → ¬ (w0 < 100) → ¬ ((w0 - 100) < 0) → ¬ ((nI P) ≤ (w0 - 100)) → Q (some (.long (ad ((w0 - 100).toNatClampNeg)))) h) (K5 : ¬ (w0 < 0) → 4 ≤ w0 → w0 < 100 → Q (some (.long (-1))) h) (K6 : ¬ (w0 < 0) → 4 ≤ w0 → ¬ (w0 < 100) → (w0 - 100) < 0 → Q (some (.long (-1))) h) (K7 : ¬ (w0 < 0) → 4 ≤ w0 → ¬ (w0 < 100) → ¬ ((w0 - 100) < 0) → (nI P) ≤ (w0 - 100) → Q (some (.long (-1))) h) (K8 : ¬ (w0 < 0) → 4 ≤ w0 → ¬ (w0 < 100) → ¬ ((w0 - 100) < 0) → ¬ ((nI P) ≤ (w0 - 100)) → Q (some (.long (ad ((w0 - 100).toNatClampNeg)))) h) (K9 : ¬ (w0 < 0) → ¬ (4 ≤ w0) → ∀ w : Nat, w0 = nI w → w < 4 → Q (some (.long (lo w))) h) : J l G mX7_carried 0 0 0 (lv_args 0 [.ref 0, .int w0]) [] h Q := by
  refine j_iload_n (pc := 0) dX7_carried_0 rfl ?_
  refine j_if_lt (pc := 1) (tgt := 16) dX7_carried_1 (by decide) (fun c1 => ?_) (fun c1 => ?_)
  · refine j_iload_n (pc := 16) dX7_carried_16 rfl ?_
    refine j_bipush (pc := 17) (v := 100) dX7_carried_17 (by decide) ?_
    refine j_icmp_lt (pc := 19) (tgt := 49) dX7_carried_19 (by decide) (fun c2 => ?_) (fun c2 => ?_)
    · refine j_ldc2 (pc := 49) dX7_carried_49 jnX7_124 ?_
      exact j_lret (pc := 52) dX7_carried_52 rfl (Nat.le_of_ble_eq_true rfl) (Nat.le_of_ble_eq_true rfl) (K1 c1 c2)
    · refine j_aload_n (pc := 22) dX7_carried_22 rfl ?_
      refine j_getf (pc := 23) dX7_carried_23 jfX7_21 H0 rfl ?_
      refine j_iload_n (pc := 26) dX7_carried_26 rfl ?_
      refine j_bipush (pc := 27) (v := 100) dX7_carried_27 (by decide) ?_
      refine j_isub (pc := 29) dX7_carried_29 ?_
      refine j_V1 (rm' := rmX1_has) (pc := 30) dX7_carried_30 jlX7_74 H1 rfl ⟨Nat.le_of_ble_eq_true rfl, Nat.le_of_ble_eq_true rfl, Nat.le_of_ble_eq_true rfl, Nat.le_of_ble_eq_true rfl, Nat.le_of_ble_eq_true rfl, Nat.le_of_ble_eq_true rfl⟩ ?_
      refine s_X1_has H1 (fun c3 => ?_) (fun c4 c5 => ?_) (fun c6 c7 => ?_)
      · show J l G mX7_carried _ _ 33 _ [.int 0] h Q
        refine j_if_eq (pc := 33) (tgt := 49) dX7_carried_33 (by decide) (fun c8 => ?_) (fun c8 => ?_)
        · refine j_ldc2 (pc := 49) dX7_carried_49 jnX7_124 ?_
          exact j_lret (pc := 52) dX7_carried_52 rfl (Nat.le_of_ble_eq_true rfl) (Nat.le_of_ble_eq_true rfl) (K2 c1 c2 c3)
        · exact absurd c8 (by decide)
      · show J l G mX7_carried _ _ 33 _ [.int 0] h Q
        refine j_if_eq (pc := 33) (tgt := 49) dX7_carried_33 (by decide) (fun c9 => ?_) (fun c9 => ?_)
        · refine j_ldc2 (pc := 49) dX7_carried_49 jnX7_124 ?_
          exact j_lret (pc := 52) dX7_carried_52 rfl (Nat.le_of_ble_eq_true rfl) (Nat.le_of_ble_eq_true rfl) (K3 c1 c2 c4 c5)
        · exact absurd c9 (by decide)
      · show J l G mX7_carried _ _ 33 _ [.int 1] h Q
        refine j_if_eq (pc := 33) (tgt := 49) dX7_carried_33 (by decide) (fun c10 => ?_) (fun c10 => ?_)
        · exact absurd c10 (by decide)
        · refine j_aload_n (pc := 36) dX7_carried_36 rfl ?_
          refine j_getf (pc := 37) dX7_carried_37 jfX7_21 H0 rfl ?_
          refine j_getf (pc := 40) dX7_carried_40 jfX7_81 H1 rfl ?_
          refine j_iload_n (pc := 43) dX7_carried_43 rfl ?_
          refine j_bipush (pc := 44) (v := 100) dX7_carried_44 (by decide) ?_
          refine j_isub (pc := 46) dX7_carried_46 ?_
          refine j_lald (pc := 47) dX7_carried_47 H2 (jix_P c6 c7 hP) ?_
          exact j_lret (pc := 48) dX7_carried_48 rfl (Nat.le_of_ble_eq_true rfl) (Nat.le_of_ble_eq_true rfl) (K4 c1 c2 c6 c7)
  · refine j_iload_n (pc := 4) dX7_carried_4 rfl ?_
    refine j_iconst (pc := 5) (v := 4) dX7_carried_5 (by decide) ?_
    refine j_icmp_ge (pc := 6) (tgt := 16) dX7_carried_6 (by decide) (fun c11 => ?_) (fun c11 => ?_)
    · refine j_iload_n (pc := 16) dX7_carried_16 rfl ?_
      refine j_bipush (pc := 17) (v := 100) dX7_carried_17 (by decide) ?_
      refine j_icmp_lt (pc := 19) (tgt := 49) dX7_carried_19 (by decide) (fun c12 => ?_) (fun c12 => ?_)
      · refine j_ldc2 (pc := 49) dX7_carried_49 jnX7_124 ?_
        exact j_lret (pc := 52) dX7_carried_52 rfl (Nat.le_of_ble_eq_true rfl) (Nat.le_of_ble_eq_true rfl) (K5 c1 c11 c12)
      · refine j_aload_n (pc := 22) dX7_carried_22 rfl ?_
        refine j_getf (pc := 23) dX7_carried_23 jfX7_21 H0 rfl ?_
        refine j_iload_n (pc := 26) dX7_carried_26 rfl ?_
        refine j_bipush (pc := 27) (v := 100) dX7_carried_27 (by decide) ?_
        refine j_isub (pc := 29) dX7_carried_29 ?_
        refine j_V1 (rm' := rmX1_has) (pc := 30) dX7_carried_30 jlX7_74 H1 rfl ⟨Nat.le_of_ble_eq_true rfl, Nat.le_of_ble_eq_true rfl, Nat.le_of_ble_eq_true rfl, Nat.le_of_ble_eq_true rfl, Nat.le_of_ble_eq_true rfl, Nat.le_of_ble_eq_true rfl⟩ ?_
        refine s_X1_has H1 (fun c13 => ?_) (fun c14 c15 => ?_) (fun c16 c17 => ?_)
        · show J l G mX7_carried _ _ 33 _ [.int 0] h Q
          refine j_if_eq (pc := 33) (tgt := 49) dX7_carried_33 (by decide) (fun c18 => ?_) (fun c18 => ?_)
          · refine j_ldc2 (pc := 49) dX7_carried_49 jnX7_124 ?_
            exact j_lret (pc := 52) dX7_carried_52 rfl (Nat.le_of_ble_eq_true rfl) (Nat.le_of_ble_eq_true rfl) (K6 c1 c11 c12 c13)
          · exact absurd c18 (by decide)
        · show J l G mX7_carried _ _ 33 _ [.int 0] h Q
          refine j_if_eq (pc := 33) (tgt := 49) dX7_carried_33 (by decide) (fun c19 => ?_) (fun c19 => ?_)
          · refine j_ldc2 (pc := 49) dX7_carried_49 jnX7_124 ?_
            exact j_lret (pc := 52) dX7_carried_52 rfl (Nat.le_of_ble_eq_true rfl) (Nat.le_of_ble_eq_true rfl) (K7 c1 c11 c12 c14 c15)
          · exact absurd c19 (by decide)
        · show J l G mX7_carried _ _ 33 _ [.int 1] h Q
          refine j_if_eq (pc := 33) (tgt := 49) dX7_carried_33 (by decide) (fun c20 => ?_) (fun c20 => ?_)
          · exact absurd c20 (by decide)
          · refine j_aload_n (pc := 36) dX7_carried_36 rfl ?_
            refine j_getf (pc := 37) dX7_carried_37 jfX7_21 H0 rfl ?_
            refine j_getf (pc := 40) dX7_carried_40 jfX7_81 H1 rfl ?_
            refine j_iload_n (pc := 43) dX7_carried_43 rfl ?_
            refine j_bipush (pc := 44) (v := 100) dX7_carried_44 (by decide) ?_
            refine j_isub (pc := 46) dX7_carried_46 ?_
            refine j_lald (pc := 47) dX7_carried_47 H2 (jix_P c16 c17 hP) ?_
            exact j_lret (pc := 48) dX7_carried_48 rfl (Nat.le_of_ble_eq_true rfl) (Nat.le_of_ble_eq_true rfl) (K8 c1 c11 c12 c16 c17)
    · obtain ⟨w, hw, rfl⟩ : ∃ w : Nat, w < 4 ∧ w0 = nI w := jn_ge (N := 4) c1 c11 (by decide)
      refine j_aload_n (pc := 9) dX7_carried_9 rfl ?_
      refine j_getf (pc := 10) dX7_carried_10 jfX7_25 H0 rfl ?_
      refine j_iload_n (pc := 13) dX7_carried_13 rfl ?_
      refine j_lald (pc := 14) dX7_carried_14 H3 (jix_nI (by omega) (by decide)) ?_
      exact j_lret (pc := 15) dX7_carried_15 rfl (Nat.le_of_ble_eq_true rfl) (Nat.le_of_ble_eq_true rfl) (K9 c1 c11 w rfl hw)

set_option maxRecDepth 20000 in
theorem s_X0_begin {l : Launch} {G : jG} {h : jH} {Q : Option Value → jH → Prop} {dr E C R : Nat} {op dd dk dn : Int32} {d0 : Int32} (H0 : h.2 12 = some (jO 0 [.ref 13, .int (nI E), .ref dr, .int op, .int (nI C)])) (H1 : h.2 dr = some (jO 2 [.ref (dr + 1), .ref (dr + 2), .int (nI R), .int dd, .int dk, .int dn])) (hE : E ≤ 60) (hdr : 14 ≤ dr) (K1 : ¬ op = 0 → Q (some (.int 0)) h) (K2 : op = 0 → d0 < 0 → Q (some (.int 0)) h) (K3 : op = 0 → ¬ (d0 < 0) → 3600 ≤ d0 → Q (some (.int 0)) h) (K4 : op = 0 → ¬ (d0 < 0) → ¬ (3600 ≤ d0) → (nI C) ≤ (d0 / 30) → E < 60 → Q (some (.int 1)) (j_set (j_set h dr (jO 2 [.ref (dr + 1), .ref (dr + 2), .int 0, .int d0, .int dk, .int dn])) 12 (jO 0 [.ref 13, .int (nI E), .ref dr, .int 1, .int (nI C)]))) (K5 : op = 0 → ¬ (d0 < 0) → ¬ (3600 ≤ d0) → (nI C) ≤ (d0 / 30) → ¬ E < 60 → Q (some (.int 0)) h) (K6 : op = 0 → ¬ (d0 < 0) → ¬ (3600 ≤ d0) → ¬ ((nI C) ≤ (d0 / 30)) → Q (some (.int 0)) h) : J l G mX0_begin 0 0 0 (lv_args 0 [.ref 12, .int d0]) [] h Q := by
  refine j_aload_n (pc := 0) dX0_begin_0 rfl ?_
  refine j_getf (pc := 1) dX0_begin_1 jfX0_22 H0 rfl ?_
  refine j_if_ne (pc := 4) (tgt := 22) dX0_begin_4 (by decide) (fun c1 => ?_) (fun c1 => ?_)
  · refine j_iconst (pc := 22) (v := 0) dX0_begin_22 (by decide) ?_
    exact j_iret (pc := 23) dX0_begin_23 rfl rfl (Nat.le_of_ble_eq_true rfl) (Nat.le_of_ble_eq_true rfl) (K1 c1)
  · refine j_aload_n (pc := 7) dX0_begin_7 rfl ?_
    refine j_iload_n (pc := 8) dX0_begin_8 rfl ?_
    refine j_V1 (rm' := rmX0_takesDay) (pc := 9) dX0_begin_9 jlX0_26 H0 rfl ⟨Nat.le_of_ble_eq_true rfl, Nat.le_of_ble_eq_true rfl, Nat.le_of_ble_eq_true rfl, Nat.le_of_ble_eq_true rfl, Nat.le_of_ble_eq_true rfl, Nat.le_of_ble_eq_true rfl⟩ ?_
    refine s_X0_takesDay H0 (fun c2 => ?_) (fun c3 c4 => ?_) (fun c5 c6 c7 => ?_) (fun c8 c9 c10 => ?_)
    · show J l G mX0_begin _ _ 12 _ [.int 0] h Q
      refine j_if_eq (pc := 12) (tgt := 22) dX0_begin_12 (by decide) (fun c11 => ?_) (fun c11 => ?_)
      · refine j_iconst (pc := 22) (v := 0) dX0_begin_22 (by decide) ?_
        exact j_iret (pc := 23) dX0_begin_23 rfl rfl (Nat.le_of_ble_eq_true rfl) (Nat.le_of_ble_eq_true rfl) (K2 c1 c2)
      · exact absurd c11 (by decide)
    · show J l G mX0_begin _ _ 12 _ [.int 0] h Q
      refine j_if_eq (pc := 12) (tgt := 22) dX0_begin_12 (by decide) (fun c12 => ?_) (fun c12 => ?_)
      · refine j_iconst (pc := 22) (v := 0) dX0_begin_22 (by decide) ?_
        exact j_iret (pc := 23) dX0_begin_23 rfl rfl (Nat.le_of_ble_eq_true rfl) (Nat.le_of_ble_eq_true rfl) (K3 c1 c3 c4)
      · exact absurd c12 (by decide)
    · show J l G mX0_begin _ _ 12 _ [.int 1] h Q
      refine j_if_eq (pc := 12) (tgt := 22) dX0_begin_12 (by decide) (fun c13 => ?_) (fun c13 => ?_)
      · exact absurd c13 (by decide)
      · refine j_aload_n (pc := 15) dX0_begin_15 rfl ?_
        refine j_V0 (rm' := rmX0_isFull) (pc := 16) dX0_begin_16 jlX0_30 H0 rfl ⟨Nat.le_of_ble_eq_true rfl, Nat.le_of_ble_eq_true rfl, Nat.le_of_ble_eq_true rfl, Nat.le_of_ble_eq_true rfl, Nat.le_of_ble_eq_true rfl, Nat.le_of_ble_eq_true rfl⟩ ?_
        refine s_X0_isFull H0 (fun c14 => ?_) (fun c15 => ?_)
        · show J l G mX0_begin _ _ 19 _ [.int 0] h Q
          have c14 : E < 60 := (nI_ltI (a := E) (b := 60) (by omega) (by omega)).mp c14
          refine j_if_eq (pc := 19) (tgt := 24) dX0_begin_19 (by decide) (fun c16 => ?_) (fun c16 => ?_)
          · refine j_aload_n (pc := 24) dX0_begin_24 rfl ?_
            refine j_getf (pc := 25) dX0_begin_25 jfX0_18 H0 rfl ?_
            refine j_iload_n (pc := 28) dX0_begin_28 rfl ?_
            refine j_V1 (rm' := rmX2_startOn) (pc := 29) dX0_begin_29 jlX0_34 H1 rfl ⟨Nat.le_of_ble_eq_true rfl, Nat.le_of_ble_eq_true rfl, Nat.le_of_ble_eq_true rfl, Nat.le_of_ble_eq_true rfl, Nat.le_of_ble_eq_true rfl, Nat.le_of_ble_eq_true rfl⟩ ?_
            refine s_X2_startOn H1 ?_
            show J l G mX0_begin _ _ 32 _ [] (j_set h dr (jO 2 [.ref (dr + 1), .ref (dr + 2), .int 0, .int d0, .int dk, .int dn])) Q
            refine j_aload_n (pc := 32) dX0_begin_32 rfl ?_
            refine j_iconst (pc := 33) (v := 1) dX0_begin_33 (by decide) ?_
            refine j_putf (pc := 34) dX0_begin_34 jfX0_22 (j_hn (by omega) H0) rfl rfl (Nat.le_of_ble_eq_true rfl) ?_
            show J l G mX0_begin _ _ 37 _ _ (j_set (j_set h dr (jO 2 [.ref (dr + 1), .ref (dr + 2), .int 0, .int d0, .int dk, .int dn])) 12 (jO 0 [.ref 13, .int (nI E), .ref dr, .int 1, .int (nI C)])) Q
            refine j_iconst (pc := 37) (v := 1) dX0_begin_37 (by decide) ?_
            exact j_iret (pc := 38) dX0_begin_38 rfl rfl (Nat.le_of_ble_eq_true rfl) (Nat.le_of_ble_eq_true rfl) (K4 c1 c5 c6 c7 c14)
          · exact absurd c16 (by decide)
        · show J l G mX0_begin _ _ 19 _ [.int 1] h Q
          have c15 : ¬ E < 60 := fun z => c15 ((nI_ltI (a := E) (b := 60) (by omega) (by omega)).mpr z)
          refine j_if_eq (pc := 19) (tgt := 24) dX0_begin_19 (by decide) (fun c17 => ?_) (fun c17 => ?_)
          · exact absurd c17 (by decide)
          · refine j_iconst (pc := 22) (v := 0) dX0_begin_22 (by decide) ?_
            exact j_iret (pc := 23) dX0_begin_23 rfl rfl (Nat.le_of_ble_eq_true rfl) (Nat.le_of_ble_eq_true rfl) (K5 c1 c5 c6 c7 c15)
    · show J l G mX0_begin _ _ 12 _ [.int 0] h Q
      refine j_if_eq (pc := 12) (tgt := 22) dX0_begin_12 (by decide) (fun c18 => ?_) (fun c18 => ?_)
      · refine j_iconst (pc := 22) (v := 0) dX0_begin_22 (by decide) ?_
        exact j_iret (pc := 23) dX0_begin_23 rfl rfl (Nat.le_of_ble_eq_true rfl) (Nat.le_of_ble_eq_true rfl) (K6 c1 c8 c9 c10)
      · exact absurd c18 (by decide)

set_option maxRecDepth 20000 in
theorem s_X2_add {l : Launch} {G : jG} {h : jH} {Q : Option Value → jH → Prop} {dr R : Nat} {dd dk dn a0 : Int32} {v : Int64} {da : Nat → Int32} {dm : Nat → Int64} (H0 : h.2 dr = some (jO 2 [.ref (dr + 1), .ref (dr + 2), .int (nI R), .int dd, .int dk, .int dn])) (H1 : h.2 (dr + 1) = some (jI 8 da)) (H2 : h.2 (dr + 2) = some (jL 8 dm)) (hR : R ≤ 8) (K1 : R < 8 → Q none (j_set (j_set (j_set h (dr + 1) (jI 8 (va_up da R a0))) (dr + 2) (jL 8 (va_up dm R v))) dr (jO 2 [.ref (dr + 1), .ref (dr + 2), .int (nI (R + 1)), .int dd, .int dk, .int dn]))) (K2 : ¬ R < 8 → Q none h) : J l G mX2_add 0 0 0 (lv_args 0 [.ref dr, .int a0, .long v]) [] h Q := by
  refine j_aload_n (pc := 0) dX2_add_0 rfl ?_
  refine j_V0 (rm' := rmX2_isFull) (pc := 1) dX2_add_1 jlX2_26 H0 rfl ⟨Nat.le_of_ble_eq_true rfl, Nat.le_of_ble_eq_true rfl, Nat.le_of_ble_eq_true rfl, Nat.le_of_ble_eq_true rfl, Nat.le_of_ble_eq_true rfl, Nat.le_of_ble_eq_true rfl⟩ ?_
  refine s_X2_isFull H0 (fun c1 => ?_) (fun c2 => ?_)
  · show J l G mX2_add _ _ 4 _ [.int 0] h Q
    have c1 : R < 8 := (nI_ltI (a := R) (b := 8) (by omega) (by omega)).mp c1
    refine j_if_ne (pc := 4) (tgt := 37) dX2_add_4 (by decide) (fun c3 => ?_) (fun c3 => ?_)
    · exact absurd c3 (by decide)
    · refine j_aload_n (pc := 7) dX2_add_7 rfl ?_
      refine j_getf (pc := 8) dX2_add_8 jfX2_11 H0 rfl ?_
      refine j_aload_n (pc := 11) dX2_add_11 rfl ?_
      refine j_getf (pc := 12) dX2_add_12 jfX2_23 H0 rfl ?_
      refine j_iload_n (pc := 15) dX2_add_15 rfl ?_
      refine j_iast (pc := 16) dX2_add_16 H1 (jix_nI (by omega) (by decide)) ?_
      refine j_aload_n (pc := 17) dX2_add_17 rfl ?_
      refine j_getf (pc := 18) dX2_add_18 jfX2_15 (j_hn (by omega) H0) rfl ?_
      refine j_aload_n (pc := 21) dX2_add_21 rfl ?_
      refine j_getf (pc := 22) dX2_add_22 jfX2_23 (j_hn (by omega) H0) rfl ?_
      refine j_lload_n (pc := 25) dX2_add_25 rfl ?_
      refine j_last (pc := 26) dX2_add_26 (j_hn (by omega) H2) (jix_nI (by omega) (by decide)) ?_
      refine j_aload_n (pc := 27) dX2_add_27 rfl ?_
      refine j_dup (pc := 28) dX2_add_28 rfl ?_
      refine j_getf (pc := 29) dX2_add_29 jfX2_23 (j_hn (by omega) (j_hn (by omega) H0)) rfl ?_
      refine j_iconst (pc := 32) (v := 1) dX2_add_32 (by decide) ?_
      refine j_iaddN (a := R) (b := 1) (pc := 33) dX2_add_33 ?_
      refine j_putf (pc := 34) dX2_add_34 jfX2_23 (j_hn (by omega) (j_hn (by omega) H0)) rfl rfl (Nat.le_of_ble_eq_true rfl) ?_
      show J l G mX2_add _ _ 37 _ _ (j_set (j_set (j_set h (dr + 1) (jI 8 (va_up da R a0))) (dr + 2) (jL 8 (va_up dm R v))) dr (jO 2 [.ref (dr + 1), .ref (dr + 2), .int (nI (R + 1)), .int dd, .int dk, .int dn])) Q
      exact j_vret (pc := 37) dX2_add_37 rfl (Nat.le_of_ble_eq_true rfl) (Nat.le_of_ble_eq_true rfl) (K1 c1)
  · show J l G mX2_add _ _ 4 _ [.int 1] h Q
    have c2 : ¬ R < 8 := fun z => c2 ((nI_ltI (a := R) (b := 8) (by omega) (by omega)).mpr z)
    refine j_if_ne (pc := 4) (tgt := 37) dX2_add_4 (by decide) (fun c4 => ?_) (fun c4 => ?_)
    · exact j_vret (pc := 37) dX2_add_37 rfl (Nat.le_of_ble_eq_true rfl) (Nat.le_of_ble_eq_true rfl) (K2 c2)
    · exact absurd c4 (by decide)

set_option maxRecDepth 20000 in
theorem s_X0_addRow {l : Launch} {G : jG} {h : jH} {Q : Option Value → jH → Prop} {dr E C R : Nat} {op dd dk dn : Int32} {a0 : Int32} {v : Int64} {da : Nat → Int32} {dm : Nat → Int64} (H0 : h.2 12 = some (jO 0 [.ref 13, .int (nI E), .ref dr, .int op, .int (nI C)])) (H1 : h.2 dr = some (jO 2 [.ref (dr + 1), .ref (dr + 2), .int (nI R), .int dd, .int dk, .int dn])) (H2 : h.2 (dr + 1) = some (jI 8 da)) (H3 : h.2 (dr + 2) = some (jL 8 dm)) (hE : E ≤ 60) (hdr : 14 ≤ dr) (hR : R ≤ 8) (K1 : op = 0 → Q (some (.int (-1))) h) (K2 : ¬ op = 0 → a0 < 0 → Q (some (.int (-1))) h) (K3 : ¬ op = 0 → ¬ (a0 < 0) → 20 ≤ a0 → Q (some (.int (-1))) h) (K4 : ¬ op = 0 → ¬ (a0 < 0) → ¬ (20 ≤ a0) → ¬ v = 0 → v < (-1000000000000) → Q (some (.int (-1))) h) (K5 : ¬ op = 0 → ¬ (a0 < 0) → ¬ (20 ≤ a0) → ¬ v = 0 → ¬ (v < (-1000000000000)) → 1000000000000 < v → Q (some (.int (-1))) h) (K6 : ¬ op = 0 → ¬ (a0 < 0) → ¬ (20 ≤ a0) → ¬ v = 0 → ¬ (v < (-1000000000000)) → ¬ (1000000000000 < v) → R < 8 → R < 8 → Q (some (.int (nI (R + 1)))) (j_set (j_set (j_set h (dr + 1) (jI 8 (va_up da R a0))) (dr + 2) (jL 8 (va_up dm R v))) dr (jO 2 [.ref (dr + 1), .ref (dr + 2), .int (nI (R + 1)), .int dd, .int dk, .int dn]))) (K7 : ¬ op = 0 → ¬ (a0 < 0) → ¬ (20 ≤ a0) → ¬ v = 0 → ¬ (v < (-1000000000000)) → ¬ (1000000000000 < v) → R < 8 → ¬ R < 8 → Q (some (.int (nI R))) h) (K8 : ¬ op = 0 → ¬ (a0 < 0) → ¬ (20 ≤ a0) → ¬ v = 0 → ¬ (v < (-1000000000000)) → ¬ (1000000000000 < v) → ¬ R < 8 → Q (some (.int (-1))) h) (K9 : ¬ op = 0 → ¬ (a0 < 0) → ¬ (20 ≤ a0) → v = 0 → Q (some (.int (-1))) h) : J l G mX0_addRow 0 0 0 (lv_args 0 [.ref 12, .int a0, .long v]) [] h Q := by
  refine j_aload_n (pc := 0) dX0_addRow_0 rfl ?_
  refine j_getf (pc := 1) dX0_addRow_1 jfX0_22 H0 rfl ?_
  refine j_if_eq (pc := 4) (tgt := 20) dX0_addRow_4 (by decide) (fun c1 => ?_) (fun c1 => ?_)
  · refine j_iconst (pc := 20) (v := -1) dX0_addRow_20 (by decide) ?_
    exact j_iret (pc := 21) dX0_addRow_21 rfl rfl (Nat.le_of_ble_eq_true rfl) (Nat.le_of_ble_eq_true rfl) (K1 c1)
  · refine j_iload_n (pc := 7) dX0_addRow_7 rfl ?_
    refine j_S1 (rm' := rmX0_isAccount) (pc := 8) dX0_addRow_8 jlX0_38 ⟨Nat.le_of_ble_eq_true rfl, Nat.le_of_ble_eq_true rfl, Nat.le_of_ble_eq_true rfl, Nat.le_of_ble_eq_true rfl, Nat.le_of_ble_eq_true rfl, Nat.le_of_ble_eq_true rfl⟩ ?_
    refine s_X0_isAccount  (fun c2 => ?_) (fun c3 c4 => ?_) (fun c5 c6 => ?_)
    · show J l G mX0_addRow _ _ 11 _ [.int 0] h Q
      refine j_if_eq (pc := 11) (tgt := 20) dX0_addRow_11 (by decide) (fun c7 => ?_) (fun c7 => ?_)
      · refine j_iconst (pc := 20) (v := -1) dX0_addRow_20 (by decide) ?_
        exact j_iret (pc := 21) dX0_addRow_21 rfl rfl (Nat.le_of_ble_eq_true rfl) (Nat.le_of_ble_eq_true rfl) (K2 c1 c2)
      · exact absurd c7 (by decide)
    · show J l G mX0_addRow _ _ 11 _ [.int 0] h Q
      refine j_if_eq (pc := 11) (tgt := 20) dX0_addRow_11 (by decide) (fun c8 => ?_) (fun c8 => ?_)
      · refine j_iconst (pc := 20) (v := -1) dX0_addRow_20 (by decide) ?_
        exact j_iret (pc := 21) dX0_addRow_21 rfl rfl (Nat.le_of_ble_eq_true rfl) (Nat.le_of_ble_eq_true rfl) (K3 c1 c3 c4)
      · exact absurd c8 (by decide)
    · show J l G mX0_addRow _ _ 11 _ [.int 1] h Q
      refine j_if_eq (pc := 11) (tgt := 20) dX0_addRow_11 (by decide) (fun c9 => ?_) (fun c9 => ?_)
      · exact absurd c9 (by decide)
      · refine j_lload_n (pc := 14) dX0_addRow_14 rfl ?_
        refine j_lconst (pc := 15) (v := 0) dX0_addRow_15 (by decide) ?_
        refine j_lc_ne (pc := 16) (tgt := 22) dX0_addRow_16 dX0_addRow_17 (by decide) (fun c10 => ?_) (fun c10 => ?_)
        · refine j_lload_n (pc := 22) dX0_addRow_22 rfl ?_
          refine j_ldc2 (pc := 23) dX0_addRow_23 jnX0_41 ?_
          refine j_lc_lt (pc := 26) (tgt := 48) dX0_addRow_26 dX0_addRow_27 (by decide) (fun c11 => ?_) (fun c11 => ?_)
          · refine j_iconst (pc := 48) (v := -1) dX0_addRow_48 (by decide) ?_
            exact j_iret (pc := 49) dX0_addRow_49 rfl rfl (Nat.le_of_ble_eq_true rfl) (Nat.le_of_ble_eq_true rfl) (K4 c1 c5 c6 c10 c11)
          · refine j_lload_n (pc := 30) dX0_addRow_30 rfl ?_
            refine j_ldc2 (pc := 31) dX0_addRow_31 jnX0_43 ?_
            refine j_lc_gt (pc := 34) (tgt := 48) dX0_addRow_34 dX0_addRow_35 (by decide) (fun c12 => ?_) (fun c12 => ?_)
            · refine j_iconst (pc := 48) (v := -1) dX0_addRow_48 (by decide) ?_
              exact j_iret (pc := 49) dX0_addRow_49 rfl rfl (Nat.le_of_ble_eq_true rfl) (Nat.le_of_ble_eq_true rfl) (K5 c1 c5 c6 c10 c11 c12)
            · refine j_aload_n (pc := 38) dX0_addRow_38 rfl ?_
              refine j_getf (pc := 39) dX0_addRow_39 jfX0_18 H0 rfl ?_
              refine j_V0 (rm' := rmX2_isFull) (pc := 42) dX0_addRow_42 jlX0_45 H1 rfl ⟨Nat.le_of_ble_eq_true rfl, Nat.le_of_ble_eq_true rfl, Nat.le_of_ble_eq_true rfl, Nat.le_of_ble_eq_true rfl, Nat.le_of_ble_eq_true rfl, Nat.le_of_ble_eq_true rfl⟩ ?_
              refine s_X2_isFull H1 (fun c13 => ?_) (fun c14 => ?_)
              · show J l G mX0_addRow _ _ 45 _ [.int 0] h Q
                have c13 : R < 8 := (nI_ltI (a := R) (b := 8) (by omega) (by omega)).mp c13
                refine j_if_eq (pc := 45) (tgt := 50) dX0_addRow_45 (by decide) (fun c15 => ?_) (fun c15 => ?_)
                · refine j_aload_n (pc := 50) dX0_addRow_50 rfl ?_
                  refine j_getf (pc := 51) dX0_addRow_51 jfX0_18 H0 rfl ?_
                  refine j_iload_n (pc := 54) dX0_addRow_54 rfl ?_
                  refine j_lload_n (pc := 55) dX0_addRow_55 rfl ?_
                  refine j_V2 (rm' := rmX2_add) (pc := 56) dX0_addRow_56 jlX0_46 H1 rfl ⟨Nat.le_of_ble_eq_true rfl, Nat.le_of_ble_eq_true rfl, Nat.le_of_ble_eq_true rfl, Nat.le_of_ble_eq_true rfl, Nat.le_of_ble_eq_true rfl, Nat.le_of_ble_eq_true rfl⟩ ?_
                  refine s_X2_add (R := R) H1 H2 H3 (by assumption) (fun c16 => ?_) (fun c17 => ?_)
                  · show J l G mX0_addRow _ _ 59 _ [] (j_set (j_set (j_set h (dr + 1) (jI 8 (va_up da R a0))) (dr + 2) (jL 8 (va_up dm R v))) dr (jO 2 [.ref (dr + 1), .ref (dr + 2), .int (nI (R + 1)), .int dd, .int dk, .int dn])) Q
                    refine j_aload_n (pc := 59) dX0_addRow_59 rfl ?_
                    refine j_getf (pc := 60) dX0_addRow_60 jfX0_18 (j_hn (by omega) (j_hn (by omega) (j_hn (by omega) H0))) rfl ?_
                    refine j_getf (pc := 63) dX0_addRow_63 jfX0_50 j_hs rfl ?_
                    exact j_iret (pc := 66) dX0_addRow_66 rfl rfl (Nat.le_of_ble_eq_true rfl) (Nat.le_of_ble_eq_true rfl) (K6 c1 c5 c6 c10 c11 c12 c13 c16)
                  · show J l G mX0_addRow _ _ 59 _ [] h Q
                    refine j_aload_n (pc := 59) dX0_addRow_59 rfl ?_
                    refine j_getf (pc := 60) dX0_addRow_60 jfX0_18 H0 rfl ?_
                    refine j_getf (pc := 63) dX0_addRow_63 jfX0_50 H1 rfl ?_
                    exact j_iret (pc := 66) dX0_addRow_66 rfl rfl (Nat.le_of_ble_eq_true rfl) (Nat.le_of_ble_eq_true rfl) (K7 c1 c5 c6 c10 c11 c12 c13 c17)
                · exact absurd c15 (by decide)
              · show J l G mX0_addRow _ _ 45 _ [.int 1] h Q
                have c14 : ¬ R < 8 := fun z => c14 ((nI_ltI (a := R) (b := 8) (by omega) (by omega)).mpr z)
                refine j_if_eq (pc := 45) (tgt := 50) dX0_addRow_45 (by decide) (fun c18 => ?_) (fun c18 => ?_)
                · exact absurd c18 (by decide)
                · refine j_iconst (pc := 48) (v := -1) dX0_addRow_48 (by decide) ?_
                  exact j_iret (pc := 49) dX0_addRow_49 rfl rfl (Nat.le_of_ble_eq_true rfl) (Nat.le_of_ble_eq_true rfl) (K8 c1 c5 c6 c10 c11 c12 c14)
        · refine j_iconst (pc := 20) (v := -1) dX0_addRow_20 (by decide) ?_
          exact j_iret (pc := 21) dX0_addRow_21 rfl rfl (Nat.le_of_ble_eq_true rfl) (Nat.le_of_ble_eq_true rfl) (K9 c1 c5 c6 c10)

set_option maxRecDepth 20000 in
theorem s_X0_giveUp {l : Launch} {G : jG} {h : jH} {Q : Option Value → jH → Prop} {dr E C R : Nat} {op dd dk dn : Int32}  (H0 : h.2 12 = some (jO 0 [.ref 13, .int (nI E), .ref dr, .int op, .int (nI C)])) (H1 : h.2 dr = some (jO 2 [.ref (dr + 1), .ref (dr + 2), .int (nI R), .int dd, .int dk, .int dn])) (hE : E ≤ 60) (hdr : 14 ≤ dr) (K1 : ¬ op = 0 → Q (some (.int (nI R))) (j_set h 12 (jO 0 [.ref 13, .int (nI E), .ref dr, .int 0, .int (nI C)]))) (K2 : op = 0 → Q (some (.int (-1))) h) : J l G mX0_giveUp 0 0 0 (lv_args 0 [.ref 12]) [] h Q := by
  refine j_aload_n (pc := 0) dX0_giveUp_0 rfl ?_
  refine j_getf (pc := 1) dX0_giveUp_1 jfX0_22 H0 rfl ?_
  refine j_if_ne (pc := 4) (tgt := 9) dX0_giveUp_4 (by decide) (fun c1 => ?_) (fun c1 => ?_)
  · refine j_aload_n (pc := 9) dX0_giveUp_9 rfl ?_
    refine j_iconst (pc := 10) (v := 0) dX0_giveUp_10 (by decide) ?_
    refine j_putf (pc := 11) dX0_giveUp_11 jfX0_22 H0 rfl rfl (Nat.le_of_ble_eq_true rfl) ?_
    show J l G mX0_giveUp _ _ 14 _ _ (j_set h 12 (jO 0 [.ref 13, .int (nI E), .ref dr, .int 0, .int (nI C)])) Q
    refine j_aload_n (pc := 14) dX0_giveUp_14 rfl ?_
    refine j_getf (pc := 15) dX0_giveUp_15 jfX0_18 j_hs rfl ?_
    refine j_getf (pc := 18) dX0_giveUp_18 jfX0_50 (j_hn (by omega) H1) rfl ?_
    exact j_iret (pc := 21) dX0_giveUp_21 rfl rfl (Nat.le_of_ble_eq_true rfl) (Nat.le_of_ble_eq_true rfl) (K1 c1)
  · refine j_iconst (pc := 7) (v := -1) dX0_giveUp_7 (by decide) ?_
    exact j_iret (pc := 8) dX0_giveUp_8 rfl rfl (Nat.le_of_ble_eq_true rfl) (Nat.le_of_ble_eq_true rfl) (K2 c1)

set_option maxRecDepth 20000 in
theorem s_X0_closeUpTo {l : Launch} {G : jG} {h : jH} {Q : Option Value → jH → Prop} {dr E C R : Nat} {op dd dk dn : Int32} {m0 : Int32} (H0 : h.2 12 = some (jO 0 [.ref 13, .int (nI E), .ref dr, .int op, .int (nI C)])) (H1 : h.2 dr = some (jO 2 [.ref (dr + 1), .ref (dr + 2), .int (nI R), .int dd, .int dk, .int dn])) (hE : E ≤ 60) (hdr : 14 ≤ dr) (K1 : m0 < 0 → Q (some (.int (-1))) h) (K2 : ¬ (m0 < 0) → 120 ≤ m0 → Q (some (.int (-1))) h) (K3 : ¬ (m0 < 0) → ¬ (120 ≤ m0) → op = 0 → Q (some (.int ((if nI C < m0 + 1 then m0 + 1 else nI C) - (nI C)))) (j_set h 12 (jO 0 [.ref 13, .int (nI E), .ref dr, .int op, .int (if nI C < m0 + 1 then m0 + 1 else nI C)]))) (K4 : ¬ (m0 < 0) → ¬ (120 ≤ m0) → ¬ op = 0 → m0 < (dd / 30) → Q (some (.int ((if nI C < m0 + 1 then m0 + 1 else nI C) - (nI C)))) (j_set h 12 (jO 0 [.ref 13, .int (nI E), .ref dr, .int op, .int (if nI C < m0 + 1 then m0 + 1 else nI C)]))) (K5 : ¬ (m0 < 0) → ¬ (120 ≤ m0) → ¬ op = 0 → ¬ (m0 < (dd / 30)) → Q (some (.int (-1))) h) : J l G mX0_closeUpTo 0 0 0 (lv_args 0 [.ref 12, .int m0]) [] h Q := by
  refine j_iload_n (pc := 0) dX0_closeUpTo_0 rfl ?_
  refine j_S1 (rm' := rmX0_isMonth) (pc := 1) dX0_closeUpTo_1 jlX0_62 ⟨Nat.le_of_ble_eq_true rfl, Nat.le_of_ble_eq_true rfl, Nat.le_of_ble_eq_true rfl, Nat.le_of_ble_eq_true rfl, Nat.le_of_ble_eq_true rfl, Nat.le_of_ble_eq_true rfl⟩ ?_
  refine s_X0_isMonth  (fun c1 => ?_) (fun c2 c3 => ?_) (fun c4 c5 => ?_)
  · show J l G mX0_closeUpTo _ _ 4 _ [.int 0] h Q
    refine j_if_eq (pc := 4) (tgt := 28) dX0_closeUpTo_4 (by decide) (fun c6 => ?_) (fun c6 => ?_)
    · refine j_iconst (pc := 28) (v := -1) dX0_closeUpTo_28 (by decide) ?_
      exact j_iret (pc := 29) dX0_closeUpTo_29 rfl rfl (Nat.le_of_ble_eq_true rfl) (Nat.le_of_ble_eq_true rfl) (K1 c1)
    · exact absurd c6 (by decide)
  · show J l G mX0_closeUpTo _ _ 4 _ [.int 0] h Q
    refine j_if_eq (pc := 4) (tgt := 28) dX0_closeUpTo_4 (by decide) (fun c7 => ?_) (fun c7 => ?_)
    · refine j_iconst (pc := 28) (v := -1) dX0_closeUpTo_28 (by decide) ?_
      exact j_iret (pc := 29) dX0_closeUpTo_29 rfl rfl (Nat.le_of_ble_eq_true rfl) (Nat.le_of_ble_eq_true rfl) (K2 c2 c3)
    · exact absurd c7 (by decide)
  · show J l G mX0_closeUpTo _ _ 4 _ [.int 1] h Q
    refine j_if_eq (pc := 4) (tgt := 28) dX0_closeUpTo_4 (by decide) (fun c8 => ?_) (fun c8 => ?_)
    · exact absurd c8 (by decide)
    · refine j_aload_n (pc := 7) dX0_closeUpTo_7 rfl ?_
      refine j_getf (pc := 8) dX0_closeUpTo_8 jfX0_22 H0 rfl ?_
      refine j_if_eq (pc := 11) (tgt := 30) dX0_closeUpTo_11 (by decide) (fun c9 => ?_) (fun c9 => ?_)
      · refine j_aload_n (pc := 30) dX0_closeUpTo_30 rfl ?_
        refine j_getf (pc := 31) dX0_closeUpTo_31 jfX0_72 H0 rfl ?_
        refine j_istore_n (pc := 34) dX0_closeUpTo_34 (by decide) ?_
        refine j_aload_n (pc := 35) dX0_closeUpTo_35 rfl ?_
        refine j_iload_n (pc := 36) dX0_closeUpTo_36 rfl ?_
        refine j_iload_n (pc := 37) dX0_closeUpTo_37 rfl ?_
        refine j_iconst (pc := 38) (v := 1) dX0_closeUpTo_38 (by decide) ?_
        refine j_iadd (pc := 39) dX0_closeUpTo_39 ?_
        refine j_maxI (pc := 40) dX0_closeUpTo_40 jmX0_75 jms_maxI jitJ9 jmc_maxI (Nat.le_of_ble_eq_true rfl) (Nat.le_of_ble_eq_true rfl) (Nat.le_of_ble_eq_true rfl) (Nat.le_of_ble_eq_true rfl) ?_
        refine j_putf (pc := 43) dX0_closeUpTo_43 jfX0_72 H0 rfl rfl (Nat.le_of_ble_eq_true rfl) ?_
        show J l G mX0_closeUpTo _ _ 46 _ _ (j_set h 12 (jO 0 [.ref 13, .int (nI E), .ref dr, .int op, .int (if nI C < m0 + 1 then m0 + 1 else nI C)])) Q
        refine j_aload_n (pc := 46) dX0_closeUpTo_46 rfl ?_
        refine j_getf (pc := 47) dX0_closeUpTo_47 jfX0_72 j_hs rfl ?_
        refine j_iload_n (pc := 50) dX0_closeUpTo_50 rfl ?_
        refine j_isub (pc := 51) dX0_closeUpTo_51 ?_
        exact j_iret (pc := 52) dX0_closeUpTo_52 rfl rfl (Nat.le_of_ble_eq_true rfl) (Nat.le_of_ble_eq_true rfl) (K3 c4 c5 c9)
      · refine j_aload_n (pc := 14) dX0_closeUpTo_14 rfl ?_
        refine j_getf (pc := 15) dX0_closeUpTo_15 jfX0_18 H0 rfl ?_
        refine j_getf (pc := 18) dX0_closeUpTo_18 jfX0_65 H1 rfl ?_
        refine j_S1 (rm' := rmX0_monthOf) (pc := 21) dX0_closeUpTo_21 jlX0_68 ⟨Nat.le_of_ble_eq_true rfl, Nat.le_of_ble_eq_true rfl, Nat.le_of_ble_eq_true rfl, Nat.le_of_ble_eq_true rfl, Nat.le_of_ble_eq_true rfl, Nat.le_of_ble_eq_true rfl⟩ ?_
        refine s_X0_monthOf  ?_
        show J l G mX0_closeUpTo _ _ 24 _ [.int (dd / 30)] h Q
        refine j_iload_n (pc := 24) dX0_closeUpTo_24 rfl ?_
        refine j_icmp_gt (pc := 25) (tgt := 30) dX0_closeUpTo_25 (by decide) (fun c10 => ?_) (fun c10 => ?_)
        · refine j_aload_n (pc := 30) dX0_closeUpTo_30 rfl ?_
          refine j_getf (pc := 31) dX0_closeUpTo_31 jfX0_72 H0 rfl ?_
          refine j_istore_n (pc := 34) dX0_closeUpTo_34 (by decide) ?_
          refine j_aload_n (pc := 35) dX0_closeUpTo_35 rfl ?_
          refine j_iload_n (pc := 36) dX0_closeUpTo_36 rfl ?_
          refine j_iload_n (pc := 37) dX0_closeUpTo_37 rfl ?_
          refine j_iconst (pc := 38) (v := 1) dX0_closeUpTo_38 (by decide) ?_
          refine j_iadd (pc := 39) dX0_closeUpTo_39 ?_
          refine j_maxI (pc := 40) dX0_closeUpTo_40 jmX0_75 jms_maxI jitJ9 jmc_maxI (Nat.le_of_ble_eq_true rfl) (Nat.le_of_ble_eq_true rfl) (Nat.le_of_ble_eq_true rfl) (Nat.le_of_ble_eq_true rfl) ?_
          refine j_putf (pc := 43) dX0_closeUpTo_43 jfX0_72 H0 rfl rfl (Nat.le_of_ble_eq_true rfl) ?_
          show J l G mX0_closeUpTo _ _ 46 _ _ (j_set h 12 (jO 0 [.ref 13, .int (nI E), .ref dr, .int op, .int (if nI C < m0 + 1 then m0 + 1 else nI C)])) Q
          refine j_aload_n (pc := 46) dX0_closeUpTo_46 rfl ?_
          refine j_getf (pc := 47) dX0_closeUpTo_47 jfX0_72 j_hs rfl ?_
          refine j_iload_n (pc := 50) dX0_closeUpTo_50 rfl ?_
          refine j_isub (pc := 51) dX0_closeUpTo_51 ?_
          exact j_iret (pc := 52) dX0_closeUpTo_52 rfl rfl (Nat.le_of_ble_eq_true rfl) (Nat.le_of_ble_eq_true rfl) (K4 c4 c5 c9 c10)
        · refine j_iconst (pc := 28) (v := -1) dX0_closeUpTo_28 (by decide) ?_
          exact j_iret (pc := 29) dX0_closeUpTo_29 rfl rfl (Nat.le_of_ble_eq_true rfl) (Nat.le_of_ble_eq_true rfl) (K5 c4 c5 c9 c10)

set_option maxRecDepth 20000 in
theorem s_X2_tellHead {l : Launch} {G : jG} {h : jH} {Q : Option Value → jH → Prop} {a ea eb : Nat} {sz dy tk tb : Int32} {w0 : Int32} (H0 : h.2 a = some (jO 2 [.ref ea, .ref eb, .int sz, .int dy, .int tk, .int tb]))  (K1 : w0 = 0 → Q (some (.long dy.toInt64)) h) (K2 : ¬ w0 = 0 → w0 = 1 → Q (some (.long sz.toInt64)) h) (K3 : ¬ w0 = 0 → ¬ w0 = 1 → w0 = 2 → Q (some (.long tk.toInt64)) h) (K4 : ¬ w0 = 0 → ¬ w0 = 1 → ¬ w0 = 2 → w0 = 3 → Q (some (.long tb.toInt64)) h) (K5 : ¬ w0 = 0 → ¬ w0 = 1 → ¬ w0 = 2 → ¬ w0 = 3 → Q (some (.long (-9223372036854775808))) h) : J l G mX2_tellHead 0 0 0 (lv_args 0 [.ref a, .int w0]) [] h Q := by
  refine j_iload_n (pc := 0) dX2_tellHead_0 rfl ?_
  by_cases c1 : w0 = 0
  · rw [c1]
    refine j_tableIn (pc := 1) (tgt := 32) dX2_tellHead_1 (by decide) (by decide) rfl (by decide) ?_
    refine j_aload_n (pc := 32) dX2_tellHead_32 rfl ?_
    refine j_getf (pc := 33) dX2_tellHead_33 jfX2_19 H0 rfl ?_
    refine j_i2l (pc := 36) dX2_tellHead_36 ?_
    exact j_lret (pc := 37) dX2_tellHead_37 rfl (Nat.le_of_ble_eq_true rfl) (Nat.le_of_ble_eq_true rfl) (K1 c1)
  by_cases c2 : w0 = 1
  · rw [c2]
    refine j_tableIn (pc := 1) (tgt := 38) dX2_tellHead_1 (by decide) (by decide) rfl (by decide) ?_
    refine j_aload_n (pc := 38) dX2_tellHead_38 rfl ?_
    refine j_getf (pc := 39) dX2_tellHead_39 jfX2_23 H0 rfl ?_
    refine j_i2l (pc := 42) dX2_tellHead_42 ?_
    exact j_lret (pc := 43) dX2_tellHead_43 rfl (Nat.le_of_ble_eq_true rfl) (Nat.le_of_ble_eq_true rfl) (K2 c1 c2)
  by_cases c3 : w0 = 2
  · rw [c3]
    refine j_tableIn (pc := 1) (tgt := 44) dX2_tellHead_1 (by decide) (by decide) rfl (by decide) ?_
    refine j_aload_n (pc := 44) dX2_tellHead_44 rfl ?_
    refine j_getf (pc := 45) dX2_tellHead_45 jfX2_37 H0 rfl ?_
    refine j_i2l (pc := 48) dX2_tellHead_48 ?_
    exact j_lret (pc := 49) dX2_tellHead_49 rfl (Nat.le_of_ble_eq_true rfl) (Nat.le_of_ble_eq_true rfl) (K3 c1 c2 c3)
  by_cases c4 : w0 = 3
  · rw [c4]
    refine j_tableIn (pc := 1) (tgt := 50) dX2_tellHead_1 (by decide) (by decide) rfl (by decide) ?_
    refine j_aload_n (pc := 50) dX2_tellHead_50 rfl ?_
    refine j_getf (pc := 51) dX2_tellHead_51 jfX2_34 H0 rfl ?_
    refine j_i2l (pc := 54) dX2_tellHead_54 ?_
    exact j_lret (pc := 55) dX2_tellHead_55 rfl (Nat.le_of_ble_eq_true rfl) (Nat.le_of_ble_eq_true rfl) (K4 c1 c2 c3 c4)
  refine j_tableOut (pc := 1) (tgt := 56) dX2_tellHead_1 (j_tbl3 c1 c2 c3 c4) (by decide) ?_
  refine j_ldc2 (pc := 56) dX2_tellHead_56 jnX2_40 ?_
  exact j_lret (pc := 59) dX2_tellHead_59 rfl (Nat.le_of_ble_eq_true rfl) (Nat.le_of_ble_eq_true rfl) (K5 c1 c2 c3 c4)

set_option maxRecDepth 20000 in
theorem s_X2_tellRow {l : Launch} {G : jG} {h : jH} {Q : Option Value → jH → Prop} {a ea eb R : Nat} {dy tk tb r0 w0 : Int32} {da : Nat → Int32} {dm : Nat → Int64} (H0 : h.2 a = some (jO 2 [.ref ea, .ref eb, .int (nI R), .int dy, .int tk, .int tb])) (H1 : h.2 ea = some (jI 8 da)) (H2 : h.2 eb = some (jL 8 dm)) (hR : R ≤ 8) (K1 : r0 < 0 → Q (some (.long (-9223372036854775808))) h) (K2 : ¬ (r0 < 0) → (nI R) ≤ r0 → Q (some (.long (-9223372036854775808))) h) (K3 : ¬ (r0 < 0) → ¬ ((nI R) ≤ r0) → w0 < 0 → Q (some (.long (-9223372036854775808))) h) (K4 : ¬ (r0 < 0) → ¬ ((nI R) ≤ r0) → ¬ (w0 < 0) → w0 ≤ 1 → ∀ q : Nat, r0 = nI q → q < R → ¬ w0 = 0 → Q (some (.long (dm q))) h) (K5 : ¬ (r0 < 0) → ¬ ((nI R) ≤ r0) → ¬ (w0 < 0) → w0 ≤ 1 → ∀ q : Nat, r0 = nI q → q < R → w0 = 0 → Q (some (.long ((da q).toInt64))) h) (K6 : ¬ (r0 < 0) → ¬ ((nI R) ≤ r0) → ¬ (w0 < 0) → ¬ (w0 ≤ 1) → Q (some (.long (-9223372036854775808))) h) : J l G mX2_tellRow 0 0 0 (lv_args 0 [.ref a, .int r0, .int w0]) [] h Q := by
  refine j_iload_n (pc := 0) dX2_tellRow_0 rfl ?_
  refine j_if_lt (pc := 1) (tgt := 21) dX2_tellRow_1 (by decide) (fun c1 => ?_) (fun c1 => ?_)
  · refine j_ldc2 (pc := 21) dX2_tellRow_21 jnX2_40 ?_
    exact j_lret (pc := 24) dX2_tellRow_24 rfl (Nat.le_of_ble_eq_true rfl) (Nat.le_of_ble_eq_true rfl) (K1 c1)
  · refine j_iload_n (pc := 4) dX2_tellRow_4 rfl ?_
    refine j_aload_n (pc := 5) dX2_tellRow_5 rfl ?_
    refine j_getf (pc := 6) dX2_tellRow_6 jfX2_23 H0 rfl ?_
    refine j_icmp_ge (pc := 9) (tgt := 21) dX2_tellRow_9 (by decide) (fun c2 => ?_) (fun c2 => ?_)
    · refine j_ldc2 (pc := 21) dX2_tellRow_21 jnX2_40 ?_
      exact j_lret (pc := 24) dX2_tellRow_24 rfl (Nat.le_of_ble_eq_true rfl) (Nat.le_of_ble_eq_true rfl) (K2 c1 c2)
    · refine j_iload_n (pc := 12) dX2_tellRow_12 rfl ?_
      refine j_if_lt (pc := 13) (tgt := 21) dX2_tellRow_13 (by decide) (fun c3 => ?_) (fun c3 => ?_)
      · refine j_ldc2 (pc := 21) dX2_tellRow_21 jnX2_40 ?_
        exact j_lret (pc := 24) dX2_tellRow_24 rfl (Nat.le_of_ble_eq_true rfl) (Nat.le_of_ble_eq_true rfl) (K3 c1 c2 c3)
      · refine j_iload_n (pc := 16) dX2_tellRow_16 rfl ?_
        refine j_iconst (pc := 17) (v := 1) dX2_tellRow_17 (by decide) ?_
        refine j_icmp_le (pc := 18) (tgt := 25) dX2_tellRow_18 (by decide) (fun c4 => ?_) (fun c4 => ?_)
        · obtain ⟨q, hq, rfl⟩ : ∃ q : Nat, q < R ∧ r0 = nI q := jn_ge c1 c2 (jn_P (by omega))
          refine j_iload_n (pc := 25) dX2_tellRow_25 rfl ?_
          refine j_if_ne (pc := 26) (tgt := 39) dX2_tellRow_26 (by decide) (fun c5 => ?_) (fun c5 => ?_)
          · refine j_aload_n (pc := 39) dX2_tellRow_39 rfl ?_
            refine j_getf (pc := 40) dX2_tellRow_40 jfX2_15 H0 rfl ?_
            refine j_iload_n (pc := 43) dX2_tellRow_43 rfl ?_
            refine j_lald (pc := 44) dX2_tellRow_44 H2 (jix_nI (by omega) (by decide)) ?_
            exact j_lret (pc := 45) dX2_tellRow_45 rfl (Nat.le_of_ble_eq_true rfl) (Nat.le_of_ble_eq_true rfl) (K4 c1 c2 c3 c4 q rfl hq c5)
          · refine j_aload_n (pc := 29) dX2_tellRow_29 rfl ?_
            refine j_getf (pc := 30) dX2_tellRow_30 jfX2_11 H0 rfl ?_
            refine j_iload_n (pc := 33) dX2_tellRow_33 rfl ?_
            refine j_iald (pc := 34) dX2_tellRow_34 H1 (jix_nI (by omega) (by decide)) ?_
            refine j_i2l (pc := 35) dX2_tellRow_35 ?_
            refine j_goto (pc := 36) (tgt := 45) dX2_tellRow_36 (by decide) ?_
            exact j_lret (pc := 45) dX2_tellRow_45 rfl (Nat.le_of_ble_eq_true rfl) (Nat.le_of_ble_eq_true rfl) (K5 c1 c2 c3 c4 q rfl hq c5)
        · refine j_ldc2 (pc := 21) dX2_tellRow_21 jnX2_40 ?_
          exact j_lret (pc := 24) dX2_tellRow_24 rfl (Nat.le_of_ble_eq_true rfl) (Nat.le_of_ble_eq_true rfl) (K6 c1 c2 c3 c4)
