set_option maxRecDepth 20000 in
theorem s_X8_isPerson {l : Launch} {G : jG} {h : jH} {Q : Option Value → jH → Prop} {at_ cl es fr op p0 ps sz ts wd : Int32}  (H0 : h.2 27 = some (mO sz at_ fr wd ps ts es op cl))  (K1 : p0 < 0 → Q (some (.int 0)) h) (K2 : ¬ (p0 < 0) → ps ≤ p0 → Q (some (.int 0)) h) (K3 : ¬ (p0 < 0) → ¬ (ps ≤ p0) → Q (some (.int 1)) h) : J l G mX8_isPerson 0 0 0 (lv_args 0 [.ref 27, .int p0]) [] h Q := by
  refine j_iload_n (pc := 0) dX8_isPerson_0 rfl ?_
  refine j_if_lt (pc := 1) (tgt := 16) dX8_isPerson_1 (by decide) (fun c1 => ?_) (fun c1 => ?_)
  · refine j_iconst (pc := 16) (v := 0) dX8_isPerson_16 (by decide) ?_
    exact j_iret (pc := 17) dX8_isPerson_17 rfl rfl (Nat.le_of_ble_eq_true rfl) (Nat.le_of_ble_eq_true rfl) (K1 c1)
  · refine j_iload_n (pc := 4) dX8_isPerson_4 rfl ?_
    refine j_aload_n (pc := 5) dX8_isPerson_5 rfl ?_
    refine j_getf (pc := 6) dX8_isPerson_6 jfX8_123 H0 rfl ?_
    refine j_icmp_ge (pc := 9) (tgt := 16) dX8_isPerson_9 (by decide) (fun c2 => ?_) (fun c2 => ?_)
    · refine j_iconst (pc := 16) (v := 0) dX8_isPerson_16 (by decide) ?_
      exact j_iret (pc := 17) dX8_isPerson_17 rfl rfl (Nat.le_of_ble_eq_true rfl) (Nat.le_of_ble_eq_true rfl) (K2 c1 c2)
    · refine j_iconst (pc := 12) (v := 1) dX8_isPerson_12 (by decide) ?_
      refine j_goto (pc := 13) (tgt := 17) dX8_isPerson_13 (by decide) ?_
      exact j_iret (pc := 17) dX8_isPerson_17 rfl rfl (Nat.le_of_ble_eq_true rfl) (Nat.le_of_ble_eq_true rfl) (K3 c1 c2)

set_option maxRecDepth 20000 in
theorem s_X8_isTrip {l : Launch} {G : jG} {h : jH} {Q : Option Value → jH → Prop} {at_ cl es fr op p0 ps sz ts wd : Int32}  (H0 : h.2 27 = some (mO sz at_ fr wd ps ts es op cl))  (K1 : p0 < 0 → Q (some (.int 0)) h) (K2 : ¬ (p0 < 0) → ts ≤ p0 → Q (some (.int 0)) h) (K3 : ¬ (p0 < 0) → ¬ (ts ≤ p0) → Q (some (.int 1)) h) : J l G mX8_isTrip 0 0 0 (lv_args 0 [.ref 27, .int p0]) [] h Q := by
  refine j_iload_n (pc := 0) dX8_isTrip_0 rfl ?_
  refine j_if_lt (pc := 1) (tgt := 16) dX8_isTrip_1 (by decide) (fun c1 => ?_) (fun c1 => ?_)
  · refine j_iconst (pc := 16) (v := 0) dX8_isTrip_16 (by decide) ?_
    exact j_iret (pc := 17) dX8_isTrip_17 rfl rfl (Nat.le_of_ble_eq_true rfl) (Nat.le_of_ble_eq_true rfl) (K1 c1)
  · refine j_iload_n (pc := 4) dX8_isTrip_4 rfl ?_
    refine j_aload_n (pc := 5) dX8_isTrip_5 rfl ?_
    refine j_getf (pc := 6) dX8_isTrip_6 jfX8_126 H0 rfl ?_
    refine j_icmp_ge (pc := 9) (tgt := 16) dX8_isTrip_9 (by decide) (fun c2 => ?_) (fun c2 => ?_)
    · refine j_iconst (pc := 16) (v := 0) dX8_isTrip_16 (by decide) ?_
      exact j_iret (pc := 17) dX8_isTrip_17 rfl rfl (Nat.le_of_ble_eq_true rfl) (Nat.le_of_ble_eq_true rfl) (K2 c1 c2)
    · refine j_iconst (pc := 12) (v := 1) dX8_isTrip_12 (by decide) ?_
      refine j_goto (pc := 13) (tgt := 17) dX8_isTrip_13 (by decide) ?_
      exact j_iret (pc := 17) dX8_isTrip_17 rfl rfl (Nat.le_of_ble_eq_true rfl) (Nat.le_of_ble_eq_true rfl) (K3 c1 c2)

set_option maxRecDepth 20000 in
theorem s_X8_unit {l : Launch} {G : jG} {h : jH} {Q : Option Value → jH → Prop} {at_ cl es fr op ps ts u wd : Int32} {L : Nat} {tx : Nat → Int32} (H0 : h.2 27 = some (mO (nI L) at_ fr wd ps ts es op cl)) (H1 : h.2 28 = some (jI 600 tx)) (hL : L ≤ 600) (K1 : u.toInt64 < 0 → Q (some (.int 0)) h) (K2 : ¬ (u.toInt64 < 0) → 255 < u.toInt64 → Q (some (.int 0)) h) (K3 : ¬ (u.toInt64 < 0) → ¬ (255 < u.toInt64) → ¬ L = 600 → Q (some (.int 1)) (j_set (j_set h 28 (jI 600 (va_up tx L u))) 27 (mO (nI (L + 1)) at_ fr wd ps ts es op cl))) (K4 : ¬ (u.toInt64 < 0) → ¬ (255 < u.toInt64) → L = 600 → Q (some (.int 0)) h) : J l G mX8_unit 0 0 0 (lv_args 0 [.ref 27, .int u]) [] h Q := by
  refine j_iload_n (pc := 0) dX8_unit_0 rfl ?_
  refine j_i2l (pc := 1) dX8_unit_1 ?_
  refine j_lconst (pc := 2) (v := 0) dX8_unit_2 (by decide) ?_
  refine j_ldc2 (pc := 3) dX8_unit_3 jnX8_78 ?_
  refine j_S3 (rm' := rmX8_within) (pc := 6) dX8_unit_6 jlX8_80 ⟨Nat.le_of_ble_eq_true rfl, Nat.le_of_ble_eq_true rfl, Nat.le_of_ble_eq_true rfl, Nat.le_of_ble_eq_true rfl, Nat.le_of_ble_eq_true rfl, Nat.le_of_ble_eq_true rfl⟩ ?_
  refine s_X8_within  (fun c1 => ?_) (fun c2 c3 => ?_) (fun c4 c5 => ?_)
  · show J l G mX8_unit _ _ 9 _ [.int 0] h Q
    refine j_if_eq (pc := 9) (tgt := 22) dX8_unit_9 (by decide) (fun c6 => ?_) (fun c6 => ?_)
    · refine j_iconst (pc := 22) (v := 0) dX8_unit_22 (by decide) ?_
      exact j_iret (pc := 23) dX8_unit_23 rfl rfl (Nat.le_of_ble_eq_true rfl) (Nat.le_of_ble_eq_true rfl) (K1 c1)
    · exact absurd c6 (by decide)
  · show J l G mX8_unit _ _ 9 _ [.int 0] h Q
    refine j_if_eq (pc := 9) (tgt := 22) dX8_unit_9 (by decide) (fun c7 => ?_) (fun c7 => ?_)
    · refine j_iconst (pc := 22) (v := 0) dX8_unit_22 (by decide) ?_
      exact j_iret (pc := 23) dX8_unit_23 rfl rfl (Nat.le_of_ble_eq_true rfl) (Nat.le_of_ble_eq_true rfl) (K2 c2 c3)
    · exact absurd c7 (by decide)
  · show J l G mX8_unit _ _ 9 _ [.int 1] h Q
    refine j_if_eq (pc := 9) (tgt := 22) dX8_unit_9 (by decide) (fun c8 => ?_) (fun c8 => ?_)
    · exact absurd c8 (by decide)
    · refine j_aload_n (pc := 12) dX8_unit_12 rfl ?_
      refine j_getf (pc := 13) dX8_unit_13 jfX8_84 H0 rfl ?_
      refine j_sipush (pc := 16) (v := 600) dX8_unit_16 (by decide) ?_
      refine j_icmp_neN (a := L) (b := 600) (pc := 19) (tgt := 24) dX8_unit_19 (by decide) (by omega) (by omega) (fun c9 => ?_) (fun c9 => ?_)
      · refine j_aload_n (pc := 24) dX8_unit_24 rfl ?_
        refine j_getf (pc := 25) dX8_unit_25 jfX8_7 H0 rfl ?_
        refine j_aload_n (pc := 28) dX8_unit_28 rfl ?_
        refine j_getf (pc := 29) dX8_unit_29 jfX8_84 H0 rfl ?_
        refine j_iload_n (pc := 32) dX8_unit_32 rfl ?_
        refine j_iast (pc := 33) dX8_unit_33 H1 (jix_nI (by omega) (by decide)) ?_
        refine j_aload_n (pc := 34) dX8_unit_34 rfl ?_
        refine j_dup (pc := 35) dX8_unit_35 rfl ?_
        refine j_getf (pc := 36) dX8_unit_36 jfX8_84 (j_hn (by decide) H0) rfl ?_
        refine j_iconst (pc := 39) (v := 1) dX8_unit_39 (by decide) ?_
        refine j_iaddN (a := L) (b := 1) (pc := 40) dX8_unit_40 ?_
        refine j_putf (pc := 41) dX8_unit_41 jfX8_84 (j_hn (by decide) H0) rfl rfl (Nat.le_of_ble_eq_true rfl) ?_
        show J l G mX8_unit _ _ 44 _ _ (j_set (j_set h 28 (jI 600 (va_up tx L u))) 27 (mO (nI (L + 1)) at_ fr wd ps ts es op cl)) Q
        refine j_iconst (pc := 44) (v := 1) dX8_unit_44 (by decide) ?_
        exact j_iret (pc := 45) dX8_unit_45 rfl rfl (Nat.le_of_ble_eq_true rfl) (Nat.le_of_ble_eq_true rfl) (K3 c4 c5 c9)
      · refine j_iconst (pc := 22) (v := 0) dX8_unit_22 (by decide) ?_
        exact j_iret (pc := 23) dX8_unit_23 rfl rfl (Nat.le_of_ble_eq_true rfl) (Nat.le_of_ble_eq_true rfl) (K4 c4 c5 c9)

set_option maxRecDepth 20000 in
theorem s_X8_person {l : Launch} {G : jG} {h : jH} {Q : Option Value → jH → Prop} {at_ cl es fr op sz ts u wd : Int32} {P : Nat} {ro : Nat → Int32} (H0 : h.2 27 = some (mO sz at_ fr wd (nI P) ts es op cl)) (H1 : h.2 32 = some (jI 12 ro)) (hP : P ≤ 12) (K1 : u.toInt64 < 0 → Q (some (.int (-1))) h) (K2 : ¬ (u.toInt64 < 0) → 9 < u.toInt64 → Q (some (.int (-1))) h) (K3 : ¬ (u.toInt64 < 0) → ¬ (9 < u.toInt64) → ¬ P = 12 → Q (some (.int (nI ((P + 1) - 1)))) (j_set (j_set h 32 (jI 12 (va_up ro P u))) 27 (mO sz at_ fr wd (nI (P + 1)) ts es op cl))) (K4 : ¬ (u.toInt64 < 0) → ¬ (9 < u.toInt64) → P = 12 → Q (some (.int (-1))) h) : J l G mX8_person 0 0 0 (lv_args 0 [.ref 27, .int u]) [] h Q := by
  refine j_iload_n (pc := 0) dX8_person_0 rfl ?_
  refine j_i2l (pc := 1) dX8_person_1 ?_
  refine j_lconst (pc := 2) (v := 0) dX8_person_2 (by decide) ?_
  refine j_ldc2 (pc := 3) dX8_person_3 jnX8_129 ?_
  refine j_S3 (rm' := rmX8_within) (pc := 6) dX8_person_6 jlX8_80 ⟨Nat.le_of_ble_eq_true rfl, Nat.le_of_ble_eq_true rfl, Nat.le_of_ble_eq_true rfl, Nat.le_of_ble_eq_true rfl, Nat.le_of_ble_eq_true rfl, Nat.le_of_ble_eq_true rfl⟩ ?_
  refine s_X8_within  (fun c1 => ?_) (fun c2 c3 => ?_) (fun c4 c5 => ?_)
  · show J l G mX8_person _ _ 9 _ [.int 0] h Q
    refine j_if_eq (pc := 9) (tgt := 21) dX8_person_9 (by decide) (fun c6 => ?_) (fun c6 => ?_)
    · refine j_iconst (pc := 21) (v := -1) dX8_person_21 (by decide) ?_
      exact j_iret (pc := 22) dX8_person_22 rfl rfl (Nat.le_of_ble_eq_true rfl) (Nat.le_of_ble_eq_true rfl) (K1 c1)
    · exact absurd c6 (by decide)
  · show J l G mX8_person _ _ 9 _ [.int 0] h Q
    refine j_if_eq (pc := 9) (tgt := 21) dX8_person_9 (by decide) (fun c7 => ?_) (fun c7 => ?_)
    · refine j_iconst (pc := 21) (v := -1) dX8_person_21 (by decide) ?_
      exact j_iret (pc := 22) dX8_person_22 rfl rfl (Nat.le_of_ble_eq_true rfl) (Nat.le_of_ble_eq_true rfl) (K2 c2 c3)
    · exact absurd c7 (by decide)
  · show J l G mX8_person _ _ 9 _ [.int 1] h Q
    refine j_if_eq (pc := 9) (tgt := 21) dX8_person_9 (by decide) (fun c8 => ?_) (fun c8 => ?_)
    · exact absurd c8 (by decide)
    · refine j_aload_n (pc := 12) dX8_person_12 rfl ?_
      refine j_getf (pc := 13) dX8_person_13 jfX8_123 H0 rfl ?_
      refine j_bipush (pc := 16) (v := 12) dX8_person_16 (by decide) ?_
      refine j_icmp_neN (a := P) (b := 12) (pc := 18) (tgt := 23) dX8_person_18 (by decide) (by omega) (by omega) (fun c9 => ?_) (fun c9 => ?_)
      · refine j_aload_n (pc := 23) dX8_person_23 rfl ?_
        refine j_getf (pc := 24) dX8_person_24 jfX8_23 H0 rfl ?_
        refine j_aload_n (pc := 27) dX8_person_27 rfl ?_
        refine j_getf (pc := 28) dX8_person_28 jfX8_123 H0 rfl ?_
        refine j_iload_n (pc := 31) dX8_person_31 rfl ?_
        refine j_iast (pc := 32) dX8_person_32 H1 (jix_nI (by omega) (by decide)) ?_
        refine j_aload_n (pc := 33) dX8_person_33 rfl ?_
        refine j_dup (pc := 34) dX8_person_34 rfl ?_
        refine j_getf (pc := 35) dX8_person_35 jfX8_123 (j_hn (by decide) H0) rfl ?_
        refine j_iconst (pc := 38) (v := 1) dX8_person_38 (by decide) ?_
        refine j_iaddN (a := P) (b := 1) (pc := 39) dX8_person_39 ?_
        refine j_putf (pc := 40) dX8_person_40 jfX8_123 (j_hn (by decide) H0) rfl rfl (Nat.le_of_ble_eq_true rfl) ?_
        show J l G mX8_person _ _ 43 _ _ (j_set (j_set h 32 (jI 12 (va_up ro P u))) 27 (mO sz at_ fr wd (nI (P + 1)) ts es op cl)) Q
        refine j_aload_n (pc := 43) dX8_person_43 rfl ?_
        refine j_getf (pc := 44) dX8_person_44 jfX8_123 j_hs rfl ?_
        refine j_iconst (pc := 47) (v := 1) dX8_person_47 (by decide) ?_
        refine j_isubN (a := P + 1) (b := 1) (pc := 48) dX8_person_48 (by omega) ?_
        exact j_iret (pc := 49) dX8_person_49 rfl rfl (Nat.le_of_ble_eq_true rfl) (Nat.le_of_ble_eq_true rfl) (K3 c4 c5 c9)
      · refine j_iconst (pc := 21) (v := -1) dX8_person_21 (by decide) ?_
        exact j_iret (pc := 22) dX8_person_22 rfl rfl (Nat.le_of_ble_eq_true rfl) (Nat.le_of_ble_eq_true rfl) (K4 c4 c5 c9)

set_option maxRecDepth 20000 in
theorem s_X8_advance {l : Launch} {G : jG} {h : jH} {Q : Option Value → jH → Prop} {at_ cl es fr op p0 sz ts wd : Int32} {P : Nat} {v : Int64} {ad : Nat → Int64} (H0 : h.2 27 = some (mO sz at_ fr wd (nI P) ts es op cl)) (H1 : h.2 33 = some (jL 12 ad)) (hP : P ≤ 12) (K1 : p0 < 0 → Q (some (.int 0)) h) (K2 : ¬ (p0 < 0) → (nI P) ≤ p0 → Q (some (.int 0)) h) (K3 : ¬ (p0 < 0) → ¬ ((nI P) ≤ p0) → v < 1 → Q (some (.int 0)) h) (K4 : ¬ (p0 < 0) → ¬ ((nI P) ≤ p0) → ¬ (v < 1) → 1000000000 < v → Q (some (.int 0)) h) (K5 : ¬ (p0 < 0) → ¬ ((nI P) ≤ p0) → ¬ (v < 1) → ¬ (1000000000 < v) → ∀ p : Nat, p0 = nI p → p < P → Q (some (.int 1)) (j_set h 33 (jL 12 (va_up ad p ((ad p) + v))))) : J l G mX8_advance 0 0 0 (lv_args 0 [.ref 27, .int p0, .long v]) [] h Q := by
  refine j_aload_n (pc := 0) dX8_advance_0 rfl ?_
  refine j_iload_n (pc := 1) dX8_advance_1 rfl ?_
  refine j_V1 (rm' := rmX8_isPerson) (pc := 2) dX8_advance_2 jlX8_131 H0 rfl ⟨Nat.le_of_ble_eq_true rfl, Nat.le_of_ble_eq_true rfl, Nat.le_of_ble_eq_true rfl, Nat.le_of_ble_eq_true rfl, Nat.le_of_ble_eq_true rfl, Nat.le_of_ble_eq_true rfl⟩ ?_
  refine s_X8_isPerson H0 (fun c1 => ?_) (fun c2 c3 => ?_) (fun c4 c5 => ?_)
  · show J l G mX8_advance _ _ 5 _ [.int 0] h Q
    refine j_if_eq (pc := 5) (tgt := 19) dX8_advance_5 (by decide) (fun c6 => ?_) (fun c6 => ?_)
    · refine j_iconst (pc := 19) (v := 0) dX8_advance_19 (by decide) ?_
      exact j_iret (pc := 20) dX8_advance_20 rfl rfl (Nat.le_of_ble_eq_true rfl) (Nat.le_of_ble_eq_true rfl) (K1 c1)
    · exact absurd c6 (by decide)
  · show J l G mX8_advance _ _ 5 _ [.int 0] h Q
    refine j_if_eq (pc := 5) (tgt := 19) dX8_advance_5 (by decide) (fun c7 => ?_) (fun c7 => ?_)
    · refine j_iconst (pc := 19) (v := 0) dX8_advance_19 (by decide) ?_
      exact j_iret (pc := 20) dX8_advance_20 rfl rfl (Nat.le_of_ble_eq_true rfl) (Nat.le_of_ble_eq_true rfl) (K2 c2 c3)
    · exact absurd c7 (by decide)
  · show J l G mX8_advance _ _ 5 _ [.int 1] h Q
    refine j_if_eq (pc := 5) (tgt := 19) dX8_advance_5 (by decide) (fun c8 => ?_) (fun c8 => ?_)
    · exact absurd c8 (by decide)
    · refine j_lload_n (pc := 8) dX8_advance_8 rfl ?_
      refine j_lconst (pc := 9) (v := 1) dX8_advance_9 (by decide) ?_
      refine j_ldc2 (pc := 10) dX8_advance_10 jnX8_135 ?_
      refine j_S3 (rm' := rmX8_within) (pc := 13) dX8_advance_13 jlX8_80 ⟨Nat.le_of_ble_eq_true rfl, Nat.le_of_ble_eq_true rfl, Nat.le_of_ble_eq_true rfl, Nat.le_of_ble_eq_true rfl, Nat.le_of_ble_eq_true rfl, Nat.le_of_ble_eq_true rfl⟩ ?_
      refine s_X8_within  (fun c9 => ?_) (fun c10 c11 => ?_) (fun c12 c13 => ?_)
      · show J l G mX8_advance _ _ 16 _ [.int 0] h Q
        refine j_if_ne (pc := 16) (tgt := 21) dX8_advance_16 (by decide) (fun c14 => ?_) (fun c14 => ?_)
        · exact absurd c14 (by decide)
        · refine j_iconst (pc := 19) (v := 0) dX8_advance_19 (by decide) ?_
          exact j_iret (pc := 20) dX8_advance_20 rfl rfl (Nat.le_of_ble_eq_true rfl) (Nat.le_of_ble_eq_true rfl) (K3 c4 c5 c9)
      · show J l G mX8_advance _ _ 16 _ [.int 0] h Q
        refine j_if_ne (pc := 16) (tgt := 21) dX8_advance_16 (by decide) (fun c15 => ?_) (fun c15 => ?_)
        · exact absurd c15 (by decide)
        · refine j_iconst (pc := 19) (v := 0) dX8_advance_19 (by decide) ?_
          exact j_iret (pc := 20) dX8_advance_20 rfl rfl (Nat.le_of_ble_eq_true rfl) (Nat.le_of_ble_eq_true rfl) (K4 c4 c5 c10 c11)
      · show J l G mX8_advance _ _ 16 _ [.int 1] h Q
        refine j_if_ne (pc := 16) (tgt := 21) dX8_advance_16 (by decide) (fun c16 => ?_) (fun c16 => ?_)
        · obtain ⟨p, hp, rfl⟩ : ∃ p : Nat, p < P ∧ p0 = nI p := jn_ge c4 c5 (jn_P (by omega))
          refine j_aload_n (pc := 21) dX8_advance_21 rfl ?_
          refine j_getf (pc := 22) dX8_advance_22 jfX8_26 H0 rfl ?_
          refine j_iload_n (pc := 25) dX8_advance_25 rfl ?_
          refine j_dup2 (pc := 26) dX8_advance_26 rfl rfl ?_
          refine j_lald (pc := 27) dX8_advance_27 H1 (jix_nI (by omega) (by decide)) ?_
          refine j_lload_n (pc := 28) dX8_advance_28 rfl ?_
          refine j_ladd (pc := 29) dX8_advance_29 ?_
          refine j_last (pc := 30) dX8_advance_30 H1 (jix_nI (by omega) (by decide)) ?_
          refine j_iconst (pc := 31) (v := 1) dX8_advance_31 (by decide) ?_
          exact j_iret (pc := 32) dX8_advance_32 rfl rfl (Nat.le_of_ble_eq_true rfl) (Nat.le_of_ble_eq_true rfl) (K5 c4 c5 c12 c13 p rfl hp)
        · exact absurd c16 (by decide)

set_option maxRecDepth 20000 in
theorem s_X8_trip {l : Launch} {G : jG} {h : jH} {Q : Option Value → jH → Prop} {at_ cl es fr op ps sz u wd : Int32} {T : Nat} {v : Int64} {sh : Nat → Int32} {sa : Nat → Int64} (H0 : h.2 27 = some (mO sz at_ fr wd ps (nI T) es op cl)) (H1 : h.2 34 = some (jI 20 sh)) (H2 : h.2 35 = some (jL 20 sa)) (hT : T ≤ 20) (K1 : u.toInt64 < 0 → Q (some (.int (-1))) h) (K2 : ¬ (u.toInt64 < 0) → 3 < u.toInt64 → Q (some (.int (-1))) h) (K3 : ¬ (u.toInt64 < 0) → ¬ (3 < u.toInt64) → v < 0 → Q (some (.int (-1))) h) (K4 : ¬ (u.toInt64 < 0) → ¬ (3 < u.toInt64) → ¬ (v < 0) → 1000000000000 < v → Q (some (.int (-1))) h) (K5 : ¬ (u.toInt64 < 0) → ¬ (3 < u.toInt64) → ¬ (v < 0) → ¬ (1000000000000 < v) → ¬ T = 20 → Q (some (.int (nI ((T + 1) - 1)))) (j_set (j_set (j_set h 34 (jI 20 (va_up sh T u))) 35 (jL 20 (va_up sa T v))) 27 (mO sz at_ fr wd ps (nI (T + 1)) es op cl))) (K6 : ¬ (u.toInt64 < 0) → ¬ (3 < u.toInt64) → ¬ (v < 0) → ¬ (1000000000000 < v) → T = 20 → Q (some (.int (-1))) h) : J l G mX8_trip 0 0 0 (lv_args 0 [.ref 27, .int u, .long v]) [] h Q := by
  refine j_iload_n (pc := 0) dX8_trip_0 rfl ?_
  refine j_i2l (pc := 1) dX8_trip_1 ?_
  refine j_lconst (pc := 2) (v := 0) dX8_trip_2 (by decide) ?_
  refine j_ldc2 (pc := 3) dX8_trip_3 jnX8_137 ?_
  refine j_S3 (rm' := rmX8_within) (pc := 6) dX8_trip_6 jlX8_80 ⟨Nat.le_of_ble_eq_true rfl, Nat.le_of_ble_eq_true rfl, Nat.le_of_ble_eq_true rfl, Nat.le_of_ble_eq_true rfl, Nat.le_of_ble_eq_true rfl, Nat.le_of_ble_eq_true rfl⟩ ?_
  refine s_X8_within  (fun c1 => ?_) (fun c2 c3 => ?_) (fun c4 c5 => ?_)
  · show J l G mX8_trip _ _ 9 _ [.int 0] h Q
    refine j_if_eq (pc := 9) (tgt := 32) dX8_trip_9 (by decide) (fun c6 => ?_) (fun c6 => ?_)
    · refine j_iconst (pc := 32) (v := -1) dX8_trip_32 (by decide) ?_
      exact j_iret (pc := 33) dX8_trip_33 rfl rfl (Nat.le_of_ble_eq_true rfl) (Nat.le_of_ble_eq_true rfl) (K1 c1)
    · exact absurd c6 (by decide)
  · show J l G mX8_trip _ _ 9 _ [.int 0] h Q
    refine j_if_eq (pc := 9) (tgt := 32) dX8_trip_9 (by decide) (fun c7 => ?_) (fun c7 => ?_)
    · refine j_iconst (pc := 32) (v := -1) dX8_trip_32 (by decide) ?_
      exact j_iret (pc := 33) dX8_trip_33 rfl rfl (Nat.le_of_ble_eq_true rfl) (Nat.le_of_ble_eq_true rfl) (K2 c2 c3)
    · exact absurd c7 (by decide)
  · show J l G mX8_trip _ _ 9 _ [.int 1] h Q
    refine j_if_eq (pc := 9) (tgt := 32) dX8_trip_9 (by decide) (fun c8 => ?_) (fun c8 => ?_)
    · exact absurd c8 (by decide)
    · refine j_lload_n (pc := 12) dX8_trip_12 rfl ?_
      refine j_lconst (pc := 13) (v := 0) dX8_trip_13 (by decide) ?_
      refine j_ldc2 (pc := 14) dX8_trip_14 jnX8_139 ?_
      refine j_S3 (rm' := rmX8_within) (pc := 17) dX8_trip_17 jlX8_80 ⟨Nat.le_of_ble_eq_true rfl, Nat.le_of_ble_eq_true rfl, Nat.le_of_ble_eq_true rfl, Nat.le_of_ble_eq_true rfl, Nat.le_of_ble_eq_true rfl, Nat.le_of_ble_eq_true rfl⟩ ?_
      refine s_X8_within  (fun c9 => ?_) (fun c10 c11 => ?_) (fun c12 c13 => ?_)
      · show J l G mX8_trip _ _ 20 _ [.int 0] h Q
        refine j_if_eq (pc := 20) (tgt := 32) dX8_trip_20 (by decide) (fun c14 => ?_) (fun c14 => ?_)
        · refine j_iconst (pc := 32) (v := -1) dX8_trip_32 (by decide) ?_
          exact j_iret (pc := 33) dX8_trip_33 rfl rfl (Nat.le_of_ble_eq_true rfl) (Nat.le_of_ble_eq_true rfl) (K3 c4 c5 c9)
        · exact absurd c14 (by decide)
      · show J l G mX8_trip _ _ 20 _ [.int 0] h Q
        refine j_if_eq (pc := 20) (tgt := 32) dX8_trip_20 (by decide) (fun c15 => ?_) (fun c15 => ?_)
        · refine j_iconst (pc := 32) (v := -1) dX8_trip_32 (by decide) ?_
          exact j_iret (pc := 33) dX8_trip_33 rfl rfl (Nat.le_of_ble_eq_true rfl) (Nat.le_of_ble_eq_true rfl) (K4 c4 c5 c10 c11)
        · exact absurd c15 (by decide)
      · show J l G mX8_trip _ _ 20 _ [.int 1] h Q
        refine j_if_eq (pc := 20) (tgt := 32) dX8_trip_20 (by decide) (fun c16 => ?_) (fun c16 => ?_)
        · exact absurd c16 (by decide)
        · refine j_aload_n (pc := 23) dX8_trip_23 rfl ?_
          refine j_getf (pc := 24) dX8_trip_24 jfX8_126 H0 rfl ?_
          refine j_bipush (pc := 27) (v := 20) dX8_trip_27 (by decide) ?_
          refine j_icmp_neN (a := T) (b := 20) (pc := 29) (tgt := 34) dX8_trip_29 (by decide) (by omega) (by omega) (fun c17 => ?_) (fun c17 => ?_)
          · refine j_aload_n (pc := 34) dX8_trip_34 rfl ?_
            refine j_getf (pc := 35) dX8_trip_35 jfX8_29 H0 rfl ?_
            refine j_aload_n (pc := 38) dX8_trip_38 rfl ?_
            refine j_getf (pc := 39) dX8_trip_39 jfX8_126 H0 rfl ?_
            refine j_iload_n (pc := 42) dX8_trip_42 rfl ?_
            refine j_iast (pc := 43) dX8_trip_43 H1 (jix_nI (by omega) (by decide)) ?_
            refine j_aload_n (pc := 44) dX8_trip_44 rfl ?_
            refine j_getf (pc := 45) dX8_trip_45 jfX8_32 (j_hn (by decide) H0) rfl ?_
            refine j_aload_n (pc := 48) dX8_trip_48 rfl ?_
            refine j_getf (pc := 49) dX8_trip_49 jfX8_126 (j_hn (by decide) H0) rfl ?_
            refine j_lload_n (pc := 52) dX8_trip_52 rfl ?_
            refine j_last (pc := 53) dX8_trip_53 (j_hn (by decide) H2) (jix_nI (by omega) (by decide)) ?_
            refine j_aload_n (pc := 54) dX8_trip_54 rfl ?_
            refine j_dup (pc := 55) dX8_trip_55 rfl ?_
            refine j_getf (pc := 56) dX8_trip_56 jfX8_126 (j_hn (by decide) (j_hn (by decide) H0)) rfl ?_
            refine j_iconst (pc := 59) (v := 1) dX8_trip_59 (by decide) ?_
            refine j_iaddN (a := T) (b := 1) (pc := 60) dX8_trip_60 ?_
            refine j_putf (pc := 61) dX8_trip_61 jfX8_126 (j_hn (by decide) (j_hn (by decide) H0)) rfl rfl (Nat.le_of_ble_eq_true rfl) ?_
            show J l G mX8_trip _ _ 64 _ _ (j_set (j_set (j_set h 34 (jI 20 (va_up sh T u))) 35 (jL 20 (va_up sa T v))) 27 (mO sz at_ fr wd ps (nI (T + 1)) es op cl)) Q
            refine j_aload_n (pc := 64) dX8_trip_64 rfl ?_
            refine j_getf (pc := 65) dX8_trip_65 jfX8_126 j_hs rfl ?_
            refine j_iconst (pc := 68) (v := 1) dX8_trip_68 (by decide) ?_
            refine j_isubN (a := T + 1) (b := 1) (pc := 69) dX8_trip_69 (by omega) ?_
            exact j_iret (pc := 70) dX8_trip_70 rfl rfl (Nat.le_of_ble_eq_true rfl) (Nat.le_of_ble_eq_true rfl) (K5 c4 c5 c12 c13 c17)
          · refine j_iconst (pc := 32) (v := -1) dX8_trip_32 (by decide) ?_
            exact j_iret (pc := 33) dX8_trip_33 rfl rfl (Nat.le_of_ble_eq_true rfl) (Nat.le_of_ble_eq_true rfl) (K6 c4 c5 c12 c13 c17)

set_option maxRecDepth 20000 in
theorem s_X8_cost {l : Launch} {G : jG} {h : jH} {Q : Option Value → jH → Prop} {at_ cl es fr k0 op ps sz t0 wd : Int32} {T : Nat} {v : Int64} {se : Nat → Int32} {co : Nat → Int64} (H0 : h.2 27 = some (mO sz at_ fr wd ps (nI T) es op cl)) (H1 : h.2 38 = some (jZ 20 se)) (H2 : h.2 36 = some (jL 200 co)) (hT : T ≤ 20) (K1 : t0 < 0 → Q (some (.int 0)) h) (K2 : ¬ (t0 < 0) → (nI T) ≤ t0 → Q (some (.int 0)) h) (K3 : ¬ (t0 < 0) → ¬ ((nI T) ≤ t0) → ∀ t : Nat, t0 = nI t → t < T → ¬ (se t) = 0 → Q (some (.int 0)) h) (K4 : ¬ (t0 < 0) → ¬ ((nI T) ≤ t0) → ∀ t : Nat, t0 = nI t → t < T → (se t) = 0 → k0.toInt64 < 0 → Q (some (.int 0)) h) (K5 : ¬ (t0 < 0) → ¬ ((nI T) ≤ t0) → ∀ t : Nat, t0 = nI t → t < T → (se t) = 0 → ¬ (k0.toInt64 < 0) → 9 < k0.toInt64 → Q (some (.int 0)) h) (K6 : ¬ (t0 < 0) → ¬ ((nI T) ≤ t0) → ∀ t : Nat, t0 = nI t → t < T → (se t) = 0 → ¬ (k0.toInt64 < 0) → ¬ (9 < k0.toInt64) → v < 1 → Q (some (.int 0)) h) (K7 : ¬ (t0 < 0) → ¬ ((nI T) ≤ t0) → ∀ t : Nat, t0 = nI t → t < T → (se t) = 0 → ¬ (k0.toInt64 < 0) → ¬ (9 < k0.toInt64) → ¬ (v < 1) → 1000000000 < v → Q (some (.int 0)) h) (K8 : ¬ (t0 < 0) → ¬ ((nI T) ≤ t0) → ∀ t : Nat, t0 = nI t → t < T → (se t) = 0 → ¬ (k0.toInt64 < 0) → ¬ (9 < k0.toInt64) → ¬ (v < 1) → ¬ (1000000000 < v) → ∀ k : Nat, k0 = nI k → k < 9 + 1 → Q (some (.int 1)) (j_set h 36 (jL 200 (va_up co ((10 * t) + k) ((co ((10 * t) + k)) + v))))) : J l G mX8_cost 0 0 0 (lv_args 0 [.ref 27, .int t0, .int k0, .long v]) [] h Q := by
  refine j_aload_n (pc := 0) dX8_cost_0 rfl ?_
  refine j_iload_n (pc := 1) dX8_cost_1 rfl ?_
  refine j_V1 (rm' := rmX8_isTrip) (pc := 2) dX8_cost_2 jlX8_141 H0 rfl ⟨Nat.le_of_ble_eq_true rfl, Nat.le_of_ble_eq_true rfl, Nat.le_of_ble_eq_true rfl, Nat.le_of_ble_eq_true rfl, Nat.le_of_ble_eq_true rfl, Nat.le_of_ble_eq_true rfl⟩ ?_
  refine s_X8_isTrip H0 (fun c1 => ?_) (fun c2 c3 => ?_) (fun c4 c5 => ?_)
  · show J l G mX8_cost _ _ 5 _ [.int 0] h Q
    refine j_if_eq (pc := 5) (tgt := 40) dX8_cost_5 (by decide) (fun c6 => ?_) (fun c6 => ?_)
    · refine j_iconst (pc := 40) (v := 0) dX8_cost_40 (by decide) ?_
      exact j_iret (pc := 41) dX8_cost_41 rfl rfl (Nat.le_of_ble_eq_true rfl) (Nat.le_of_ble_eq_true rfl) (K1 c1)
    · exact absurd c6 (by decide)
  · show J l G mX8_cost _ _ 5 _ [.int 0] h Q
    refine j_if_eq (pc := 5) (tgt := 40) dX8_cost_5 (by decide) (fun c7 => ?_) (fun c7 => ?_)
    · refine j_iconst (pc := 40) (v := 0) dX8_cost_40 (by decide) ?_
      exact j_iret (pc := 41) dX8_cost_41 rfl rfl (Nat.le_of_ble_eq_true rfl) (Nat.le_of_ble_eq_true rfl) (K2 c2 c3)
    · exact absurd c7 (by decide)
  · show J l G mX8_cost _ _ 5 _ [.int 1] h Q
    refine j_if_eq (pc := 5) (tgt := 40) dX8_cost_5 (by decide) (fun c8 => ?_) (fun c8 => ?_)
    · exact absurd c8 (by decide)
    · obtain ⟨t, ht, rfl⟩ : ∃ t : Nat, t < T ∧ t0 = nI t := jn_ge c4 c5 (jn_P (by omega))
      refine j_aload_n (pc := 8) dX8_cost_8 rfl ?_
      refine j_getf (pc := 9) dX8_cost_9 jfX8_41 H0 rfl ?_
      refine j_iload_n (pc := 12) dX8_cost_12 rfl ?_
      refine j_zald (pc := 13) dX8_cost_13 H1 (jix_nI (by omega) (by decide)) ?_
      refine j_if_ne (pc := 14) (tgt := 40) dX8_cost_14 (by decide) (fun c9 => ?_) (fun c9 => ?_)
      · refine j_iconst (pc := 40) (v := 0) dX8_cost_40 (by decide) ?_
        exact j_iret (pc := 41) dX8_cost_41 rfl rfl (Nat.le_of_ble_eq_true rfl) (Nat.le_of_ble_eq_true rfl) (K3 c4 c5 t rfl ht c9)
      · refine j_iload_n (pc := 17) dX8_cost_17 rfl ?_
        refine j_i2l (pc := 18) dX8_cost_18 ?_
        refine j_lconst (pc := 19) (v := 0) dX8_cost_19 (by decide) ?_
        refine j_ldc2 (pc := 20) dX8_cost_20 jnX8_129 ?_
        refine j_S3 (rm' := rmX8_within) (pc := 23) dX8_cost_23 jlX8_80 ⟨Nat.le_of_ble_eq_true rfl, Nat.le_of_ble_eq_true rfl, Nat.le_of_ble_eq_true rfl, Nat.le_of_ble_eq_true rfl, Nat.le_of_ble_eq_true rfl, Nat.le_of_ble_eq_true rfl⟩ ?_
        refine s_X8_within  (fun c10 => ?_) (fun c11 c12 => ?_) (fun c13 c14 => ?_)
        · show J l G mX8_cost _ _ 26 _ [.int 0] h Q
          refine j_if_eq (pc := 26) (tgt := 40) dX8_cost_26 (by decide) (fun c15 => ?_) (fun c15 => ?_)
          · refine j_iconst (pc := 40) (v := 0) dX8_cost_40 (by decide) ?_
            exact j_iret (pc := 41) dX8_cost_41 rfl rfl (Nat.le_of_ble_eq_true rfl) (Nat.le_of_ble_eq_true rfl) (K4 c4 c5 t rfl ht c9 c10)
          · exact absurd c15 (by decide)
        · show J l G mX8_cost _ _ 26 _ [.int 0] h Q
          refine j_if_eq (pc := 26) (tgt := 40) dX8_cost_26 (by decide) (fun c16 => ?_) (fun c16 => ?_)
          · refine j_iconst (pc := 40) (v := 0) dX8_cost_40 (by decide) ?_
            exact j_iret (pc := 41) dX8_cost_41 rfl rfl (Nat.le_of_ble_eq_true rfl) (Nat.le_of_ble_eq_true rfl) (K5 c4 c5 t rfl ht c9 c11 c12)
          · exact absurd c16 (by decide)
        · show J l G mX8_cost _ _ 26 _ [.int 1] h Q
          refine j_if_eq (pc := 26) (tgt := 40) dX8_cost_26 (by decide) (fun c17 => ?_) (fun c17 => ?_)
          · exact absurd c17 (by decide)
          · refine j_lload_n (pc := 29) dX8_cost_29 rfl ?_
            refine j_lconst (pc := 30) (v := 1) dX8_cost_30 (by decide) ?_
            refine j_ldc2 (pc := 31) dX8_cost_31 jnX8_135 ?_
            refine j_S3 (rm' := rmX8_within) (pc := 34) dX8_cost_34 jlX8_80 ⟨Nat.le_of_ble_eq_true rfl, Nat.le_of_ble_eq_true rfl, Nat.le_of_ble_eq_true rfl, Nat.le_of_ble_eq_true rfl, Nat.le_of_ble_eq_true rfl, Nat.le_of_ble_eq_true rfl⟩ ?_
            refine s_X8_within  (fun c18 => ?_) (fun c19 c20 => ?_) (fun c21 c22 => ?_)
            · show J l G mX8_cost _ _ 37 _ [.int 0] h Q
              refine j_if_ne (pc := 37) (tgt := 42) dX8_cost_37 (by decide) (fun c23 => ?_) (fun c23 => ?_)
              · exact absurd c23 (by decide)
              · refine j_iconst (pc := 40) (v := 0) dX8_cost_40 (by decide) ?_
                exact j_iret (pc := 41) dX8_cost_41 rfl rfl (Nat.le_of_ble_eq_true rfl) (Nat.le_of_ble_eq_true rfl) (K6 c4 c5 t rfl ht c9 c13 c14 c18)
            · show J l G mX8_cost _ _ 37 _ [.int 0] h Q
              refine j_if_ne (pc := 37) (tgt := 42) dX8_cost_37 (by decide) (fun c24 => ?_) (fun c24 => ?_)
              · exact absurd c24 (by decide)
              · refine j_iconst (pc := 40) (v := 0) dX8_cost_40 (by decide) ?_
                exact j_iret (pc := 41) dX8_cost_41 rfl rfl (Nat.le_of_ble_eq_true rfl) (Nat.le_of_ble_eq_true rfl) (K7 c4 c5 t rfl ht c9 c13 c14 c19 c20)
            · show J l G mX8_cost _ _ 37 _ [.int 1] h Q
              refine j_if_ne (pc := 37) (tgt := 42) dX8_cost_37 (by decide) (fun c25 => ?_) (fun c25 => ?_)
              · obtain ⟨k, hk, rfl⟩ : ∃ k : Nat, k < 9 + 1 ∧ k0 = nI k := jn_w (N := 9) c13 c14 (by decide)
                refine j_aload_n (pc := 42) dX8_cost_42 rfl ?_
                refine j_getf (pc := 43) dX8_cost_43 jfX8_35 H0 rfl ?_
                refine j_bipush (pc := 46) (v := 10) dX8_cost_46 (by decide) ?_
                refine j_iload_n (pc := 48) dX8_cost_48 rfl ?_
                refine j_imulN (a := 10) (b := t) (pc := 49) dX8_cost_49 ?_
                refine j_iload_n (pc := 50) dX8_cost_50 rfl ?_
                refine j_iaddN (a := 10 * t) (b := k) (pc := 51) dX8_cost_51 ?_
                refine j_dup2 (pc := 52) dX8_cost_52 rfl rfl ?_
                refine j_lald (pc := 53) dX8_cost_53 H2 (jix_nI (by omega) (by decide)) ?_
                refine j_lload_n (pc := 54) dX8_cost_54 rfl ?_
                refine j_ladd (pc := 55) dX8_cost_55 ?_
                refine j_last (pc := 56) dX8_cost_56 H2 (jix_nI (by omega) (by decide)) ?_
                refine j_iconst (pc := 57) (v := 1) dX8_cost_57 (by decide) ?_
                exact j_iret (pc := 58) dX8_cost_58 rfl rfl (Nat.le_of_ble_eq_true rfl) (Nat.le_of_ble_eq_true rfl) (K8 c4 c5 t rfl ht c9 c13 c14 c21 c22 k rfl hk)
              · exact absurd c25 (by decide)

set_option maxRecDepth 20000 in
theorem s_X8_days {l : Launch} {G : jG} {h : jH} {Q : Option Value → jH → Prop} {at_ cl es fr n0 op p0 sz t0 wd : Int32} {T P : Nat} {se : Nat → Int32} {da : Nat → Int32} (H0 : h.2 27 = some (mO sz at_ fr wd (nI P) (nI T) es op cl)) (H1 : h.2 38 = some (jZ 20 se)) (H2 : h.2 37 = some (jI 240 da)) (hT : T ≤ 20) (hP : P ≤ 12) (K1 : t0 < 0 → Q (some (.int (-1))) h) (K2 : ¬ (t0 < 0) → (nI T) ≤ t0 → Q (some (.int (-1))) h) (K3 : ¬ (t0 < 0) → ¬ ((nI T) ≤ t0) → ∀ t : Nat, t0 = nI t → t < T → p0 < 0 → Q (some (.int (-1))) h) (K4 : ¬ (t0 < 0) → ¬ ((nI T) ≤ t0) → ∀ t : Nat, t0 = nI t → t < T → ¬ (p0 < 0) → (nI P) ≤ p0 → Q (some (.int (-1))) h) (K5 : ¬ (t0 < 0) → ¬ ((nI T) ≤ t0) → ∀ t : Nat, t0 = nI t → t < T → ¬ (p0 < 0) → ¬ ((nI P) ≤ p0) → ∀ p : Nat, p0 = nI p → p < P → ¬ (se t) = 0 → Q (some (.int (-1))) h) (K6 : ¬ (t0 < 0) → ¬ ((nI T) ≤ t0) → ∀ t : Nat, t0 = nI t → t < T → ¬ (p0 < 0) → ¬ ((nI P) ≤ p0) → ∀ p : Nat, p0 = nI p → p < P → (se t) = 0 → n0.toInt64 < 0 → Q (some (.int (-1))) h) (K7 : ¬ (t0 < 0) → ¬ ((nI T) ≤ t0) → ∀ t : Nat, t0 = nI t → t < T → ¬ (p0 < 0) → ¬ ((nI P) ≤ p0) → ∀ p : Nat, p0 = nI p → p < P → (se t) = 0 → ¬ (n0.toInt64 < 0) → 400 < n0.toInt64 → Q (some (.int (-1))) h) (K8 : ¬ (t0 < 0) → ¬ ((nI T) ≤ t0) → ∀ t : Nat, t0 = nI t → t < T → ¬ (p0 < 0) → ¬ ((nI P) ≤ p0) → ∀ p : Nat, p0 = nI p → p < P → (se t) = 0 → ¬ (n0.toInt64 < 0) → ¬ (400 < n0.toInt64) → Q (some (.int (da ((12 * t) + p)))) (j_set h 37 (jI 240 (va_up da ((12 * t) + p) n0)))) : J l G mX8_days 0 0 0 (lv_args 0 [.ref 27, .int t0, .int p0, .int n0]) [] h Q := by
  refine j_aload_n (pc := 0) dX8_days_0 rfl ?_
  refine j_iload_n (pc := 1) dX8_days_1 rfl ?_
  refine j_V1 (rm' := rmX8_isTrip) (pc := 2) dX8_days_2 jlX8_141 H0 rfl ⟨Nat.le_of_ble_eq_true rfl, Nat.le_of_ble_eq_true rfl, Nat.le_of_ble_eq_true rfl, Nat.le_of_ble_eq_true rfl, Nat.le_of_ble_eq_true rfl, Nat.le_of_ble_eq_true rfl⟩ ?_
  refine s_X8_isTrip H0 (fun c1 => ?_) (fun c2 c3 => ?_) (fun c4 c5 => ?_)
  · show J l G mX8_days _ _ 5 _ [.int 0] h Q
    refine j_if_eq (pc := 5) (tgt := 37) dX8_days_5 (by decide) (fun c6 => ?_) (fun c6 => ?_)
    · refine j_iconst (pc := 37) (v := -1) dX8_days_37 (by decide) ?_
      exact j_iret (pc := 38) dX8_days_38 rfl rfl (Nat.le_of_ble_eq_true rfl) (Nat.le_of_ble_eq_true rfl) (K1 c1)
    · exact absurd c6 (by decide)
  · show J l G mX8_days _ _ 5 _ [.int 0] h Q
    refine j_if_eq (pc := 5) (tgt := 37) dX8_days_5 (by decide) (fun c7 => ?_) (fun c7 => ?_)
    · refine j_iconst (pc := 37) (v := -1) dX8_days_37 (by decide) ?_
      exact j_iret (pc := 38) dX8_days_38 rfl rfl (Nat.le_of_ble_eq_true rfl) (Nat.le_of_ble_eq_true rfl) (K2 c2 c3)
    · exact absurd c7 (by decide)
  · show J l G mX8_days _ _ 5 _ [.int 1] h Q
    refine j_if_eq (pc := 5) (tgt := 37) dX8_days_5 (by decide) (fun c8 => ?_) (fun c8 => ?_)
    · exact absurd c8 (by decide)
    · obtain ⟨t, ht, rfl⟩ : ∃ t : Nat, t < T ∧ t0 = nI t := jn_ge c4 c5 (jn_P (by omega))
      refine j_aload_n (pc := 8) dX8_days_8 rfl ?_
      refine j_iload_n (pc := 9) dX8_days_9 rfl ?_
      refine j_V1 (rm' := rmX8_isPerson) (pc := 10) dX8_days_10 jlX8_131 H0 rfl ⟨Nat.le_of_ble_eq_true rfl, Nat.le_of_ble_eq_true rfl, Nat.le_of_ble_eq_true rfl, Nat.le_of_ble_eq_true rfl, Nat.le_of_ble_eq_true rfl, Nat.le_of_ble_eq_true rfl⟩ ?_
      refine s_X8_isPerson H0 (fun c9 => ?_) (fun c10 c11 => ?_) (fun c12 c13 => ?_)
      · show J l G mX8_days _ _ 13 _ [.int 0] h Q
        refine j_if_eq (pc := 13) (tgt := 37) dX8_days_13 (by decide) (fun c14 => ?_) (fun c14 => ?_)
        · refine j_iconst (pc := 37) (v := -1) dX8_days_37 (by decide) ?_
          exact j_iret (pc := 38) dX8_days_38 rfl rfl (Nat.le_of_ble_eq_true rfl) (Nat.le_of_ble_eq_true rfl) (K3 c4 c5 t rfl ht c9)
        · exact absurd c14 (by decide)
      · show J l G mX8_days _ _ 13 _ [.int 0] h Q
        refine j_if_eq (pc := 13) (tgt := 37) dX8_days_13 (by decide) (fun c15 => ?_) (fun c15 => ?_)
        · refine j_iconst (pc := 37) (v := -1) dX8_days_37 (by decide) ?_
          exact j_iret (pc := 38) dX8_days_38 rfl rfl (Nat.le_of_ble_eq_true rfl) (Nat.le_of_ble_eq_true rfl) (K4 c4 c5 t rfl ht c10 c11)
        · exact absurd c15 (by decide)
      · show J l G mX8_days _ _ 13 _ [.int 1] h Q
        refine j_if_eq (pc := 13) (tgt := 37) dX8_days_13 (by decide) (fun c16 => ?_) (fun c16 => ?_)
        · exact absurd c16 (by decide)
        · obtain ⟨p, hp, rfl⟩ : ∃ p : Nat, p < P ∧ p0 = nI p := jn_ge c12 c13 (jn_P (by omega))
          refine j_aload_n (pc := 16) dX8_days_16 rfl ?_
          refine j_getf (pc := 17) dX8_days_17 jfX8_41 H0 rfl ?_
          refine j_iload_n (pc := 20) dX8_days_20 rfl ?_
          refine j_zald (pc := 21) dX8_days_21 H1 (jix_nI (by omega) (by decide)) ?_
          refine j_if_ne (pc := 22) (tgt := 37) dX8_days_22 (by decide) (fun c17 => ?_) (fun c17 => ?_)
          · refine j_iconst (pc := 37) (v := -1) dX8_days_37 (by decide) ?_
            exact j_iret (pc := 38) dX8_days_38 rfl rfl (Nat.le_of_ble_eq_true rfl) (Nat.le_of_ble_eq_true rfl) (K5 c4 c5 t rfl ht c12 c13 p rfl hp c17)
          · refine j_iload_n (pc := 25) dX8_days_25 rfl ?_
            refine j_i2l (pc := 26) dX8_days_26 ?_
            refine j_lconst (pc := 27) (v := 0) dX8_days_27 (by decide) ?_
            refine j_ldc2 (pc := 28) dX8_days_28 jnX8_144 ?_
            refine j_S3 (rm' := rmX8_within) (pc := 31) dX8_days_31 jlX8_80 ⟨Nat.le_of_ble_eq_true rfl, Nat.le_of_ble_eq_true rfl, Nat.le_of_ble_eq_true rfl, Nat.le_of_ble_eq_true rfl, Nat.le_of_ble_eq_true rfl, Nat.le_of_ble_eq_true rfl⟩ ?_
            refine s_X8_within  (fun c18 => ?_) (fun c19 c20 => ?_) (fun c21 c22 => ?_)
            · show J l G mX8_days _ _ 34 _ [.int 0] h Q
              refine j_if_ne (pc := 34) (tgt := 39) dX8_days_34 (by decide) (fun c23 => ?_) (fun c23 => ?_)
              · exact absurd c23 (by decide)
              · refine j_iconst (pc := 37) (v := -1) dX8_days_37 (by decide) ?_
                exact j_iret (pc := 38) dX8_days_38 rfl rfl (Nat.le_of_ble_eq_true rfl) (Nat.le_of_ble_eq_true rfl) (K6 c4 c5 t rfl ht c12 c13 p rfl hp c17 c18)
            · show J l G mX8_days _ _ 34 _ [.int 0] h Q
              refine j_if_ne (pc := 34) (tgt := 39) dX8_days_34 (by decide) (fun c24 => ?_) (fun c24 => ?_)
              · exact absurd c24 (by decide)
              · refine j_iconst (pc := 37) (v := -1) dX8_days_37 (by decide) ?_
                exact j_iret (pc := 38) dX8_days_38 rfl rfl (Nat.le_of_ble_eq_true rfl) (Nat.le_of_ble_eq_true rfl) (K7 c4 c5 t rfl ht c12 c13 p rfl hp c17 c19 c20)
            · show J l G mX8_days _ _ 34 _ [.int 1] h Q
              refine j_if_ne (pc := 34) (tgt := 39) dX8_days_34 (by decide) (fun c25 => ?_) (fun c25 => ?_)
              · refine j_aload_n (pc := 39) dX8_days_39 rfl ?_
                refine j_getf (pc := 40) dX8_days_40 jfX8_38 H0 rfl ?_
                refine j_bipush (pc := 43) (v := 12) dX8_days_43 (by decide) ?_
                refine j_iload_n (pc := 45) dX8_days_45 rfl ?_
                refine j_imulN (a := 12) (b := t) (pc := 46) dX8_days_46 ?_
                refine j_iload_n (pc := 47) dX8_days_47 rfl ?_
                refine j_iaddN (a := 12 * t) (b := p) (pc := 48) dX8_days_48 ?_
                refine j_iald (pc := 49) dX8_days_49 H2 (jix_nI (by omega) (by decide)) ?_
                refine j_istore (pc := 50) dX8_days_50 (by decide) ?_
                refine j_aload_n (pc := 52) dX8_days_52 rfl ?_
                refine j_getf (pc := 53) dX8_days_53 jfX8_38 H0 rfl ?_
                refine j_bipush (pc := 56) (v := 12) dX8_days_56 (by decide) ?_
                refine j_iload_n (pc := 58) dX8_days_58 rfl ?_
                refine j_imulN (a := 12) (b := t) (pc := 59) dX8_days_59 ?_
                refine j_iload_n (pc := 60) dX8_days_60 rfl ?_
                refine j_iaddN (a := 12 * t) (b := p) (pc := 61) dX8_days_61 ?_
                refine j_iload_n (pc := 62) dX8_days_62 rfl ?_
                refine j_iast (pc := 63) dX8_days_63 H2 (jix_nI (by omega) (by decide)) ?_
                refine j_iload (pc := 64) dX8_days_64 rfl ?_
                exact j_iret (pc := 66) dX8_days_66 rfl rfl (Nat.le_of_ble_eq_true rfl) (Nat.le_of_ble_eq_true rfl) (K8 c4 c5 t rfl ht c12 c13 p rfl hp c17 c21 c22)
              · exact absurd c25 (by decide)

set_option maxRecDepth 20000 in
theorem s_X8_part {l : Launch} {G : jG} {h : jH} {Q : Option Value → jH → Prop} {at_ cl es fr op ps sz t0 w0 wd : Int32} {T : Nat} {se : Nat → Int32} {pa : Nat → Int64} (H0 : h.2 27 = some (mO sz at_ fr wd ps (nI T) es op cl)) (H1 : h.2 38 = some (jZ 20 se)) (H2 : h.2 39 = some (jL 120 pa)) (hT : T ≤ 20) (K1 : t0 < 0 → Q (some (.long (-9223372036854775808))) h) (K2 : ¬ (t0 < 0) → (nI T) ≤ t0 → Q (some (.long (-9223372036854775808))) h) (K3 : ¬ (t0 < 0) → ¬ ((nI T) ≤ t0) → ∀ t : Nat, t0 = nI t → t < T → (se t) = 0 → Q (some (.long (-9223372036854775808))) h) (K4 : ¬ (t0 < 0) → ¬ ((nI T) ≤ t0) → ∀ t : Nat, t0 = nI t → t < T → ¬ (se t) = 0 → w0.toInt64 < 0 → Q (some (.long (-9223372036854775808))) h) (K5 : ¬ (t0 < 0) → ¬ ((nI T) ≤ t0) → ∀ t : Nat, t0 = nI t → t < T → ¬ (se t) = 0 → ¬ (w0.toInt64 < 0) → 5 < w0.toInt64 → Q (some (.long (-9223372036854775808))) h) (K6 : ¬ (t0 < 0) → ¬ ((nI T) ≤ t0) → ∀ t : Nat, t0 = nI t → t < T → ¬ (se t) = 0 → ¬ (w0.toInt64 < 0) → ¬ (5 < w0.toInt64) → ∀ w : Nat, w0 = nI w → w < 5 + 1 → Q (some (.long (pa ((6 * t) + w)))) h) : J l G mX8_part 0 0 0 (lv_args 0 [.ref 27, .int t0, .int w0]) [] h Q := by
  refine j_aload_n (pc := 0) dX8_part_0 rfl ?_
  refine j_iload_n (pc := 1) dX8_part_1 rfl ?_
  refine j_V1 (rm' := rmX8_isTrip) (pc := 2) dX8_part_2 jlX8_141 H0 rfl ⟨Nat.le_of_ble_eq_true rfl, Nat.le_of_ble_eq_true rfl, Nat.le_of_ble_eq_true rfl, Nat.le_of_ble_eq_true rfl, Nat.le_of_ble_eq_true rfl, Nat.le_of_ble_eq_true rfl⟩ ?_
  refine s_X8_isTrip H0 (fun c1 => ?_) (fun c2 c3 => ?_) (fun c4 c5 => ?_)
  · show J l G mX8_part _ _ 5 _ [.int 0] h Q
    refine j_if_eq (pc := 5) (tgt := 43) dX8_part_5 (by decide) (fun c6 => ?_) (fun c6 => ?_)
    · refine j_ldc2 (pc := 43) dX8_part_43 jnX8_158 ?_
      exact j_lret (pc := 46) dX8_part_46 rfl (Nat.le_of_ble_eq_true rfl) (Nat.le_of_ble_eq_true rfl) (K1 c1)
    · exact absurd c6 (by decide)
  · show J l G mX8_part _ _ 5 _ [.int 0] h Q
    refine j_if_eq (pc := 5) (tgt := 43) dX8_part_5 (by decide) (fun c7 => ?_) (fun c7 => ?_)
    · refine j_ldc2 (pc := 43) dX8_part_43 jnX8_158 ?_
      exact j_lret (pc := 46) dX8_part_46 rfl (Nat.le_of_ble_eq_true rfl) (Nat.le_of_ble_eq_true rfl) (K2 c2 c3)
    · exact absurd c7 (by decide)
  · show J l G mX8_part _ _ 5 _ [.int 1] h Q
    refine j_if_eq (pc := 5) (tgt := 43) dX8_part_5 (by decide) (fun c8 => ?_) (fun c8 => ?_)
    · exact absurd c8 (by decide)
    · obtain ⟨t, ht, rfl⟩ : ∃ t : Nat, t < T ∧ t0 = nI t := jn_ge c4 c5 (jn_P (by omega))
      refine j_aload_n (pc := 8) dX8_part_8 rfl ?_
      refine j_getf (pc := 9) dX8_part_9 jfX8_41 H0 rfl ?_
      refine j_iload_n (pc := 12) dX8_part_12 rfl ?_
      refine j_zald (pc := 13) dX8_part_13 H1 (jix_nI (by omega) (by decide)) ?_
      refine j_if_eq (pc := 14) (tgt := 43) dX8_part_14 (by decide) (fun c9 => ?_) (fun c9 => ?_)
      · refine j_ldc2 (pc := 43) dX8_part_43 jnX8_158 ?_
        exact j_lret (pc := 46) dX8_part_46 rfl (Nat.le_of_ble_eq_true rfl) (Nat.le_of_ble_eq_true rfl) (K3 c4 c5 t rfl ht c9)
      · refine j_iload_n (pc := 17) dX8_part_17 rfl ?_
        refine j_i2l (pc := 18) dX8_part_18 ?_
        refine j_lconst (pc := 19) (v := 0) dX8_part_19 (by decide) ?_
        refine j_ldc2 (pc := 20) dX8_part_20 jnX8_156 ?_
        refine j_S3 (rm' := rmX8_within) (pc := 23) dX8_part_23 jlX8_80 ⟨Nat.le_of_ble_eq_true rfl, Nat.le_of_ble_eq_true rfl, Nat.le_of_ble_eq_true rfl, Nat.le_of_ble_eq_true rfl, Nat.le_of_ble_eq_true rfl, Nat.le_of_ble_eq_true rfl⟩ ?_
        refine s_X8_within  (fun c10 => ?_) (fun c11 c12 => ?_) (fun c13 c14 => ?_)
        · show J l G mX8_part _ _ 26 _ [.int 0] h Q
          refine j_if_eq (pc := 26) (tgt := 43) dX8_part_26 (by decide) (fun c15 => ?_) (fun c15 => ?_)
          · refine j_ldc2 (pc := 43) dX8_part_43 jnX8_158 ?_
            exact j_lret (pc := 46) dX8_part_46 rfl (Nat.le_of_ble_eq_true rfl) (Nat.le_of_ble_eq_true rfl) (K4 c4 c5 t rfl ht c9 c10)
          · exact absurd c15 (by decide)
        · show J l G mX8_part _ _ 26 _ [.int 0] h Q
          refine j_if_eq (pc := 26) (tgt := 43) dX8_part_26 (by decide) (fun c16 => ?_) (fun c16 => ?_)
          · refine j_ldc2 (pc := 43) dX8_part_43 jnX8_158 ?_
            exact j_lret (pc := 46) dX8_part_46 rfl (Nat.le_of_ble_eq_true rfl) (Nat.le_of_ble_eq_true rfl) (K5 c4 c5 t rfl ht c9 c11 c12)
          · exact absurd c16 (by decide)
        · show J l G mX8_part _ _ 26 _ [.int 1] h Q
          refine j_if_eq (pc := 26) (tgt := 43) dX8_part_26 (by decide) (fun c17 => ?_) (fun c17 => ?_)
          · exact absurd c17 (by decide)
          · obtain ⟨w, hw, rfl⟩ : ∃ w : Nat, w < 5 + 1 ∧ w0 = nI w := jn_w (N := 5) c13 c14 (by decide)
            refine j_aload_n (pc := 29) dX8_part_29 rfl ?_
            refine j_getf (pc := 30) dX8_part_30 jfX8_45 H0 rfl ?_
            refine j_bipush (pc := 33) (v := 6) dX8_part_33 (by decide) ?_
            refine j_iload_n (pc := 35) dX8_part_35 rfl ?_
            refine j_imulN (a := 6) (b := t) (pc := 36) dX8_part_36 ?_
            refine j_iload_n (pc := 37) dX8_part_37 rfl ?_
            refine j_iaddN (a := 6 * t) (b := w) (pc := 38) dX8_part_38 ?_
            refine j_lald (pc := 39) dX8_part_39 H2 (jix_nI (by omega) (by decide)) ?_
            refine j_goto (pc := 40) (tgt := 46) dX8_part_40 (by decide) ?_
            exact j_lret (pc := 46) dX8_part_46 rfl (Nat.le_of_ble_eq_true rfl) (Nat.le_of_ble_eq_true rfl) (K6 c4 c5 t rfl ht c9 c13 c14 w rfl hw)

set_option maxRecDepth 20000 in
theorem s_X8_share {l : Launch} {G : jG} {h : jH} {Q : Option Value → jH → Prop} {at_ cl es fr op p0 sz t0 w0 wd : Int32} {T P : Nat} {se : Nat → Int32} {ss : Nat → Int64} (H0 : h.2 27 = some (mO sz at_ fr wd (nI P) (nI T) es op cl)) (H1 : h.2 38 = some (jZ 20 se)) (H2 : h.2 40 = some (jL 960 ss)) (hT : T ≤ 20) (hP : P ≤ 12) (K1 : t0 < 0 → Q (some (.long (-9223372036854775808))) h) (K2 : ¬ (t0 < 0) → (nI T) ≤ t0 → Q (some (.long (-9223372036854775808))) h) (K3 : ¬ (t0 < 0) → ¬ ((nI T) ≤ t0) → ∀ t : Nat, t0 = nI t → t < T → (se t) = 0 → Q (some (.long (-9223372036854775808))) h) (K4 : ¬ (t0 < 0) → ¬ ((nI T) ≤ t0) → ∀ t : Nat, t0 = nI t → t < T → ¬ (se t) = 0 → p0 < 0 → Q (some (.long (-9223372036854775808))) h) (K5 : ¬ (t0 < 0) → ¬ ((nI T) ≤ t0) → ∀ t : Nat, t0 = nI t → t < T → ¬ (se t) = 0 → ¬ (p0 < 0) → (nI P) ≤ p0 → Q (some (.long (-9223372036854775808))) h) (K6 : ¬ (t0 < 0) → ¬ ((nI T) ≤ t0) → ∀ t : Nat, t0 = nI t → t < T → ¬ (se t) = 0 → ¬ (p0 < 0) → ¬ ((nI P) ≤ p0) → ∀ p : Nat, p0 = nI p → p < P → w0.toInt64 < 0 → Q (some (.long (-9223372036854775808))) h) (K7 : ¬ (t0 < 0) → ¬ ((nI T) ≤ t0) → ∀ t : Nat, t0 = nI t → t < T → ¬ (se t) = 0 → ¬ (p0 < 0) → ¬ ((nI P) ≤ p0) → ∀ p : Nat, p0 = nI p → p < P → ¬ (w0.toInt64 < 0) → 3 < w0.toInt64 → Q (some (.long (-9223372036854775808))) h) (K8 : ¬ (t0 < 0) → ¬ ((nI T) ≤ t0) → ∀ t : Nat, t0 = nI t → t < T → ¬ (se t) = 0 → ¬ (p0 < 0) → ¬ ((nI P) ≤ p0) → ∀ p : Nat, p0 = nI p → p < P → ¬ (w0.toInt64 < 0) → ¬ (3 < w0.toInt64) → ∀ w : Nat, w0 = nI w → w < 3 + 1 → Q (some (.long (ss (((48 * t) + (4 * p)) + w)))) h) : J l G mX8_share 0 0 0 (lv_args 0 [.ref 27, .int t0, .int p0, .int w0]) [] h Q := by
  refine j_aload_n (pc := 0) dX8_share_0 rfl ?_
  refine j_iload_n (pc := 1) dX8_share_1 rfl ?_
  refine j_V1 (rm' := rmX8_isTrip) (pc := 2) dX8_share_2 jlX8_141 H0 rfl ⟨Nat.le_of_ble_eq_true rfl, Nat.le_of_ble_eq_true rfl, Nat.le_of_ble_eq_true rfl, Nat.le_of_ble_eq_true rfl, Nat.le_of_ble_eq_true rfl, Nat.le_of_ble_eq_true rfl⟩ ?_
  refine s_X8_isTrip H0 (fun c1 => ?_) (fun c2 c3 => ?_) (fun c4 c5 => ?_)
  · show J l G mX8_share _ _ 5 _ [.int 0] h Q
    refine j_if_eq (pc := 5) (tgt := 55) dX8_share_5 (by decide) (fun c6 => ?_) (fun c6 => ?_)
    · refine j_ldc2 (pc := 55) dX8_share_55 jnX8_158 ?_
      exact j_lret (pc := 58) dX8_share_58 rfl (Nat.le_of_ble_eq_true rfl) (Nat.le_of_ble_eq_true rfl) (K1 c1)
    · exact absurd c6 (by decide)
  · show J l G mX8_share _ _ 5 _ [.int 0] h Q
    refine j_if_eq (pc := 5) (tgt := 55) dX8_share_5 (by decide) (fun c7 => ?_) (fun c7 => ?_)
    · refine j_ldc2 (pc := 55) dX8_share_55 jnX8_158 ?_
      exact j_lret (pc := 58) dX8_share_58 rfl (Nat.le_of_ble_eq_true rfl) (Nat.le_of_ble_eq_true rfl) (K2 c2 c3)
    · exact absurd c7 (by decide)
  · show J l G mX8_share _ _ 5 _ [.int 1] h Q
    refine j_if_eq (pc := 5) (tgt := 55) dX8_share_5 (by decide) (fun c8 => ?_) (fun c8 => ?_)
    · exact absurd c8 (by decide)
    · obtain ⟨t, ht, rfl⟩ : ∃ t : Nat, t < T ∧ t0 = nI t := jn_ge c4 c5 (jn_P (by omega))
      refine j_aload_n (pc := 8) dX8_share_8 rfl ?_
      refine j_getf (pc := 9) dX8_share_9 jfX8_41 H0 rfl ?_
      refine j_iload_n (pc := 12) dX8_share_12 rfl ?_
      refine j_zald (pc := 13) dX8_share_13 H1 (jix_nI (by omega) (by decide)) ?_
      refine j_if_eq (pc := 14) (tgt := 55) dX8_share_14 (by decide) (fun c9 => ?_) (fun c9 => ?_)
      · refine j_ldc2 (pc := 55) dX8_share_55 jnX8_158 ?_
        exact j_lret (pc := 58) dX8_share_58 rfl (Nat.le_of_ble_eq_true rfl) (Nat.le_of_ble_eq_true rfl) (K3 c4 c5 t rfl ht c9)
      · refine j_aload_n (pc := 17) dX8_share_17 rfl ?_
        refine j_iload_n (pc := 18) dX8_share_18 rfl ?_
        refine j_V1 (rm' := rmX8_isPerson) (pc := 19) dX8_share_19 jlX8_131 H0 rfl ⟨Nat.le_of_ble_eq_true rfl, Nat.le_of_ble_eq_true rfl, Nat.le_of_ble_eq_true rfl, Nat.le_of_ble_eq_true rfl, Nat.le_of_ble_eq_true rfl, Nat.le_of_ble_eq_true rfl⟩ ?_
        refine s_X8_isPerson H0 (fun c10 => ?_) (fun c11 c12 => ?_) (fun c13 c14 => ?_)
        · show J l G mX8_share _ _ 22 _ [.int 0] h Q
          refine j_if_eq (pc := 22) (tgt := 55) dX8_share_22 (by decide) (fun c15 => ?_) (fun c15 => ?_)
          · refine j_ldc2 (pc := 55) dX8_share_55 jnX8_158 ?_
            exact j_lret (pc := 58) dX8_share_58 rfl (Nat.le_of_ble_eq_true rfl) (Nat.le_of_ble_eq_true rfl) (K4 c4 c5 t rfl ht c9 c10)
          · exact absurd c15 (by decide)
        · show J l G mX8_share _ _ 22 _ [.int 0] h Q
          refine j_if_eq (pc := 22) (tgt := 55) dX8_share_22 (by decide) (fun c16 => ?_) (fun c16 => ?_)
          · refine j_ldc2 (pc := 55) dX8_share_55 jnX8_158 ?_
            exact j_lret (pc := 58) dX8_share_58 rfl (Nat.le_of_ble_eq_true rfl) (Nat.le_of_ble_eq_true rfl) (K5 c4 c5 t rfl ht c9 c11 c12)
          · exact absurd c16 (by decide)
        · show J l G mX8_share _ _ 22 _ [.int 1] h Q
          refine j_if_eq (pc := 22) (tgt := 55) dX8_share_22 (by decide) (fun c17 => ?_) (fun c17 => ?_)
          · exact absurd c17 (by decide)
          · obtain ⟨p, hp, rfl⟩ : ∃ p : Nat, p < P ∧ p0 = nI p := jn_ge c13 c14 (jn_P (by omega))
            refine j_iload_n (pc := 25) dX8_share_25 rfl ?_
            refine j_i2l (pc := 26) dX8_share_26 ?_
            refine j_lconst (pc := 27) (v := 0) dX8_share_27 (by decide) ?_
            refine j_ldc2 (pc := 28) dX8_share_28 jnX8_137 ?_
            refine j_S3 (rm' := rmX8_within) (pc := 31) dX8_share_31 jlX8_80 ⟨Nat.le_of_ble_eq_true rfl, Nat.le_of_ble_eq_true rfl, Nat.le_of_ble_eq_true rfl, Nat.le_of_ble_eq_true rfl, Nat.le_of_ble_eq_true rfl, Nat.le_of_ble_eq_true rfl⟩ ?_
            refine s_X8_within  (fun c18 => ?_) (fun c19 c20 => ?_) (fun c21 c22 => ?_)
            · show J l G mX8_share _ _ 34 _ [.int 0] h Q
              refine j_if_eq (pc := 34) (tgt := 55) dX8_share_34 (by decide) (fun c23 => ?_) (fun c23 => ?_)
              · refine j_ldc2 (pc := 55) dX8_share_55 jnX8_158 ?_
                exact j_lret (pc := 58) dX8_share_58 rfl (Nat.le_of_ble_eq_true rfl) (Nat.le_of_ble_eq_true rfl) (K6 c4 c5 t rfl ht c9 c13 c14 p rfl hp c18)
              · exact absurd c23 (by decide)
            · show J l G mX8_share _ _ 34 _ [.int 0] h Q
              refine j_if_eq (pc := 34) (tgt := 55) dX8_share_34 (by decide) (fun c24 => ?_) (fun c24 => ?_)
              · refine j_ldc2 (pc := 55) dX8_share_55 jnX8_158 ?_
                exact j_lret (pc := 58) dX8_share_58 rfl (Nat.le_of_ble_eq_true rfl) (Nat.le_of_ble_eq_true rfl) (K7 c4 c5 t rfl ht c9 c13 c14 p rfl hp c19 c20)
              · exact absurd c24 (by decide)
            · show J l G mX8_share _ _ 34 _ [.int 1] h Q
              refine j_if_eq (pc := 34) (tgt := 55) dX8_share_34 (by decide) (fun c25 => ?_) (fun c25 => ?_)
              · exact absurd c25 (by decide)
              · obtain ⟨w, hw, rfl⟩ : ∃ w : Nat, w < 3 + 1 ∧ w0 = nI w := jn_w (N := 3) c21 c22 (by decide)
                refine j_aload_n (pc := 37) dX8_share_37 rfl ?_
                refine j_getf (pc := 38) dX8_share_38 jfX8_48 H0 rfl ?_
                refine j_bipush (pc := 41) (v := 48) dX8_share_41 (by decide) ?_
                refine j_iload_n (pc := 43) dX8_share_43 rfl ?_
                refine j_imulN (a := 48) (b := t) (pc := 44) dX8_share_44 ?_
                refine j_iconst (pc := 45) (v := 4) dX8_share_45 (by decide) ?_
                refine j_iload_n (pc := 46) dX8_share_46 rfl ?_
                refine j_imulN (a := 4) (b := p) (pc := 47) dX8_share_47 ?_
                refine j_iaddN (a := 48 * t) (b := 4 * p) (pc := 48) dX8_share_48 ?_
                refine j_iload_n (pc := 49) dX8_share_49 rfl ?_
                refine j_iaddN (a := (48 * t) + (4 * p)) (b := w) (pc := 50) dX8_share_50 ?_
                refine j_lald (pc := 51) dX8_share_51 H2 (jix_nI (by omega) (by decide)) ?_
                refine j_goto (pc := 52) (tgt := 58) dX8_share_52 (by decide) ?_
                exact j_lret (pc := 58) dX8_share_58 rfl (Nat.le_of_ble_eq_true rfl) (Nat.le_of_ble_eq_true rfl) (K8 c4 c5 t rfl ht c9 c13 c14 p rfl hp c21 c22 w rfl hw)

set_option maxRecDepth 20000 in
theorem s_X8_carried {l : Launch} {G : jG} {h : jH} {Q : Option Value → jH → Prop} {at_ cl es fr op sz ts w0 wd : Int32} {P : Nat} {lo : Nat → Int64} {ad : Nat → Int64} (H0 : h.2 27 = some (mO sz at_ fr wd (nI P) ts es op cl)) (H1 : h.2 31 = some (jL 4 lo)) (H2 : h.2 33 = some (jL 12 ad)) (hP : P ≤ 12) (K1 : w0.toInt64 < 0 → (w0 - 100) < 0 → Q (some (.long (-1))) h) (K2 : w0.toInt64 < 0 → ¬ ((w0 - 100) < 0) → (nI P) ≤ (w0 - 100) → Q (some (.long (-1))) h) (K3 : w0.toInt64 < 0 → ¬ ((w0 - 100) < 0) → ¬ ((nI P) ≤ (w0 - 100)) → Q (some (.long (ad ((w0 - 100).toNatClampNeg)))) h) (K4 : ¬ (w0.toInt64 < 0) → 3 < w0.toInt64 → (w0 - 100) < 0 → Q (some (.long (-1))) h) (K5 : ¬ (w0.toInt64 < 0) → 3 < w0.toInt64 → ¬ ((w0 - 100) < 0) → (nI P) ≤ (w0 - 100) → Q (some (.long (-1))) h) (K6 : ¬ (w0.toInt64 < 0) → 3 < w0.toInt64 → ¬ ((w0 - 100) < 0) → ¬ ((nI P) ≤ (w0 - 100)) → Q (some (.long (ad ((w0 - 100).toNatClampNeg)))) h) (K7 : ¬ (w0.toInt64 < 0) → ¬ (3 < w0.toInt64) → ∀ w : Nat, w0 = nI w → w < 3 + 1 → Q (some (.long (lo w))) h) : J l G mX8_carried 0 0 0 (lv_args 0 [.ref 27, .int w0]) [] h Q := by
  refine j_iload_n (pc := 0) dX8_carried_0 rfl ?_
  refine j_i2l (pc := 1) dX8_carried_1 ?_
  refine j_lconst (pc := 2) (v := 0) dX8_carried_2 (by decide) ?_
  refine j_ldc2 (pc := 3) dX8_carried_3 jnX8_137 ?_
  refine j_S3 (rm' := rmX8_within) (pc := 6) dX8_carried_6 jlX8_80 ⟨Nat.le_of_ble_eq_true rfl, Nat.le_of_ble_eq_true rfl, Nat.le_of_ble_eq_true rfl, Nat.le_of_ble_eq_true rfl, Nat.le_of_ble_eq_true rfl, Nat.le_of_ble_eq_true rfl⟩ ?_
  refine s_X8_within  (fun c1 => ?_) (fun c2 c3 => ?_) (fun c4 c5 => ?_)
  · show J l G mX8_carried _ _ 9 _ [.int 0] h Q
    refine j_if_eq (pc := 9) (tgt := 21) dX8_carried_9 (by decide) (fun c6 => ?_) (fun c6 => ?_)
    · refine j_aload_n (pc := 21) dX8_carried_21 rfl ?_
      refine j_iload_n (pc := 22) dX8_carried_22 rfl ?_
      refine j_bipush (pc := 23) (v := 100) dX8_carried_23 (by decide) ?_
      refine j_isub (pc := 25) dX8_carried_25 ?_
      refine j_V1 (rm' := rmX8_isPerson) (pc := 26) dX8_carried_26 jlX8_131 H0 rfl ⟨Nat.le_of_ble_eq_true rfl, Nat.le_of_ble_eq_true rfl, Nat.le_of_ble_eq_true rfl, Nat.le_of_ble_eq_true rfl, Nat.le_of_ble_eq_true rfl, Nat.le_of_ble_eq_true rfl⟩ ?_
      refine s_X8_isPerson H0 (fun c7 => ?_) (fun c8 c9 => ?_) (fun c10 c11 => ?_)
      · show J l G mX8_carried _ _ 29 _ [.int 0] h Q
        refine j_if_eq (pc := 29) (tgt := 44) dX8_carried_29 (by decide) (fun c12 => ?_) (fun c12 => ?_)
        · refine j_ldc2 (pc := 44) dX8_carried_44 jnX8_146 ?_
          exact j_lret (pc := 47) dX8_carried_47 rfl (Nat.le_of_ble_eq_true rfl) (Nat.le_of_ble_eq_true rfl) (K1 c1 c7)
        · exact absurd c12 (by decide)
      · show J l G mX8_carried _ _ 29 _ [.int 0] h Q
        refine j_if_eq (pc := 29) (tgt := 44) dX8_carried_29 (by decide) (fun c13 => ?_) (fun c13 => ?_)
        · refine j_ldc2 (pc := 44) dX8_carried_44 jnX8_146 ?_
          exact j_lret (pc := 47) dX8_carried_47 rfl (Nat.le_of_ble_eq_true rfl) (Nat.le_of_ble_eq_true rfl) (K2 c1 c8 c9)
        · exact absurd c13 (by decide)
      · show J l G mX8_carried _ _ 29 _ [.int 1] h Q
        refine j_if_eq (pc := 29) (tgt := 44) dX8_carried_29 (by decide) (fun c14 => ?_) (fun c14 => ?_)
        · exact absurd c14 (by decide)
        · refine j_aload_n (pc := 32) dX8_carried_32 rfl ?_
          refine j_getf (pc := 33) dX8_carried_33 jfX8_26 H0 rfl ?_
          refine j_iload_n (pc := 36) dX8_carried_36 rfl ?_
          refine j_bipush (pc := 37) (v := 100) dX8_carried_37 (by decide) ?_
          refine j_isub (pc := 39) dX8_carried_39 ?_
          refine j_lald (pc := 40) dX8_carried_40 H2 (jix_P c10 c11 hP) ?_
          refine j_goto (pc := 41) (tgt := 47) dX8_carried_41 (by decide) ?_
          exact j_lret (pc := 47) dX8_carried_47 rfl (Nat.le_of_ble_eq_true rfl) (Nat.le_of_ble_eq_true rfl) (K3 c1 c10 c11)
    · exact absurd c6 (by decide)
  · show J l G mX8_carried _ _ 9 _ [.int 0] h Q
    refine j_if_eq (pc := 9) (tgt := 21) dX8_carried_9 (by decide) (fun c15 => ?_) (fun c15 => ?_)
    · refine j_aload_n (pc := 21) dX8_carried_21 rfl ?_
      refine j_iload_n (pc := 22) dX8_carried_22 rfl ?_
      refine j_bipush (pc := 23) (v := 100) dX8_carried_23 (by decide) ?_
      refine j_isub (pc := 25) dX8_carried_25 ?_
      refine j_V1 (rm' := rmX8_isPerson) (pc := 26) dX8_carried_26 jlX8_131 H0 rfl ⟨Nat.le_of_ble_eq_true rfl, Nat.le_of_ble_eq_true rfl, Nat.le_of_ble_eq_true rfl, Nat.le_of_ble_eq_true rfl, Nat.le_of_ble_eq_true rfl, Nat.le_of_ble_eq_true rfl⟩ ?_
      refine s_X8_isPerson H0 (fun c16 => ?_) (fun c17 c18 => ?_) (fun c19 c20 => ?_)
      · show J l G mX8_carried _ _ 29 _ [.int 0] h Q
        refine j_if_eq (pc := 29) (tgt := 44) dX8_carried_29 (by decide) (fun c21 => ?_) (fun c21 => ?_)
        · refine j_ldc2 (pc := 44) dX8_carried_44 jnX8_146 ?_
          exact j_lret (pc := 47) dX8_carried_47 rfl (Nat.le_of_ble_eq_true rfl) (Nat.le_of_ble_eq_true rfl) (K4 c2 c3 c16)
        · exact absurd c21 (by decide)
      · show J l G mX8_carried _ _ 29 _ [.int 0] h Q
        refine j_if_eq (pc := 29) (tgt := 44) dX8_carried_29 (by decide) (fun c22 => ?_) (fun c22 => ?_)
        · refine j_ldc2 (pc := 44) dX8_carried_44 jnX8_146 ?_
          exact j_lret (pc := 47) dX8_carried_47 rfl (Nat.le_of_ble_eq_true rfl) (Nat.le_of_ble_eq_true rfl) (K5 c2 c3 c17 c18)
        · exact absurd c22 (by decide)
      · show J l G mX8_carried _ _ 29 _ [.int 1] h Q
        refine j_if_eq (pc := 29) (tgt := 44) dX8_carried_29 (by decide) (fun c23 => ?_) (fun c23 => ?_)
        · exact absurd c23 (by decide)
        · refine j_aload_n (pc := 32) dX8_carried_32 rfl ?_
          refine j_getf (pc := 33) dX8_carried_33 jfX8_26 H0 rfl ?_
          refine j_iload_n (pc := 36) dX8_carried_36 rfl ?_
          refine j_bipush (pc := 37) (v := 100) dX8_carried_37 (by decide) ?_
          refine j_isub (pc := 39) dX8_carried_39 ?_
          refine j_lald (pc := 40) dX8_carried_40 H2 (jix_P c19 c20 hP) ?_
          refine j_goto (pc := 41) (tgt := 47) dX8_carried_41 (by decide) ?_
          exact j_lret (pc := 47) dX8_carried_47 rfl (Nat.le_of_ble_eq_true rfl) (Nat.le_of_ble_eq_true rfl) (K6 c2 c3 c19 c20)
    · exact absurd c15 (by decide)
  · show J l G mX8_carried _ _ 9 _ [.int 1] h Q
    refine j_if_eq (pc := 9) (tgt := 21) dX8_carried_9 (by decide) (fun c24 => ?_) (fun c24 => ?_)
    · exact absurd c24 (by decide)
    · obtain ⟨w, hw, rfl⟩ : ∃ w : Nat, w < 3 + 1 ∧ w0 = nI w := jn_w (N := 3) c4 c5 (by decide)
      refine j_aload_n (pc := 12) dX8_carried_12 rfl ?_
      refine j_getf (pc := 13) dX8_carried_13 jfX8_19 H0 rfl ?_
      refine j_iload_n (pc := 16) dX8_carried_16 rfl ?_
      refine j_lald (pc := 17) dX8_carried_17 H1 (jix_nI (by omega) (by decide)) ?_
      refine j_goto (pc := 18) (tgt := 47) dX8_carried_18 (by decide) ?_
      exact j_lret (pc := 47) dX8_carried_47 rfl (Nat.le_of_ble_eq_true rfl) (Nat.le_of_ble_eq_true rfl) (K7 c4 c5 w rfl hw)

set_option maxRecDepth 20000 in
theorem s_X8_open {l : Launch} {G : jG} {h : jH} {Q : Option Value → jH → Prop} {at_ cl d0 fr op ps sz ts wd : Int32} {E : Nat} {ey : Nat → Int32} {er : Nat → Int32} (H0 : h.2 27 = some (mO sz at_ fr wd ps ts (nI E) op cl)) (H1 : h.2 44 = some (jI 61 ey)) (H2 : h.2 45 = some (jI 61 er)) (hE : E ≤ 60) (K1 : ¬ op = 0 → Q (some (.int 0)) h) (K2 : op = 0 → d0.toInt64 < 0 → Q (some (.int 0)) h) (K3 : op = 0 → ¬ (d0.toInt64 < 0) → 3599 < d0.toInt64 → Q (some (.int 0)) h) (K4 : op = 0 → ¬ (d0.toInt64 < 0) → ¬ (3599 < d0.toInt64) → (d0 / 30) < cl → Q (some (.int 0)) h) (K5 : op = 0 → ¬ (d0.toInt64 < 0) → ¬ (3599 < d0.toInt64) → ¬ ((d0 / 30) < cl) → ¬ E = 60 → Q (some (.int 1)) (j_set (j_set (j_set h 27 (mO sz at_ fr wd ps ts (nI E) 1 cl)) 44 (jI 61 (va_up ey 0 d0))) 45 (jI 61 (va_up er 0 0)))) (K6 : op = 0 → ¬ (d0.toInt64 < 0) → ¬ (3599 < d0.toInt64) → ¬ ((d0 / 30) < cl) → E = 60 → Q (some (.int 0)) h) : J l G mX8_open 0 0 0 (lv_args 0 [.ref 27, .int d0]) [] h Q := by
  refine j_aload_n (pc := 0) dX8_open_0 rfl ?_
  refine j_getf (pc := 1) dX8_open_1 jfX8_160 H0 rfl ?_
  refine j_if_ne (pc := 4) (tgt := 39) dX8_open_4 (by decide) (fun c1 => ?_) (fun c1 => ?_)
  · refine j_iconst (pc := 39) (v := 0) dX8_open_39 (by decide) ?_
    exact j_iret (pc := 40) dX8_open_40 rfl rfl (Nat.le_of_ble_eq_true rfl) (Nat.le_of_ble_eq_true rfl) (K1 c1)
  · refine j_iload_n (pc := 7) dX8_open_7 rfl ?_
    refine j_i2l (pc := 8) dX8_open_8 ?_
    refine j_lconst (pc := 9) (v := 0) dX8_open_9 (by decide) ?_
    refine j_ldc2 (pc := 10) dX8_open_10 jnX8_164 ?_
    refine j_S3 (rm' := rmX8_within) (pc := 13) dX8_open_13 jlX8_80 ⟨Nat.le_of_ble_eq_true rfl, Nat.le_of_ble_eq_true rfl, Nat.le_of_ble_eq_true rfl, Nat.le_of_ble_eq_true rfl, Nat.le_of_ble_eq_true rfl, Nat.le_of_ble_eq_true rfl⟩ ?_
    refine s_X8_within  (fun c2 => ?_) (fun c3 c4 => ?_) (fun c5 c6 => ?_)
    · show J l G mX8_open _ _ 16 _ [.int 0] h Q
      refine j_if_eq (pc := 16) (tgt := 39) dX8_open_16 (by decide) (fun c7 => ?_) (fun c7 => ?_)
      · refine j_iconst (pc := 39) (v := 0) dX8_open_39 (by decide) ?_
        exact j_iret (pc := 40) dX8_open_40 rfl rfl (Nat.le_of_ble_eq_true rfl) (Nat.le_of_ble_eq_true rfl) (K2 c1 c2)
      · exact absurd c7 (by decide)
    · show J l G mX8_open _ _ 16 _ [.int 0] h Q
      refine j_if_eq (pc := 16) (tgt := 39) dX8_open_16 (by decide) (fun c8 => ?_) (fun c8 => ?_)
      · refine j_iconst (pc := 39) (v := 0) dX8_open_39 (by decide) ?_
        exact j_iret (pc := 40) dX8_open_40 rfl rfl (Nat.le_of_ble_eq_true rfl) (Nat.le_of_ble_eq_true rfl) (K3 c1 c3 c4)
      · exact absurd c8 (by decide)
    · show J l G mX8_open _ _ 16 _ [.int 1] h Q
      refine j_if_eq (pc := 16) (tgt := 39) dX8_open_16 (by decide) (fun c9 => ?_) (fun c9 => ?_)
      · exact absurd c9 (by decide)
      · refine j_iload_n (pc := 19) dX8_open_19 rfl ?_
        refine j_bipush (pc := 20) (v := 30) dX8_open_20 (by decide) ?_
        refine j_idiv (pc := 22) dX8_open_22 (by decide) ?_
        refine j_aload_n (pc := 23) dX8_open_23 rfl ?_
        refine j_getf (pc := 24) dX8_open_24 jfX8_166 H0 rfl ?_
        refine j_icmp_lt (pc := 27) (tgt := 39) dX8_open_27 (by decide) (fun c10 => ?_) (fun c10 => ?_)
        · refine j_iconst (pc := 39) (v := 0) dX8_open_39 (by decide) ?_
          exact j_iret (pc := 40) dX8_open_40 rfl rfl (Nat.le_of_ble_eq_true rfl) (Nat.le_of_ble_eq_true rfl) (K4 c1 c5 c6 c10)
        · refine j_aload_n (pc := 30) dX8_open_30 rfl ?_
          refine j_getf (pc := 31) dX8_open_31 jfX8_169 H0 rfl ?_
          refine j_bipush (pc := 34) (v := 60) dX8_open_34 (by decide) ?_
          refine j_icmp_neN (a := E) (b := 60) (pc := 36) (tgt := 41) dX8_open_36 (by decide) (by omega) (by omega) (fun c11 => ?_) (fun c11 => ?_)
          · refine j_aload_n (pc := 41) dX8_open_41 rfl ?_
            refine j_iconst (pc := 42) (v := 1) dX8_open_42 (by decide) ?_
            refine j_putf (pc := 43) dX8_open_43 jfX8_160 H0 rfl rfl (Nat.le_of_ble_eq_true rfl) ?_
            show J l G mX8_open _ _ 46 _ _ (j_set h 27 (mO sz at_ fr wd ps ts (nI E) 1 cl)) Q
            refine j_aload_n (pc := 46) dX8_open_46 rfl ?_
            refine j_getf (pc := 47) dX8_open_47 jfX8_60 j_hs rfl ?_
            refine j_iconst (pc := 50) (v := 0) dX8_open_50 (by decide) ?_
            refine j_iload_n (pc := 51) dX8_open_51 rfl ?_
            refine j_iast (pc := 52) dX8_open_52 (j_hn (by decide) H1) (jix_nI (q := 0) (by decide) (by decide)) ?_
            refine j_aload_n (pc := 53) dX8_open_53 rfl ?_
            refine j_getf (pc := 54) dX8_open_54 jfX8_63 (j_hn (by decide) j_hs) rfl ?_
            refine j_iconst (pc := 57) (v := 0) dX8_open_57 (by decide) ?_
            refine j_iconst (pc := 58) (v := 0) dX8_open_58 (by decide) ?_
            refine j_iast (pc := 59) dX8_open_59 (j_hn (by decide) (j_hn (by decide) H2)) (jix_nI (q := 0) (by decide) (by decide)) ?_
            refine j_iconst (pc := 60) (v := 1) dX8_open_60 (by decide) ?_
            exact j_iret (pc := 61) dX8_open_61 rfl rfl (Nat.le_of_ble_eq_true rfl) (Nat.le_of_ble_eq_true rfl) (K5 c1 c5 c6 c10 c11)
          · refine j_iconst (pc := 39) (v := 0) dX8_open_39 (by decide) ?_
            exact j_iret (pc := 40) dX8_open_40 rfl rfl (Nat.le_of_ble_eq_true rfl) (Nat.le_of_ble_eq_true rfl) (K6 c1 c5 c6 c10 c11)

set_option maxRecDepth 20000 in
theorem s_X8_row {l : Launch} {G : jG} {h : jH} {Q : Option Value → jH → Prop} {a0 at_ cl es fr op ps sz ts wd : Int32} {R : Nat} {v : Int64} {er : Nat → Int32} {ac : Nat → Int32} {am : Nat → Int64} (H0 : h.2 27 = some (mO sz at_ fr wd ps ts es op cl)) (H1 : h.2 45 = some (jI 61 er)) (H2 : h.2 48 = some (jI 488 ac)) (H3 : h.2 49 = some (jL 488 am)) (hR : er 0 = nI R) (hR8 : R ≤ 8) (K1 : op = 0 → Q (some (.int (-1))) h) (K2 : ¬ op = 0 → a0.toInt64 < 0 → Q (some (.int (-1))) h) (K3 : ¬ op = 0 → ¬ (a0.toInt64 < 0) → 19 < a0.toInt64 → Q (some (.int (-1))) h) (K4 : ¬ op = 0 → ¬ (a0.toInt64 < 0) → ¬ (19 < a0.toInt64) → v = 0 → Q (some (.int (-1))) h) (K5 : ¬ op = 0 → ¬ (a0.toInt64 < 0) → ¬ (19 < a0.toInt64) → ¬ v = 0 → v < (-1000000000000) → Q (some (.int (-1))) h) (K6 : ¬ op = 0 → ¬ (a0.toInt64 < 0) → ¬ (19 < a0.toInt64) → ¬ v = 0 → ¬ (v < (-1000000000000)) → 1000000000000 < v → Q (some (.int (-1))) h) (K7 : ¬ op = 0 → ¬ (a0.toInt64 < 0) → ¬ (19 < a0.toInt64) → ¬ v = 0 → ¬ (v < (-1000000000000)) → ¬ (1000000000000 < v) → ¬ (er 0) = 8 → Q (some (.int ((er 0) + 1))) (j_set (j_set (j_set h 48 (jI 488 (va_up ac R a0))) 49 (jL 488 (va_up am R v))) 45 (jI 61 (va_up er 0 ((er 0) + 1))))) (K8 : ¬ op = 0 → ¬ (a0.toInt64 < 0) → ¬ (19 < a0.toInt64) → ¬ v = 0 → ¬ (v < (-1000000000000)) → ¬ (1000000000000 < v) → (er 0) = 8 → Q (some (.int (-1))) h) : J l G mX8_row 0 0 0 (lv_args 0 [.ref 27, .int a0, .long v]) [] h Q := by
  refine j_aload_n (pc := 0) dX8_row_0 rfl ?_
  refine j_getf (pc := 1) dX8_row_1 jfX8_160 H0 rfl ?_
  refine j_if_eq (pc := 4) (tgt := 49) dX8_row_4 (by decide) (fun c1 => ?_) (fun c1 => ?_)
  · refine j_iconst (pc := 49) (v := -1) dX8_row_49 (by decide) ?_
    exact j_iret (pc := 50) dX8_row_50 rfl rfl (Nat.le_of_ble_eq_true rfl) (Nat.le_of_ble_eq_true rfl) (K1 c1)
  · refine j_iload_n (pc := 7) dX8_row_7 rfl ?_
    refine j_i2l (pc := 8) dX8_row_8 ?_
    refine j_lconst (pc := 9) (v := 0) dX8_row_9 (by decide) ?_
    refine j_ldc2 (pc := 10) dX8_row_10 jnX8_172 ?_
    refine j_S3 (rm' := rmX8_within) (pc := 13) dX8_row_13 jlX8_80 ⟨Nat.le_of_ble_eq_true rfl, Nat.le_of_ble_eq_true rfl, Nat.le_of_ble_eq_true rfl, Nat.le_of_ble_eq_true rfl, Nat.le_of_ble_eq_true rfl, Nat.le_of_ble_eq_true rfl⟩ ?_
    refine s_X8_within  (fun c2 => ?_) (fun c3 c4 => ?_) (fun c5 c6 => ?_)
    · show J l G mX8_row _ _ 16 _ [.int 0] h Q
      refine j_if_eq (pc := 16) (tgt := 49) dX8_row_16 (by decide) (fun c7 => ?_) (fun c7 => ?_)
      · refine j_iconst (pc := 49) (v := -1) dX8_row_49 (by decide) ?_
        exact j_iret (pc := 50) dX8_row_50 rfl rfl (Nat.le_of_ble_eq_true rfl) (Nat.le_of_ble_eq_true rfl) (K2 c1 c2)
      · exact absurd c7 (by decide)
    · show J l G mX8_row _ _ 16 _ [.int 0] h Q
      refine j_if_eq (pc := 16) (tgt := 49) dX8_row_16 (by decide) (fun c8 => ?_) (fun c8 => ?_)
      · refine j_iconst (pc := 49) (v := -1) dX8_row_49 (by decide) ?_
        exact j_iret (pc := 50) dX8_row_50 rfl rfl (Nat.le_of_ble_eq_true rfl) (Nat.le_of_ble_eq_true rfl) (K3 c1 c3 c4)
      · exact absurd c8 (by decide)
    · show J l G mX8_row _ _ 16 _ [.int 1] h Q
      refine j_if_eq (pc := 16) (tgt := 49) dX8_row_16 (by decide) (fun c9 => ?_) (fun c9 => ?_)
      · exact absurd c9 (by decide)
      · refine j_lload_n (pc := 19) dX8_row_19 rfl ?_
        refine j_lconst (pc := 20) (v := 0) dX8_row_20 (by decide) ?_
        refine j_lc_eq (pc := 21) (tgt := 49) dX8_row_21 dX8_row_22 (by decide) (fun c10 => ?_) (fun c10 => ?_)
        · refine j_iconst (pc := 49) (v := -1) dX8_row_49 (by decide) ?_
          exact j_iret (pc := 50) dX8_row_50 rfl rfl (Nat.le_of_ble_eq_true rfl) (Nat.le_of_ble_eq_true rfl) (K4 c1 c5 c6 c10)
        · refine j_lload_n (pc := 25) dX8_row_25 rfl ?_
          refine j_ldc2 (pc := 26) dX8_row_26 jnX8_174 ?_
          refine j_ldc2 (pc := 29) dX8_row_29 jnX8_139 ?_
          refine j_S3 (rm' := rmX8_within) (pc := 32) dX8_row_32 jlX8_80 ⟨Nat.le_of_ble_eq_true rfl, Nat.le_of_ble_eq_true rfl, Nat.le_of_ble_eq_true rfl, Nat.le_of_ble_eq_true rfl, Nat.le_of_ble_eq_true rfl, Nat.le_of_ble_eq_true rfl⟩ ?_
          refine s_X8_within  (fun c11 => ?_) (fun c12 c13 => ?_) (fun c14 c15 => ?_)
          · show J l G mX8_row _ _ 35 _ [.int 0] h Q
            refine j_if_eq (pc := 35) (tgt := 49) dX8_row_35 (by decide) (fun c16 => ?_) (fun c16 => ?_)
            · refine j_iconst (pc := 49) (v := -1) dX8_row_49 (by decide) ?_
              exact j_iret (pc := 50) dX8_row_50 rfl rfl (Nat.le_of_ble_eq_true rfl) (Nat.le_of_ble_eq_true rfl) (K5 c1 c5 c6 c10 c11)
            · exact absurd c16 (by decide)
          · show J l G mX8_row _ _ 35 _ [.int 0] h Q
            refine j_if_eq (pc := 35) (tgt := 49) dX8_row_35 (by decide) (fun c17 => ?_) (fun c17 => ?_)
            · refine j_iconst (pc := 49) (v := -1) dX8_row_49 (by decide) ?_
              exact j_iret (pc := 50) dX8_row_50 rfl rfl (Nat.le_of_ble_eq_true rfl) (Nat.le_of_ble_eq_true rfl) (K6 c1 c5 c6 c10 c12 c13)
            · exact absurd c17 (by decide)
          · show J l G mX8_row _ _ 35 _ [.int 1] h Q
            refine j_if_eq (pc := 35) (tgt := 49) dX8_row_35 (by decide) (fun c18 => ?_) (fun c18 => ?_)
            · exact absurd c18 (by decide)
            · refine j_aload_n (pc := 38) dX8_row_38 rfl ?_
              refine j_getf (pc := 39) dX8_row_39 jfX8_63 H0 rfl ?_
              refine j_iconst (pc := 42) (v := 0) dX8_row_42 (by decide) ?_
              refine j_iald (pc := 43) dX8_row_43 H1 (jix_nI (q := 0) (by decide) (by decide)) ?_
              refine j_bipush (pc := 44) (v := 8) dX8_row_44 (by decide) ?_
              refine j_icmp_ne (pc := 46) (tgt := 51) dX8_row_46 (by decide) (fun c19 => ?_) (fun c19 => ?_)
              · refine j_aload_n (pc := 51) dX8_row_51 rfl ?_
                refine j_getf (pc := 52) dX8_row_52 jfX8_72 H0 rfl ?_
                refine j_aload_n (pc := 55) dX8_row_55 rfl ?_
                refine j_getf (pc := 56) dX8_row_56 jfX8_63 H0 rfl ?_
                refine j_iconst (pc := 59) (v := 0) dX8_row_59 (by decide) ?_
                refine j_iald (pc := 60) dX8_row_60 H1 (jix_nI (q := 0) (by decide) (by decide)) ?_
                refine j_iload_n (pc := 61) dX8_row_61 rfl ?_
                refine j_iast (pc := 62) dX8_row_62 H2 (by rw [hR]; exact jix_nI (by omega) (by decide)) ?_
                refine j_aload_n (pc := 63) dX8_row_63 rfl ?_
                refine j_getf (pc := 64) dX8_row_64 jfX8_75 (j_hn (by decide) H0) rfl ?_
                refine j_aload_n (pc := 67) dX8_row_67 rfl ?_
                refine j_getf (pc := 68) dX8_row_68 jfX8_63 (j_hn (by decide) H0) rfl ?_
                refine j_iconst (pc := 71) (v := 0) dX8_row_71 (by decide) ?_
                refine j_iald (pc := 72) dX8_row_72 (j_hn (by decide) H1) (jix_nI (q := 0) (by decide) (by decide)) ?_
                refine j_lload_n (pc := 73) dX8_row_73 rfl ?_
                refine j_last (pc := 74) dX8_row_74 (j_hn (by decide) H3) (by rw [hR]; exact jix_nI (by omega) (by decide)) ?_
                refine j_aload_n (pc := 75) dX8_row_75 rfl ?_
                refine j_getf (pc := 76) dX8_row_76 jfX8_63 (j_hn (by decide) (j_hn (by decide) H0)) rfl ?_
                refine j_iconst (pc := 79) (v := 0) dX8_row_79 (by decide) ?_
                refine j_dup2 (pc := 80) dX8_row_80 rfl rfl ?_
                refine j_iald (pc := 81) dX8_row_81 (j_hn (by decide) (j_hn (by decide) H1)) (jix_nI (q := 0) (by decide) (by decide)) ?_
                refine j_iconst (pc := 82) (v := 1) dX8_row_82 (by decide) ?_
                refine j_iadd (pc := 83) dX8_row_83 ?_
                refine j_iast (pc := 84) dX8_row_84 (j_hn (by decide) (j_hn (by decide) H1)) (jix_nI (q := 0) (by decide) (by decide)) ?_
                refine j_aload_n (pc := 85) dX8_row_85 rfl ?_
                refine j_getf (pc := 86) dX8_row_86 jfX8_63 (j_hn (by decide) (j_hn (by decide) (j_hn (by decide) H0))) rfl ?_
                refine j_iconst (pc := 89) (v := 0) dX8_row_89 (by decide) ?_
                refine j_ialdS (pc := 90) dX8_row_90 j_hs (jix_nI (q := 0) (by decide) (by decide)) ?_
                exact j_iret (pc := 91) dX8_row_91 rfl rfl (Nat.le_of_ble_eq_true rfl) (Nat.le_of_ble_eq_true rfl) (K7 c1 c5 c6 c10 c14 c15 c19)
              · refine j_iconst (pc := 49) (v := -1) dX8_row_49 (by decide) ?_
                exact j_iret (pc := 50) dX8_row_50 rfl rfl (Nat.le_of_ble_eq_true rfl) (Nat.le_of_ble_eq_true rfl) (K8 c1 c5 c6 c10 c14 c15 c19)

set_option maxRecDepth 20000 in
theorem s_X8_drop {l : Launch} {G : jG} {h : jH} {Q : Option Value → jH → Prop} {at_ cl es fr op ps sz ts wd : Int32} {er : Nat → Int32} (H0 : h.2 27 = some (mO sz at_ fr wd ps ts es op cl)) (H1 : h.2 45 = some (jI 61 er))  (K1 : ¬ op = 0 → Q (some (.int (er 0))) (j_set h 27 (mO sz at_ fr wd ps ts es 0 cl))) (K2 : op = 0 → Q (some (.int (-1))) h) : J l G mX8_drop 0 0 0 (lv_args 0 [.ref 27]) [] h Q := by
  refine j_aload_n (pc := 0) dX8_drop_0 rfl ?_
  refine j_getf (pc := 1) dX8_drop_1 jfX8_160 H0 rfl ?_
  refine j_if_ne (pc := 4) (tgt := 9) dX8_drop_4 (by decide) (fun c1 => ?_) (fun c1 => ?_)
  · refine j_aload_n (pc := 9) dX8_drop_9 rfl ?_
    refine j_iconst (pc := 10) (v := 0) dX8_drop_10 (by decide) ?_
    refine j_putf (pc := 11) dX8_drop_11 jfX8_160 H0 rfl rfl (Nat.le_of_ble_eq_true rfl) ?_
    show J l G mX8_drop _ _ 14 _ _ (j_set h 27 (mO sz at_ fr wd ps ts es 0 cl)) Q
    refine j_aload_n (pc := 14) dX8_drop_14 rfl ?_
    refine j_getf (pc := 15) dX8_drop_15 jfX8_63 j_hs rfl ?_
    refine j_iconst (pc := 18) (v := 0) dX8_drop_18 (by decide) ?_
    refine j_iald (pc := 19) dX8_drop_19 (j_hn (by decide) H1) (jix_nI (q := 0) (by decide) (by decide)) ?_
    exact j_iret (pc := 20) dX8_drop_20 rfl rfl (Nat.le_of_ble_eq_true rfl) (Nat.le_of_ble_eq_true rfl) (K1 c1)
  · refine j_iconst (pc := 7) (v := -1) dX8_drop_7 (by decide) ?_
    exact j_iret (pc := 8) dX8_drop_8 rfl rfl (Nat.le_of_ble_eq_true rfl) (Nat.le_of_ble_eq_true rfl) (K2 c1)

set_option maxRecDepth 20000 in
theorem s_X8_closeMonth {l : Launch} {G : jG} {h : jH} {Q : Option Value → jH → Prop} {at_ cl es fr m0 op ps sz ts wd : Int32} {ey : Nat → Int32} (H0 : h.2 27 = some (mO sz at_ fr wd ps ts es op cl)) (H1 : h.2 44 = some (jI 61 ey))  (K1 : m0.toInt64 < 0 → Q (some (.int (-1))) h) (K2 : ¬ (m0.toInt64 < 0) → 119 < m0.toInt64 → Q (some (.int (-1))) h) (K3 : ¬ (m0.toInt64 < 0) → ¬ (119 < m0.toInt64) → op = 0 → (m0 + 1) ≤ cl → Q (some (.int 0)) (j_set h 27 (mO sz at_ fr wd ps ts es op (cl + 0)))) (K4 : ¬ (m0.toInt64 < 0) → ¬ (119 < m0.toInt64) → op = 0 → ¬ ((m0 + 1) ≤ cl) → Q (some (.int ((m0 + 1) - cl))) (j_set h 27 (mO sz at_ fr wd ps ts es op (cl + ((m0 + 1) - cl))))) (K5 : ¬ (m0.toInt64 < 0) → ¬ (119 < m0.toInt64) → ¬ op = 0 → m0 < ((ey 0) / 30) → (m0 + 1) ≤ cl → Q (some (.int 0)) (j_set h 27 (mO sz at_ fr wd ps ts es op (cl + 0)))) (K6 : ¬ (m0.toInt64 < 0) → ¬ (119 < m0.toInt64) → ¬ op = 0 → m0 < ((ey 0) / 30) → ¬ ((m0 + 1) ≤ cl) → Q (some (.int ((m0 + 1) - cl))) (j_set h 27 (mO sz at_ fr wd ps ts es op (cl + ((m0 + 1) - cl))))) (K7 : ¬ (m0.toInt64 < 0) → ¬ (119 < m0.toInt64) → ¬ op = 0 → ¬ (m0 < ((ey 0) / 30)) → Q (some (.int (-1))) h) : J l G mX8_closeMonth 0 0 0 (lv_args 0 [.ref 27, .int m0]) [] h Q := by
  refine j_iload_n (pc := 0) dX8_closeMonth_0 rfl ?_
  refine j_i2l (pc := 1) dX8_closeMonth_1 ?_
  refine j_lconst (pc := 2) (v := 0) dX8_closeMonth_2 (by decide) ?_
  refine j_ldc2 (pc := 3) dX8_closeMonth_3 jnX8_180 ?_
  refine j_S3 (rm' := rmX8_within) (pc := 6) dX8_closeMonth_6 jlX8_80 ⟨Nat.le_of_ble_eq_true rfl, Nat.le_of_ble_eq_true rfl, Nat.le_of_ble_eq_true rfl, Nat.le_of_ble_eq_true rfl, Nat.le_of_ble_eq_true rfl, Nat.le_of_ble_eq_true rfl⟩ ?_
  refine s_X8_within  (fun c1 => ?_) (fun c2 c3 => ?_) (fun c4 c5 => ?_)
  · show J l G mX8_closeMonth _ _ 9 _ [.int 0] h Q
    refine j_if_eq (pc := 9) (tgt := 32) dX8_closeMonth_9 (by decide) (fun c6 => ?_) (fun c6 => ?_)
    · refine j_iconst (pc := 32) (v := -1) dX8_closeMonth_32 (by decide) ?_
      exact j_iret (pc := 33) dX8_closeMonth_33 rfl rfl (Nat.le_of_ble_eq_true rfl) (Nat.le_of_ble_eq_true rfl) (K1 c1)
    · exact absurd c6 (by decide)
  · show J l G mX8_closeMonth _ _ 9 _ [.int 0] h Q
    refine j_if_eq (pc := 9) (tgt := 32) dX8_closeMonth_9 (by decide) (fun c7 => ?_) (fun c7 => ?_)
    · refine j_iconst (pc := 32) (v := -1) dX8_closeMonth_32 (by decide) ?_
      exact j_iret (pc := 33) dX8_closeMonth_33 rfl rfl (Nat.le_of_ble_eq_true rfl) (Nat.le_of_ble_eq_true rfl) (K2 c2 c3)
    · exact absurd c7 (by decide)
  · show J l G mX8_closeMonth _ _ 9 _ [.int 1] h Q
    refine j_if_eq (pc := 9) (tgt := 32) dX8_closeMonth_9 (by decide) (fun c8 => ?_) (fun c8 => ?_)
    · exact absurd c8 (by decide)
    · refine j_aload_n (pc := 12) dX8_closeMonth_12 rfl ?_
      refine j_getf (pc := 13) dX8_closeMonth_13 jfX8_160 H0 rfl ?_
      refine j_if_eq (pc := 16) (tgt := 34) dX8_closeMonth_16 (by decide) (fun c9 => ?_) (fun c9 => ?_)
      · refine j_iload_n (pc := 34) dX8_closeMonth_34 rfl ?_
        refine j_iconst (pc := 35) (v := 1) dX8_closeMonth_35 (by decide) ?_
        refine j_iadd (pc := 36) dX8_closeMonth_36 ?_
        refine j_aload_n (pc := 37) dX8_closeMonth_37 rfl ?_
        refine j_getf (pc := 38) dX8_closeMonth_38 jfX8_166 H0 rfl ?_
        refine j_icmp_le (pc := 41) (tgt := 55) dX8_closeMonth_41 (by decide) (fun c10 => ?_) (fun c10 => ?_)
        · refine j_iconst (pc := 55) (v := 0) dX8_closeMonth_55 (by decide) ?_
          refine j_istore_n (pc := 56) dX8_closeMonth_56 (by decide) ?_
          refine j_aload_n (pc := 57) dX8_closeMonth_57 rfl ?_
          refine j_dup (pc := 58) dX8_closeMonth_58 rfl ?_
          refine j_getf (pc := 59) dX8_closeMonth_59 jfX8_166 H0 rfl ?_
          refine j_iload_n (pc := 62) dX8_closeMonth_62 rfl ?_
          refine j_iadd (pc := 63) dX8_closeMonth_63 ?_
          refine j_putf (pc := 64) dX8_closeMonth_64 jfX8_166 H0 rfl rfl (Nat.le_of_ble_eq_true rfl) ?_
          show J l G mX8_closeMonth _ _ 67 _ _ (j_set h 27 (mO sz at_ fr wd ps ts es op (cl + 0))) Q
          refine j_iload_n (pc := 67) dX8_closeMonth_67 rfl ?_
          exact j_iret (pc := 68) dX8_closeMonth_68 rfl rfl (Nat.le_of_ble_eq_true rfl) (Nat.le_of_ble_eq_true rfl) (K3 c4 c5 c9 c10)
        · refine j_iload_n (pc := 44) dX8_closeMonth_44 rfl ?_
          refine j_iconst (pc := 45) (v := 1) dX8_closeMonth_45 (by decide) ?_
          refine j_iadd (pc := 46) dX8_closeMonth_46 ?_
          refine j_aload_n (pc := 47) dX8_closeMonth_47 rfl ?_
          refine j_getf (pc := 48) dX8_closeMonth_48 jfX8_166 H0 rfl ?_
          refine j_isub (pc := 51) dX8_closeMonth_51 ?_
          refine j_goto (pc := 52) (tgt := 56) dX8_closeMonth_52 (by decide) ?_
          refine j_istore_n (pc := 56) dX8_closeMonth_56 (by decide) ?_
          refine j_aload_n (pc := 57) dX8_closeMonth_57 rfl ?_
          refine j_dup (pc := 58) dX8_closeMonth_58 rfl ?_
          refine j_getf (pc := 59) dX8_closeMonth_59 jfX8_166 H0 rfl ?_
          refine j_iload_n (pc := 62) dX8_closeMonth_62 rfl ?_
          refine j_iadd (pc := 63) dX8_closeMonth_63 ?_
          refine j_putf (pc := 64) dX8_closeMonth_64 jfX8_166 H0 rfl rfl (Nat.le_of_ble_eq_true rfl) ?_
          show J l G mX8_closeMonth _ _ 67 _ _ (j_set h 27 (mO sz at_ fr wd ps ts es op (cl + ((m0 + 1) - cl)))) Q
          refine j_iload_n (pc := 67) dX8_closeMonth_67 rfl ?_
          exact j_iret (pc := 68) dX8_closeMonth_68 rfl rfl (Nat.le_of_ble_eq_true rfl) (Nat.le_of_ble_eq_true rfl) (K4 c4 c5 c9 c10)
      · refine j_aload_n (pc := 19) dX8_closeMonth_19 rfl ?_
        refine j_getf (pc := 20) dX8_closeMonth_20 jfX8_60 H0 rfl ?_
        refine j_iconst (pc := 23) (v := 0) dX8_closeMonth_23 (by decide) ?_
        refine j_iald (pc := 24) dX8_closeMonth_24 H1 (jix_nI (q := 0) (by decide) (by decide)) ?_
        refine j_bipush (pc := 25) (v := 30) dX8_closeMonth_25 (by decide) ?_
        refine j_idiv (pc := 27) dX8_closeMonth_27 (by decide) ?_
        refine j_iload_n (pc := 28) dX8_closeMonth_28 rfl ?_
        refine j_icmp_gt (pc := 29) (tgt := 34) dX8_closeMonth_29 (by decide) (fun c11 => ?_) (fun c11 => ?_)
        · refine j_iload_n (pc := 34) dX8_closeMonth_34 rfl ?_
          refine j_iconst (pc := 35) (v := 1) dX8_closeMonth_35 (by decide) ?_
          refine j_iadd (pc := 36) dX8_closeMonth_36 ?_
          refine j_aload_n (pc := 37) dX8_closeMonth_37 rfl ?_
          refine j_getf (pc := 38) dX8_closeMonth_38 jfX8_166 H0 rfl ?_
          refine j_icmp_le (pc := 41) (tgt := 55) dX8_closeMonth_41 (by decide) (fun c12 => ?_) (fun c12 => ?_)
          · refine j_iconst (pc := 55) (v := 0) dX8_closeMonth_55 (by decide) ?_
            refine j_istore_n (pc := 56) dX8_closeMonth_56 (by decide) ?_
            refine j_aload_n (pc := 57) dX8_closeMonth_57 rfl ?_
            refine j_dup (pc := 58) dX8_closeMonth_58 rfl ?_
            refine j_getf (pc := 59) dX8_closeMonth_59 jfX8_166 H0 rfl ?_
            refine j_iload_n (pc := 62) dX8_closeMonth_62 rfl ?_
            refine j_iadd (pc := 63) dX8_closeMonth_63 ?_
            refine j_putf (pc := 64) dX8_closeMonth_64 jfX8_166 H0 rfl rfl (Nat.le_of_ble_eq_true rfl) ?_
            show J l G mX8_closeMonth _ _ 67 _ _ (j_set h 27 (mO sz at_ fr wd ps ts es op (cl + 0))) Q
            refine j_iload_n (pc := 67) dX8_closeMonth_67 rfl ?_
            exact j_iret (pc := 68) dX8_closeMonth_68 rfl rfl (Nat.le_of_ble_eq_true rfl) (Nat.le_of_ble_eq_true rfl) (K5 c4 c5 c9 c11 c12)
          · refine j_iload_n (pc := 44) dX8_closeMonth_44 rfl ?_
            refine j_iconst (pc := 45) (v := 1) dX8_closeMonth_45 (by decide) ?_
            refine j_iadd (pc := 46) dX8_closeMonth_46 ?_
            refine j_aload_n (pc := 47) dX8_closeMonth_47 rfl ?_
            refine j_getf (pc := 48) dX8_closeMonth_48 jfX8_166 H0 rfl ?_
            refine j_isub (pc := 51) dX8_closeMonth_51 ?_
            refine j_goto (pc := 52) (tgt := 56) dX8_closeMonth_52 (by decide) ?_
            refine j_istore_n (pc := 56) dX8_closeMonth_56 (by decide) ?_
            refine j_aload_n (pc := 57) dX8_closeMonth_57 rfl ?_
            refine j_dup (pc := 58) dX8_closeMonth_58 rfl ?_
            refine j_getf (pc := 59) dX8_closeMonth_59 jfX8_166 H0 rfl ?_
            refine j_iload_n (pc := 62) dX8_closeMonth_62 rfl ?_
            refine j_iadd (pc := 63) dX8_closeMonth_63 ?_
            refine j_putf (pc := 64) dX8_closeMonth_64 jfX8_166 H0 rfl rfl (Nat.le_of_ble_eq_true rfl) ?_
            show J l G mX8_closeMonth _ _ 67 _ _ (j_set h 27 (mO sz at_ fr wd ps ts es op (cl + ((m0 + 1) - cl)))) Q
            refine j_iload_n (pc := 67) dX8_closeMonth_67 rfl ?_
            exact j_iret (pc := 68) dX8_closeMonth_68 rfl rfl (Nat.le_of_ble_eq_true rfl) (Nat.le_of_ble_eq_true rfl) (K6 c4 c5 c9 c11 c12)
        · refine j_iconst (pc := 32) (v := -1) dX8_closeMonth_32 (by decide) ?_
          exact j_iret (pc := 33) dX8_closeMonth_33 rfl rfl (Nat.le_of_ble_eq_true rfl) (Nat.le_of_ble_eq_true rfl) (K7 c4 c5 c9 c11)
