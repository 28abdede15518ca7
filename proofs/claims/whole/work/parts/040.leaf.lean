set_option maxRecDepth 20000 in
/-- Entry.startOn -/
theorem s_X2_startOn {l : Launch} {G : jG} {h : jH} {Q : Option Value → jH → Prop} {a ea eb : Nat} {sz dy tk tb : Int32} {d0 : Int32} (H0 : h.2 a = some (jO 2 [.ref ea, .ref eb, .int sz, .int dy, .int tk, .int tb]))  (K1 : Q none (j_set h a (jO 2 [.ref ea, .ref eb, .int 0, .int d0, .int tk, .int tb]))) : J l G mX2_startOn 0 0 0 (lv_args 0 [.ref a, .int d0]) [] h Q := by
  refine j_aload_n (pc := 0) dX2_startOn_0 rfl ?_
  refine j_iload_n (pc := 1) dX2_startOn_1 rfl ?_
  refine j_putf (pc := 2) dX2_startOn_2 jfX2_19 H0 rfl rfl (Nat.le_of_ble_eq_true rfl) ?_
  show J l G mX2_startOn _ _ 5 _ _ (j_set h a (jO 2 [.ref ea, .ref eb, .int sz, .int d0, .int tk, .int tb])) Q
  refine j_aload_n (pc := 5) dX2_startOn_5 rfl ?_
  refine j_iconst (pc := 6) (v := 0) dX2_startOn_6 (by decide) ?_
  refine j_putf (pc := 7) dX2_startOn_7 jfX2_23 j_hs rfl rfl (Nat.le_of_ble_eq_true rfl) ?_
  show J l G mX2_startOn _ _ 10 _ _ (j_set (j_set h a (jO 2 [.ref ea, .ref eb, .int sz, .int d0, .int tk, .int tb])) a (jO 2 [.ref ea, .ref eb, .int 0, .int d0, .int tk, .int tb])) Q
  rw [j_ss0 (a := a)]
  exact j_vret (pc := 10) dX2_startOn_10 rfl (Nat.le_of_ble_eq_true rfl) (Nat.le_of_ble_eq_true rfl) (K1)

set_option maxRecDepth 20000 in
/-- Entry.isFull -/
theorem s_X2_isFull {l : Launch} {G : jG} {h : jH} {Q : Option Value → jH → Prop} {a ea eb : Nat} {sz dy tk tb : Int32} (H0 : h.2 a = some (jO 2 [.ref ea, .ref eb, .int sz, .int dy, .int tk, .int tb]))  (K1 : sz < 8 → Q (some (.int 0)) h) (K2 : ¬ (sz < 8) → Q (some (.int 1)) h) : J l G mX2_isFull 0 0 0 (lv_args 0 [.ref a]) [] h Q := by
  refine j_aload_n (pc := 0) dX2_isFull_0 rfl ?_
  refine j_getf (pc := 1) dX2_isFull_1 jfX2_23 H0 rfl ?_
  refine j_bipush (pc := 4) (v := 8) dX2_isFull_4 (by decide) ?_
  refine j_icmp_lt (pc := 6) (tgt := 13) dX2_isFull_6 (by decide) (fun c1 => ?_) (fun c1 => ?_)
  · refine j_iconst (pc := 13) (v := 0) dX2_isFull_13 (by decide) ?_
    exact j_iret (pc := 14) dX2_isFull_14 rfl rfl (Nat.le_of_ble_eq_true rfl) (Nat.le_of_ble_eq_true rfl) (K1 c1)
  · refine j_iconst (pc := 9) (v := 1) dX2_isFull_9 (by decide) ?_
    refine j_goto (pc := 10) (tgt := 14) dX2_isFull_10 (by decide) ?_
    exact j_iret (pc := 14) dX2_isFull_14 rfl rfl (Nat.le_of_ble_eq_true rfl) (Nat.le_of_ble_eq_true rfl) (K2 c1)

set_option maxRecDepth 20000 in
theorem s_X2_isTakenBack {l : Launch} {G : jG} {h : jH} {Q : Option Value → jH → Prop} {a ea eb : Nat} {sz dy tk tb : Int32} (H0 : h.2 a = some (jO 2 [.ref ea, .ref eb, .int sz, .int dy, .int tk, .int tb]))  (K1 : tb = 0 → Q (some (.int 0)) h) (K2 : ¬ tb = 0 → Q (some (.int 1)) h) : J l G mX2_isTakenBack 0 0 0 (lv_args 0 [.ref a]) [] h Q := by
  refine j_aload_n (pc := 0) dX2_isTakenBack_0 rfl ?_
  refine j_getf (pc := 1) dX2_isTakenBack_1 jfX2_34 H0 rfl ?_
  refine j_if_eq (pc := 4) (tgt := 11) dX2_isTakenBack_4 (by decide) (fun c1 => ?_) (fun c1 => ?_)
  · refine j_iconst (pc := 11) (v := 0) dX2_isTakenBack_11 (by decide) ?_
    exact j_iret (pc := 12) dX2_isTakenBack_12 rfl rfl (Nat.le_of_ble_eq_true rfl) (Nat.le_of_ble_eq_true rfl) (K1 c1)
  · refine j_iconst (pc := 7) (v := 1) dX2_isTakenBack_7 (by decide) ?_
    refine j_goto (pc := 8) (tgt := 12) dX2_isTakenBack_8 (by decide) ?_
    exact j_iret (pc := 12) dX2_isTakenBack_12 rfl rfl (Nat.le_of_ble_eq_true rfl) (Nat.le_of_ble_eq_true rfl) (K2 c1)

set_option maxRecDepth 20000 in
theorem s_X2_takesOneBack {l : Launch} {G : jG} {h : jH} {Q : Option Value → jH → Prop} {a ea eb : Nat} {sz dy tk tb : Int32} (H0 : h.2 a = some (jO 2 [.ref ea, .ref eb, .int sz, .int dy, .int tk, .int tb]))  (K1 : tk = 0 → Q (some (.int 0)) h) (K2 : ¬ tk = 0 → Q (some (.int 1)) h) : J l G mX2_takesOneBack 0 0 0 (lv_args 0 [.ref a]) [] h Q := by
  refine j_aload_n (pc := 0) dX2_takesOneBack_0 rfl ?_
  refine j_getf (pc := 1) dX2_takesOneBack_1 jfX2_37 H0 rfl ?_
  refine j_if_eq (pc := 4) (tgt := 11) dX2_takesOneBack_4 (by decide) (fun c1 => ?_) (fun c1 => ?_)
  · refine j_iconst (pc := 11) (v := 0) dX2_takesOneBack_11 (by decide) ?_
    exact j_iret (pc := 12) dX2_takesOneBack_12 rfl rfl (Nat.le_of_ble_eq_true rfl) (Nat.le_of_ble_eq_true rfl) (K1 c1)
  · refine j_iconst (pc := 7) (v := 1) dX2_takesOneBack_7 (by decide) ?_
    refine j_goto (pc := 8) (tgt := 12) dX2_takesOneBack_8 (by decide) ?_
    exact j_iret (pc := 12) dX2_takesOneBack_12 rfl rfl (Nat.le_of_ble_eq_true rfl) (Nat.le_of_ble_eq_true rfl) (K2 c1)

set_option maxRecDepth 20000 in
theorem s_X1_has {l : Launch} {G : jG} {h : jH} {Q : Option Value → jH → Prop} {a ra aa : Nat} {sz p0 : Int32} (H0 : h.2 a = some (jO 1 [.ref ra, .ref aa, .int sz]))  (K1 : p0 < 0 → Q (some (.int 0)) h) (K2 : ¬ (p0 < 0) → sz ≤ p0 → Q (some (.int 0)) h) (K3 : ¬ (p0 < 0) → ¬ (sz ≤ p0) → Q (some (.int 1)) h) : J l G mX1_has 0 0 0 (lv_args 0 [.ref a, .int p0]) [] h Q := by
  refine j_iload_n (pc := 0) dX1_has_0 rfl ?_
  refine j_if_lt (pc := 1) (tgt := 16) dX1_has_1 (by decide) (fun c1 => ?_) (fun c1 => ?_)
  · refine j_iconst (pc := 16) (v := 0) dX1_has_16 (by decide) ?_
    exact j_iret (pc := 17) dX1_has_17 rfl rfl (Nat.le_of_ble_eq_true rfl) (Nat.le_of_ble_eq_true rfl) (K1 c1)
  · refine j_iload_n (pc := 4) dX1_has_4 rfl ?_
    refine j_aload_n (pc := 5) dX1_has_5 rfl ?_
    refine j_getf (pc := 6) dX1_has_6 jfX1_19 H0 rfl ?_
    refine j_icmp_ge (pc := 9) (tgt := 16) dX1_has_9 (by decide) (fun c2 => ?_) (fun c2 => ?_)
    · refine j_iconst (pc := 16) (v := 0) dX1_has_16 (by decide) ?_
      exact j_iret (pc := 17) dX1_has_17 rfl rfl (Nat.le_of_ble_eq_true rfl) (Nat.le_of_ble_eq_true rfl) (K2 c1 c2)
    · refine j_iconst (pc := 12) (v := 1) dX1_has_12 (by decide) ?_
      refine j_goto (pc := 13) (tgt := 17) dX1_has_13 (by decide) ?_
      exact j_iret (pc := 17) dX1_has_17 rfl rfl (Nat.le_of_ble_eq_true rfl) (Nat.le_of_ble_eq_true rfl) (K3 c1 c2)

set_option maxRecDepth 20000 in
theorem s_X0_monthOf {l : Launch} {G : jG} {h : jH} {Q : Option Value → jH → Prop} {d0 : Int32}   (K1 : Q (some (.int (d0 / 30))) h) : J l G mX0_monthOf 0 0 0 (lv_args 0 [.int d0]) [] h Q := by
  refine j_iload_n (pc := 0) dX0_monthOf_0 rfl ?_
  refine j_bipush (pc := 1) (v := 30) dX0_monthOf_1 (by decide) ?_
  refine j_idiv (pc := 3) dX0_monthOf_3 (by decide) ?_
  exact j_iret (pc := 4) dX0_monthOf_4 rfl rfl (Nat.le_of_ble_eq_true rfl) (Nat.le_of_ble_eq_true rfl) (K1)

set_option maxRecDepth 20000 in
theorem s_X0_isMonth {l : Launch} {G : jG} {h : jH} {Q : Option Value → jH → Prop} {d0 : Int32}   (K1 : d0 < 0 → Q (some (.int 0)) h) (K2 : ¬ (d0 < 0) → 120 ≤ d0 → Q (some (.int 0)) h) (K3 : ¬ (d0 < 0) → ¬ (120 ≤ d0) → Q (some (.int 1)) h) : J l G mX0_isMonth 0 0 0 (lv_args 0 [.int d0]) [] h Q := by
  refine j_iload_n (pc := 0) dX0_isMonth_0 rfl ?_
  refine j_if_lt (pc := 1) (tgt := 14) dX0_isMonth_1 (by decide) (fun c1 => ?_) (fun c1 => ?_)
  · refine j_iconst (pc := 14) (v := 0) dX0_isMonth_14 (by decide) ?_
    exact j_iret (pc := 15) dX0_isMonth_15 rfl rfl (Nat.le_of_ble_eq_true rfl) (Nat.le_of_ble_eq_true rfl) (K1 c1)
  · refine j_iload_n (pc := 4) dX0_isMonth_4 rfl ?_
    refine j_bipush (pc := 5) (v := 120) dX0_isMonth_5 (by decide) ?_
    refine j_icmp_ge (pc := 7) (tgt := 14) dX0_isMonth_7 (by decide) (fun c2 => ?_) (fun c2 => ?_)
    · refine j_iconst (pc := 14) (v := 0) dX0_isMonth_14 (by decide) ?_
      exact j_iret (pc := 15) dX0_isMonth_15 rfl rfl (Nat.le_of_ble_eq_true rfl) (Nat.le_of_ble_eq_true rfl) (K2 c1 c2)
    · refine j_iconst (pc := 10) (v := 1) dX0_isMonth_10 (by decide) ?_
      refine j_goto (pc := 11) (tgt := 15) dX0_isMonth_11 (by decide) ?_
      exact j_iret (pc := 15) dX0_isMonth_15 rfl rfl (Nat.le_of_ble_eq_true rfl) (Nat.le_of_ble_eq_true rfl) (K3 c1 c2)

set_option maxRecDepth 20000 in
theorem s_X0_isAccount {l : Launch} {G : jG} {h : jH} {Q : Option Value → jH → Prop} {d0 : Int32}   (K1 : d0 < 0 → Q (some (.int 0)) h) (K2 : ¬ (d0 < 0) → 20 ≤ d0 → Q (some (.int 0)) h) (K3 : ¬ (d0 < 0) → ¬ (20 ≤ d0) → Q (some (.int 1)) h) : J l G mX0_isAccount 0 0 0 (lv_args 0 [.int d0]) [] h Q := by
  refine j_iload_n (pc := 0) dX0_isAccount_0 rfl ?_
  refine j_if_lt (pc := 1) (tgt := 14) dX0_isAccount_1 (by decide) (fun c1 => ?_) (fun c1 => ?_)
  · refine j_iconst (pc := 14) (v := 0) dX0_isAccount_14 (by decide) ?_
    exact j_iret (pc := 15) dX0_isAccount_15 rfl rfl (Nat.le_of_ble_eq_true rfl) (Nat.le_of_ble_eq_true rfl) (K1 c1)
  · refine j_iload_n (pc := 4) dX0_isAccount_4 rfl ?_
    refine j_bipush (pc := 5) (v := 20) dX0_isAccount_5 (by decide) ?_
    refine j_icmp_ge (pc := 7) (tgt := 14) dX0_isAccount_7 (by decide) (fun c2 => ?_) (fun c2 => ?_)
    · refine j_iconst (pc := 14) (v := 0) dX0_isAccount_14 (by decide) ?_
      exact j_iret (pc := 15) dX0_isAccount_15 rfl rfl (Nat.le_of_ble_eq_true rfl) (Nat.le_of_ble_eq_true rfl) (K2 c1 c2)
    · refine j_iconst (pc := 10) (v := 1) dX0_isAccount_10 (by decide) ?_
      refine j_goto (pc := 11) (tgt := 15) dX0_isAccount_11 (by decide) ?_
      exact j_iret (pc := 15) dX0_isAccount_15 rfl rfl (Nat.le_of_ble_eq_true rfl) (Nat.le_of_ble_eq_true rfl) (K3 c1 c2)

set_option maxRecDepth 20000 in
theorem s_X0_isFull {l : Launch} {G : jG} {h : jH} {Q : Option Value → jH → Prop} {a ea dr : Nat} {sz op cm : Int32} (H0 : h.2 a = some (jO 0 [.ref ea, .int sz, .ref dr, .int op, .int cm]))  (K1 : sz < 60 → Q (some (.int 0)) h) (K2 : ¬ (sz < 60) → Q (some (.int 1)) h) : J l G mX0_isFull 0 0 0 (lv_args 0 [.ref a]) [] h Q := by
  refine j_aload_n (pc := 0) dX0_isFull_0 rfl ?_
  refine j_getf (pc := 1) dX0_isFull_1 jfX0_106 H0 rfl ?_
  refine j_bipush (pc := 4) (v := 60) dX0_isFull_4 (by decide) ?_
  refine j_icmp_lt (pc := 6) (tgt := 13) dX0_isFull_6 (by decide) (fun c1 => ?_) (fun c1 => ?_)
  · refine j_iconst (pc := 13) (v := 0) dX0_isFull_13 (by decide) ?_
    exact j_iret (pc := 14) dX0_isFull_14 rfl rfl (Nat.le_of_ble_eq_true rfl) (Nat.le_of_ble_eq_true rfl) (K1 c1)
  · refine j_iconst (pc := 9) (v := 1) dX0_isFull_9 (by decide) ?_
    refine j_goto (pc := 10) (tgt := 14) dX0_isFull_10 (by decide) ?_
    exact j_iret (pc := 14) dX0_isFull_14 rfl rfl (Nat.le_of_ble_eq_true rfl) (Nat.le_of_ble_eq_true rfl) (K2 c1)

set_option maxRecDepth 20000 in
theorem s_X0_isClosed {l : Launch} {G : jG} {h : jH} {Q : Option Value → jH → Prop} {a ea dr : Nat} {sz op cm : Int32} {d0 : Int32} (H0 : h.2 a = some (jO 0 [.ref ea, .int sz, .ref dr, .int op, .int cm]))  (K1 : cm ≤ (d0 / 30) → Q (some (.int 0)) h) (K2 : ¬ (cm ≤ (d0 / 30)) → Q (some (.int 1)) h) : J l G mX0_isClosed 0 0 0 (lv_args 0 [.ref a, .int d0]) [] h Q := by
  refine j_iload_n (pc := 0) dX0_isClosed_0 rfl ?_
  refine j_S1 (rm' := rmX0_monthOf) (pc := 1) dX0_isClosed_1 jlX0_68 ⟨Nat.le_of_ble_eq_true rfl, Nat.le_of_ble_eq_true rfl, Nat.le_of_ble_eq_true rfl, Nat.le_of_ble_eq_true rfl, Nat.le_of_ble_eq_true rfl, Nat.le_of_ble_eq_true rfl⟩ ?_
  refine s_X0_monthOf  ?_
  show J l G mX0_isClosed _ _ 4 _ [.int (d0 / 30)] h Q
  refine j_aload_n (pc := 4) dX0_isClosed_4 rfl ?_
  refine j_getf (pc := 5) dX0_isClosed_5 jfX0_72 H0 rfl ?_
  refine j_icmp_ge (pc := 8) (tgt := 15) dX0_isClosed_8 (by decide) (fun c1 => ?_) (fun c1 => ?_)
  · refine j_iconst (pc := 15) (v := 0) dX0_isClosed_15 (by decide) ?_
    exact j_iret (pc := 16) dX0_isClosed_16 rfl rfl (Nat.le_of_ble_eq_true rfl) (Nat.le_of_ble_eq_true rfl) (K1 c1)
  · refine j_iconst (pc := 11) (v := 1) dX0_isClosed_11 (by decide) ?_
    refine j_goto (pc := 12) (tgt := 16) dX0_isClosed_12 (by decide) ?_
    exact j_iret (pc := 16) dX0_isClosed_16 rfl rfl (Nat.le_of_ble_eq_true rfl) (Nat.le_of_ble_eq_true rfl) (K2 c1)

set_option maxRecDepth 20000 in
theorem s_X0_takesDay {l : Launch} {G : jG} {h : jH} {Q : Option Value → jH → Prop} {a ea dr : Nat} {sz op cm : Int32} {d0 : Int32} (H0 : h.2 a = some (jO 0 [.ref ea, .int sz, .ref dr, .int op, .int cm]))  (K1 : d0 < 0 → Q (some (.int 0)) h) (K2 : ¬ (d0 < 0) → 3600 ≤ d0 → Q (some (.int 0)) h) (K3 : ¬ (d0 < 0) → ¬ (3600 ≤ d0) → cm ≤ (d0 / 30) → Q (some (.int 1)) h) (K4 : ¬ (d0 < 0) → ¬ (3600 ≤ d0) → ¬ (cm ≤ (d0 / 30)) → Q (some (.int 0)) h) : J l G mX0_takesDay 0 0 0 (lv_args 0 [.ref a, .int d0]) [] h Q := by
  refine j_iload_n (pc := 0) dX0_takesDay_0 rfl ?_
  refine j_if_lt (pc := 1) (tgt := 23) dX0_takesDay_1 (by decide) (fun c1 => ?_) (fun c1 => ?_)
  · refine j_iconst (pc := 23) (v := 0) dX0_takesDay_23 (by decide) ?_
    exact j_iret (pc := 24) dX0_takesDay_24 rfl rfl (Nat.le_of_ble_eq_true rfl) (Nat.le_of_ble_eq_true rfl) (K1 c1)
  · refine j_iload_n (pc := 4) dX0_takesDay_4 rfl ?_
    refine j_sipush (pc := 5) (v := 3600) dX0_takesDay_5 (by decide) ?_
    refine j_icmp_ge (pc := 8) (tgt := 23) dX0_takesDay_8 (by decide) (fun c2 => ?_) (fun c2 => ?_)
    · refine j_iconst (pc := 23) (v := 0) dX0_takesDay_23 (by decide) ?_
      exact j_iret (pc := 24) dX0_takesDay_24 rfl rfl (Nat.le_of_ble_eq_true rfl) (Nat.le_of_ble_eq_true rfl) (K2 c1 c2)
    · refine j_aload_n (pc := 11) dX0_takesDay_11 rfl ?_
      refine j_iload_n (pc := 12) dX0_takesDay_12 rfl ?_
      refine j_V1 (rm' := rmX0_isClosed) (pc := 13) dX0_takesDay_13 jlX0_85 H0 rfl ⟨Nat.le_of_ble_eq_true rfl, Nat.le_of_ble_eq_true rfl, Nat.le_of_ble_eq_true rfl, Nat.le_of_ble_eq_true rfl, Nat.le_of_ble_eq_true rfl, Nat.le_of_ble_eq_true rfl⟩ ?_
      refine s_X0_isClosed H0 (fun c3 => ?_) (fun c4 => ?_)
      · show J l G mX0_takesDay _ _ 16 _ [.int 0] h Q
        refine j_if_ne (pc := 16) (tgt := 23) dX0_takesDay_16 (by decide) (fun c5 => ?_) (fun c5 => ?_)
        · exact absurd c5 (by decide)
        · refine j_iconst (pc := 19) (v := 1) dX0_takesDay_19 (by decide) ?_
          refine j_goto (pc := 20) (tgt := 24) dX0_takesDay_20 (by decide) ?_
          exact j_iret (pc := 24) dX0_takesDay_24 rfl rfl (Nat.le_of_ble_eq_true rfl) (Nat.le_of_ble_eq_true rfl) (K3 c1 c2 c3)
      · show J l G mX0_takesDay _ _ 16 _ [.int 1] h Q
        refine j_if_ne (pc := 16) (tgt := 23) dX0_takesDay_16 (by decide) (fun c6 => ?_) (fun c6 => ?_)
        · refine j_iconst (pc := 23) (v := 0) dX0_takesDay_23 (by decide) ?_
          exact j_iret (pc := 24) dX0_takesDay_24 rfl rfl (Nat.le_of_ble_eq_true rfl) (Nat.le_of_ble_eq_true rfl) (K4 c1 c2 c4)
        · exact absurd c6 (by decide)

set_option maxRecDepth 20000 in
theorem s_X5_isGap {l : Launch} {G : jG} {h : jH} {Q : Option Value → jH → Prop} {u : Int32}   (K1 : u = 32 → Q (some (.int 1)) h) (K2 : ¬ u = 32 → ¬ u = 10 → Q (some (.int 0)) h) (K3 : ¬ u = 32 → u = 10 → Q (some (.int 1)) h) : J l G mX5_isGap 0 0 0 (lv_args 0 [.int u]) [] h Q := by
  refine j_iload_n (pc := 0) dX5_isGap_0 rfl ?_
  refine j_bipush (pc := 1) (v := 32) dX5_isGap_1 (by decide) ?_
  refine j_icmp_eq (pc := 3) (tgt := 12) dX5_isGap_3 (by decide) (fun c1 => ?_) (fun c1 => ?_)
  · refine j_iconst (pc := 12) (v := 1) dX5_isGap_12 (by decide) ?_
    refine j_goto (pc := 13) (tgt := 17) dX5_isGap_13 (by decide) ?_
    exact j_iret (pc := 17) dX5_isGap_17 rfl rfl (Nat.le_of_ble_eq_true rfl) (Nat.le_of_ble_eq_true rfl) (K1 c1)
  · refine j_iload_n (pc := 6) dX5_isGap_6 rfl ?_
    refine j_bipush (pc := 7) (v := 10) dX5_isGap_7 (by decide) ?_
    refine j_icmp_ne (pc := 9) (tgt := 16) dX5_isGap_9 (by decide) (fun c2 => ?_) (fun c2 => ?_)
    · refine j_iconst (pc := 16) (v := 0) dX5_isGap_16 (by decide) ?_
      exact j_iret (pc := 17) dX5_isGap_17 rfl rfl (Nat.le_of_ble_eq_true rfl) (Nat.le_of_ble_eq_true rfl) (K2 c1 c2)
    · refine j_iconst (pc := 12) (v := 1) dX5_isGap_12 (by decide) ?_
      refine j_goto (pc := 13) (tgt := 17) dX5_isGap_13 (by decide) ?_
      exact j_iret (pc := 17) dX5_isGap_17 rfl rfl (Nat.le_of_ble_eq_true rfl) (Nat.le_of_ble_eq_true rfl) (K3 c1 c2)

set_option maxRecDepth 20000 in
theorem s_X5_empty {l : Launch} {G : jG} {h : jH} {Q : Option Value → jH → Prop} {a ba : Nat} {ln ws we wn : Int32} (H0 : h.2 a = some (jO 5 [.ref ba, .int ln, .int ws, .int we, .int wn]))  (K1 : Q none (j_set h a (jO 5 [.ref ba, .int 0, .int ws, .int we, .int wn]))) : J l G mX5_empty 0 0 0 (lv_args 0 [.ref a]) [] h Q := by
  refine j_aload_n (pc := 0) dX5_empty_0 rfl ?_
  refine j_iconst (pc := 1) (v := 0) dX5_empty_1 (by decide) ?_
  refine j_putf (pc := 2) dX5_empty_2 jfX5_15 H0 rfl rfl (Nat.le_of_ble_eq_true rfl) ?_
  show J l G mX5_empty _ _ 5 _ _ (j_set h a (jO 5 [.ref ba, .int 0, .int ws, .int we, .int wn])) Q
  exact j_vret (pc := 5) dX5_empty_5 rfl (Nat.le_of_ble_eq_true rfl) (Nat.le_of_ble_eq_true rfl) (K1)

set_option maxRecDepth 20000 in
theorem s_X5_rewind {l : Launch} {G : jG} {h : jH} {Q : Option Value → jH → Prop} {a ba : Nat} {ln ws we wn : Int32} (H0 : h.2 a = some (jO 5 [.ref ba, .int ln, .int ws, .int we, .int wn]))  (K1 : Q none (j_set h a (jO 5 [.ref ba, .int ln, .int ws, .int 0, .int (-1)]))) : J l G mX5_rewind 0 0 0 (lv_args 0 [.ref a]) [] h Q := by
  refine j_aload_n (pc := 0) dX5_rewind_0 rfl ?_
  refine j_iconst (pc := 1) (v := 0) dX5_rewind_1 (by decide) ?_
  refine j_putf (pc := 2) dX5_rewind_2 jfX5_19 H0 rfl rfl (Nat.le_of_ble_eq_true rfl) ?_
  show J l G mX5_rewind _ _ 5 _ _ (j_set h a (jO 5 [.ref ba, .int ln, .int ws, .int 0, .int wn])) Q
  refine j_aload_n (pc := 5) dX5_rewind_5 rfl ?_
  refine j_iconst (pc := 6) (v := -1) dX5_rewind_6 (by decide) ?_
  refine j_putf (pc := 7) dX5_rewind_7 jfX5_22 j_hs rfl rfl (Nat.le_of_ble_eq_true rfl) ?_
  show J l G mX5_rewind _ _ 10 _ _ (j_set (j_set h a (jO 5 [.ref ba, .int ln, .int ws, .int 0, .int wn])) a (jO 5 [.ref ba, .int ln, .int ws, .int 0, .int (-1)])) Q
  rw [j_ss0 (a := a)]
  exact j_vret (pc := 10) dX5_rewind_10 rfl (Nat.le_of_ble_eq_true rfl) (Nat.le_of_ble_eq_true rfl) (K1)

set_option maxRecDepth 20000 in
theorem s_X7_areCents {l : Launch} {G : jG} {h : jH} {Q : Option Value → jH → Prop} {v : Int64}   (K1 : v < 1 → Q (some (.int 0)) h) (K2 : ¬ (v < 1) → 1000000000 < v → Q (some (.int 0)) h) (K3 : ¬ (v < 1) → ¬ (1000000000 < v) → Q (some (.int 1)) h) : J l G mX7_areCents 0 0 0 (lv_args 0 [.long v]) [] h Q := by
  refine j_lload_n (pc := 0) dX7_areCents_0 rfl ?_
  refine j_lconst (pc := 1) (v := 1) dX7_areCents_1 (by decide) ?_
  refine j_lc_lt (pc := 2) (tgt := 18) dX7_areCents_2 dX7_areCents_3 (by decide) (fun c1 => ?_) (fun c1 => ?_)
  · refine j_iconst (pc := 18) (v := 0) dX7_areCents_18 (by decide) ?_
    exact j_iret (pc := 19) dX7_areCents_19 rfl rfl (Nat.le_of_ble_eq_true rfl) (Nat.le_of_ble_eq_true rfl) (K1 c1)
  · refine j_lload_n (pc := 6) dX7_areCents_6 rfl ?_
    refine j_ldc2 (pc := 7) dX7_areCents_7 jnX7_158 ?_
    refine j_lc_gt (pc := 10) (tgt := 18) dX7_areCents_10 dX7_areCents_11 (by decide) (fun c2 => ?_) (fun c2 => ?_)
    · refine j_iconst (pc := 18) (v := 0) dX7_areCents_18 (by decide) ?_
      exact j_iret (pc := 19) dX7_areCents_19 rfl rfl (Nat.le_of_ble_eq_true rfl) (Nat.le_of_ble_eq_true rfl) (K2 c1 c2)
    · refine j_iconst (pc := 14) (v := 1) dX7_areCents_14 (by decide) ?_
      refine j_goto (pc := 15) (tgt := 19) dX7_areCents_15 (by decide) ?_
      exact j_iret (pc := 19) dX7_areCents_19 rfl rfl (Nat.le_of_ble_eq_true rfl) (Nat.le_of_ble_eq_true rfl) (K3 c1 c2)

set_option maxRecDepth 20000 in
theorem s_X8_within {l : Launch} {G : jG} {h : jH} {Q : Option Value → jH → Prop} {v lo hi : Int64}   (K1 : v < lo → Q (some (.int 0)) h) (K2 : ¬ (v < lo) → hi < v → Q (some (.int 0)) h) (K3 : ¬ (v < lo) → ¬ (hi < v) → Q (some (.int 1)) h) : J l G mX8_within 0 0 0 (lv_args 0 [.long v, .long lo, .long hi]) [] h Q := by
  refine j_lload_n (pc := 0) dX8_within_0 rfl ?_
  refine j_lload_n (pc := 1) dX8_within_1 rfl ?_
  refine j_lc_lt (pc := 2) (tgt := 17) dX8_within_2 dX8_within_3 (by decide) (fun c1 => ?_) (fun c1 => ?_)
  · refine j_iconst (pc := 17) (v := 0) dX8_within_17 (by decide) ?_
    exact j_iret (pc := 18) dX8_within_18 rfl rfl (Nat.le_of_ble_eq_true rfl) (Nat.le_of_ble_eq_true rfl) (K1 c1)
  · refine j_lload_n (pc := 6) dX8_within_6 rfl ?_
    refine j_lload (pc := 7) dX8_within_7 rfl ?_
    refine j_lc_gt (pc := 9) (tgt := 17) dX8_within_9 dX8_within_10 (by decide) (fun c2 => ?_) (fun c2 => ?_)
    · refine j_iconst (pc := 17) (v := 0) dX8_within_17 (by decide) ?_
      exact j_iret (pc := 18) dX8_within_18 rfl rfl (Nat.le_of_ble_eq_true rfl) (Nat.le_of_ble_eq_true rfl) (K2 c1 c2)
    · refine j_iconst (pc := 13) (v := 1) dX8_within_13 (by decide) ?_
      refine j_goto (pc := 14) (tgt := 18) dX8_within_14 (by decide) ?_
      exact j_iret (pc := 18) dX8_within_18 rfl rfl (Nat.le_of_ble_eq_true rfl) (Nat.le_of_ble_eq_true rfl) (K3 c1 c2)
