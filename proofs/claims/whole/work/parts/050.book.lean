set_option maxRecDepth 20000 in
theorem s_X0_entryAt {l : Launch} {G : jG} {h : jH} {Q : Option Value → jH → Prop} {dr E C : Nat} {op n0 : Int32} {ea : Nat → Option Nat} {eb : Nat → Nat} (H0 : h.2 12 = some (jO 0 [.ref 13, .int (nI E), .ref dr, .int op, .int (nI C)])) (H1 : h.2 13 = some (jQ 5 60 ea)) (hE : E ≤ 60) (hea : ∀ e, e < E → ea e = some (eb e)) (K1 : n0 < 1 → Q (some (.null)) h) (K2 : ¬ (n0 < 1) → (nI E) < n0 → Q (some (.null)) h) (K3 : ¬ (n0 < 1) → ¬ ((nI E) < n0) → ∀ e : Nat, n0 = nI (e + 1) → e < E → Q (some (.ref (eb e))) h) : J l G mX0_entryAt 0 0 0 (lv_args 0 [.ref 12, .int n0]) [] h Q := by
  refine j_iload_n (pc := 0) dX0_entryAt_0 rfl ?_
  refine j_iconst (pc := 1) (v := 1) dX0_entryAt_1 (by decide) ?_
  refine j_icmp_lt (pc := 2) (tgt := 24) dX0_entryAt_2 (by decide) (fun c1 => ?_) (fun c1 => ?_)
  · refine j_aconst_null (pc := 24) dX0_entryAt_24 ?_
    exact j_aret (pc := 25) dX0_entryAt_25 rfl (Or.inl rfl) (Nat.le_of_ble_eq_true rfl) (Nat.le_of_ble_eq_true rfl) (K1 c1)
  · refine j_iload_n (pc := 5) dX0_entryAt_5 rfl ?_
    refine j_aload_n (pc := 6) dX0_entryAt_6 rfl ?_
    refine j_getf (pc := 7) dX0_entryAt_7 jfX0_106 H0 rfl ?_
    refine j_icmp_gt (pc := 10) (tgt := 24) dX0_entryAt_10 (by decide) (fun c2 => ?_) (fun c2 => ?_)
    · refine j_aconst_null (pc := 24) dX0_entryAt_24 ?_
      exact j_aret (pc := 25) dX0_entryAt_25 rfl (Or.inl rfl) (Nat.le_of_ble_eq_true rfl) (Nat.le_of_ble_eq_true rfl) (K2 c1 c2)
    · obtain ⟨e, he, rfl⟩ : ∃ e : Nat, e < E ∧ n0 = nI (e + 1) := jn_e c1 c2 (by omega)
      refine j_aload_n (pc := 13) dX0_entryAt_13 rfl ?_
      refine j_getf (pc := 14) dX0_entryAt_14 jfX0_13 H0 rfl ?_
      refine j_iload_n (pc := 17) dX0_entryAt_17 rfl ?_
      refine j_iconst (pc := 18) (v := 1) dX0_entryAt_18 (by decide) ?_
      refine j_isubN (a := e + 1) (b := 1) (pc := 19) dX0_entryAt_19 (by omega) ?_
      refine j_aaldR (pc := 20) dX0_entryAt_20 (t := 5) rfl rfl H1 (jix_nI (q := e) (by omega) (by decide)) (hea e he) ?_
      refine j_goto (pc := 21) (tgt := 25) dX0_entryAt_21 (by decide) ?_
      exact j_aret (pc := 25) dX0_entryAt_25 rfl (Or.inr ⟨_, rfl⟩) (Nat.le_of_ble_eq_true rfl) (Nat.le_of_ble_eq_true rfl) (K3 c1 c2 e rfl he)

set_option maxRecDepth 20000 in
theorem s_X0_tell {l : Launch} {G : jG} {h : jH} {Q : Option Value → jH → Prop} {dr E C : Nat} {op n0 r0 w0 : Int32} {eb rws : Nat → Nat} {dyy tkk tnn : Nat → Int32} {eac : Nat → Nat → Int32} {eam : Nat → Nat → Int64} {ea : Nat → Option Nat}  (H0 : h.2 12 = some (jO 0 [.ref 13, .int (nI E), .ref dr, .int op, .int (nI C)])) (H1 : h.2 13 = some (jQ 5 60 ea)) (FE : ∀ e, e < E → h.2 (eb e) = some (jO 2 [.ref (eb e + 1), .ref (eb e + 2), .int (nI (rws e)), .int (dyy e), .int (tkk e), .int (tnn e)])) (FA : ∀ e, e < E → h.2 (eb e + 1) = some (jI 8 (eac e))) (FM : ∀ e, e < E → h.2 (eb e + 2) = some (jL 8 (eam e))) (hE : E ≤ 60) (hea : ∀ e, e < E → ea e = some (eb e)) (hr8 : ∀ e, e < E → rws e ≤ 8) (K1 : n0 < 1 → Q (some (.long (-9223372036854775808))) h) (K2 : ¬ (n0 < 1) → (nI E) < n0 → Q (some (.long (-9223372036854775808))) h) (K3 : ¬ (n0 < 1) → ¬ ((nI E) < n0) → ∀ t6 : Nat, n0 = nI (t6 + 1) → t6 < E → ¬ r0 = (-1) → r0 < 0 → Q (some (.long (-9223372036854775808))) h) (K4 : ¬ (n0 < 1) → ¬ ((nI E) < n0) → ∀ t6 : Nat, n0 = nI (t6 + 1) → t6 < E → ¬ r0 = (-1) → ¬ (r0 < 0) → (nI (rws t6)) ≤ r0 → Q (some (.long (-9223372036854775808))) h) (K5 : ¬ (n0 < 1) → ¬ ((nI E) < n0) → ∀ t6 : Nat, n0 = nI (t6 + 1) → t6 < E → ¬ r0 = (-1) → ¬ (r0 < 0) → ¬ ((nI (rws t6)) ≤ r0) → w0 < 0 → Q (some (.long (-9223372036854775808))) h) (K6 : ¬ (n0 < 1) → ¬ ((nI E) < n0) → ∀ t6 : Nat, n0 = nI (t6 + 1) → t6 < E → ¬ r0 = (-1) → ¬ (r0 < 0) → ¬ ((nI (rws t6)) ≤ r0) → ¬ (w0 < 0) → w0 ≤ 1 → ∀ t18 : Nat, r0 = nI t18 → t18 < (rws t6) → ¬ w0 = 0 → Q (some (.long ((eam t6) t18))) h) (K7 : ¬ (n0 < 1) → ¬ ((nI E) < n0) → ∀ t6 : Nat, n0 = nI (t6 + 1) → t6 < E → ¬ r0 = (-1) → ¬ (r0 < 0) → ¬ ((nI (rws t6)) ≤ r0) → ¬ (w0 < 0) → w0 ≤ 1 → ∀ t24 : Nat, r0 = nI t24 → t24 < (rws t6) → w0 = 0 → Q (some (.long (((eac t6) t24).toInt64))) h) (K8 : ¬ (n0 < 1) → ¬ ((nI E) < n0) → ∀ t6 : Nat, n0 = nI (t6 + 1) → t6 < E → ¬ r0 = (-1) → ¬ (r0 < 0) → ¬ ((nI (rws t6)) ≤ r0) → ¬ (w0 < 0) → ¬ (w0 ≤ 1) → Q (some (.long (-9223372036854775808))) h) (K9 : ¬ (n0 < 1) → ¬ ((nI E) < n0) → ∀ t6 : Nat, n0 = nI (t6 + 1) → t6 < E → r0 = (-1) → w0 = 0 → Q (some (.long ((dyy t6).toInt64))) h) (K10 : ¬ (n0 < 1) → ¬ ((nI E) < n0) → ∀ t6 : Nat, n0 = nI (t6 + 1) → t6 < E → r0 = (-1) → ¬ w0 = 0 → w0 = 1 → Q (some (.long ((nI (rws t6)).toInt64))) h) (K11 : ¬ (n0 < 1) → ¬ ((nI E) < n0) → ∀ t6 : Nat, n0 = nI (t6 + 1) → t6 < E → r0 = (-1) → ¬ w0 = 0 → ¬ w0 = 1 → w0 = 2 → Q (some (.long ((tkk t6).toInt64))) h) (K12 : ¬ (n0 < 1) → ¬ ((nI E) < n0) → ∀ t6 : Nat, n0 = nI (t6 + 1) → t6 < E → r0 = (-1) → ¬ w0 = 0 → ¬ w0 = 1 → ¬ w0 = 2 → w0 = 3 → Q (some (.long ((tnn t6).toInt64))) h) (K13 : ¬ (n0 < 1) → ¬ ((nI E) < n0) → ∀ t6 : Nat, n0 = nI (t6 + 1) → t6 < E → r0 = (-1) → ¬ w0 = 0 → ¬ w0 = 1 → ¬ w0 = 2 → ¬ w0 = 3 → Q (some (.long (-9223372036854775808))) h) : J l G mX0_tell 0 0 0 (lv_args 0 [.ref 12, .int n0, .int r0, .int w0]) [] h Q := by
  refine j_aload_n (pc := 0) dX0_tell_0 rfl ?_
  refine j_iload_n (pc := 1) dX0_tell_1 rfl ?_
  refine j_V1 (rm' := rmX0_entryAt) (pc := 2) dX0_tell_2 jlX0_81 H0 rfl ⟨Nat.le_of_ble_eq_true rfl, Nat.le_of_ble_eq_true rfl, Nat.le_of_ble_eq_true rfl, Nat.le_of_ble_eq_true rfl, Nat.le_of_ble_eq_true rfl, Nat.le_of_ble_eq_true rfl⟩ ?_
  refine s_X0_entryAt (E := E) (C := C) H0 H1 hE hea (fun c1 => ?_) (fun c2 c3 => ?_) (fun c4 c5 t6 ec6 ht6 => ?_)
  · show J l G mX0_tell _ _ 5 _ [.null] h Q
    refine j_nstore (pc := 5) dX0_tell_5 (by decide) ?_
    refine j_nload (pc := 7) dX0_tell_7 rfl ?_
    refine j_ifnonnullN (pc := 9) dX0_tell_9 ?_
    refine j_ldc2 (pc := 12) dX0_tell_12 jnX0_104 ?_
    exact j_lret (pc := 15) dX0_tell_15 rfl (Nat.le_of_ble_eq_true rfl) (Nat.le_of_ble_eq_true rfl) (K1 c1)
  · show J l G mX0_tell _ _ 5 _ [.null] h Q
    refine j_nstore (pc := 5) dX0_tell_5 (by decide) ?_
    refine j_nload (pc := 7) dX0_tell_7 rfl ?_
    refine j_ifnonnullN (pc := 9) dX0_tell_9 ?_
    refine j_ldc2 (pc := 12) dX0_tell_12 jnX0_104 ?_
    exact j_lret (pc := 15) dX0_tell_15 rfl (Nat.le_of_ble_eq_true rfl) (Nat.le_of_ble_eq_true rfl) (K2 c2 c3)
  · show J l G mX0_tell _ _ 5 _ [.ref (eb t6)] h Q
    subst ec6
    refine j_astore (pc := 5) dX0_tell_5 (by decide) ?_
    refine j_aload (pc := 7) dX0_tell_7 rfl ?_
    refine j_ifnonnull (pc := 9) (tgt := 16) dX0_tell_9 (by decide) ?_
    refine j_iload_n (pc := 16) dX0_tell_16 rfl ?_
    refine j_iconst (pc := 17) (v := -1) dX0_tell_17 (by decide) ?_
    refine j_icmp_ne (pc := 18) (tgt := 30) dX0_tell_18 (by decide) (fun c7 => ?_) (fun c7 => ?_)
    · refine j_aload (pc := 30) dX0_tell_30 rfl ?_
      refine j_iload_n (pc := 32) dX0_tell_32 rfl ?_
      refine j_iload_n (pc := 33) dX0_tell_33 rfl ?_
      refine j_V2 (rm' := rmX2_tellRow) (pc := 34) dX0_tell_34 jlX0_114 (FE t6 ht6) rfl ⟨Nat.le_of_ble_eq_true rfl, Nat.le_of_ble_eq_true rfl, Nat.le_of_ble_eq_true rfl, Nat.le_of_ble_eq_true rfl, Nat.le_of_ble_eq_true rfl, Nat.le_of_ble_eq_true rfl⟩ ?_
      refine s_X2_tellRow (R := (rws t6)) (FE t6 ht6) (FA t6 ht6) (FM t6 ht6) (hr8 t6 ht6) (fun c8 => ?_) (fun c9 c10 => ?_) (fun c11 c12 c13 => ?_) (fun c14 c15 c16 c17 t18 ec18 ht18 c19 => ?_) (fun c20 c21 c22 c23 t24 ec24 ht24 c25 => ?_) (fun c26 c27 c28 c29 => ?_)
      · show J l G mX0_tell _ _ 37 _ [.long (-9223372036854775808)] h Q
        exact j_lret (pc := 37) dX0_tell_37 rfl (Nat.le_of_ble_eq_true rfl) (Nat.le_of_ble_eq_true rfl) (K3 c4 c5 t6 rfl ht6 c7 c8)
      · show J l G mX0_tell _ _ 37 _ [.long (-9223372036854775808)] h Q
        exact j_lret (pc := 37) dX0_tell_37 rfl (Nat.le_of_ble_eq_true rfl) (Nat.le_of_ble_eq_true rfl) (K4 c4 c5 t6 rfl ht6 c7 c9 c10)
      · show J l G mX0_tell _ _ 37 _ [.long (-9223372036854775808)] h Q
        exact j_lret (pc := 37) dX0_tell_37 rfl (Nat.le_of_ble_eq_true rfl) (Nat.le_of_ble_eq_true rfl) (K5 c4 c5 t6 rfl ht6 c7 c11 c12 c13)
      · show J l G mX0_tell _ _ 37 _ [.long ((eam t6) t18)] h Q
        subst ec18
        exact j_lret (pc := 37) dX0_tell_37 rfl (Nat.le_of_ble_eq_true rfl) (Nat.le_of_ble_eq_true rfl) (K6 c4 c5 t6 rfl ht6 c7 c14 c15 c16 c17 t18 rfl ht18 c19)
      · show J l G mX0_tell _ _ 37 _ [.long (((eac t6) t24).toInt64)] h Q
        subst ec24
        exact j_lret (pc := 37) dX0_tell_37 rfl (Nat.le_of_ble_eq_true rfl) (Nat.le_of_ble_eq_true rfl) (K7 c4 c5 t6 rfl ht6 c7 c20 c21 c22 c23 t24 rfl ht24 c25)
      · show J l G mX0_tell _ _ 37 _ [.long (-9223372036854775808)] h Q
        exact j_lret (pc := 37) dX0_tell_37 rfl (Nat.le_of_ble_eq_true rfl) (Nat.le_of_ble_eq_true rfl) (K8 c4 c5 t6 rfl ht6 c7 c26 c27 c28 c29)
    · refine j_aload (pc := 21) dX0_tell_21 rfl ?_
      refine j_iload_n (pc := 23) dX0_tell_23 rfl ?_
      refine j_V1 (rm' := rmX2_tellHead) (pc := 24) dX0_tell_24 jlX0_111 (FE t6 ht6) rfl ⟨Nat.le_of_ble_eq_true rfl, Nat.le_of_ble_eq_true rfl, Nat.le_of_ble_eq_true rfl, Nat.le_of_ble_eq_true rfl, Nat.le_of_ble_eq_true rfl, Nat.le_of_ble_eq_true rfl⟩ ?_
      refine s_X2_tellHead (FE t6 ht6) (fun c30 => ?_) (fun c31 c32 => ?_) (fun c33 c34 c35 => ?_) (fun c36 c37 c38 c39 => ?_) (fun c40 c41 c42 c43 => ?_)
      · show J l G mX0_tell _ _ 27 _ [.long ((dyy t6).toInt64)] h Q
        refine j_goto (pc := 27) (tgt := 37) dX0_tell_27 (by decide) ?_
        exact j_lret (pc := 37) dX0_tell_37 rfl (Nat.le_of_ble_eq_true rfl) (Nat.le_of_ble_eq_true rfl) (K9 c4 c5 t6 rfl ht6 c7 c30)
      · show J l G mX0_tell _ _ 27 _ [.long ((nI (rws t6)).toInt64)] h Q
        refine j_goto (pc := 27) (tgt := 37) dX0_tell_27 (by decide) ?_
        exact j_lret (pc := 37) dX0_tell_37 rfl (Nat.le_of_ble_eq_true rfl) (Nat.le_of_ble_eq_true rfl) (K10 c4 c5 t6 rfl ht6 c7 c31 c32)
      · show J l G mX0_tell _ _ 27 _ [.long ((tkk t6).toInt64)] h Q
        refine j_goto (pc := 27) (tgt := 37) dX0_tell_27 (by decide) ?_
        exact j_lret (pc := 37) dX0_tell_37 rfl (Nat.le_of_ble_eq_true rfl) (Nat.le_of_ble_eq_true rfl) (K11 c4 c5 t6 rfl ht6 c7 c33 c34 c35)
      · show J l G mX0_tell _ _ 27 _ [.long ((tnn t6).toInt64)] h Q
        refine j_goto (pc := 27) (tgt := 37) dX0_tell_27 (by decide) ?_
        exact j_lret (pc := 37) dX0_tell_37 rfl (Nat.le_of_ble_eq_true rfl) (Nat.le_of_ble_eq_true rfl) (K12 c4 c5 t6 rfl ht6 c7 c36 c37 c38 c39)
      · show J l G mX0_tell _ _ 27 _ [.long (-9223372036854775808)] h Q
        refine j_goto (pc := 27) (tgt := 37) dX0_tell_27 (by decide) ?_
        exact j_lret (pc := 37) dX0_tell_37 rfl (Nat.le_of_ble_eq_true rfl) (Nat.le_of_ble_eq_true rfl) (K13 c4 c5 t6 rfl ht6 c7 c40 c41 c42 c43)

set_option maxRecDepth 20000 in
theorem s_X0_totalOf {l : Launch} {G : jG} {h : jH} {Q : Option Value → jH → Prop} {dr E C : Nat} {op a0 m0 : Int32} {eb rws : Nat → Nat} {dyy tkk tnn : Nat → Int32} {eac : Nat → Nat → Int32} {eam : Nat → Nat → Int64} {ea : Nat → Option Nat}  (H0 : h.2 12 = some (jO 0 [.ref 13, .int (nI E), .ref dr, .int op, .int (nI C)])) (H1 : h.2 13 = some (jQ 5 60 ea)) (FE : ∀ e, e < E → h.2 (eb e) = some (jO 2 [.ref (eb e + 1), .ref (eb e + 2), .int (nI (rws e)), .int (dyy e), .int (tkk e), .int (tnn e)])) (FA : ∀ e, e < E → h.2 (eb e + 1) = some (jI 8 (eac e))) (FM : ∀ e, e < E → h.2 (eb e + 2) = some (jL 8 (eam e))) (hE : E ≤ 60) (hea : ∀ e, e < E → ea e = some (eb e)) (hr8 : ∀ e, e < E → rws e ≤ 8) (K1 : a0 < 0 → Q (some (.long (-9223372036854775808))) h) (K2 : ¬ (a0 < 0) → 20 ≤ a0 → Q (some (.long (-9223372036854775808))) h) (K3 : ¬ (a0 < 0) → ¬ (20 ≤ a0) → m0 < 0 → Q (some (.long (-9223372036854775808))) h) (K4 : ¬ (a0 < 0) → ¬ (20 ≤ a0) → ¬ (m0 < 0) → 120 ≤ m0 → Q (some (.long (-9223372036854775808))) h) (K5 : ¬ (a0 < 0) → ¬ (20 ≤ a0) → ¬ (m0 < 0) → ¬ (120 ≤ m0) → Q (some (.long (j_be (fun e => j_sc (eam e) (eac e) a0 (rws e)) (fun e => dyy e / 30) m0 E))) h) : J l G mX0_totalOf 0 0 0 (lv_args 0 [.ref 12, .int a0, .int m0]) [] h Q := by
  refine j_iload_n (pc := 0) dX0_totalOf_0 rfl ?_
  refine j_S1 (rm' := rmX0_isAccount) (pc := 1) dX0_totalOf_1 jlX0_38 ⟨Nat.le_of_ble_eq_true rfl, Nat.le_of_ble_eq_true rfl, Nat.le_of_ble_eq_true rfl, Nat.le_of_ble_eq_true rfl, Nat.le_of_ble_eq_true rfl, Nat.le_of_ble_eq_true rfl⟩ ?_
  refine s_X0_isAccount  (fun c1 => ?_) (fun c2 c3 => ?_) (fun c4 c5 => ?_)
  · show J l G mX0_totalOf _ _ 4 _ [.int 0] h Q
    refine j_if_eq (pc := 4) (tgt := 14) dX0_totalOf_4 (by decide) (fun c6 => ?_) (fun c6 => ?_)
    · refine j_ldc2 (pc := 14) dX0_totalOf_14 jnX0_104 ?_
      exact j_lret (pc := 17) dX0_totalOf_17 rfl (Nat.le_of_ble_eq_true rfl) (Nat.le_of_ble_eq_true rfl) (K1 c1)
    · exact absurd c6 (by decide)
  · show J l G mX0_totalOf _ _ 4 _ [.int 0] h Q
    refine j_if_eq (pc := 4) (tgt := 14) dX0_totalOf_4 (by decide) (fun c7 => ?_) (fun c7 => ?_)
    · refine j_ldc2 (pc := 14) dX0_totalOf_14 jnX0_104 ?_
      exact j_lret (pc := 17) dX0_totalOf_17 rfl (Nat.le_of_ble_eq_true rfl) (Nat.le_of_ble_eq_true rfl) (K2 c2 c3)
    · exact absurd c7 (by decide)
  · show J l G mX0_totalOf _ _ 4 _ [.int 1] h Q
    refine j_if_eq (pc := 4) (tgt := 14) dX0_totalOf_4 (by decide) (fun c8 => ?_) (fun c8 => ?_)
    · exact absurd c8 (by decide)
    · refine j_iload_n (pc := 7) dX0_totalOf_7 rfl ?_
      refine j_S1 (rm' := rmX0_isMonth) (pc := 8) dX0_totalOf_8 jlX0_62 ⟨Nat.le_of_ble_eq_true rfl, Nat.le_of_ble_eq_true rfl, Nat.le_of_ble_eq_true rfl, Nat.le_of_ble_eq_true rfl, Nat.le_of_ble_eq_true rfl, Nat.le_of_ble_eq_true rfl⟩ ?_
      refine s_X0_isMonth  (fun c9 => ?_) (fun c10 c11 => ?_) (fun c12 c13 => ?_)
      · show J l G mX0_totalOf _ _ 11 _ [.int 0] h Q
        refine j_if_ne (pc := 11) (tgt := 18) dX0_totalOf_11 (by decide) (fun c14 => ?_) (fun c14 => ?_)
        · exact absurd c14 (by decide)
        · refine j_ldc2 (pc := 14) dX0_totalOf_14 jnX0_104 ?_
          exact j_lret (pc := 17) dX0_totalOf_17 rfl (Nat.le_of_ble_eq_true rfl) (Nat.le_of_ble_eq_true rfl) (K3 c4 c5 c9)
      · show J l G mX0_totalOf _ _ 11 _ [.int 0] h Q
        refine j_if_ne (pc := 11) (tgt := 18) dX0_totalOf_11 (by decide) (fun c15 => ?_) (fun c15 => ?_)
        · exact absurd c15 (by decide)
        · refine j_ldc2 (pc := 14) dX0_totalOf_14 jnX0_104 ?_
          exact j_lret (pc := 17) dX0_totalOf_17 rfl (Nat.le_of_ble_eq_true rfl) (Nat.le_of_ble_eq_true rfl) (K4 c4 c5 c10 c11)
      · show J l G mX0_totalOf _ _ 11 _ [.int 1] h Q
        refine j_if_ne (pc := 11) (tgt := 18) dX0_totalOf_11 (by decide) (fun c16 => ?_) (fun c16 => ?_)
        · refine j_lconst (pc := 18) (v := 0) dX0_totalOf_18 (by decide) ?_
          refine j_lstore_n (pc := 19) dX0_totalOf_19 (by decide) ?_
          refine j_iconst (pc := 20) (v := 0) dX0_totalOf_20 (by decide) ?_
          refine j_istore (pc := 21) dX0_totalOf_21 (by decide) ?_
          refine j_sub (lv' := [(0, .ref 12), (1, .int a0), (2, .int m0), (3, .long (j_be (fun e => j_sc (eam e) (eac e) a0 (rws e)) (fun e => dyy e / 30) m0 0)), (5, .int (nI 0))]) rfl ?_
          refine j_for (N := E) (S := fun i1 => J l G mX0_totalOf 0 0 23 [(0, .ref 12), (1, .int a0), (2, .int m0), (3, .long (j_be (fun e => j_sc (eam e) (eac e) a0 (rws e)) (fun e => dyy e / 30) m0 i1)), (5, .int (nI i1))] [] h Q) ?_ ?_ 0 (Nat.zero_le _)
          · intro i1 hi1 ih1
            have hi1 := hi1
            refine j_iload (pc := 23) dX0_totalOf_23 rfl ?_
            refine j_aload_n (pc := 25) dX0_totalOf_25 rfl ?_
            refine j_getf (pc := 26) dX0_totalOf_26 jfX0_106 H0 rfl ?_
            refine j_icmp_geN (a := i1) (b := E) (pc := 29) (tgt := 73) dX0_totalOf_29 (by decide) (by omega) (by omega) (fun c17 => ?_) (fun c17 => ?_)
            · exfalso; omega
            · refine j_aload_n (pc := 32) dX0_totalOf_32 rfl ?_
              refine j_getf (pc := 33) dX0_totalOf_33 jfX0_13 H0 rfl ?_
              refine j_iload (pc := 36) dX0_totalOf_36 rfl ?_
              refine j_aaldR (pc := 38) dX0_totalOf_38 (t := 5) rfl rfl H1 (jix_nI (by omega) (by decide)) (hea i1 hi1) ?_
              refine j_astore (pc := 39) dX0_totalOf_39 (by decide) ?_
              refine j_aload (pc := 41) dX0_totalOf_41 rfl ?_
              refine j_ifnull (pc := 43) dX0_totalOf_43 ?_
              refine j_aload (pc := 46) dX0_totalOf_46 rfl ?_
              refine j_getf (pc := 48) dX0_totalOf_48 jfX0_65 (FE i1 hi1) rfl ?_
              refine j_S1 (rm' := rmX0_monthOf) (pc := 51) dX0_totalOf_51 jlX0_68 ⟨Nat.le_of_ble_eq_true rfl, Nat.le_of_ble_eq_true rfl, Nat.le_of_ble_eq_true rfl, Nat.le_of_ble_eq_true rfl, Nat.le_of_ble_eq_true rfl, Nat.le_of_ble_eq_true rfl⟩ ?_
              refine s_X0_monthOf  ?_
              show J l G mX0_totalOf _ _ 54 _ [.int ((dyy i1) / 30)] h Q
              refine j_iload_n (pc := 54) dX0_totalOf_54 rfl ?_
              refine j_icmp_gt (pc := 55) (tgt := 67) dX0_totalOf_55 (by decide) (fun c18 => ?_) (fun c18 => ?_)
              · refine j_iincN (a := i1) (d := 1) (pc := 67) dX0_totalOf_67 rfl (by decide) ?_
                refine j_goto (pc := 70) (tgt := 23) dX0_totalOf_70 (by decide) ?_
                rw [j_be_f c18] at ih1
                exact j_sub rfl ih1
              · refine j_lload_n (pc := 58) dX0_totalOf_58 rfl ?_
                refine j_aload (pc := 59) dX0_totalOf_59 rfl ?_
                refine j_iload_n (pc := 61) dX0_totalOf_61 rfl ?_
                refine j_V1 (rm' := rmX2_totalOf) (pc := 62) dX0_totalOf_62 jlX0_107 (FE i1 hi1) rfl ⟨Nat.le_of_ble_eq_true rfl, Nat.le_of_ble_eq_true rfl, Nat.le_of_ble_eq_true rfl, Nat.le_of_ble_eq_true rfl, Nat.le_of_ble_eq_true rfl, Nat.le_of_ble_eq_true rfl⟩ ?_
                refine s_X2_totalOf (n := (rws i1)) (FE i1 hi1) (FA i1 hi1) (FM i1 hi1) (hr8 i1 hi1) ?_
                show J l G mX0_totalOf _ _ 65 _ [.long (j_sc (eam i1) (eac i1) a0 (rws i1)), .long (j_be (fun e => j_sc (eam e) (eac e) a0 (rws e)) (fun e => dyy e / 30) m0 i1)] h Q
                refine j_ladd (pc := 65) dX0_totalOf_65 ?_
                refine j_lstore_n (pc := 66) dX0_totalOf_66 (by decide) ?_
                refine j_iincN (a := i1) (d := 1) (pc := 67) dX0_totalOf_67 rfl (by decide) ?_
                refine j_goto (pc := 70) (tgt := 23) dX0_totalOf_70 (by decide) ?_
                rw [j_be_t c18] at ih1
                exact j_sub rfl ih1
          · refine j_iload (pc := 23) dX0_totalOf_23 rfl ?_
            refine j_aload_n (pc := 25) dX0_totalOf_25 rfl ?_
            refine j_getf (pc := 26) dX0_totalOf_26 jfX0_106 H0 rfl ?_
            refine j_icmp_geN (a := E) (b := E) (pc := 29) (tgt := 73) dX0_totalOf_29 (by decide) (by omega) (by omega) (fun c19 => ?_) (fun c19 => ?_)
            · refine j_lload_n (pc := 73) dX0_totalOf_73 rfl ?_
              exact j_lret (pc := 74) dX0_totalOf_74 rfl (Nat.le_of_ble_eq_true rfl) (Nat.le_of_ble_eq_true rfl) (K5 c4 c5 c12 c13)
            · exfalso; omega
        · exact absurd c16 (by decide)

set_option maxRecDepth 20000 in
theorem s_X7_open {l : Launch} {G : jG} {h : jH} {Q : Option Value → jH → Prop} {ru dq T : Nat} {dr E C R : Nat} {op dd dk dn : Int32} {da : Nat → Int32} {dm : Nat → Int64} {ea : Nat → Option Nat} {d0 : Int32}  (H0 : h.2 0 = some (jO 7 [.ref 1, .ref 3, .ref 6, .ref 7, .ref 8, .ref 12, .ref ru, .ref dq, .int (nI T)])) (H1 : h.2 12 = some (jO 0 [.ref 13, .int (nI E), .ref dr, .int op, .int (nI C)])) (H2 : h.2 dr = some (jO 2 [.ref (dr + 1), .ref (dr + 2), .int (nI R), .int dd, .int dk, .int dn])) (hE : E ≤ 60) (hdr : 14 ≤ dr) (K1 : ¬ op = 0 → Q (some (.int 0)) h) (K2 : op = 0 → d0 < 0 → Q (some (.int 0)) h) (K3 : op = 0 → ¬ (d0 < 0) → 3600 ≤ d0 → Q (some (.int 0)) h) (K4 : op = 0 → ¬ (d0 < 0) → ¬ (3600 ≤ d0) → (nI C) ≤ (d0 / 30) → E < 60 → Q (some (.int 1)) (j_set (j_set h dr (jO 2 [.ref (dr + 1), .ref (dr + 2), .int 0, .int d0, .int dk, .int dn])) 12 (jO 0 [.ref 13, .int (nI E), .ref dr, .int 1, .int (nI C)]))) (K5 : op = 0 → ¬ (d0 < 0) → ¬ (3600 ≤ d0) → (nI C) ≤ (d0 / 30) → ¬ E < 60 → Q (some (.int 0)) h) (K6 : op = 0 → ¬ (d0 < 0) → ¬ (3600 ≤ d0) → ¬ ((nI C) ≤ (d0 / 30)) → Q (some (.int 0)) h) : J l G mX7_open 0 0 0 (lv_args 0 [.ref 0, .int d0]) [] h Q := by
  refine j_aload_n (pc := 0) dX7_open_0 rfl ?_
  refine j_getf (pc := 1) dX7_open_1 jfX7_45 H0 rfl ?_
  refine j_iload_n (pc := 4) dX7_open_4 rfl ?_
  refine j_V1 (rm' := rmX0_begin) (pc := 5) dX7_open_5 jlX7_130 H1 rfl ⟨Nat.le_of_ble_eq_true rfl, Nat.le_of_ble_eq_true rfl, Nat.le_of_ble_eq_true rfl, Nat.le_of_ble_eq_true rfl, Nat.le_of_ble_eq_true rfl, Nat.le_of_ble_eq_true rfl⟩ ?_
  refine s_X0_begin (E := E) (C := C) (R := R) H1 H2 (by assumption) (by assumption) (fun c1 => ?_) (fun c2 c3 => ?_) (fun c4 c5 c6 => ?_) (fun c7 c8 c9 c10 c11 => ?_) (fun c12 c13 c14 c15 c16 => ?_) (fun c17 c18 c19 c20 => ?_)
  · show J l G mX7_open _ _ 8 _ [.int 0] h Q
    exact j_iret (pc := 8) dX7_open_8 rfl rfl (Nat.le_of_ble_eq_true rfl) (Nat.le_of_ble_eq_true rfl) (K1 c1)
  · show J l G mX7_open _ _ 8 _ [.int 0] h Q
    exact j_iret (pc := 8) dX7_open_8 rfl rfl (Nat.le_of_ble_eq_true rfl) (Nat.le_of_ble_eq_true rfl) (K2 c2 c3)
  · show J l G mX7_open _ _ 8 _ [.int 0] h Q
    exact j_iret (pc := 8) dX7_open_8 rfl rfl (Nat.le_of_ble_eq_true rfl) (Nat.le_of_ble_eq_true rfl) (K3 c4 c5 c6)
  · show J l G mX7_open _ _ 8 _ [.int 1] (j_set (j_set h dr (jO 2 [.ref (dr + 1), .ref (dr + 2), .int 0, .int d0, .int dk, .int dn])) 12 (jO 0 [.ref 13, .int (nI E), .ref dr, .int 1, .int (nI C)])) Q
    exact j_iret (pc := 8) dX7_open_8 rfl rfl (Nat.le_of_ble_eq_true rfl) (Nat.le_of_ble_eq_true rfl) (K4 c7 c8 c9 c10 c11)
  · show J l G mX7_open _ _ 8 _ [.int 0] h Q
    exact j_iret (pc := 8) dX7_open_8 rfl rfl (Nat.le_of_ble_eq_true rfl) (Nat.le_of_ble_eq_true rfl) (K5 c12 c13 c14 c15 c16)
  · show J l G mX7_open _ _ 8 _ [.int 0] h Q
    exact j_iret (pc := 8) dX7_open_8 rfl rfl (Nat.le_of_ble_eq_true rfl) (Nat.le_of_ble_eq_true rfl) (K6 c17 c18 c19 c20)

set_option maxRecDepth 20000 in
theorem s_X7_row {l : Launch} {G : jG} {h : jH} {Q : Option Value → jH → Prop} {ru dq T : Nat} {dr E C R : Nat} {op dd dk dn : Int32} {da : Nat → Int32} {dm : Nat → Int64} {ea : Nat → Option Nat} {a0 : Int32} {v : Int64}  (H0 : h.2 0 = some (jO 7 [.ref 1, .ref 3, .ref 6, .ref 7, .ref 8, .ref 12, .ref ru, .ref dq, .int (nI T)])) (H1 : h.2 12 = some (jO 0 [.ref 13, .int (nI E), .ref dr, .int op, .int (nI C)])) (H2 : h.2 dr = some (jO 2 [.ref (dr + 1), .ref (dr + 2), .int (nI R), .int dd, .int dk, .int dn])) (H3 : h.2 (dr + 1) = some (jI 8 da)) (H4 : h.2 (dr + 2) = some (jL 8 dm)) (hE : E ≤ 60) (hdr : 14 ≤ dr) (hR : R ≤ 8) (K1 : op = 0 → Q (some (.int (-1))) h) (K2 : ¬ op = 0 → a0 < 0 → Q (some (.int (-1))) h) (K3 : ¬ op = 0 → ¬ (a0 < 0) → 20 ≤ a0 → Q (some (.int (-1))) h) (K4 : ¬ op = 0 → ¬ (a0 < 0) → ¬ (20 ≤ a0) → ¬ v = 0 → v < (-1000000000000) → Q (some (.int (-1))) h) (K5 : ¬ op = 0 → ¬ (a0 < 0) → ¬ (20 ≤ a0) → ¬ v = 0 → ¬ (v < (-1000000000000)) → 1000000000000 < v → Q (some (.int (-1))) h) (K6 : ¬ op = 0 → ¬ (a0 < 0) → ¬ (20 ≤ a0) → ¬ v = 0 → ¬ (v < (-1000000000000)) → ¬ (1000000000000 < v) → R < 8 → R < 8 → Q (some (.int (nI (R + 1)))) (j_set (j_set (j_set h (dr + 1) (jI 8 (va_up da R a0))) (dr + 2) (jL 8 (va_up dm R v))) dr (jO 2 [.ref (dr + 1), .ref (dr + 2), .int (nI (R + 1)), .int dd, .int dk, .int dn]))) (K7 : ¬ op = 0 → ¬ (a0 < 0) → ¬ (20 ≤ a0) → ¬ v = 0 → ¬ (v < (-1000000000000)) → ¬ (1000000000000 < v) → R < 8 → ¬ R < 8 → Q (some (.int (nI R))) h) (K8 : ¬ op = 0 → ¬ (a0 < 0) → ¬ (20 ≤ a0) → ¬ v = 0 → ¬ (v < (-1000000000000)) → ¬ (1000000000000 < v) → ¬ R < 8 → Q (some (.int (-1))) h) (K9 : ¬ op = 0 → ¬ (a0 < 0) → ¬ (20 ≤ a0) → v = 0 → Q (some (.int (-1))) h) : J l G mX7_row 0 0 0 (lv_args 0 [.ref 0, .int a0, .long v]) [] h Q := by
  refine j_aload_n (pc := 0) dX7_row_0 rfl ?_
  refine j_getf (pc := 1) dX7_row_1 jfX7_45 H0 rfl ?_
  refine j_iload_n (pc := 4) dX7_row_4 rfl ?_
  refine j_lload_n (pc := 5) dX7_row_5 rfl ?_
  refine j_V2 (rm' := rmX0_addRow) (pc := 6) dX7_row_6 jlX7_133 H1 rfl ⟨Nat.le_of_ble_eq_true rfl, Nat.le_of_ble_eq_true rfl, Nat.le_of_ble_eq_true rfl, Nat.le_of_ble_eq_true rfl, Nat.le_of_ble_eq_true rfl, Nat.le_of_ble_eq_true rfl⟩ ?_
  refine s_X0_addRow (E := E) (C := C) (R := R) H1 H2 H3 H4 (by assumption) (by assumption) (by assumption) (fun c1 => ?_) (fun c2 c3 => ?_) (fun c4 c5 c6 => ?_) (fun c7 c8 c9 c10 c11 => ?_) (fun c12 c13 c14 c15 c16 c17 => ?_) (fun c18 c19 c20 c21 c22 c23 c24 c25 => ?_) (fun c26 c27 c28 c29 c30 c31 c32 c33 => ?_) (fun c34 c35 c36 c37 c38 c39 c40 => ?_) (fun c41 c42 c43 c44 => ?_)
  · show J l G mX7_row _ _ 9 _ [.int (-1)] h Q
    exact j_iret (pc := 9) dX7_row_9 rfl rfl (Nat.le_of_ble_eq_true rfl) (Nat.le_of_ble_eq_true rfl) (K1 c1)
  · show J l G mX7_row _ _ 9 _ [.int (-1)] h Q
    exact j_iret (pc := 9) dX7_row_9 rfl rfl (Nat.le_of_ble_eq_true rfl) (Nat.le_of_ble_eq_true rfl) (K2 c2 c3)
  · show J l G mX7_row _ _ 9 _ [.int (-1)] h Q
    exact j_iret (pc := 9) dX7_row_9 rfl rfl (Nat.le_of_ble_eq_true rfl) (Nat.le_of_ble_eq_true rfl) (K3 c4 c5 c6)
  · show J l G mX7_row _ _ 9 _ [.int (-1)] h Q
    exact j_iret (pc := 9) dX7_row_9 rfl rfl (Nat.le_of_ble_eq_true rfl) (Nat.le_of_ble_eq_true rfl) (K4 c7 c8 c9 c10 c11)
  · show J l G mX7_row _ _ 9 _ [.int (-1)] h Q
    exact j_iret (pc := 9) dX7_row_9 rfl rfl (Nat.le_of_ble_eq_true rfl) (Nat.le_of_ble_eq_true rfl) (K5 c12 c13 c14 c15 c16 c17)
  · show J l G mX7_row _ _ 9 _ [.int (nI (R + 1))] (j_set (j_set (j_set h (dr + 1) (jI 8 (va_up da R a0))) (dr + 2) (jL 8 (va_up dm R v))) dr (jO 2 [.ref (dr + 1), .ref (dr + 2), .int (nI (R + 1)), .int dd, .int dk, .int dn])) Q
    exact j_iret (pc := 9) dX7_row_9 rfl rfl (Nat.le_of_ble_eq_true rfl) (Nat.le_of_ble_eq_true rfl) (K6 c18 c19 c20 c21 c22 c23 c24 c25)
  · show J l G mX7_row _ _ 9 _ [.int (nI R)] h Q
    exact j_iret (pc := 9) dX7_row_9 rfl rfl (Nat.le_of_ble_eq_true rfl) (Nat.le_of_ble_eq_true rfl) (K7 c26 c27 c28 c29 c30 c31 c32 c33)
  · show J l G mX7_row _ _ 9 _ [.int (-1)] h Q
    exact j_iret (pc := 9) dX7_row_9 rfl rfl (Nat.le_of_ble_eq_true rfl) (Nat.le_of_ble_eq_true rfl) (K8 c34 c35 c36 c37 c38 c39 c40)
  · show J l G mX7_row _ _ 9 _ [.int (-1)] h Q
    exact j_iret (pc := 9) dX7_row_9 rfl rfl (Nat.le_of_ble_eq_true rfl) (Nat.le_of_ble_eq_true rfl) (K9 c41 c42 c43 c44)

set_option maxRecDepth 20000 in
theorem s_X7_enter {l : Launch} {G : jG} {h : jH} {Q : Option Value → jH → Prop} {ru dq T : Nat} {dr E C R : Nat} {op dd dk dn : Int32} {da : Nat → Int32} {dm : Nat → Int64} {ea : Nat → Option Nat} {nx : Nat}  (H0 : h.2 0 = some (jO 7 [.ref 1, .ref 3, .ref 6, .ref 7, .ref 8, .ref 12, .ref ru, .ref dq, .int (nI T)])) (H1 : h.2 12 = some (jO 0 [.ref 13, .int (nI E), .ref dr, .int op, .int (nI C)])) (H2 : h.2 13 = some (jQ 5 60 ea)) (H3 : h.2 dr = some (jO 2 [.ref (dr + 1), .ref (dr + 2), .int (nI R), .int dd, .int dk, .int dn])) (H4 : h.2 (dr + 2) = some (jL 8 dm)) (hx : h.1 = nx) (hE : E ≤ 60) (hdr : 14 ≤ dr) (hR : R ≤ 8) (hnd : dr < nx) (K1 : ¬ op = 0 → R = 0 → Q (some (.int 0)) h) (K2 : ¬ op = 0 → ¬ R = 0 → ¬ (j_sm dm R) = 0 → Q (some (.int 0)) h) (K3 : ¬ op = 0 → ¬ R = 0 → (j_sm dm R) = 0 → E < 60 → 60 ≤ E → Q (some (.int (nI E))) (j_set (j_set (j_set (j_set (j_inc h 3) nx (jO 2 [.ref (nx + 1), .ref (nx + 2), .int 0, .int 0, .int 0, .int 0])) (nx + 1) (jI 8 (fun _ => 0))) (nx + 2) (jL 8 (fun _ => 0))) 12 (jO 0 [.ref 13, .int (nI E), .ref nx, .int 0, .int (nI C)]))) (K4 : ¬ op = 0 → ¬ R = 0 → (j_sm dm R) = 0 → E < 60 → ¬ 60 ≤ E → Q (some (.int (nI (E + 1)))) (j_set (j_set (j_set (j_set (j_set (j_inc h 3) 13 (jQ 5 60 (va_up ea E (some dr)))) 12 (jO 0 [.ref 13, .int (nI (E + 1)), .ref nx, .int 0, .int (nI C)])) nx (jO 2 [.ref (nx + 1), .ref (nx + 2), .int 0, .int 0, .int 0, .int 0])) (nx + 1) (jI 8 (fun _ => 0))) (nx + 2) (jL 8 (fun _ => 0)))) (K5 : ¬ op = 0 → ¬ R = 0 → (j_sm dm R) = 0 → ¬ E < 60 → Q (some (.int 0)) h) (K6 : op = 0 → Q (some (.int (-1))) h) : J l G mX7_enter 0 0 0 (lv_args 0 [.ref 0]) [] h Q := by
  refine j_aload_n (pc := 0) dX7_enter_0 rfl ?_
  refine j_getf (pc := 1) dX7_enter_1 jfX7_45 H0 rfl ?_
  refine j_V0 (rm' := rmX0_takeIn) (pc := 4) dX7_enter_4 jlX7_137 H1 rfl ⟨Nat.le_of_ble_eq_true rfl, Nat.le_of_ble_eq_true rfl, Nat.le_of_ble_eq_true rfl, Nat.le_of_ble_eq_true rfl, Nat.le_of_ble_eq_true rfl, Nat.le_of_ble_eq_true rfl⟩ ?_
  refine s_X0_takeIn (E := E) (C := C) (R := R) (nx := nx) H1 H2 H3 H4 hx (by assumption) (by assumption) (by assumption) (by assumption) (fun c1 c2 => ?_) (fun c3 c4 c5 => ?_) (fun c6 c7 c8 c9 c10 => ?_) (fun c11 c12 c13 c14 c15 => ?_) (fun c16 c17 c18 c19 => ?_) (fun c20 => ?_)
  · show J l G mX7_enter _ _ 7 _ [.int 0] h Q
    exact j_iret (pc := 7) dX7_enter_7 rfl rfl (Nat.le_of_ble_eq_true rfl) (Nat.le_of_ble_eq_true rfl) (K1 c1 c2)
  · show J l G mX7_enter _ _ 7 _ [.int 0] h Q
    exact j_iret (pc := 7) dX7_enter_7 rfl rfl (Nat.le_of_ble_eq_true rfl) (Nat.le_of_ble_eq_true rfl) (K2 c3 c4 c5)
  · show J l G mX7_enter _ _ 7 _ [.int (nI E)] (j_set (j_set (j_set (j_set (j_inc h 3) nx (jO 2 [.ref (nx + 1), .ref (nx + 2), .int 0, .int 0, .int 0, .int 0])) (nx + 1) (jI 8 (fun _ => 0))) (nx + 2) (jL 8 (fun _ => 0))) 12 (jO 0 [.ref 13, .int (nI E), .ref nx, .int 0, .int (nI C)])) Q
    exact j_iret (pc := 7) dX7_enter_7 rfl rfl (Nat.le_of_ble_eq_true rfl) (Nat.le_of_ble_eq_true rfl) (K3 c6 c7 c8 c9 c10)
  · show J l G mX7_enter _ _ 7 _ [.int (nI (E + 1))] (j_set (j_set (j_set (j_set (j_set (j_inc h 3) 13 (jQ 5 60 (va_up ea E (some dr)))) 12 (jO 0 [.ref 13, .int (nI (E + 1)), .ref nx, .int 0, .int (nI C)])) nx (jO 2 [.ref (nx + 1), .ref (nx + 2), .int 0, .int 0, .int 0, .int 0])) (nx + 1) (jI 8 (fun _ => 0))) (nx + 2) (jL 8 (fun _ => 0))) Q
    exact j_iret (pc := 7) dX7_enter_7 rfl rfl (Nat.le_of_ble_eq_true rfl) (Nat.le_of_ble_eq_true rfl) (K4 c11 c12 c13 c14 c15)
  · show J l G mX7_enter _ _ 7 _ [.int 0] h Q
    exact j_iret (pc := 7) dX7_enter_7 rfl rfl (Nat.le_of_ble_eq_true rfl) (Nat.le_of_ble_eq_true rfl) (K5 c16 c17 c18 c19)
  · show J l G mX7_enter _ _ 7 _ [.int (-1)] h Q
    exact j_iret (pc := 7) dX7_enter_7 rfl rfl (Nat.le_of_ble_eq_true rfl) (Nat.le_of_ble_eq_true rfl) (K6 c20)

set_option maxRecDepth 20000 in
theorem s_X7_drop {l : Launch} {G : jG} {h : jH} {Q : Option Value → jH → Prop} {ru dq T : Nat} {dr E C R : Nat} {op dd dk dn : Int32} {da : Nat → Int32} {dm : Nat → Int64} {ea : Nat → Option Nat}  (H0 : h.2 0 = some (jO 7 [.ref 1, .ref 3, .ref 6, .ref 7, .ref 8, .ref 12, .ref ru, .ref dq, .int (nI T)])) (H1 : h.2 12 = some (jO 0 [.ref 13, .int (nI E), .ref dr, .int op, .int (nI C)])) (H2 : h.2 dr = some (jO 2 [.ref (dr + 1), .ref (dr + 2), .int (nI R), .int dd, .int dk, .int dn])) (hE : E ≤ 60) (hdr : 14 ≤ dr) (K1 : ¬ op = 0 → Q (some (.int (nI R))) (j_set h 12 (jO 0 [.ref 13, .int (nI E), .ref dr, .int 0, .int (nI C)]))) (K2 : op = 0 → Q (some (.int (-1))) h) : J l G mX7_drop 0 0 0 (lv_args 0 [.ref 0]) [] h Q := by
  refine j_aload_n (pc := 0) dX7_drop_0 rfl ?_
  refine j_getf (pc := 1) dX7_drop_1 jfX7_45 H0 rfl ?_
  refine j_V0 (rm' := rmX0_giveUp) (pc := 4) dX7_drop_4 jlX7_140 H1 rfl ⟨Nat.le_of_ble_eq_true rfl, Nat.le_of_ble_eq_true rfl, Nat.le_of_ble_eq_true rfl, Nat.le_of_ble_eq_true rfl, Nat.le_of_ble_eq_true rfl, Nat.le_of_ble_eq_true rfl⟩ ?_
  refine s_X0_giveUp (E := E) (C := C) (R := R) H1 H2 (by assumption) (by assumption) (fun c1 => ?_) (fun c2 => ?_)
  · show J l G mX7_drop _ _ 7 _ [.int (nI R)] (j_set h 12 (jO 0 [.ref 13, .int (nI E), .ref dr, .int 0, .int (nI C)])) Q
    exact j_iret (pc := 7) dX7_drop_7 rfl rfl (Nat.le_of_ble_eq_true rfl) (Nat.le_of_ble_eq_true rfl) (K1 c1)
  · show J l G mX7_drop _ _ 7 _ [.int (-1)] h Q
    exact j_iret (pc := 7) dX7_drop_7 rfl rfl (Nat.le_of_ble_eq_true rfl) (Nat.le_of_ble_eq_true rfl) (K2 c2)

set_option maxRecDepth 20000 in
theorem s_X7_closeMonth {l : Launch} {G : jG} {h : jH} {Q : Option Value → jH → Prop} {ru dq T : Nat} {dr E C R : Nat} {op dd dk dn : Int32} {da : Nat → Int32} {dm : Nat → Int64} {ea : Nat → Option Nat} {m0 : Int32}  (H0 : h.2 0 = some (jO 7 [.ref 1, .ref 3, .ref 6, .ref 7, .ref 8, .ref 12, .ref ru, .ref dq, .int (nI T)])) (H1 : h.2 12 = some (jO 0 [.ref 13, .int (nI E), .ref dr, .int op, .int (nI C)])) (H2 : h.2 dr = some (jO 2 [.ref (dr + 1), .ref (dr + 2), .int (nI R), .int dd, .int dk, .int dn])) (hE : E ≤ 60) (hdr : 14 ≤ dr) (K1 : m0 < 0 → Q (some (.int (-1))) h) (K2 : ¬ (m0 < 0) → 120 ≤ m0 → Q (some (.int (-1))) h) (K3 : ¬ (m0 < 0) → ¬ (120 ≤ m0) → op = 0 → Q (some (.int ((if nI C < m0 + 1 then m0 + 1 else nI C) - (nI C)))) (j_set h 12 (jO 0 [.ref 13, .int (nI E), .ref dr, .int op, .int (if nI C < m0 + 1 then m0 + 1 else nI C)]))) (K4 : ¬ (m0 < 0) → ¬ (120 ≤ m0) → ¬ op = 0 → m0 < (dd / 30) → Q (some (.int ((if nI C < m0 + 1 then m0 + 1 else nI C) - (nI C)))) (j_set h 12 (jO 0 [.ref 13, .int (nI E), .ref dr, .int op, .int (if nI C < m0 + 1 then m0 + 1 else nI C)]))) (K5 : ¬ (m0 < 0) → ¬ (120 ≤ m0) → ¬ op = 0 → ¬ (m0 < (dd / 30)) → Q (some (.int (-1))) h) : J l G mX7_closeMonth 0 0 0 (lv_args 0 [.ref 0, .int m0]) [] h Q := by
  refine j_aload_n (pc := 0) dX7_closeMonth_0 rfl ?_
  refine j_getf (pc := 1) dX7_closeMonth_1 jfX7_45 H0 rfl ?_
  refine j_iload_n (pc := 4) dX7_closeMonth_4 rfl ?_
  refine j_V1 (rm' := rmX0_closeUpTo) (pc := 5) dX7_closeMonth_5 jlX7_143 H1 rfl ⟨Nat.le_of_ble_eq_true rfl, Nat.le_of_ble_eq_true rfl, Nat.le_of_ble_eq_true rfl, Nat.le_of_ble_eq_true rfl, Nat.le_of_ble_eq_true rfl, Nat.le_of_ble_eq_true rfl⟩ ?_
  refine s_X0_closeUpTo (E := E) (C := C) (R := R) H1 H2 (by assumption) (by assumption) (fun c1 => ?_) (fun c2 c3 => ?_) (fun c4 c5 c6 => ?_) (fun c7 c8 c9 c10 => ?_) (fun c11 c12 c13 c14 => ?_)
  · show J l G mX7_closeMonth _ _ 8 _ [.int (-1)] h Q
    exact j_iret (pc := 8) dX7_closeMonth_8 rfl rfl (Nat.le_of_ble_eq_true rfl) (Nat.le_of_ble_eq_true rfl) (K1 c1)
  · show J l G mX7_closeMonth _ _ 8 _ [.int (-1)] h Q
    exact j_iret (pc := 8) dX7_closeMonth_8 rfl rfl (Nat.le_of_ble_eq_true rfl) (Nat.le_of_ble_eq_true rfl) (K2 c2 c3)
  · show J l G mX7_closeMonth _ _ 8 _ [.int ((if nI C < m0 + 1 then m0 + 1 else nI C) - (nI C))] (j_set h 12 (jO 0 [.ref 13, .int (nI E), .ref dr, .int op, .int (if nI C < m0 + 1 then m0 + 1 else nI C)])) Q
    exact j_iret (pc := 8) dX7_closeMonth_8 rfl rfl (Nat.le_of_ble_eq_true rfl) (Nat.le_of_ble_eq_true rfl) (K3 c4 c5 c6)
  · show J l G mX7_closeMonth _ _ 8 _ [.int ((if nI C < m0 + 1 then m0 + 1 else nI C) - (nI C))] (j_set h 12 (jO 0 [.ref 13, .int (nI E), .ref dr, .int op, .int (if nI C < m0 + 1 then m0 + 1 else nI C)])) Q
    exact j_iret (pc := 8) dX7_closeMonth_8 rfl rfl (Nat.le_of_ble_eq_true rfl) (Nat.le_of_ble_eq_true rfl) (K4 c7 c8 c9 c10)
  · show J l G mX7_closeMonth _ _ 8 _ [.int (-1)] h Q
    exact j_iret (pc := 8) dX7_closeMonth_8 rfl rfl (Nat.le_of_ble_eq_true rfl) (Nat.le_of_ble_eq_true rfl) (K5 c11 c12 c13 c14)

set_option maxRecDepth 20000 in
theorem s_X7_balance {l : Launch} {G : jG} {h : jH} {Q : Option Value → jH → Prop} {ru dq T : Nat} {dr E C : Nat} {op : Int32} {eb rws : Nat → Nat} {dyy tkk tnn : Nat → Int32} {eac : Nat → Nat → Int32} {eam : Nat → Nat → Int64} {ea : Nat → Option Nat} {a0 m0 : Int32}  (H0 : h.2 0 = some (jO 7 [.ref 1, .ref 3, .ref 6, .ref 7, .ref 8, .ref 12, .ref ru, .ref dq, .int (nI T)])) (H1 : h.2 12 = some (jO 0 [.ref 13, .int (nI E), .ref dr, .int op, .int (nI C)])) (H2 : h.2 13 = some (jQ 5 60 ea)) (FE : ∀ e, e < E → h.2 (eb e) = some (jO 2 [.ref (eb e + 1), .ref (eb e + 2), .int (nI (rws e)), .int (dyy e), .int (tkk e), .int (tnn e)])) (FA : ∀ e, e < E → h.2 (eb e + 1) = some (jI 8 (eac e))) (FM : ∀ e, e < E → h.2 (eb e + 2) = some (jL 8 (eam e))) (hE : E ≤ 60) (hea : ∀ e, e < E → ea e = some (eb e)) (hr8 : ∀ e, e < E → rws e ≤ 8) (K1 : a0 < 0 → Q (some (.long (-9223372036854775808))) h) (K2 : ¬ (a0 < 0) → 20 ≤ a0 → Q (some (.long (-9223372036854775808))) h) (K3 : ¬ (a0 < 0) → ¬ (20 ≤ a0) → m0 < 0 → Q (some (.long (-9223372036854775808))) h) (K4 : ¬ (a0 < 0) → ¬ (20 ≤ a0) → ¬ (m0 < 0) → 120 ≤ m0 → Q (some (.long (-9223372036854775808))) h) (K5 : ¬ (a0 < 0) → ¬ (20 ≤ a0) → ¬ (m0 < 0) → ¬ (120 ≤ m0) → Q (some (.long (j_be (fun e => j_sc (eam e) (eac e) a0 (rws e)) (fun e => dyy e / 30) m0 E))) h) : J l G mX7_balance 0 0 0 (lv_args 0 [.ref 0, .int a0, .int m0]) [] h Q := by
  refine j_aload_n (pc := 0) dX7_balance_0 rfl ?_
  refine j_getf (pc := 1) dX7_balance_1 jfX7_45 H0 rfl ?_
  refine j_iload_n (pc := 4) dX7_balance_4 rfl ?_
  refine j_iload_n (pc := 5) dX7_balance_5 rfl ?_
  refine j_V2 (rm' := rmX0_totalOf) (pc := 6) dX7_balance_6 jlX7_150 H1 rfl ⟨Nat.le_of_ble_eq_true rfl, Nat.le_of_ble_eq_true rfl, Nat.le_of_ble_eq_true rfl, Nat.le_of_ble_eq_true rfl, Nat.le_of_ble_eq_true rfl, Nat.le_of_ble_eq_true rfl⟩ ?_
  refine s_X0_totalOf (E := E) (C := C) H1 H2 FE FA FM (by assumption) (by assumption) (by assumption) (fun c1 => ?_) (fun c2 c3 => ?_) (fun c4 c5 c6 => ?_) (fun c7 c8 c9 c10 => ?_) (fun c11 c12 c13 c14 => ?_)
  · show J l G mX7_balance _ _ 9 _ [.long (-9223372036854775808)] h Q
    exact j_lret (pc := 9) dX7_balance_9 rfl (Nat.le_of_ble_eq_true rfl) (Nat.le_of_ble_eq_true rfl) (K1 c1)
  · show J l G mX7_balance _ _ 9 _ [.long (-9223372036854775808)] h Q
    exact j_lret (pc := 9) dX7_balance_9 rfl (Nat.le_of_ble_eq_true rfl) (Nat.le_of_ble_eq_true rfl) (K2 c2 c3)
  · show J l G mX7_balance _ _ 9 _ [.long (-9223372036854775808)] h Q
    exact j_lret (pc := 9) dX7_balance_9 rfl (Nat.le_of_ble_eq_true rfl) (Nat.le_of_ble_eq_true rfl) (K3 c4 c5 c6)
  · show J l G mX7_balance _ _ 9 _ [.long (-9223372036854775808)] h Q
    exact j_lret (pc := 9) dX7_balance_9 rfl (Nat.le_of_ble_eq_true rfl) (Nat.le_of_ble_eq_true rfl) (K4 c7 c8 c9 c10)
  · show J l G mX7_balance _ _ 9 _ [.long (j_be (fun e => j_sc (eam e) (eac e) a0 (rws e)) (fun e => dyy e / 30) m0 E)] h Q
    exact j_lret (pc := 9) dX7_balance_9 rfl (Nat.le_of_ble_eq_true rfl) (Nat.le_of_ble_eq_true rfl) (K5 c11 c12 c13 c14)

set_option maxRecDepth 20000 in
theorem s_X7_entry {l : Launch} {G : jG} {h : jH} {Q : Option Value → jH → Prop} {ru dq T : Nat} {dr E C : Nat} {op : Int32} {eb rws : Nat → Nat} {dyy tkk tnn : Nat → Int32} {eac : Nat → Nat → Int32} {eam : Nat → Nat → Int64} {ea : Nat → Option Nat} {n0 r0 w0 : Int32}  (H0 : h.2 0 = some (jO 7 [.ref 1, .ref 3, .ref 6, .ref 7, .ref 8, .ref 12, .ref ru, .ref dq, .int (nI T)])) (H1 : h.2 12 = some (jO 0 [.ref 13, .int (nI E), .ref dr, .int op, .int (nI C)])) (H2 : h.2 13 = some (jQ 5 60 ea)) (FE : ∀ e, e < E → h.2 (eb e) = some (jO 2 [.ref (eb e + 1), .ref (eb e + 2), .int (nI (rws e)), .int (dyy e), .int (tkk e), .int (tnn e)])) (FA : ∀ e, e < E → h.2 (eb e + 1) = some (jI 8 (eac e))) (FM : ∀ e, e < E → h.2 (eb e + 2) = some (jL 8 (eam e))) (hE : E ≤ 60) (hea : ∀ e, e < E → ea e = some (eb e)) (hr8 : ∀ e, e < E → rws e ≤ 8) (K1 : n0 < 1 → Q (some (.long (-9223372036854775808))) h) (K2 : ¬ (n0 < 1) → (nI E) < n0 → Q (some (.long (-9223372036854775808))) h) (K3 : ¬ (n0 < 1) → ¬ ((nI E) < n0) → ∀ t6 : Nat, n0 = nI (t6 + 1) → t6 < E → ¬ r0 = (-1) → r0 < 0 → Q (some (.long (-9223372036854775808))) h) (K4 : ¬ (n0 < 1) → ¬ ((nI E) < n0) → ∀ t11 : Nat, n0 = nI (t11 + 1) → t11 < E → ¬ r0 = (-1) → ¬ (r0 < 0) → (nI (rws t11)) ≤ r0 → Q (some (.long (-9223372036854775808))) h) (K5 : ¬ (n0 < 1) → ¬ ((nI E) < n0) → ∀ t17 : Nat, n0 = nI (t17 + 1) → t17 < E → ¬ r0 = (-1) → ¬ (r0 < 0) → ¬ ((nI (rws t17)) ≤ r0) → w0 < 0 → Q (some (.long (-9223372036854775808))) h) (K6 : ¬ (n0 < 1) → ¬ ((nI E) < n0) → ∀ t24 : Nat, n0 = nI (t24 + 1) → t24 < E → ¬ r0 = (-1) → ¬ (r0 < 0) → ¬ ((nI (rws t24)) ≤ r0) → ¬ (w0 < 0) → w0 ≤ 1 → ∀ t30 : Nat, r0 = nI t30 → t30 < (rws t24) → ¬ w0 = 0 → Q (some (.long ((eam t24) t30))) h) (K7 : ¬ (n0 < 1) → ¬ ((nI E) < n0) → ∀ t34 : Nat, n0 = nI (t34 + 1) → t34 < E → ¬ r0 = (-1) → ¬ (r0 < 0) → ¬ ((nI (rws t34)) ≤ r0) → ¬ (w0 < 0) → w0 ≤ 1 → ∀ t40 : Nat, r0 = nI t40 → t40 < (rws t34) → w0 = 0 → Q (some (.long (((eac t34) t40).toInt64))) h) (K8 : ¬ (n0 < 1) → ¬ ((nI E) < n0) → ∀ t44 : Nat, n0 = nI (t44 + 1) → t44 < E → ¬ r0 = (-1) → ¬ (r0 < 0) → ¬ ((nI (rws t44)) ≤ r0) → ¬ (w0 < 0) → ¬ (w0 ≤ 1) → Q (some (.long (-9223372036854775808))) h) (K9 : ¬ (n0 < 1) → ¬ ((nI E) < n0) → ∀ t52 : Nat, n0 = nI (t52 + 1) → t52 < E → r0 = (-1) → w0 = 0 → Q (some (.long ((dyy t52).toInt64))) h) (K10 : ¬ (n0 < 1) → ¬ ((nI E) < n0) → ∀ t57 : Nat, n0 = nI (t57 + 1) → t57 < E → r0 = (-1) → ¬ w0 = 0 → w0 = 1 → Q (some (.long ((nI (rws t57)).toInt64))) h) (K11 : ¬ (n0 < 1) → ¬ ((nI E) < n0) → ∀ t63 : Nat, n0 = nI (t63 + 1) → t63 < E → r0 = (-1) → ¬ w0 = 0 → ¬ w0 = 1 → w0 = 2 → Q (some (.long ((tkk t63).toInt64))) h) (K12 : ¬ (n0 < 1) → ¬ ((nI E) < n0) → ∀ t70 : Nat, n0 = nI (t70 + 1) → t70 < E → r0 = (-1) → ¬ w0 = 0 → ¬ w0 = 1 → ¬ w0 = 2 → w0 = 3 → Q (some (.long ((tnn t70).toInt64))) h) (K13 : ¬ (n0 < 1) → ¬ ((nI E) < n0) → ∀ t78 : Nat, n0 = nI (t78 + 1) → t78 < E → r0 = (-1) → ¬ w0 = 0 → ¬ w0 = 1 → ¬ w0 = 2 → ¬ w0 = 3 → Q (some (.long (-9223372036854775808))) h) : J l G mX7_entry 0 0 0 (lv_args 0 [.ref 0, .int n0, .int r0, .int w0]) [] h Q := by
  refine j_aload_n (pc := 0) dX7_entry_0 rfl ?_
  refine j_getf (pc := 1) dX7_entry_1 jfX7_45 H0 rfl ?_
  refine j_iload_n (pc := 4) dX7_entry_4 rfl ?_
  refine j_iload_n (pc := 5) dX7_entry_5 rfl ?_
  refine j_iload_n (pc := 6) dX7_entry_6 rfl ?_
  refine j_V3 (rm' := rmX0_tell) (pc := 7) dX7_entry_7 jlX7_154 H1 rfl ⟨Nat.le_of_ble_eq_true rfl, Nat.le_of_ble_eq_true rfl, Nat.le_of_ble_eq_true rfl, Nat.le_of_ble_eq_true rfl, Nat.le_of_ble_eq_true rfl, Nat.le_of_ble_eq_true rfl⟩ ?_
  refine s_X0_tell (E := E) (C := C) H1 H2 FE FA FM (by assumption) (by assumption) (by assumption) (fun c1 => ?_) (fun c2 c3 => ?_) (fun c4 c5 t6 ec6 ht6 c7 c8 => ?_) (fun c9 c10 t11 ec11 ht11 c12 c13 c14 => ?_) (fun c15 c16 t17 ec17 ht17 c18 c19 c20 c21 => ?_) (fun c22 c23 t24 ec24 ht24 c25 c26 c27 c28 c29 t30 ec30 ht30 c31 => ?_) (fun c32 c33 t34 ec34 ht34 c35 c36 c37 c38 c39 t40 ec40 ht40 c41 => ?_) (fun c42 c43 t44 ec44 ht44 c45 c46 c47 c48 c49 => ?_) (fun c50 c51 t52 ec52 ht52 c53 c54 => ?_) (fun c55 c56 t57 ec57 ht57 c58 c59 c60 => ?_) (fun c61 c62 t63 ec63 ht63 c64 c65 c66 c67 => ?_) (fun c68 c69 t70 ec70 ht70 c71 c72 c73 c74 c75 => ?_) (fun c76 c77 t78 ec78 ht78 c79 c80 c81 c82 c83 => ?_)
  · show J l G mX7_entry _ _ 10 _ [.long (-9223372036854775808)] h Q
    exact j_lret (pc := 10) dX7_entry_10 rfl (Nat.le_of_ble_eq_true rfl) (Nat.le_of_ble_eq_true rfl) (K1 c1)
  · show J l G mX7_entry _ _ 10 _ [.long (-9223372036854775808)] h Q
    exact j_lret (pc := 10) dX7_entry_10 rfl (Nat.le_of_ble_eq_true rfl) (Nat.le_of_ble_eq_true rfl) (K2 c2 c3)
  · show J l G mX7_entry _ _ 10 _ [.long (-9223372036854775808)] h Q
    subst ec6
    exact j_lret (pc := 10) dX7_entry_10 rfl (Nat.le_of_ble_eq_true rfl) (Nat.le_of_ble_eq_true rfl) (K3 c4 c5 t6 rfl ht6 c7 c8)
  · show J l G mX7_entry _ _ 10 _ [.long (-9223372036854775808)] h Q
    subst ec11
    exact j_lret (pc := 10) dX7_entry_10 rfl (Nat.le_of_ble_eq_true rfl) (Nat.le_of_ble_eq_true rfl) (K4 c9 c10 t11 rfl ht11 c12 c13 c14)
  · show J l G mX7_entry _ _ 10 _ [.long (-9223372036854775808)] h Q
    subst ec17
    exact j_lret (pc := 10) dX7_entry_10 rfl (Nat.le_of_ble_eq_true rfl) (Nat.le_of_ble_eq_true rfl) (K5 c15 c16 t17 rfl ht17 c18 c19 c20 c21)
  · show J l G mX7_entry _ _ 10 _ [.long ((eam t24) t30)] h Q
    subst ec24
    subst ec30
    exact j_lret (pc := 10) dX7_entry_10 rfl (Nat.le_of_ble_eq_true rfl) (Nat.le_of_ble_eq_true rfl) (K6 c22 c23 t24 rfl ht24 c25 c26 c27 c28 c29 t30 rfl ht30 c31)
  · show J l G mX7_entry _ _ 10 _ [.long (((eac t34) t40).toInt64)] h Q
    subst ec34
    subst ec40
    exact j_lret (pc := 10) dX7_entry_10 rfl (Nat.le_of_ble_eq_true rfl) (Nat.le_of_ble_eq_true rfl) (K7 c32 c33 t34 rfl ht34 c35 c36 c37 c38 c39 t40 rfl ht40 c41)
  · show J l G mX7_entry _ _ 10 _ [.long (-9223372036854775808)] h Q
    subst ec44
    exact j_lret (pc := 10) dX7_entry_10 rfl (Nat.le_of_ble_eq_true rfl) (Nat.le_of_ble_eq_true rfl) (K8 c42 c43 t44 rfl ht44 c45 c46 c47 c48 c49)
  · show J l G mX7_entry _ _ 10 _ [.long ((dyy t52).toInt64)] h Q
    subst ec52
    exact j_lret (pc := 10) dX7_entry_10 rfl (Nat.le_of_ble_eq_true rfl) (Nat.le_of_ble_eq_true rfl) (K9 c50 c51 t52 rfl ht52 c53 c54)
  · show J l G mX7_entry _ _ 10 _ [.long ((nI (rws t57)).toInt64)] h Q
    subst ec57
    exact j_lret (pc := 10) dX7_entry_10 rfl (Nat.le_of_ble_eq_true rfl) (Nat.le_of_ble_eq_true rfl) (K10 c55 c56 t57 rfl ht57 c58 c59 c60)
  · show J l G mX7_entry _ _ 10 _ [.long ((tkk t63).toInt64)] h Q
    subst ec63
    exact j_lret (pc := 10) dX7_entry_10 rfl (Nat.le_of_ble_eq_true rfl) (Nat.le_of_ble_eq_true rfl) (K11 c61 c62 t63 rfl ht63 c64 c65 c66 c67)
  · show J l G mX7_entry _ _ 10 _ [.long ((tnn t70).toInt64)] h Q
    subst ec70
    exact j_lret (pc := 10) dX7_entry_10 rfl (Nat.le_of_ble_eq_true rfl) (Nat.le_of_ble_eq_true rfl) (K12 c68 c69 t70 rfl ht70 c71 c72 c73 c74 c75)
  · show J l G mX7_entry _ _ 10 _ [.long (-9223372036854775808)] h Q
    subst ec78
    exact j_lret (pc := 10) dX7_entry_10 rfl (Nat.le_of_ble_eq_true rfl) (Nat.le_of_ble_eq_true rfl) (K13 c76 c77 t78 rfl ht78 c79 c80 c81 c82 c83)
