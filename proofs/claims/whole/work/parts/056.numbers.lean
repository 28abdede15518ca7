/-- where the digits from a on end -/
def x_dg (tx : Nat → Int32) (L a : Nat) : Nat := j_sk (fun j => !(decide (tx j < 48)) && decide (tx j ≤ 57)) L (L - a) a
theorem x_dg_spec (tx : Nat → Int32) {L a : Nat} (h : a ≤ L) : a ≤ x_dg tx L a ∧ x_dg tx L a ≤ L ∧ (∀ j, a ≤ j → j < x_dg tx L a → j < L ∧ ¬ tx j < 48 ∧ tx j ≤ 57) ∧ (x_dg tx L a < L → ¬ tx (x_dg tx L a) < 48 → ¬ tx (x_dg tx L a) ≤ 57) := by
  obtain ⟨h1, h2, h3, h4⟩ := j_sk_spec (fun j => !(decide (tx j < 48)) && decide (tx j ≤ 57)) L (L - a) a (by omega)
  refine ⟨h1, h2 h, fun j h5 h6 => ?_, fun h5 h6 h7 => ?_⟩
  · have := h3 j h5 h6
    simpa using this
  · refine h4 h5 ?_
    show (!(decide (tx (x_dg tx L a) < 48)) && decide (tx (x_dg tx L a) ≤ 57)) = true
    rw [decide_eq_false h6, decide_eq_true h7]
    rfl
/-- the number that the first i digits from a on are: as the model, as the class counts -/
def x_nm (tx : Nat → Int32) (a : Nat) : Nat → Int32
  | 0 => 0
  | i + 1 => 10 * x_nm tx a i + tx (a + i) - 48
def x_nc (tx : Nat → Int32) (a : Nat) : Nat → Int32
  | 0 => 0
  | i + 1 => 10 * x_nc tx a i + (tx (a + i) - 48)

set_option maxRecDepth 20000 in
theorem s_X8_number {l : Launch} {G : jG} {h : jH} {Q : Option Value → jH → Prop} {cl es fr m0 op ps ts wd : Int32} {L a : Nat} {tx : Nat → Int32}  (H0 : h.2 27 = some (mO (nI L) (nI a) fr wd ps ts es op cl)) (H1 : h.2 28 = some (jI 600 tx)) (hL : L ≤ 600) (ha : a ≤ L) (K1 : (x_we tx L (x_ws tx L a)) ≤ (x_ws tx L a) → Q (some (.int (-1))) (j_set h 27 (mO (nI L) (nI (x_we tx L (x_ws tx L a))) (nI (x_ws tx L a)) wd ps ts es op cl))) (K2 : ¬ (x_we tx L (x_ws tx L a)) ≤ (x_ws tx L a) → ((x_we tx L (x_ws tx L a)) - (x_ws tx L a)) ≤ 6 → (x_we tx L (x_ws tx L a)) ≤ (x_dg tx (x_we tx L (x_ws tx L a)) (x_ws tx L a)) → (x_nm tx (x_ws tx L a) (x_dg tx (x_we tx L (x_ws tx L a)) (x_ws tx L a) - x_ws tx L a)) ≤ m0 → Q (some (.int (x_nm tx (x_ws tx L a) (x_dg tx (x_we tx L (x_ws tx L a)) (x_ws tx L a) - x_ws tx L a)))) (j_set h 27 (mO (nI L) (nI (x_we tx L (x_ws tx L a))) (nI (x_ws tx L a)) (wd + 1) ps ts es op cl))) (K3 : ¬ (x_we tx L (x_ws tx L a)) ≤ (x_ws tx L a) → ((x_we tx L (x_ws tx L a)) - (x_ws tx L a)) ≤ 6 → (x_we tx L (x_ws tx L a)) ≤ (x_dg tx (x_we tx L (x_ws tx L a)) (x_ws tx L a)) → ¬ ((x_nm tx (x_ws tx L a) (x_dg tx (x_we tx L (x_ws tx L a)) (x_ws tx L a) - x_ws tx L a)) ≤ m0) → Q (some (.int (-1))) (j_set h 27 (mO (nI L) (nI (x_we tx L (x_ws tx L a))) (nI (x_ws tx L a)) wd ps ts es op cl))) (K4 : ¬ (x_we tx L (x_ws tx L a)) ≤ (x_ws tx L a) → ((x_we tx L (x_ws tx L a)) - (x_ws tx L a)) ≤ 6 → ¬ (x_we tx L (x_ws tx L a)) ≤ (x_dg tx (x_we tx L (x_ws tx L a)) (x_ws tx L a)) → Q (some (.int (-1))) (j_set h 27 (mO (nI L) (nI (x_we tx L (x_ws tx L a))) (nI (x_ws tx L a)) wd ps ts es op cl))) (K5 : ¬ (x_we tx L (x_ws tx L a)) ≤ (x_ws tx L a) → ¬ ((x_we tx L (x_ws tx L a)) - (x_ws tx L a)) ≤ 6 → Q (some (.int (-1))) (j_set h 27 (mO (nI L) (nI (x_we tx L (x_ws tx L a))) (nI (x_ws tx L a)) wd ps ts es op cl))) : J l G mX8_number 0 0 0 (lv_args 0 [.ref 27, .int m0]) [] h Q := by
  have hs0 := x_ws_spec tx ha
  have hs02 := hs0.2.1
  have ht0 := x_we_spec tx hs02
  have ht02 := ht0.2.1
  refine j_aload_n (pc := 0) dX8_number_0 rfl ?_
  refine j_V0 (rm' := rmX8_isNext) (pc := 1) dX8_number_1 jlX8_94 H0 rfl ⟨Nat.le_of_ble_eq_true rfl, Nat.le_of_ble_eq_true rfl, Nat.le_of_ble_eq_true rfl, Nat.le_of_ble_eq_true rfl, Nat.le_of_ble_eq_true rfl, Nat.le_of_ble_eq_true rfl⟩ ?_
  refine s_X8_isNext (L := L) (a := a) H0 H1 hL ha (fun c1 => ?_) (fun c2 => ?_)
  · show J l G mX8_number _ _ 4 _ [.int 0] (j_set h 27 (mO (nI L) (nI (x_we tx L (x_ws tx L a))) (nI (x_ws tx L a)) wd ps ts es op cl)) Q
    refine j_if_eq (pc := 4) (tgt := 21) dX8_number_4 (by decide) (fun c3 => ?_) (fun c3 => ?_)
    · refine j_iconst (pc := 21) (v := -1) dX8_number_21 (by decide) ?_
      exact j_iret (pc := 22) dX8_number_22 rfl rfl (Nat.le_of_ble_eq_true rfl) (Nat.le_of_ble_eq_true rfl) (K1 c1)
    · exact absurd c3 (by decide)
  · show J l G mX8_number _ _ 4 _ [.int 1] (j_set h 27 (mO (nI L) (nI (x_we tx L (x_ws tx L a))) (nI (x_ws tx L a)) wd ps ts es op cl)) Q
    refine j_if_eq (pc := 4) (tgt := 21) dX8_number_4 (by decide) (fun c4 => ?_) (fun c4 => ?_)
    · exact absurd c4 (by decide)
    · refine j_aload_n (pc := 7) dX8_number_7 rfl ?_
      refine j_getf (pc := 8) dX8_number_8 jfX8_88 j_hs rfl ?_
      refine j_aload_n (pc := 11) dX8_number_11 rfl ?_
      refine j_getf (pc := 12) dX8_number_12 jfX8_91 j_hs rfl ?_
      refine j_isubN (a := x_we tx L (x_ws tx L a)) (b := x_ws tx L a) (pc := 15) dX8_number_15 (by omega) ?_
      refine j_bipush (pc := 16) (v := 6) dX8_number_16 (by decide) ?_
      refine j_icmp_leN (a := (x_we tx L (x_ws tx L a)) - (x_ws tx L a)) (b := 6) (pc := 18) (tgt := 23) dX8_number_18 (by decide) (by omega) (by omega) (fun c5 => ?_) (fun c5 => ?_)
      · refine j_iconst (pc := 23) (v := 0) dX8_number_23 (by decide) ?_
        refine j_istore_n (pc := 24) dX8_number_24 (by decide) ?_
        refine j_aload_n (pc := 25) dX8_number_25 rfl ?_
        refine j_getf (pc := 26) dX8_number_26 jfX8_91 j_hs rfl ?_
        refine j_istore_n (pc := 29) dX8_number_29 (by decide) ?_
        refine j_sub (lv' := [(0, .ref 27), (1, .int m0), (2, .int (x_nm tx (x_ws tx L a) 0)), (3, .int (nI (x_ws tx L a + 0)))]) rfl ?_
        refine j_for (N := (x_dg tx (x_we tx L (x_ws tx L a)) (x_ws tx L a) - x_ws tx L a)) (S := fun i1 => J l G mX8_number 0 0 30 [(0, .ref 27), (1, .int m0), (2, .int (x_nm tx (x_ws tx L a) i1)), (3, .int (nI (x_ws tx L a + i1)))] [] (j_set h 27 (mO (nI L) (nI (x_we tx L (x_ws tx L a))) (nI (x_ws tx L a)) wd ps ts es op cl)) Q) ?_ ?_ 0 (Nat.zero_le _)
        · intro i1 hi1 ih1
          have hs := x_ws_spec tx ha
          have ht := x_we_spec tx hs.2.1
          have hd := x_dg_spec tx ht.1
          have ht2 := ht.2.1
          have hd2 := hd.2.1
          have hg := hd.2.2.1 (x_ws tx L a + i1) (by omega) (by omega)
          have hg1 := hg.1
          refine j_iload_n (pc := 30) dX8_number_30 rfl ?_
          refine j_aload_n (pc := 31) dX8_number_31 rfl ?_
          refine j_getf (pc := 32) dX8_number_32 jfX8_88 j_hs rfl ?_
          refine j_icmp_geN (a := x_ws tx L a + i1) (b := x_we tx L (x_ws tx L a)) (pc := 35) (tgt := 83) dX8_number_35 (by decide) (by omega) (by omega) (fun c6 => ?_) (fun c6 => ?_)
          · exfalso; omega
          · refine j_aload_n (pc := 38) dX8_number_38 rfl ?_
            refine j_getf (pc := 39) dX8_number_39 jfX8_7 j_hs rfl ?_
            refine j_iload_n (pc := 42) dX8_number_42 rfl ?_
            refine j_iald (pc := 43) dX8_number_43 (j_hn (by decide) H1) (jix_nI (by omega) (by decide)) ?_
            refine j_bipush (pc := 44) (v := 48) dX8_number_44 (by decide) ?_
            refine j_icmp_lt (pc := 46) (tgt := 60) dX8_number_46 (by decide) (fun c7 => ?_) (fun c7 => ?_)
            · exfalso; exact absurd c7 hg.2.1
            · refine j_aload_n (pc := 49) dX8_number_49 rfl ?_
              refine j_getf (pc := 50) dX8_number_50 jfX8_7 j_hs rfl ?_
              refine j_iload_n (pc := 53) dX8_number_53 rfl ?_
              refine j_iald (pc := 54) dX8_number_54 (j_hn (by decide) H1) (jix_nI (by omega) (by decide)) ?_
              refine j_bipush (pc := 55) (v := 57) dX8_number_55 (by decide) ?_
              refine j_icmp_le (pc := 57) (tgt := 62) dX8_number_57 (by decide) (fun c8 => ?_) (fun c8 => ?_)
              · refine j_bipush (pc := 62) (v := 10) dX8_number_62 (by decide) ?_
                refine j_iload_n (pc := 64) dX8_number_64 rfl ?_
                refine j_imul (pc := 65) dX8_number_65 ?_
                refine j_aload_n (pc := 66) dX8_number_66 rfl ?_
                refine j_getf (pc := 67) dX8_number_67 jfX8_7 j_hs rfl ?_
                refine j_iload_n (pc := 70) dX8_number_70 rfl ?_
                refine j_iald (pc := 71) dX8_number_71 (j_hn (by decide) H1) (jix_nI (by omega) (by decide)) ?_
                refine j_iadd (pc := 72) dX8_number_72 ?_
                refine j_bipush (pc := 73) (v := 48) dX8_number_73 (by decide) ?_
                refine j_isub (pc := 75) dX8_number_75 ?_
                refine j_istore_n (pc := 76) dX8_number_76 (by decide) ?_
                refine j_iincN (a := x_ws tx L a + i1) (d := 1) (pc := 77) dX8_number_77 rfl (by decide) ?_
                refine j_goto (pc := 80) (tgt := 30) dX8_number_80 (by decide) ?_
                exact j_sub rfl ih1
              · exfalso; exact absurd hg.2.2 c8
        · have hs := x_ws_spec tx ha
          have ht := x_we_spec tx hs.2.1
          have hd := x_dg_spec tx ht.1
          have ht2 := ht.2.1
          have hd1 := hd.1
          have hd2 := hd.2.1
          show J l G mX8_number 0 0 30 [(0, .ref 27), (1, .int m0), (2, .int (x_nm tx (x_ws tx L a) (x_dg tx (x_we tx L (x_ws tx L a)) (x_ws tx L a) - x_ws tx L a))), (3, .int (nI (x_ws tx L a + (x_dg tx (x_we tx L (x_ws tx L a)) (x_ws tx L a) - x_ws tx L a))))] [] (j_set h 27 (mO (nI L) (nI (x_we tx L (x_ws tx L a))) (nI (x_ws tx L a)) wd ps ts es op cl)) Q
          rw [show x_ws tx L a + (x_dg tx (x_we tx L (x_ws tx L a)) (x_ws tx L a) - x_ws tx L a) = x_dg tx (x_we tx L (x_ws tx L a)) (x_ws tx L a) from by omega]
          refine j_iload_n (pc := 30) dX8_number_30 rfl ?_
          refine j_aload_n (pc := 31) dX8_number_31 rfl ?_
          refine j_getf (pc := 32) dX8_number_32 jfX8_88 j_hs rfl ?_
          refine j_icmp_geN (a := x_dg tx (x_we tx L (x_ws tx L a)) (x_ws tx L a)) (b := x_we tx L (x_ws tx L a)) (pc := 35) (tgt := 83) dX8_number_35 (by decide) (by omega) (by omega) (fun c9 => ?_) (fun c9 => ?_)
          · refine j_iload_n (pc := 83) dX8_number_83 rfl ?_
            refine j_iload_n (pc := 84) dX8_number_84 rfl ?_
            refine j_icmp_le (pc := 85) (tgt := 90) dX8_number_85 (by decide) (fun c10 => ?_) (fun c10 => ?_)
            · refine j_aload_n (pc := 90) dX8_number_90 rfl ?_
              refine j_dup (pc := 91) dX8_number_91 rfl ?_
              refine j_getf (pc := 92) dX8_number_92 jfX8_98 j_hs rfl ?_
              refine j_iconst (pc := 95) (v := 1) dX8_number_95 (by decide) ?_
              refine j_iadd (pc := 96) dX8_number_96 ?_
              refine j_putf (pc := 97) dX8_number_97 jfX8_98 j_hs rfl rfl (Nat.le_of_ble_eq_true rfl) ?_
              show J l G mX8_number _ _ 100 _ _ (j_set (j_set h 27 (mO (nI L) (nI (x_we tx L (x_ws tx L a))) (nI (x_ws tx L a)) wd ps ts es op cl)) 27 (mO (nI L) (nI (x_we tx L (x_ws tx L a))) (nI (x_ws tx L a)) (wd + 1) ps ts es op cl)) Q
              rw [j_ss0 (a := 27)]
              refine j_iload_n (pc := 100) dX8_number_100 rfl ?_
              exact j_iret (pc := 101) dX8_number_101 rfl rfl (Nat.le_of_ble_eq_true rfl) (Nat.le_of_ble_eq_true rfl) (K2 c2 c5 c9 c10)
            · refine j_iconst (pc := 88) (v := -1) dX8_number_88 (by decide) ?_
              exact j_iret (pc := 89) dX8_number_89 rfl rfl (Nat.le_of_ble_eq_true rfl) (Nat.le_of_ble_eq_true rfl) (K3 c2 c5 c9 c10)
          · refine j_aload_n (pc := 38) dX8_number_38 rfl ?_
            refine j_getf (pc := 39) dX8_number_39 jfX8_7 j_hs rfl ?_
            refine j_iload_n (pc := 42) dX8_number_42 rfl ?_
            refine j_iald (pc := 43) dX8_number_43 (j_hn (by decide) H1) (jix_nI (by omega) (by decide)) ?_
            refine j_bipush (pc := 44) (v := 48) dX8_number_44 (by decide) ?_
            refine j_icmp_lt (pc := 46) (tgt := 60) dX8_number_46 (by decide) (fun c11 => ?_) (fun c11 => ?_)
            · refine j_iconst (pc := 60) (v := -1) dX8_number_60 (by decide) ?_
              exact j_iret (pc := 61) dX8_number_61 rfl rfl (Nat.le_of_ble_eq_true rfl) (Nat.le_of_ble_eq_true rfl) (K4 c2 c5 c9)
            · refine j_aload_n (pc := 49) dX8_number_49 rfl ?_
              refine j_getf (pc := 50) dX8_number_50 jfX8_7 j_hs rfl ?_
              refine j_iload_n (pc := 53) dX8_number_53 rfl ?_
              refine j_iald (pc := 54) dX8_number_54 (j_hn (by decide) H1) (jix_nI (by omega) (by decide)) ?_
              refine j_bipush (pc := 55) (v := 57) dX8_number_55 (by decide) ?_
              refine j_icmp_le (pc := 57) (tgt := 62) dX8_number_57 (by decide) (fun c12 => ?_) (fun c12 => ?_)
              · exfalso; exact absurd c12 (hd.2.2.2 (by omega) (by assumption))
              · refine j_iconst (pc := 60) (v := -1) dX8_number_60 (by decide) ?_
                exact j_iret (pc := 61) dX8_number_61 rfl rfl (Nat.le_of_ble_eq_true rfl) (Nat.le_of_ble_eq_true rfl) (K4 c2 c5 c9)
      · refine j_iconst (pc := 21) (v := -1) dX8_number_21 (by decide) ?_
        exact j_iret (pc := 22) dX8_number_22 rfl rfl (Nat.le_of_ble_eq_true rfl) (Nat.le_of_ble_eq_true rfl) (K5 c2 c5)

set_option maxRecDepth 20000 in
theorem s_X5_nextWord {l : Launch} {G : jG} {h : jH} {Q : Option Value → jH → Prop} {L a : Nat} {ws wn : Int32} {by_ : Nat → Int32} (H0 : h.2 1 = some (jO 5 [.ref 2, .int (nI L), .int ws, .int (nI a), .int wn])) (H1 : h.2 2 = some (jC 600 by_)) (hL : L ≤ 600) (ha : a ≤ L) (K1 : (x_we by_ L (x_ws by_ L a)) ≤ (x_ws by_ L a) → Q (some (.int 0)) (j_set h 1 (jO 5 [.ref 2, .int (nI L), .int (nI (x_ws by_ L a)), .int (nI (x_we by_ L (x_ws by_ L a))), .int (wn + 1)]))) (K2 : ¬ (x_we by_ L (x_ws by_ L a)) ≤ (x_ws by_ L a) → Q (some (.int 1)) (j_set h 1 (jO 5 [.ref 2, .int (nI L), .int (nI (x_ws by_ L a)), .int (nI (x_we by_ L (x_ws by_ L a))), .int (wn + 1)]))) : J l G mX5_nextWord 0 0 0 (lv_args 0 [.ref 1]) [] h Q := by
  refine j_aload_n (pc := 0) dX5_nextWord_0 rfl ?_
  refine j_dup (pc := 1) dX5_nextWord_1 rfl ?_
  refine j_getf (pc := 2) dX5_nextWord_2 jfX5_22 H0 rfl ?_
  refine j_iconst (pc := 5) (v := 1) dX5_nextWord_5 (by decide) ?_
  refine j_iadd (pc := 6) dX5_nextWord_6 ?_
  refine j_putf (pc := 7) dX5_nextWord_7 jfX5_22 H0 rfl rfl (Nat.le_of_ble_eq_true rfl) ?_
  show J l G mX5_nextWord _ _ 10 _ _ (j_set h 1 (jO 5 [.ref 2, .int (nI L), .int ws, .int (nI a), .int (wn + 1)])) Q
  refine j_aload_n (pc := 10) dX5_nextWord_10 rfl ?_
  refine j_aload_n (pc := 11) dX5_nextWord_11 rfl ?_
  refine j_getf (pc := 12) dX5_nextWord_12 jfX5_19 j_hs rfl ?_
  refine j_putf (pc := 15) dX5_nextWord_15 jfX5_25 j_hs rfl rfl (Nat.le_of_ble_eq_true rfl) ?_
  show J l G mX5_nextWord _ _ 18 _ _ (j_set (j_set h 1 (jO 5 [.ref 2, .int (nI L), .int ws, .int (nI a), .int (wn + 1)])) 1 (jO 5 [.ref 2, .int (nI L), .int (nI a), .int (nI a), .int (wn + 1)])) Q
  rw [j_ss0 (a := 1)]
  refine j_sub (lv' := [(0, .ref 1)]) rfl ?_
  refine j_for (N := (x_ws by_ L a - a)) (S := fun i1 => J l G mX5_nextWord 0 0 18 [(0, .ref 1)] [] (j_set h 1 (jO 5 [.ref 2, .int (nI L), .int (nI (a + i1)), .int (nI a), .int (wn + 1)])) Q) ?_ ?_ 0 (Nat.zero_le _)
  · intro i1 hi1 ih1
    have hs := x_ws_spec by_ ha
    have hg := hs.2.2.1 (a + i1) (by omega) (by omega)
    have hg1 := hg.1
    refine j_aload_n (pc := 18) dX5_nextWord_18 rfl ?_
    refine j_getf (pc := 19) dX5_nextWord_19 jfX5_25 j_hs rfl ?_
    refine j_aload_n (pc := 22) dX5_nextWord_22 rfl ?_
    refine j_getf (pc := 23) dX5_nextWord_23 jfX5_15 j_hs rfl ?_
    refine j_icmp_geN (a := a + i1) (b := L) (pc := 26) (tgt := 57) dX5_nextWord_26 (by decide) (by omega) (by omega) (fun c1 => ?_) (fun c1 => ?_)
    · exfalso; omega
    · refine j_aload_n (pc := 29) dX5_nextWord_29 rfl ?_
      refine j_getf (pc := 30) dX5_nextWord_30 jfX5_11 j_hs rfl ?_
      refine j_aload_n (pc := 33) dX5_nextWord_33 rfl ?_
      refine j_getf (pc := 34) dX5_nextWord_34 jfX5_25 j_hs rfl ?_
      refine j_cald (pc := 37) dX5_nextWord_37 (j_hn (by decide) H1) (jix_nI (by omega) (by decide)) ?_
      refine j_S1 (rm' := rmX5_isGap) (pc := 38) dX5_nextWord_38 jlX5_28 ⟨Nat.le_of_ble_eq_true rfl, Nat.le_of_ble_eq_true rfl, Nat.le_of_ble_eq_true rfl, Nat.le_of_ble_eq_true rfl, Nat.le_of_ble_eq_true rfl, Nat.le_of_ble_eq_true rfl⟩ ?_
      refine s_X5_isGap  (fun c2 => ?_) (fun c3 c4 => ?_) (fun c5 c6 => ?_)
      · show J l G mX5_nextWord _ _ 41 _ [.int 1] (j_set h 1 (jO 5 [.ref 2, .int (nI L), .int (nI (a + i1)), .int (nI a), .int (wn + 1)])) Q
        refine j_if_eq (pc := 41) (tgt := 57) dX5_nextWord_41 (by decide) (fun c7 => ?_) (fun c7 => ?_)
        · exact absurd c7 (by decide)
        · refine j_aload_n (pc := 44) dX5_nextWord_44 rfl ?_
          refine j_dup (pc := 45) dX5_nextWord_45 rfl ?_
          refine j_getf (pc := 46) dX5_nextWord_46 jfX5_25 j_hs rfl ?_
          refine j_iconst (pc := 49) (v := 1) dX5_nextWord_49 (by decide) ?_
          refine j_iaddN (a := a + i1) (b := 1) (pc := 50) dX5_nextWord_50 ?_
          refine j_putf (pc := 51) dX5_nextWord_51 jfX5_25 j_hs rfl rfl (Nat.le_of_ble_eq_true rfl) ?_
          show J l G mX5_nextWord _ _ 54 _ _ (j_set (j_set h 1 (jO 5 [.ref 2, .int (nI L), .int (nI (a + i1)), .int (nI a), .int (wn + 1)])) 1 (jO 5 [.ref 2, .int (nI L), .int (nI ((a + i1) + 1)), .int (nI a), .int (wn + 1)])) Q
          rw [j_ss0 (a := 1)]
          refine j_goto (pc := 54) (tgt := 18) dX5_nextWord_54 (by decide) ?_
          exact j_sub rfl ih1
      · exfalso; rcases hg.2 with z | z; exact absurd z c3; exact absurd z c4
      · show J l G mX5_nextWord _ _ 41 _ [.int 1] (j_set h 1 (jO 5 [.ref 2, .int (nI L), .int (nI (a + i1)), .int (nI a), .int (wn + 1)])) Q
        refine j_if_eq (pc := 41) (tgt := 57) dX5_nextWord_41 (by decide) (fun c8 => ?_) (fun c8 => ?_)
        · exact absurd c8 (by decide)
        · refine j_aload_n (pc := 44) dX5_nextWord_44 rfl ?_
          refine j_dup (pc := 45) dX5_nextWord_45 rfl ?_
          refine j_getf (pc := 46) dX5_nextWord_46 jfX5_25 j_hs rfl ?_
          refine j_iconst (pc := 49) (v := 1) dX5_nextWord_49 (by decide) ?_
          refine j_iaddN (a := a + i1) (b := 1) (pc := 50) dX5_nextWord_50 ?_
          refine j_putf (pc := 51) dX5_nextWord_51 jfX5_25 j_hs rfl rfl (Nat.le_of_ble_eq_true rfl) ?_
          show J l G mX5_nextWord _ _ 54 _ _ (j_set (j_set h 1 (jO 5 [.ref 2, .int (nI L), .int (nI (a + i1)), .int (nI a), .int (wn + 1)])) 1 (jO 5 [.ref 2, .int (nI L), .int (nI ((a + i1) + 1)), .int (nI a), .int (wn + 1)])) Q
          rw [j_ss0 (a := 1)]
          refine j_goto (pc := 54) (tgt := 18) dX5_nextWord_54 (by decide) ?_
          exact j_sub rfl ih1
  · have hs := x_ws_spec by_ ha
    have hs1 := hs.1
    have hs2 := hs.2.1
    show J l G mX5_nextWord 0 0 18 [(0, .ref 1)] [] (j_set h 1 (jO 5 [.ref 2, .int (nI L), .int (nI (a + (x_ws by_ L a - a))), .int (nI a), .int (wn + 1)])) Q
    rw [show a + (x_ws by_ L a - a) = x_ws by_ L a from by omega]
    refine j_aload_n (pc := 18) dX5_nextWord_18 rfl ?_
    refine j_getf (pc := 19) dX5_nextWord_19 jfX5_25 j_hs rfl ?_
    refine j_aload_n (pc := 22) dX5_nextWord_22 rfl ?_
    refine j_getf (pc := 23) dX5_nextWord_23 jfX5_15 j_hs rfl ?_
    refine j_icmp_geN (a := x_ws by_ L a) (b := L) (pc := 26) (tgt := 57) dX5_nextWord_26 (by decide) (by omega) (by omega) (fun c9 => ?_) (fun c9 => ?_)
    · refine j_aload_n (pc := 57) dX5_nextWord_57 rfl ?_
      refine j_aload_n (pc := 58) dX5_nextWord_58 rfl ?_
      refine j_getf (pc := 59) dX5_nextWord_59 jfX5_25 j_hs rfl ?_
      refine j_putf (pc := 62) dX5_nextWord_62 jfX5_19 j_hs rfl rfl (Nat.le_of_ble_eq_true rfl) ?_
      show J l G mX5_nextWord _ _ 65 _ _ (j_set (j_set h 1 (jO 5 [.ref 2, .int (nI L), .int (nI (x_ws by_ L a)), .int (nI a), .int (wn + 1)])) 1 (jO 5 [.ref 2, .int (nI L), .int (nI (x_ws by_ L a)), .int (nI (x_ws by_ L a)), .int (wn + 1)])) Q
      rw [j_ss0 (a := 1)]
      refine j_sub (lv' := [(0, .ref 1)]) rfl ?_
      refine j_for (N := (x_we by_ L (x_ws by_ L a) - x_ws by_ L a)) (S := fun i2 => J l G mX5_nextWord 0 0 65 [(0, .ref 1)] [] (j_set h 1 (jO 5 [.ref 2, .int (nI L), .int (nI (x_ws by_ L a)), .int (nI (x_ws by_ L a + i2)), .int (wn + 1)])) Q) ?_ ?_ 0 (Nat.zero_le _)
      · intro i2 hi2 ih2
        have ht := x_we_spec by_ hs2
        have hg := ht.2.2.1 (x_ws by_ L a + i2) (by omega) (by omega)
        have hg1 := hg.1
        refine j_aload_n (pc := 65) dX5_nextWord_65 rfl ?_
        refine j_getf (pc := 66) dX5_nextWord_66 jfX5_19 j_hs rfl ?_
        refine j_aload_n (pc := 69) dX5_nextWord_69 rfl ?_
        refine j_getf (pc := 70) dX5_nextWord_70 jfX5_15 j_hs rfl ?_
        refine j_icmp_geN (a := x_ws by_ L a + i2) (b := L) (pc := 73) (tgt := 104) dX5_nextWord_73 (by decide) (by omega) (by omega) (fun c10 => ?_) (fun c10 => ?_)
        · exfalso; omega
        · refine j_aload_n (pc := 76) dX5_nextWord_76 rfl ?_
          refine j_getf (pc := 77) dX5_nextWord_77 jfX5_11 j_hs rfl ?_
          refine j_aload_n (pc := 80) dX5_nextWord_80 rfl ?_
          refine j_getf (pc := 81) dX5_nextWord_81 jfX5_19 j_hs rfl ?_
          refine j_cald (pc := 84) dX5_nextWord_84 (j_hn (by decide) H1) (jix_nI (by omega) (by decide)) ?_
          refine j_S1 (rm' := rmX5_isGap) (pc := 85) dX5_nextWord_85 jlX5_28 ⟨Nat.le_of_ble_eq_true rfl, Nat.le_of_ble_eq_true rfl, Nat.le_of_ble_eq_true rfl, Nat.le_of_ble_eq_true rfl, Nat.le_of_ble_eq_true rfl, Nat.le_of_ble_eq_true rfl⟩ ?_
          refine s_X5_isGap  (fun c11 => ?_) (fun c12 c13 => ?_) (fun c14 c15 => ?_)
          · exfalso; exact absurd c11 hg.2.1
          · show J l G mX5_nextWord _ _ 88 _ [.int 0] (j_set h 1 (jO 5 [.ref 2, .int (nI L), .int (nI (x_ws by_ L a)), .int (nI (x_ws by_ L a + i2)), .int (wn + 1)])) Q
            refine j_if_ne (pc := 88) (tgt := 104) dX5_nextWord_88 (by decide) (fun c16 => ?_) (fun c16 => ?_)
            · exact absurd c16 (by decide)
            · refine j_aload_n (pc := 91) dX5_nextWord_91 rfl ?_
              refine j_dup (pc := 92) dX5_nextWord_92 rfl ?_
              refine j_getf (pc := 93) dX5_nextWord_93 jfX5_19 j_hs rfl ?_
              refine j_iconst (pc := 96) (v := 1) dX5_nextWord_96 (by decide) ?_
              refine j_iaddN (a := x_ws by_ L a + i2) (b := 1) (pc := 97) dX5_nextWord_97 ?_
              refine j_putf (pc := 98) dX5_nextWord_98 jfX5_19 j_hs rfl rfl (Nat.le_of_ble_eq_true rfl) ?_
              show J l G mX5_nextWord _ _ 101 _ _ (j_set (j_set h 1 (jO 5 [.ref 2, .int (nI L), .int (nI (x_ws by_ L a)), .int (nI (x_ws by_ L a + i2)), .int (wn + 1)])) 1 (jO 5 [.ref 2, .int (nI L), .int (nI (x_ws by_ L a)), .int (nI ((x_ws by_ L a + i2) + 1)), .int (wn + 1)])) Q
              rw [j_ss0 (a := 1)]
              refine j_goto (pc := 101) (tgt := 65) dX5_nextWord_101 (by decide) ?_
              exact j_sub rfl ih2
          · exfalso; exact absurd c15 hg.2.2
      · have ht := x_we_spec by_ hs2
        have ht1 := ht.1
        have ht2 := ht.2.1
        show J l G mX5_nextWord 0 0 65 [(0, .ref 1)] [] (j_set h 1 (jO 5 [.ref 2, .int (nI L), .int (nI (x_ws by_ L a)), .int (nI (x_ws by_ L a + (x_we by_ L (x_ws by_ L a) - x_ws by_ L a))), .int (wn + 1)])) Q
        rw [show x_ws by_ L a + (x_we by_ L (x_ws by_ L a) - x_ws by_ L a) = x_we by_ L (x_ws by_ L a) from by omega]
        refine j_aload_n (pc := 65) dX5_nextWord_65 rfl ?_
        refine j_getf (pc := 66) dX5_nextWord_66 jfX5_19 j_hs rfl ?_
        refine j_aload_n (pc := 69) dX5_nextWord_69 rfl ?_
        refine j_getf (pc := 70) dX5_nextWord_70 jfX5_15 j_hs rfl ?_
        refine j_icmp_geN (a := x_we by_ L (x_ws by_ L a)) (b := L) (pc := 73) (tgt := 104) dX5_nextWord_73 (by decide) (by omega) (by omega) (fun c17 => ?_) (fun c17 => ?_)
        · refine j_aload_n (pc := 104) dX5_nextWord_104 rfl ?_
          refine j_getf (pc := 105) dX5_nextWord_105 jfX5_25 j_hs rfl ?_
          refine j_aload_n (pc := 108) dX5_nextWord_108 rfl ?_
          refine j_getf (pc := 109) dX5_nextWord_109 jfX5_19 j_hs rfl ?_
          refine j_icmp_geN (a := x_ws by_ L a) (b := x_we by_ L (x_ws by_ L a)) (pc := 112) (tgt := 119) dX5_nextWord_112 (by decide) (by omega) (by omega) (fun c18 => ?_) (fun c18 => ?_)
          · refine j_iconst (pc := 119) (v := 0) dX5_nextWord_119 (by decide) ?_
            exact j_iret (pc := 120) dX5_nextWord_120 rfl rfl (Nat.le_of_ble_eq_true rfl) (Nat.le_of_ble_eq_true rfl) (K1 c18)
          · refine j_iconst (pc := 115) (v := 1) dX5_nextWord_115 (by decide) ?_
            refine j_goto (pc := 116) (tgt := 120) dX5_nextWord_116 (by decide) ?_
            exact j_iret (pc := 120) dX5_nextWord_120 rfl rfl (Nat.le_of_ble_eq_true rfl) (Nat.le_of_ble_eq_true rfl) (K2 c18)
        · refine j_aload_n (pc := 76) dX5_nextWord_76 rfl ?_
          refine j_getf (pc := 77) dX5_nextWord_77 jfX5_11 j_hs rfl ?_
          refine j_aload_n (pc := 80) dX5_nextWord_80 rfl ?_
          refine j_getf (pc := 81) dX5_nextWord_81 jfX5_19 j_hs rfl ?_
          refine j_cald (pc := 84) dX5_nextWord_84 (j_hn (by decide) H1) (jix_nI (by omega) (by decide)) ?_
          refine j_S1 (rm' := rmX5_isGap) (pc := 85) dX5_nextWord_85 jlX5_28 ⟨Nat.le_of_ble_eq_true rfl, Nat.le_of_ble_eq_true rfl, Nat.le_of_ble_eq_true rfl, Nat.le_of_ble_eq_true rfl, Nat.le_of_ble_eq_true rfl, Nat.le_of_ble_eq_true rfl⟩ ?_
          refine s_X5_isGap  (fun c19 => ?_) (fun c20 c21 => ?_) (fun c22 c23 => ?_)
          · show J l G mX5_nextWord _ _ 88 _ [.int 1] (j_set h 1 (jO 5 [.ref 2, .int (nI L), .int (nI (x_ws by_ L a)), .int (nI (x_we by_ L (x_ws by_ L a))), .int (wn + 1)])) Q
            refine j_if_ne (pc := 88) (tgt := 104) dX5_nextWord_88 (by decide) (fun c24 => ?_) (fun c24 => ?_)
            · refine j_aload_n (pc := 104) dX5_nextWord_104 rfl ?_
              refine j_getf (pc := 105) dX5_nextWord_105 jfX5_25 j_hs rfl ?_
              refine j_aload_n (pc := 108) dX5_nextWord_108 rfl ?_
              refine j_getf (pc := 109) dX5_nextWord_109 jfX5_19 j_hs rfl ?_
              refine j_icmp_geN (a := x_ws by_ L a) (b := x_we by_ L (x_ws by_ L a)) (pc := 112) (tgt := 119) dX5_nextWord_112 (by decide) (by omega) (by omega) (fun c25 => ?_) (fun c25 => ?_)
              · refine j_iconst (pc := 119) (v := 0) dX5_nextWord_119 (by decide) ?_
                exact j_iret (pc := 120) dX5_nextWord_120 rfl rfl (Nat.le_of_ble_eq_true rfl) (Nat.le_of_ble_eq_true rfl) (K1 c25)
              · refine j_iconst (pc := 115) (v := 1) dX5_nextWord_115 (by decide) ?_
                refine j_goto (pc := 116) (tgt := 120) dX5_nextWord_116 (by decide) ?_
                exact j_iret (pc := 120) dX5_nextWord_120 rfl rfl (Nat.le_of_ble_eq_true rfl) (Nat.le_of_ble_eq_true rfl) (K2 c25)
            · exact absurd c24 (by decide)
          · exfalso; rcases ht.2.2.2 (by omega) with z | z; exact absurd z c20; exact absurd z c21
          · show J l G mX5_nextWord _ _ 88 _ [.int 1] (j_set h 1 (jO 5 [.ref 2, .int (nI L), .int (nI (x_ws by_ L a)), .int (nI (x_we by_ L (x_ws by_ L a))), .int (wn + 1)])) Q
            refine j_if_ne (pc := 88) (tgt := 104) dX5_nextWord_88 (by decide) (fun c26 => ?_) (fun c26 => ?_)
            · refine j_aload_n (pc := 104) dX5_nextWord_104 rfl ?_
              refine j_getf (pc := 105) dX5_nextWord_105 jfX5_25 j_hs rfl ?_
              refine j_aload_n (pc := 108) dX5_nextWord_108 rfl ?_
              refine j_getf (pc := 109) dX5_nextWord_109 jfX5_19 j_hs rfl ?_
              refine j_icmp_geN (a := x_ws by_ L a) (b := x_we by_ L (x_ws by_ L a)) (pc := 112) (tgt := 119) dX5_nextWord_112 (by decide) (by omega) (by omega) (fun c27 => ?_) (fun c27 => ?_)
              · refine j_iconst (pc := 119) (v := 0) dX5_nextWord_119 (by decide) ?_
                exact j_iret (pc := 120) dX5_nextWord_120 rfl rfl (Nat.le_of_ble_eq_true rfl) (Nat.le_of_ble_eq_true rfl) (K1 c27)
              · refine j_iconst (pc := 115) (v := 1) dX5_nextWord_115 (by decide) ?_
                refine j_goto (pc := 116) (tgt := 120) dX5_nextWord_116 (by decide) ?_
                exact j_iret (pc := 120) dX5_nextWord_120 rfl rfl (Nat.le_of_ble_eq_true rfl) (Nat.le_of_ble_eq_true rfl) (K2 c27)
            · exact absurd c26 (by decide)
    · refine j_aload_n (pc := 29) dX5_nextWord_29 rfl ?_
      refine j_getf (pc := 30) dX5_nextWord_30 jfX5_11 j_hs rfl ?_
      refine j_aload_n (pc := 33) dX5_nextWord_33 rfl ?_
      refine j_getf (pc := 34) dX5_nextWord_34 jfX5_25 j_hs rfl ?_
      refine j_cald (pc := 37) dX5_nextWord_37 (j_hn (by decide) H1) (jix_nI (by omega) (by decide)) ?_
      refine j_S1 (rm' := rmX5_isGap) (pc := 38) dX5_nextWord_38 jlX5_28 ⟨Nat.le_of_ble_eq_true rfl, Nat.le_of_ble_eq_true rfl, Nat.le_of_ble_eq_true rfl, Nat.le_of_ble_eq_true rfl, Nat.le_of_ble_eq_true rfl, Nat.le_of_ble_eq_true rfl⟩ ?_
      refine s_X5_isGap  (fun c28 => ?_) (fun c29 c30 => ?_) (fun c31 c32 => ?_)
      · exfalso; exact absurd c28 (hs.2.2.2 (by omega)).1
      · show J l G mX5_nextWord _ _ 41 _ [.int 0] (j_set h 1 (jO 5 [.ref 2, .int (nI L), .int (nI (x_ws by_ L a)), .int (nI a), .int (wn + 1)])) Q
        refine j_if_eq (pc := 41) (tgt := 57) dX5_nextWord_41 (by decide) (fun c33 => ?_) (fun c33 => ?_)
        · refine j_aload_n (pc := 57) dX5_nextWord_57 rfl ?_
          refine j_aload_n (pc := 58) dX5_nextWord_58 rfl ?_
          refine j_getf (pc := 59) dX5_nextWord_59 jfX5_25 j_hs rfl ?_
          refine j_putf (pc := 62) dX5_nextWord_62 jfX5_19 j_hs rfl rfl (Nat.le_of_ble_eq_true rfl) ?_
          show J l G mX5_nextWord _ _ 65 _ _ (j_set (j_set h 1 (jO 5 [.ref 2, .int (nI L), .int (nI (x_ws by_ L a)), .int (nI a), .int (wn + 1)])) 1 (jO 5 [.ref 2, .int (nI L), .int (nI (x_ws by_ L a)), .int (nI (x_ws by_ L a)), .int (wn + 1)])) Q
          rw [j_ss0 (a := 1)]
          refine j_sub (lv' := [(0, .ref 1)]) rfl ?_
          refine j_for (N := (x_we by_ L (x_ws by_ L a) - x_ws by_ L a)) (S := fun i3 => J l G mX5_nextWord 0 0 65 [(0, .ref 1)] [] (j_set h 1 (jO 5 [.ref 2, .int (nI L), .int (nI (x_ws by_ L a)), .int (nI (x_ws by_ L a + i3)), .int (wn + 1)])) Q) ?_ ?_ 0 (Nat.zero_le _)
          · intro i3 hi3 ih3
            have ht := x_we_spec by_ hs2
            have hg := ht.2.2.1 (x_ws by_ L a + i3) (by omega) (by omega)
            have hg1 := hg.1
            refine j_aload_n (pc := 65) dX5_nextWord_65 rfl ?_
            refine j_getf (pc := 66) dX5_nextWord_66 jfX5_19 j_hs rfl ?_
            refine j_aload_n (pc := 69) dX5_nextWord_69 rfl ?_
            refine j_getf (pc := 70) dX5_nextWord_70 jfX5_15 j_hs rfl ?_
            refine j_icmp_geN (a := x_ws by_ L a + i3) (b := L) (pc := 73) (tgt := 104) dX5_nextWord_73 (by decide) (by omega) (by omega) (fun c34 => ?_) (fun c34 => ?_)
            · exfalso; omega
            · refine j_aload_n (pc := 76) dX5_nextWord_76 rfl ?_
              refine j_getf (pc := 77) dX5_nextWord_77 jfX5_11 j_hs rfl ?_
              refine j_aload_n (pc := 80) dX5_nextWord_80 rfl ?_
              refine j_getf (pc := 81) dX5_nextWord_81 jfX5_19 j_hs rfl ?_
              refine j_cald (pc := 84) dX5_nextWord_84 (j_hn (by decide) H1) (jix_nI (by omega) (by decide)) ?_
              refine j_S1 (rm' := rmX5_isGap) (pc := 85) dX5_nextWord_85 jlX5_28 ⟨Nat.le_of_ble_eq_true rfl, Nat.le_of_ble_eq_true rfl, Nat.le_of_ble_eq_true rfl, Nat.le_of_ble_eq_true rfl, Nat.le_of_ble_eq_true rfl, Nat.le_of_ble_eq_true rfl⟩ ?_
              refine s_X5_isGap  (fun c35 => ?_) (fun c36 c37 => ?_) (fun c38 c39 => ?_)
              · exfalso; exact absurd c35 hg.2.1
              · show J l G mX5_nextWord _ _ 88 _ [.int 0] (j_set h 1 (jO 5 [.ref 2, .int (nI L), .int (nI (x_ws by_ L a)), .int (nI (x_ws by_ L a + i3)), .int (wn + 1)])) Q
                refine j_if_ne (pc := 88) (tgt := 104) dX5_nextWord_88 (by decide) (fun c40 => ?_) (fun c40 => ?_)
                · exact absurd c40 (by decide)
                · refine j_aload_n (pc := 91) dX5_nextWord_91 rfl ?_
                  refine j_dup (pc := 92) dX5_nextWord_92 rfl ?_
                  refine j_getf (pc := 93) dX5_nextWord_93 jfX5_19 j_hs rfl ?_
                  refine j_iconst (pc := 96) (v := 1) dX5_nextWord_96 (by decide) ?_
                  refine j_iaddN (a := x_ws by_ L a + i3) (b := 1) (pc := 97) dX5_nextWord_97 ?_
                  refine j_putf (pc := 98) dX5_nextWord_98 jfX5_19 j_hs rfl rfl (Nat.le_of_ble_eq_true rfl) ?_
                  show J l G mX5_nextWord _ _ 101 _ _ (j_set (j_set h 1 (jO 5 [.ref 2, .int (nI L), .int (nI (x_ws by_ L a)), .int (nI (x_ws by_ L a + i3)), .int (wn + 1)])) 1 (jO 5 [.ref 2, .int (nI L), .int (nI (x_ws by_ L a)), .int (nI ((x_ws by_ L a + i3) + 1)), .int (wn + 1)])) Q
                  rw [j_ss0 (a := 1)]
                  refine j_goto (pc := 101) (tgt := 65) dX5_nextWord_101 (by decide) ?_
                  exact j_sub rfl ih3
              · exfalso; exact absurd c39 hg.2.2
          · have ht := x_we_spec by_ hs2
            have ht1 := ht.1
            have ht2 := ht.2.1
            show J l G mX5_nextWord 0 0 65 [(0, .ref 1)] [] (j_set h 1 (jO 5 [.ref 2, .int (nI L), .int (nI (x_ws by_ L a)), .int (nI (x_ws by_ L a + (x_we by_ L (x_ws by_ L a) - x_ws by_ L a))), .int (wn + 1)])) Q
            rw [show x_ws by_ L a + (x_we by_ L (x_ws by_ L a) - x_ws by_ L a) = x_we by_ L (x_ws by_ L a) from by omega]
            refine j_aload_n (pc := 65) dX5_nextWord_65 rfl ?_
            refine j_getf (pc := 66) dX5_nextWord_66 jfX5_19 j_hs rfl ?_
            refine j_aload_n (pc := 69) dX5_nextWord_69 rfl ?_
            refine j_getf (pc := 70) dX5_nextWord_70 jfX5_15 j_hs rfl ?_
            refine j_icmp_geN (a := x_we by_ L (x_ws by_ L a)) (b := L) (pc := 73) (tgt := 104) dX5_nextWord_73 (by decide) (by omega) (by omega) (fun c41 => ?_) (fun c41 => ?_)
            · refine j_aload_n (pc := 104) dX5_nextWord_104 rfl ?_
              refine j_getf (pc := 105) dX5_nextWord_105 jfX5_25 j_hs rfl ?_
              refine j_aload_n (pc := 108) dX5_nextWord_108 rfl ?_
              refine j_getf (pc := 109) dX5_nextWord_109 jfX5_19 j_hs rfl ?_
              refine j_icmp_geN (a := x_ws by_ L a) (b := x_we by_ L (x_ws by_ L a)) (pc := 112) (tgt := 119) dX5_nextWord_112 (by decide) (by omega) (by omega) (fun c42 => ?_) (fun c42 => ?_)
              · refine j_iconst (pc := 119) (v := 0) dX5_nextWord_119 (by decide) ?_
                exact j_iret (pc := 120) dX5_nextWord_120 rfl rfl (Nat.le_of_ble_eq_true rfl) (Nat.le_of_ble_eq_true rfl) (K1 c42)
              · refine j_iconst (pc := 115) (v := 1) dX5_nextWord_115 (by decide) ?_
                refine j_goto (pc := 116) (tgt := 120) dX5_nextWord_116 (by decide) ?_
                exact j_iret (pc := 120) dX5_nextWord_120 rfl rfl (Nat.le_of_ble_eq_true rfl) (Nat.le_of_ble_eq_true rfl) (K2 c42)
            · refine j_aload_n (pc := 76) dX5_nextWord_76 rfl ?_
              refine j_getf (pc := 77) dX5_nextWord_77 jfX5_11 j_hs rfl ?_
              refine j_aload_n (pc := 80) dX5_nextWord_80 rfl ?_
              refine j_getf (pc := 81) dX5_nextWord_81 jfX5_19 j_hs rfl ?_
              refine j_cald (pc := 84) dX5_nextWord_84 (j_hn (by decide) H1) (jix_nI (by omega) (by decide)) ?_
              refine j_S1 (rm' := rmX5_isGap) (pc := 85) dX5_nextWord_85 jlX5_28 ⟨Nat.le_of_ble_eq_true rfl, Nat.le_of_ble_eq_true rfl, Nat.le_of_ble_eq_true rfl, Nat.le_of_ble_eq_true rfl, Nat.le_of_ble_eq_true rfl, Nat.le_of_ble_eq_true rfl⟩ ?_
              refine s_X5_isGap  (fun c43 => ?_) (fun c44 c45 => ?_) (fun c46 c47 => ?_)
              · show J l G mX5_nextWord _ _ 88 _ [.int 1] (j_set h 1 (jO 5 [.ref 2, .int (nI L), .int (nI (x_ws by_ L a)), .int (nI (x_we by_ L (x_ws by_ L a))), .int (wn + 1)])) Q
                refine j_if_ne (pc := 88) (tgt := 104) dX5_nextWord_88 (by decide) (fun c48 => ?_) (fun c48 => ?_)
                · refine j_aload_n (pc := 104) dX5_nextWord_104 rfl ?_
                  refine j_getf (pc := 105) dX5_nextWord_105 jfX5_25 j_hs rfl ?_
                  refine j_aload_n (pc := 108) dX5_nextWord_108 rfl ?_
                  refine j_getf (pc := 109) dX5_nextWord_109 jfX5_19 j_hs rfl ?_
                  refine j_icmp_geN (a := x_ws by_ L a) (b := x_we by_ L (x_ws by_ L a)) (pc := 112) (tgt := 119) dX5_nextWord_112 (by decide) (by omega) (by omega) (fun c49 => ?_) (fun c49 => ?_)
                  · refine j_iconst (pc := 119) (v := 0) dX5_nextWord_119 (by decide) ?_
                    exact j_iret (pc := 120) dX5_nextWord_120 rfl rfl (Nat.le_of_ble_eq_true rfl) (Nat.le_of_ble_eq_true rfl) (K1 c49)
                  · refine j_iconst (pc := 115) (v := 1) dX5_nextWord_115 (by decide) ?_
                    refine j_goto (pc := 116) (tgt := 120) dX5_nextWord_116 (by decide) ?_
                    exact j_iret (pc := 120) dX5_nextWord_120 rfl rfl (Nat.le_of_ble_eq_true rfl) (Nat.le_of_ble_eq_true rfl) (K2 c49)
                · exact absurd c48 (by decide)
              · exfalso; rcases ht.2.2.2 (by omega) with z | z; exact absurd z c44; exact absurd z c45
              · show J l G mX5_nextWord _ _ 88 _ [.int 1] (j_set h 1 (jO 5 [.ref 2, .int (nI L), .int (nI (x_ws by_ L a)), .int (nI (x_we by_ L (x_ws by_ L a))), .int (wn + 1)])) Q
                refine j_if_ne (pc := 88) (tgt := 104) dX5_nextWord_88 (by decide) (fun c50 => ?_) (fun c50 => ?_)
                · refine j_aload_n (pc := 104) dX5_nextWord_104 rfl ?_
                  refine j_getf (pc := 105) dX5_nextWord_105 jfX5_25 j_hs rfl ?_
                  refine j_aload_n (pc := 108) dX5_nextWord_108 rfl ?_
                  refine j_getf (pc := 109) dX5_nextWord_109 jfX5_19 j_hs rfl ?_
                  refine j_icmp_geN (a := x_ws by_ L a) (b := x_we by_ L (x_ws by_ L a)) (pc := 112) (tgt := 119) dX5_nextWord_112 (by decide) (by omega) (by omega) (fun c51 => ?_) (fun c51 => ?_)
                  · refine j_iconst (pc := 119) (v := 0) dX5_nextWord_119 (by decide) ?_
                    exact j_iret (pc := 120) dX5_nextWord_120 rfl rfl (Nat.le_of_ble_eq_true rfl) (Nat.le_of_ble_eq_true rfl) (K1 c51)
                  · refine j_iconst (pc := 115) (v := 1) dX5_nextWord_115 (by decide) ?_
                    refine j_goto (pc := 116) (tgt := 120) dX5_nextWord_116 (by decide) ?_
                    exact j_iret (pc := 120) dX5_nextWord_120 rfl rfl (Nat.le_of_ble_eq_true rfl) (Nat.le_of_ble_eq_true rfl) (K2 c51)
                · exact absurd c50 (by decide)
        · exact absurd c33 (by decide)
      · exfalso; exact absurd c32 (hs.2.2.2 (by omega)).2

set_option maxRecDepth 20000 in
theorem s_X5_nextNumber {l : Launch} {G : jG} {h : jH} {Q : Option Value → jH → Prop} {L a : Nat} {ws wn m0 : Int32} {by_ : Nat → Int32} (H0 : h.2 1 = some (jO 5 [.ref 2, .int (nI L), .int ws, .int (nI a), .int wn])) (H1 : h.2 2 = some (jC 600 by_)) (hL : L ≤ 600) (ha : a ≤ L) (K1 : (x_we by_ L (x_ws by_ L a)) ≤ (x_ws by_ L a) → Q (some (.int (-1))) (j_set h 1 (jO 5 [.ref 2, .int (nI L), .int (nI (x_ws by_ L a)), .int (nI (x_we by_ L (x_ws by_ L a))), .int (wn + 1)]))) (K2 : ¬ (x_we by_ L (x_ws by_ L a)) ≤ (x_ws by_ L a) → ((x_we by_ L (x_ws by_ L a)) - (x_ws by_ L a)) ≤ 6 → (x_we by_ L (x_ws by_ L a)) ≤ (x_dg by_ (x_we by_ L (x_ws by_ L a)) (x_ws by_ L a)) → m0 < (x_nc by_ (x_ws by_ L a) (x_dg by_ (x_we by_ L (x_ws by_ L a)) (x_ws by_ L a) - x_ws by_ L a)) → Q (some (.int (-1))) (j_set h 1 (jO 5 [.ref 2, .int (nI L), .int (nI (x_ws by_ L a)), .int (nI (x_we by_ L (x_ws by_ L a))), .int (wn + 1)]))) (K3 : ¬ (x_we by_ L (x_ws by_ L a)) ≤ (x_ws by_ L a) → ((x_we by_ L (x_ws by_ L a)) - (x_ws by_ L a)) ≤ 6 → (x_we by_ L (x_ws by_ L a)) ≤ (x_dg by_ (x_we by_ L (x_ws by_ L a)) (x_ws by_ L a)) → ¬ (m0 < (x_nc by_ (x_ws by_ L a) (x_dg by_ (x_we by_ L (x_ws by_ L a)) (x_ws by_ L a) - x_ws by_ L a))) → Q (some (.int (x_nc by_ (x_ws by_ L a) (x_dg by_ (x_we by_ L (x_ws by_ L a)) (x_ws by_ L a) - x_ws by_ L a)))) (j_set h 1 (jO 5 [.ref 2, .int (nI L), .int (nI (x_ws by_ L a)), .int (nI (x_we by_ L (x_ws by_ L a))), .int (wn + 1)]))) (K4 : ¬ (x_we by_ L (x_ws by_ L a)) ≤ (x_ws by_ L a) → ((x_we by_ L (x_ws by_ L a)) - (x_ws by_ L a)) ≤ 6 → ¬ (x_we by_ L (x_ws by_ L a)) ≤ (x_dg by_ (x_we by_ L (x_ws by_ L a)) (x_ws by_ L a)) → Q (some (.int (-1))) (j_set h 1 (jO 5 [.ref 2, .int (nI L), .int (nI (x_ws by_ L a)), .int (nI (x_we by_ L (x_ws by_ L a))), .int (wn + 1)]))) (K5 : ¬ (x_we by_ L (x_ws by_ L a)) ≤ (x_ws by_ L a) → ¬ ((x_we by_ L (x_ws by_ L a)) - (x_ws by_ L a)) ≤ 6 → Q (some (.int (-1))) (j_set h 1 (jO 5 [.ref 2, .int (nI L), .int (nI (x_ws by_ L a)), .int (nI (x_we by_ L (x_ws by_ L a))), .int (wn + 1)]))) : J l G mX5_nextNumber 0 0 0 (lv_args 0 [.ref 1, .int m0]) [] h Q := by
  have hs0 := x_ws_spec by_ ha
  have hs02 := hs0.2.1
  have ht0 := x_we_spec by_ hs02
  have ht02 := ht0.2.1
  refine j_aload_n (pc := 0) dX5_nextNumber_0 rfl ?_
  refine j_V0 (rm' := rmX5_nextWord) (pc := 1) dX5_nextNumber_1 jlX5_41 H0 rfl ⟨Nat.le_of_ble_eq_true rfl, Nat.le_of_ble_eq_true rfl, Nat.le_of_ble_eq_true rfl, Nat.le_of_ble_eq_true rfl, Nat.le_of_ble_eq_true rfl, Nat.le_of_ble_eq_true rfl⟩ ?_
  refine s_X5_nextWord (L := L) (a := a) H0 H1 hL ha (fun c1 => ?_) (fun c2 => ?_)
  · show J l G mX5_nextNumber _ _ 4 _ [.int 0] (j_set h 1 (jO 5 [.ref 2, .int (nI L), .int (nI (x_ws by_ L a)), .int (nI (x_we by_ L (x_ws by_ L a))), .int (wn + 1)])) Q
    refine j_if_eq (pc := 4) (tgt := 21) dX5_nextNumber_4 (by decide) (fun c3 => ?_) (fun c3 => ?_)
    · refine j_iconst (pc := 21) (v := -1) dX5_nextNumber_21 (by decide) ?_
      exact j_iret (pc := 22) dX5_nextNumber_22 rfl rfl (Nat.le_of_ble_eq_true rfl) (Nat.le_of_ble_eq_true rfl) (K1 c1)
    · exact absurd c3 (by decide)
  · show J l G mX5_nextNumber _ _ 4 _ [.int 1] (j_set h 1 (jO 5 [.ref 2, .int (nI L), .int (nI (x_ws by_ L a)), .int (nI (x_we by_ L (x_ws by_ L a))), .int (wn + 1)])) Q
    refine j_if_eq (pc := 4) (tgt := 21) dX5_nextNumber_4 (by decide) (fun c4 => ?_) (fun c4 => ?_)
    · exact absurd c4 (by decide)
    · refine j_aload_n (pc := 7) dX5_nextNumber_7 rfl ?_
      refine j_getf (pc := 8) dX5_nextNumber_8 jfX5_19 j_hs rfl ?_
      refine j_aload_n (pc := 11) dX5_nextNumber_11 rfl ?_
      refine j_getf (pc := 12) dX5_nextNumber_12 jfX5_25 j_hs rfl ?_
      refine j_isubN (a := x_we by_ L (x_ws by_ L a)) (b := x_ws by_ L a) (pc := 15) dX5_nextNumber_15 (by omega) ?_
      refine j_bipush (pc := 16) (v := 6) dX5_nextNumber_16 (by decide) ?_
      refine j_icmp_leN (a := (x_we by_ L (x_ws by_ L a)) - (x_ws by_ L a)) (b := 6) (pc := 18) (tgt := 23) dX5_nextNumber_18 (by decide) (by omega) (by omega) (fun c5 => ?_) (fun c5 => ?_)
      · refine j_iconst (pc := 23) (v := 0) dX5_nextNumber_23 (by decide) ?_
        refine j_istore_n (pc := 24) dX5_nextNumber_24 (by decide) ?_
        refine j_aload_n (pc := 25) dX5_nextNumber_25 rfl ?_
        refine j_getf (pc := 26) dX5_nextNumber_26 jfX5_25 j_hs rfl ?_
        refine j_istore_n (pc := 29) dX5_nextNumber_29 (by decide) ?_
        refine j_sub (lv' := [(0, .ref 1), (1, .int m0), (2, .int (x_nc by_ (x_ws by_ L a) 0)), (3, .int (nI (x_ws by_ L a + 0)))]) rfl ?_
        refine j_for (N := (x_dg by_ (x_we by_ L (x_ws by_ L a)) (x_ws by_ L a) - x_ws by_ L a)) (S := fun i1 => J l G mX5_nextNumber 0 0 30 [(0, .ref 1), (1, .int m0), (2, .int (x_nc by_ (x_ws by_ L a) i1)), (3, .int (nI (x_ws by_ L a + i1)))] [] (j_set h 1 (jO 5 [.ref 2, .int (nI L), .int (nI (x_ws by_ L a)), .int (nI (x_we by_ L (x_ws by_ L a))), .int (wn + 1)])) Q) ?_ ?_ 0 (Nat.zero_le _)
        · intro i1 hi1 ih1
          have hs := x_ws_spec by_ ha
          have ht := x_we_spec by_ hs.2.1
          have hd := x_dg_spec by_ ht.1
          have ht2 := ht.2.1
          have hd2 := hd.2.1
          have hg := hd.2.2.1 (x_ws by_ L a + i1) (by omega) (by omega)
          have hg1 := hg.1
          refine j_iload_n (pc := 30) dX5_nextNumber_30 rfl ?_
          refine j_aload_n (pc := 31) dX5_nextNumber_31 rfl ?_
          refine j_getf (pc := 32) dX5_nextNumber_32 jfX5_19 j_hs rfl ?_
          refine j_icmp_geN (a := x_ws by_ L a + i1) (b := x_we by_ L (x_ws by_ L a)) (pc := 35) (tgt := 83) dX5_nextNumber_35 (by decide) (by omega) (by omega) (fun c6 => ?_) (fun c6 => ?_)
          · exfalso; omega
          · refine j_aload_n (pc := 38) dX5_nextNumber_38 rfl ?_
            refine j_getf (pc := 39) dX5_nextNumber_39 jfX5_11 j_hs rfl ?_
            refine j_iload_n (pc := 42) dX5_nextNumber_42 rfl ?_
            refine j_cald (pc := 43) dX5_nextNumber_43 (j_hn (by decide) H1) (jix_nI (by omega) (by decide)) ?_
            refine j_bipush (pc := 44) (v := 48) dX5_nextNumber_44 (by decide) ?_
            refine j_icmp_lt (pc := 46) (tgt := 60) dX5_nextNumber_46 (by decide) (fun c7 => ?_) (fun c7 => ?_)
            · exfalso; exact absurd c7 hg.2.1
            · refine j_aload_n (pc := 49) dX5_nextNumber_49 rfl ?_
              refine j_getf (pc := 50) dX5_nextNumber_50 jfX5_11 j_hs rfl ?_
              refine j_iload_n (pc := 53) dX5_nextNumber_53 rfl ?_
              refine j_cald (pc := 54) dX5_nextNumber_54 (j_hn (by decide) H1) (jix_nI (by omega) (by decide)) ?_
              refine j_bipush (pc := 55) (v := 57) dX5_nextNumber_55 (by decide) ?_
              refine j_icmp_le (pc := 57) (tgt := 62) dX5_nextNumber_57 (by decide) (fun c8 => ?_) (fun c8 => ?_)
              · refine j_bipush (pc := 62) (v := 10) dX5_nextNumber_62 (by decide) ?_
                refine j_iload_n (pc := 64) dX5_nextNumber_64 rfl ?_
                refine j_imul (pc := 65) dX5_nextNumber_65 ?_
                refine j_aload_n (pc := 66) dX5_nextNumber_66 rfl ?_
                refine j_getf (pc := 67) dX5_nextNumber_67 jfX5_11 j_hs rfl ?_
                refine j_iload_n (pc := 70) dX5_nextNumber_70 rfl ?_
                refine j_cald (pc := 71) dX5_nextNumber_71 (j_hn (by decide) H1) (jix_nI (by omega) (by decide)) ?_
                refine j_bipush (pc := 72) (v := 48) dX5_nextNumber_72 (by decide) ?_
                refine j_isub (pc := 74) dX5_nextNumber_74 ?_
                refine j_iadd (pc := 75) dX5_nextNumber_75 ?_
                refine j_istore_n (pc := 76) dX5_nextNumber_76 (by decide) ?_
                refine j_iincN (a := x_ws by_ L a + i1) (d := 1) (pc := 77) dX5_nextNumber_77 rfl (by decide) ?_
                refine j_goto (pc := 80) (tgt := 30) dX5_nextNumber_80 (by decide) ?_
                exact j_sub rfl ih1
              · exfalso; exact absurd hg.2.2 c8
        · have hs := x_ws_spec by_ ha
          have ht := x_we_spec by_ hs.2.1
          have hd := x_dg_spec by_ ht.1
          have ht2 := ht.2.1
          have hd1 := hd.1
          have hd2 := hd.2.1
          show J l G mX5_nextNumber 0 0 30 [(0, .ref 1), (1, .int m0), (2, .int (x_nc by_ (x_ws by_ L a) (x_dg by_ (x_we by_ L (x_ws by_ L a)) (x_ws by_ L a) - x_ws by_ L a))), (3, .int (nI (x_ws by_ L a + (x_dg by_ (x_we by_ L (x_ws by_ L a)) (x_ws by_ L a) - x_ws by_ L a))))] [] (j_set h 1 (jO 5 [.ref 2, .int (nI L), .int (nI (x_ws by_ L a)), .int (nI (x_we by_ L (x_ws by_ L a))), .int (wn + 1)])) Q
          rw [show x_ws by_ L a + (x_dg by_ (x_we by_ L (x_ws by_ L a)) (x_ws by_ L a) - x_ws by_ L a) = x_dg by_ (x_we by_ L (x_ws by_ L a)) (x_ws by_ L a) from by omega]
          refine j_iload_n (pc := 30) dX5_nextNumber_30 rfl ?_
          refine j_aload_n (pc := 31) dX5_nextNumber_31 rfl ?_
          refine j_getf (pc := 32) dX5_nextNumber_32 jfX5_19 j_hs rfl ?_
          refine j_icmp_geN (a := x_dg by_ (x_we by_ L (x_ws by_ L a)) (x_ws by_ L a)) (b := x_we by_ L (x_ws by_ L a)) (pc := 35) (tgt := 83) dX5_nextNumber_35 (by decide) (by omega) (by omega) (fun c9 => ?_) (fun c9 => ?_)
          · refine j_iload_n (pc := 83) dX5_nextNumber_83 rfl ?_
            refine j_iload_n (pc := 84) dX5_nextNumber_84 rfl ?_
            refine j_icmp_gt (pc := 85) (tgt := 92) dX5_nextNumber_85 (by decide) (fun c10 => ?_) (fun c10 => ?_)
            · refine j_iconst (pc := 92) (v := -1) dX5_nextNumber_92 (by decide) ?_
              exact j_iret (pc := 93) dX5_nextNumber_93 rfl rfl (Nat.le_of_ble_eq_true rfl) (Nat.le_of_ble_eq_true rfl) (K2 c2 c5 c9 c10)
            · refine j_iload_n (pc := 88) dX5_nextNumber_88 rfl ?_
              refine j_goto (pc := 89) (tgt := 93) dX5_nextNumber_89 (by decide) ?_
              exact j_iret (pc := 93) dX5_nextNumber_93 rfl rfl (Nat.le_of_ble_eq_true rfl) (Nat.le_of_ble_eq_true rfl) (K3 c2 c5 c9 c10)
          · refine j_aload_n (pc := 38) dX5_nextNumber_38 rfl ?_
            refine j_getf (pc := 39) dX5_nextNumber_39 jfX5_11 j_hs rfl ?_
            refine j_iload_n (pc := 42) dX5_nextNumber_42 rfl ?_
            refine j_cald (pc := 43) dX5_nextNumber_43 (j_hn (by decide) H1) (jix_nI (by omega) (by decide)) ?_
            refine j_bipush (pc := 44) (v := 48) dX5_nextNumber_44 (by decide) ?_
            refine j_icmp_lt (pc := 46) (tgt := 60) dX5_nextNumber_46 (by decide) (fun c11 => ?_) (fun c11 => ?_)
            · refine j_iconst (pc := 60) (v := -1) dX5_nextNumber_60 (by decide) ?_
              exact j_iret (pc := 61) dX5_nextNumber_61 rfl rfl (Nat.le_of_ble_eq_true rfl) (Nat.le_of_ble_eq_true rfl) (K4 c2 c5 c9)
            · refine j_aload_n (pc := 49) dX5_nextNumber_49 rfl ?_
              refine j_getf (pc := 50) dX5_nextNumber_50 jfX5_11 j_hs rfl ?_
              refine j_iload_n (pc := 53) dX5_nextNumber_53 rfl ?_
              refine j_cald (pc := 54) dX5_nextNumber_54 (j_hn (by decide) H1) (jix_nI (by omega) (by decide)) ?_
              refine j_bipush (pc := 55) (v := 57) dX5_nextNumber_55 (by decide) ?_
              refine j_icmp_le (pc := 57) (tgt := 62) dX5_nextNumber_57 (by decide) (fun c12 => ?_) (fun c12 => ?_)
              · exfalso; exact absurd c12 (hd.2.2.2 (by omega) (by assumption))
              · refine j_iconst (pc := 60) (v := -1) dX5_nextNumber_60 (by decide) ?_
                exact j_iret (pc := 61) dX5_nextNumber_61 rfl rfl (Nat.le_of_ble_eq_true rfl) (Nat.le_of_ble_eq_true rfl) (K4 c2 c5 c9)
      · refine j_iconst (pc := 21) (v := -1) dX5_nextNumber_21 (by decide) ?_
        exact j_iret (pc := 22) dX5_nextNumber_22 rfl rfl (Nat.le_of_ble_eq_true rfl) (Nat.le_of_ble_eq_true rfl) (K5 c2 c5)
