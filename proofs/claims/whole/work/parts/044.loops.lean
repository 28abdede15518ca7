set_option maxRecDepth 20000 in
theorem l_J7_fill_53178 {l : Launch} {G : jG} {h : jH} {Q : Option Value → jH → Prop} {a N : Nat} {v : Int32} {f : Nat → Int32} (H0 : h.2 a = some (jI N f)) (hN : N < 2147483648) (K1 : Q none (j_set h a (jI N (j_f0 f (fun _ => v) N)))) : ∀ i : Nat, i ≤ N → J l G mJ7_fill_53178 0 0 5 [(0, .ref a), (1, .int v), (2, .int (nI i)), (3, .int (nI N))] [] (j_set h a (jI N (j_f0 f (fun _ => v) i))) Q := by
  refine j_for ?_ ?_
  · intro i hi ih
    refine j_iload_n (pc := 5) dJ7_fill_53178_5 rfl ?_
    refine j_iload_n (pc := 6) dJ7_fill_53178_6 rfl ?_
    refine j_icmp_geN (a := i) (b := N) (pc := 7) (tgt := 20) dJ7_fill_53178_7 (by decide) (by omega) (by omega) (fun c1 => ?_) (fun c1 => ?_)
    · exfalso; omega
    · refine j_aload_n (pc := 10) dJ7_fill_53178_10 rfl ?_
      refine j_iload_n (pc := 11) dJ7_fill_53178_11 rfl ?_
      refine j_iload_n (pc := 12) dJ7_fill_53178_12 rfl ?_
      refine j_iast (pc := 13) dJ7_fill_53178_13 j_hs (jix_nI hi hN) ?_
      rw [j_ss0 (a := a)]
      refine j_iincN (a := i) (d := 1) (pc := 14) dJ7_fill_53178_14 rfl (by decide) ?_
      refine j_goto (pc := 17) (tgt := 5) dJ7_fill_53178_17 (by decide) ?_
      exact j_sub rfl ih
  · refine j_iload_n (pc := 5) dJ7_fill_53178_5 rfl ?_
    refine j_iload_n (pc := 6) dJ7_fill_53178_6 rfl ?_
    refine j_icmp_geN (a := N) (b := N) (pc := 7) (tgt := 20) dJ7_fill_53178_7 (by decide) (by omega) (by omega) (fun c1 => ?_) (fun c1 => ?_)
    · exact j_vret (pc := 20) dJ7_fill_53178_20 rfl (Nat.le_of_ble_eq_true rfl) (Nat.le_of_ble_eq_true rfl) K1
    · exfalso; omega
set_option maxRecDepth 20000 in
theorem s_J7_fill_53178 {l : Launch} {G : jG} {h : jH} {Q : Option Value → jH → Prop} {a N : Nat} {v : Int32} {f : Nat → Int32} (H0 : h.2 a = some (jI N f)) (hN : N < 2147483648) (K1 : Q none (j_set h a (jI N (j_f0 f (fun _ => v) N)))) : J l G mJ7_fill_53178 0 0 0 (lv_args 0 [.ref a, .int v]) [] h Q := by
  refine j_iconst (pc := 0) (v := 0) dJ7_fill_53178_0 (by decide) ?_
  refine j_istore_n (pc := 1) dJ7_fill_53178_1 (by decide) ?_
  refine j_aload_n (pc := 2) dJ7_fill_53178_2 rfl ?_
  refine j_alen (pc := 3) dJ7_fill_53178_3 (t := 0) rfl H0 ?_
  refine j_istore_n (pc := 4) dJ7_fill_53178_4 (by decide) ?_
  refine j_pad H0 ?_
  exact j_sub rfl (l_J7_fill_53178 H0 hN K1 0 (Nat.zero_le _))

set_option maxRecDepth 20000 in
theorem l_J7_fill_d0a16 {l : Launch} {G : jG} {h : jH} {Q : Option Value → jH → Prop} {a N : Nat} {v : Int64} {f : Nat → Int64} (H0 : h.2 a = some (jL N f)) (hN : N < 2147483648) (K1 : Q none (j_set h a (jL N (j_f0 f (fun _ => v) N)))) : ∀ i : Nat, i ≤ N → J l G mJ7_fill_d0a16 0 0 6 [(0, .ref a), (1, .long v), (3, .int (nI i)), (4, .int (nI N))] [] (j_set h a (jL N (j_f0 f (fun _ => v) i))) Q := by
  refine j_for ?_ ?_
  · intro i hi ih
    refine j_iload_n (pc := 6) dJ7_fill_d0a16_6 rfl ?_
    refine j_iload (pc := 7) dJ7_fill_d0a16_7 rfl ?_
    refine j_icmp_geN (a := i) (b := N) (pc := 9) (tgt := 22) dJ7_fill_d0a16_9 (by decide) (by omega) (by omega) (fun c1 => ?_) (fun c1 => ?_)
    · exfalso; omega
    · refine j_aload_n (pc := 12) dJ7_fill_d0a16_12 rfl ?_
      refine j_iload_n (pc := 13) dJ7_fill_d0a16_13 rfl ?_
      refine j_lload_n (pc := 14) dJ7_fill_d0a16_14 rfl ?_
      refine j_last (pc := 15) dJ7_fill_d0a16_15 j_hs (jix_nI hi hN) ?_
      rw [j_ss0 (a := a)]
      refine j_iincN (a := i) (d := 1) (pc := 16) dJ7_fill_d0a16_16 rfl (by decide) ?_
      refine j_goto (pc := 19) (tgt := 6) dJ7_fill_d0a16_19 (by decide) ?_
      exact j_sub rfl ih
  · refine j_iload_n (pc := 6) dJ7_fill_d0a16_6 rfl ?_
    refine j_iload (pc := 7) dJ7_fill_d0a16_7 rfl ?_
    refine j_icmp_geN (a := N) (b := N) (pc := 9) (tgt := 22) dJ7_fill_d0a16_9 (by decide) (by omega) (by omega) (fun c1 => ?_) (fun c1 => ?_)
    · exact j_vret (pc := 22) dJ7_fill_d0a16_22 rfl (Nat.le_of_ble_eq_true rfl) (Nat.le_of_ble_eq_true rfl) K1
    · exfalso; omega
set_option maxRecDepth 20000 in
theorem s_J7_fill_d0a16 {l : Launch} {G : jG} {h : jH} {Q : Option Value → jH → Prop} {a N : Nat} {v : Int64} {f : Nat → Int64} (H0 : h.2 a = some (jL N f)) (hN : N < 2147483648) (K1 : Q none (j_set h a (jL N (j_f0 f (fun _ => v) N)))) : J l G mJ7_fill_d0a16 0 0 0 (lv_args 0 [.ref a, .long v]) [] h Q := by
  refine j_iconst (pc := 0) (v := 0) dJ7_fill_d0a16_0 (by decide) ?_
  refine j_istore_n (pc := 1) dJ7_fill_d0a16_1 (by decide) ?_
  refine j_aload_n (pc := 2) dJ7_fill_d0a16_2 rfl ?_
  refine j_alen (pc := 3) dJ7_fill_d0a16_3 (t := 1) rfl H0 ?_
  refine j_istore (pc := 4) dJ7_fill_d0a16_4 (by decide) ?_
  refine j_pad H0 ?_
  exact j_sub rfl (l_J7_fill_d0a16 H0 hN K1 0 (Nat.zero_le _))

set_option maxRecDepth 20000 in
theorem l_X2_totalOf {l : Launch} {G : jG} {h : jH} {Q : Option Value → jH → Prop} {a ea eb n : Nat} {dy tk tb x : Int32} {ac : Nat → Int32} {am : Nat → Int64} (H0 : h.2 a = some (jO 2 [.ref ea, .ref eb, .int (nI n), .int dy, .int tk, .int tb])) (H1 : h.2 ea = some (jI 8 ac)) (H2 : h.2 eb = some (jL 8 am)) (hn : n ≤ 8) (K1 : Q (some (.long (j_sc am ac x n))) h) : ∀ i : Nat, i ≤ n → J l G mX2_totalOf 0 0 5 [(0, .ref a), (1, .int x), (2, .long (j_sc am ac x i)), (4, .int (nI i))] [] h Q := by
  refine j_for ?_ ?_
  · intro i hi ih
    refine j_iload (pc := 5) dX2_totalOf_5 rfl ?_
    refine j_aload_n (pc := 7) dX2_totalOf_7 rfl ?_
    refine j_getf (pc := 8) dX2_totalOf_8 jfX2_23 H0 rfl ?_
    refine j_icmp_geN (a := i) (b := n) (pc := 11) (tgt := 41) dX2_totalOf_11 (by decide) (by omega) (by omega) (fun c1 => ?_) (fun c1 => ?_)
    · exfalso; omega
    · refine j_aload_n (pc := 14) dX2_totalOf_14 rfl ?_
      refine j_getf (pc := 15) dX2_totalOf_15 jfX2_11 H0 rfl ?_
      refine j_iload (pc := 18) dX2_totalOf_18 rfl ?_
      refine j_iald (pc := 20) dX2_totalOf_20 H1 (jix_nI (by omega) (by decide)) ?_
      refine j_iload_n (pc := 21) dX2_totalOf_21 rfl ?_
      refine j_icmp_ne (pc := 22) (tgt := 35) dX2_totalOf_22 (by decide) (fun c2 => ?_) (fun c2 => ?_)
      · refine j_iincN (a := i) (d := 1) (pc := 35) dX2_totalOf_35 rfl (by decide) ?_
        refine j_goto (pc := 38) (tgt := 5) dX2_totalOf_38 (by decide) ?_
        rw [j_sc_f c2] at ih
        exact j_sub rfl ih
      · refine j_lload_n (pc := 25) dX2_totalOf_25 rfl ?_
        refine j_aload_n (pc := 26) dX2_totalOf_26 rfl ?_
        refine j_getf (pc := 27) dX2_totalOf_27 jfX2_15 H0 rfl ?_
        refine j_iload (pc := 30) dX2_totalOf_30 rfl ?_
        refine j_lald (pc := 32) dX2_totalOf_32 H2 (jix_nI (by omega) (by decide)) ?_
        refine j_ladd (pc := 33) dX2_totalOf_33 ?_
        refine j_lstore_n (pc := 34) dX2_totalOf_34 (by decide) ?_
        refine j_iincN (a := i) (d := 1) (pc := 35) dX2_totalOf_35 rfl (by decide) ?_
        refine j_goto (pc := 38) (tgt := 5) dX2_totalOf_38 (by decide) ?_
        rw [j_sc_t c2] at ih
        exact j_sub rfl ih
  · refine j_iload (pc := 5) dX2_totalOf_5 rfl ?_
    refine j_aload_n (pc := 7) dX2_totalOf_7 rfl ?_
    refine j_getf (pc := 8) dX2_totalOf_8 jfX2_23 H0 rfl ?_
    refine j_icmp_geN (a := n) (b := n) (pc := 11) (tgt := 41) dX2_totalOf_11 (by decide) (by omega) (by omega) (fun c1 => ?_) (fun c1 => ?_)
    · refine j_lload_n (pc := 41) dX2_totalOf_41 rfl ?_
      exact j_lret (pc := 42) dX2_totalOf_42 rfl (Nat.le_of_ble_eq_true rfl) (Nat.le_of_ble_eq_true rfl) K1
    · exfalso; omega
set_option maxRecDepth 20000 in
theorem s_X2_totalOf {l : Launch} {G : jG} {h : jH} {Q : Option Value → jH → Prop} {a ea eb n : Nat} {dy tk tb x : Int32} {ac : Nat → Int32} {am : Nat → Int64} (H0 : h.2 a = some (jO 2 [.ref ea, .ref eb, .int (nI n), .int dy, .int tk, .int tb])) (H1 : h.2 ea = some (jI 8 ac)) (H2 : h.2 eb = some (jL 8 am)) (hn : n ≤ 8) (K1 : Q (some (.long (j_sc am ac x n))) h) : J l G mX2_totalOf 0 0 0 (lv_args 0 [.ref a, .int x]) [] h Q := by
  refine j_lconst (pc := 0) (v := 0) dX2_totalOf_0 (by decide) ?_
  refine j_lstore_n (pc := 1) dX2_totalOf_1 (by decide) ?_
  refine j_iconst (pc := 2) (v := 0) dX2_totalOf_2 (by decide) ?_
  refine j_istore (pc := 3) dX2_totalOf_3 (by decide) ?_
  exact j_sub rfl (l_X2_totalOf H0 H1 H2 hn K1 0 (Nat.zero_le _))

set_option maxRecDepth 20000 in
theorem s_X3_clear {l : Launch} {G : jG} {h : jH} {Q : Option Value → jH → Prop} {n : Nat} (H0 : h.2 8 = some (jO 3 [.ref 9, .ref 10, .ref 11, .int (nI n)]))  (K1 : Q none (j_set h 8 (jO 3 [.ref 9, .ref 10, .ref 11, .int 0]))) : J l G mX3_clear 0 0 0 (lv_args 0 [.ref 8]) [] h Q := by
  refine j_aload_n (pc := 0) dX3_clear_0 rfl ?_
  refine j_iconst (pc := 1) (v := 0) dX3_clear_1 (by decide) ?_
  refine j_putf (pc := 2) dX3_clear_2 jfX3_21 H0 rfl rfl (Nat.le_of_ble_eq_true rfl) ?_
  show J l G mX3_clear _ _ 5 _ _ (j_set h 8 (jO 3 [.ref 9, .ref 10, .ref 11, .int 0])) Q
  exact j_vret (pc := 5) dX3_clear_5 rfl (Nat.le_of_ble_eq_true rfl) (Nat.le_of_ble_eq_true rfl) (K1)

set_option maxRecDepth 20000 in
theorem s_X3_add {l : Launch} {G : jG} {h : jH} {Q : Option Value → jH → Prop} {n : Nat} {v : Int64} {pw : Nat → Int64} (H0 : h.2 8 = some (jO 3 [.ref 9, .ref 10, .ref 11, .int (nI n)])) (H1 : h.2 9 = some (jL 12 pw)) (hn : n ≤ 12) (K1 : 12 ≤ n → Q none h) (K2 : ¬ 12 ≤ n → Q none (j_set (j_set h 9 (jL 12 (va_up pw n v))) 8 (jO 3 [.ref 9, .ref 10, .ref 11, .int (nI (n + 1))]))) : J l G mX3_add 0 0 0 (lv_args 0 [.ref 8, .long v]) [] h Q := by
  refine j_aload_n (pc := 0) dX3_add_0 rfl ?_
  refine j_getf (pc := 1) dX3_add_1 jfX3_21 H0 rfl ?_
  refine j_bipush (pc := 4) (v := 12) dX3_add_4 (by decide) ?_
  refine j_icmp_geN (a := n) (b := 12) (pc := 6) (tgt := 29) dX3_add_6 (by decide) (by omega) (by omega) (fun c1 => ?_) (fun c1 => ?_)
  · exact j_vret (pc := 29) dX3_add_29 rfl (Nat.le_of_ble_eq_true rfl) (Nat.le_of_ble_eq_true rfl) (K1 c1)
  · refine j_aload_n (pc := 9) dX3_add_9 rfl ?_
    refine j_getf (pc := 10) dX3_add_10 jfX3_9 H0 rfl ?_
    refine j_aload_n (pc := 13) dX3_add_13 rfl ?_
    refine j_getf (pc := 14) dX3_add_14 jfX3_21 H0 rfl ?_
    refine j_lload_n (pc := 17) dX3_add_17 rfl ?_
    refine j_last (pc := 18) dX3_add_18 H1 (jix_nI (by omega) (by decide)) ?_
    refine j_aload_n (pc := 19) dX3_add_19 rfl ?_
    refine j_dup (pc := 20) dX3_add_20 rfl ?_
    refine j_getf (pc := 21) dX3_add_21 jfX3_21 (j_hn (by decide) H0) rfl ?_
    refine j_iconst (pc := 24) (v := 1) dX3_add_24 (by decide) ?_
    refine j_iaddN (a := n) (b := 1) (pc := 25) dX3_add_25 ?_
    refine j_putf (pc := 26) dX3_add_26 jfX3_21 (j_hn (by decide) H0) rfl rfl (Nat.le_of_ble_eq_true rfl) ?_
    show J l G mX3_add _ _ 29 _ _ (j_set (j_set h 9 (jL 12 (va_up pw n v))) 8 (jO 3 [.ref 9, .ref 10, .ref 11, .int (nI (n + 1))])) Q
    exact j_vret (pc := 29) dX3_add_29 rfl (Nat.le_of_ble_eq_true rfl) (Nat.le_of_ble_eq_true rfl) (K2 c1)

set_option maxRecDepth 20000 in
theorem l_X3_wholeWeight {l : Launch} {G : jG} {h : jH} {Q : Option Value → jH → Prop} {n : Nat} {pw : Nat → Int64} (H0 : h.2 8 = some (jO 3 [.ref 9, .ref 10, .ref 11, .int (nI n)])) (H1 : h.2 9 = some (jL 12 pw)) (hn : n ≤ 12) (K1 : Q (some (.long (j_sm pw n))) h) : ∀ i : Nat, i ≤ n → J l G mX3_wholeWeight 0 0 4 [(0, .ref 8), (1, .long (j_sm pw i)), (3, .int (nI i))] [] h Q := by
  refine j_for ?_ ?_
  · intro i hi ih
    refine j_iload_n (pc := 4) dX3_wholeWeight_4 rfl ?_
    refine j_aload_n (pc := 5) dX3_wholeWeight_5 rfl ?_
    refine j_getf (pc := 6) dX3_wholeWeight_6 jfX3_21 H0 rfl ?_
    refine j_icmp_geN (a := i) (b := n) (pc := 9) (tgt := 27) dX3_wholeWeight_9 (by decide) (by omega) (by omega) (fun c1 => ?_) (fun c1 => ?_)
    · exfalso; omega
    · refine j_lload_n (pc := 12) dX3_wholeWeight_12 rfl ?_
      refine j_aload_n (pc := 13) dX3_wholeWeight_13 rfl ?_
      refine j_getf (pc := 14) dX3_wholeWeight_14 jfX3_9 H0 rfl ?_
      refine j_iload_n (pc := 17) dX3_wholeWeight_17 rfl ?_
      refine j_lald (pc := 18) dX3_wholeWeight_18 H1 (jix_nI (by omega) (by decide)) ?_
      refine j_ladd (pc := 19) dX3_wholeWeight_19 ?_
      refine j_lstore_n (pc := 20) dX3_wholeWeight_20 (by decide) ?_
      refine j_iincN (a := i) (d := 1) (pc := 21) dX3_wholeWeight_21 rfl (by decide) ?_
      refine j_goto (pc := 24) (tgt := 4) dX3_wholeWeight_24 (by decide) ?_
      exact j_sub rfl ih
  · refine j_iload_n (pc := 4) dX3_wholeWeight_4 rfl ?_
    refine j_aload_n (pc := 5) dX3_wholeWeight_5 rfl ?_
    refine j_getf (pc := 6) dX3_wholeWeight_6 jfX3_21 H0 rfl ?_
    refine j_icmp_geN (a := n) (b := n) (pc := 9) (tgt := 27) dX3_wholeWeight_9 (by decide) (by omega) (by omega) (fun c1 => ?_) (fun c1 => ?_)
    · refine j_lload_n (pc := 27) dX3_wholeWeight_27 rfl ?_
      exact j_lret (pc := 28) dX3_wholeWeight_28 rfl (Nat.le_of_ble_eq_true rfl) (Nat.le_of_ble_eq_true rfl) K1
    · exfalso; omega
set_option maxRecDepth 20000 in
theorem s_X3_wholeWeight {l : Launch} {G : jG} {h : jH} {Q : Option Value → jH → Prop} {n : Nat} {pw : Nat → Int64} (H0 : h.2 8 = some (jO 3 [.ref 9, .ref 10, .ref 11, .int (nI n)])) (H1 : h.2 9 = some (jL 12 pw)) (hn : n ≤ 12) (K1 : Q (some (.long (j_sm pw n))) h) : J l G mX3_wholeWeight 0 0 0 (lv_args 0 [.ref 8]) [] h Q := by
  refine j_lconst (pc := 0) (v := 0) dX3_wholeWeight_0 (by decide) ?_
  refine j_lstore_n (pc := 1) dX3_wholeWeight_1 (by decide) ?_
  refine j_iconst (pc := 2) (v := 0) dX3_wholeWeight_2 (by decide) ?_
  refine j_istore_n (pc := 3) dX3_wholeWeight_3 (by decide) ?_
  exact j_sub rfl (l_X3_wholeWeight H0 H1 hn K1 0 (Nat.zero_le _))

set_option maxRecDepth 20000 in
theorem l_X3_mostCut {l : Launch} {G : jG} {h : jH} {Q : Option Value → jH → Prop} {n : Nat} {cu : Nat → Int64} (H0 : h.2 8 = some (jO 3 [.ref 9, .ref 10, .ref 11, .int (nI n)])) (H1 : h.2 11 = some (jL 12 cu)) (hn : n ≤ 12) (hn1 : 1 ≤ n) (K1 : Q (some (.int (nI (j_mx cu n)))) h) : ∀ i : Nat, i ≤ n → J l G mX3_mostCut 0 0 4 [(0, .ref 8), (1, .int (nI (j_mx cu i))), (2, .int (nI i))] [] h Q := by
  refine j_for ?_ ?_
  · intro i hi ih
    have hm := j_mx_le cu i
    refine j_iload_n (pc := 4) dX3_mostCut_4 rfl ?_
    refine j_aload_n (pc := 5) dX3_mostCut_5 rfl ?_
    refine j_getf (pc := 6) dX3_mostCut_6 jfX3_21 H0 rfl ?_
    refine j_icmp_geN (a := i) (b := n) (pc := 9) (tgt := 36) dX3_mostCut_9 (by decide) (by omega) (by omega) (fun c1 => ?_) (fun c1 => ?_)
    · exfalso; omega
    · refine j_aload_n (pc := 12) dX3_mostCut_12 rfl ?_
      refine j_getf (pc := 13) dX3_mostCut_13 jfX3_18 H0 rfl ?_
      refine j_iload_n (pc := 16) dX3_mostCut_16 rfl ?_
      refine j_lald (pc := 17) dX3_mostCut_17 H1 (jix_nI (by omega) (by decide)) ?_
      refine j_aload_n (pc := 18) dX3_mostCut_18 rfl ?_
      refine j_getf (pc := 19) dX3_mostCut_19 jfX3_18 H0 rfl ?_
      refine j_iload_n (pc := 22) dX3_mostCut_22 rfl ?_
      refine j_lald (pc := 23) dX3_mostCut_23 H1 (jix_nI (by omega) (by decide)) ?_
      refine j_lc_le (pc := 24) (tgt := 30) dX3_mostCut_24 dX3_mostCut_25 (by decide) (fun c2 => ?_) (fun c2 => ?_)
      · refine j_iincN (a := i) (d := 1) (pc := 30) dX3_mostCut_30 rfl (by decide) ?_
        refine j_goto (pc := 33) (tgt := 4) dX3_mostCut_33 (by decide) ?_
        rw [j_mx_f c2] at ih
        exact j_sub rfl ih
      · refine j_iload_n (pc := 28) dX3_mostCut_28 rfl ?_
        refine j_istore_n (pc := 29) dX3_mostCut_29 (by decide) ?_
        refine j_iincN (a := i) (d := 1) (pc := 30) dX3_mostCut_30 rfl (by decide) ?_
        refine j_goto (pc := 33) (tgt := 4) dX3_mostCut_33 (by decide) ?_
        rw [j_mx_t c2] at ih
        exact j_sub rfl ih
  · refine j_iload_n (pc := 4) dX3_mostCut_4 rfl ?_
    refine j_aload_n (pc := 5) dX3_mostCut_5 rfl ?_
    refine j_getf (pc := 6) dX3_mostCut_6 jfX3_21 H0 rfl ?_
    refine j_icmp_geN (a := n) (b := n) (pc := 9) (tgt := 36) dX3_mostCut_9 (by decide) (by omega) (by omega) (fun c1 => ?_) (fun c1 => ?_)
    · refine j_iload_n (pc := 36) dX3_mostCut_36 rfl ?_
      exact j_iret (pc := 37) dX3_mostCut_37 rfl rfl (Nat.le_of_ble_eq_true rfl) (Nat.le_of_ble_eq_true rfl) K1
    · exfalso; omega
set_option maxRecDepth 20000 in
theorem s_X3_mostCut {l : Launch} {G : jG} {h : jH} {Q : Option Value → jH → Prop} {n : Nat} {cu : Nat → Int64} (H0 : h.2 8 = some (jO 3 [.ref 9, .ref 10, .ref 11, .int (nI n)])) (H1 : h.2 11 = some (jL 12 cu)) (hn : n ≤ 12) (hn1 : 1 ≤ n) (K1 : Q (some (.int (nI (j_mx cu n)))) h) : J l G mX3_mostCut 0 0 0 (lv_args 0 [.ref 8]) [] h Q := by
  refine j_iconst (pc := 0) (v := 0) dX3_mostCut_0 (by decide) ?_
  refine j_istore_n (pc := 1) dX3_mostCut_1 (by decide) ?_
  refine j_iconst (pc := 2) (v := 1) dX3_mostCut_2 (by decide) ?_
  refine j_istore_n (pc := 3) dX3_mostCut_3 (by decide) ?_
  have L := l_X3_mostCut (l := l) (G := G) H0 H1 hn hn1 K1 1 hn1
  rw [j_mx_1] at L
  exact j_sub rfl L

set_option maxRecDepth 20000 in
theorem l_X3_giveCents {l : Launch} {G : jG} {h : jH} {Q : Option Value → jH → Prop} {n : Nat} {k : Int64} {ps cu : Nat → Int64} (H0 : h.2 8 = some (jO 3 [.ref 9, .ref 10, .ref 11, .int (nI n)])) (H1 : h.2 10 = some (jL 12 ps)) (H2 : h.2 11 = some (jL 12 cu)) (hn : n ≤ 12) (K1 : Q none (j_set (j_set h 10 (jL 12 ((j_gv n ps cu (min n k.toInt.toNat)).1))) 11 (jL 12 ((j_gv n ps cu (min n k.toInt.toNat)).2)))) : ∀ i : Nat, i ≤ (min n k.toInt.toNat) → J l G mX3_giveCents 0 0 2 [(0, .ref 8), (1, .long k), (3, .int (nI i))] [] (j_set (j_set h 10 (jL 12 ((j_gv n ps cu i).1))) 11 (jL 12 ((j_gv n ps cu i).2))) Q := by
  refine j_for ?_ ?_
  · intro i hi ih
    have hm := j_mx_le (j_gv n ps cu i).2 n
    refine j_iload_n (pc := 2) dX3_giveCents_2 rfl ?_
    refine j_aload_n (pc := 3) dX3_giveCents_3 rfl ?_
    refine j_getf (pc := 4) dX3_giveCents_4 jfX3_21 (j_hn (by decide) (j_hn (by decide) H0)) rfl ?_
    refine j_icmp_geN (a := i) (b := n) (pc := 7) (tgt := 50) dX3_giveCents_7 (by decide) (by omega) (by omega) (fun c1 => ?_) (fun c1 => ?_)
    · exfalso; omega
    · refine j_iload_n (pc := 10) dX3_giveCents_10 rfl ?_
      refine j_i2l (pc := 11) dX3_giveCents_11 ?_
      refine j_lload_n (pc := 12) dX3_giveCents_12 rfl ?_
      refine j_lc_ge (pc := 13) (tgt := 50) dX3_giveCents_13 dX3_giveCents_14 (by decide) (fun c2 => ?_) (fun c2 => ?_)
      · exfalso; have z := (j_lkc (by omega)).mp c2; omega
      · refine j_aload_n (pc := 17) dX3_giveCents_17 rfl ?_
        refine j_V0 (rm' := rmX3_mostCut) (pc := 18) dX3_giveCents_18 jlX3_39 (j_hn (by decide) (j_hn (by decide) H0)) rfl ⟨Nat.le_of_ble_eq_true rfl, Nat.le_of_ble_eq_true rfl, Nat.le_of_ble_eq_true rfl, Nat.le_of_ble_eq_true rfl, Nat.le_of_ble_eq_true rfl, Nat.le_of_ble_eq_true rfl⟩ ?_
        refine s_X3_mostCut (n := n) (j_hn (by decide) (j_hn (by decide) H0)) j_hs hn (by omega) ?_
        show J l G mX3_giveCents _ _ 21 _ [.int (nI (j_mx ((j_gv n ps cu i).2) n))] (j_set (j_set h 10 (jL 12 ((j_gv n ps cu i).1))) 11 (jL 12 ((j_gv n ps cu i).2))) Q
        refine j_istore (pc := 21) dX3_giveCents_21 (by decide) ?_
        refine j_aload_n (pc := 23) dX3_giveCents_23 rfl ?_
        refine j_getf (pc := 24) dX3_giveCents_24 jfX3_15 (j_hn (by decide) (j_hn (by decide) H0)) rfl ?_
        refine j_iload (pc := 27) dX3_giveCents_27 rfl ?_
        refine j_dup2 (pc := 29) dX3_giveCents_29 rfl rfl ?_
        refine j_lald (pc := 30) dX3_giveCents_30 (j_hn (by decide) j_hs) (jix_nI (by omega) (by decide)) ?_
        refine j_lconst (pc := 31) (v := 1) dX3_giveCents_31 (by decide) ?_
        refine j_ladd (pc := 32) dX3_giveCents_32 ?_
        refine j_last (pc := 33) dX3_giveCents_33 (j_hn (by decide) j_hs) (jix_nI (by omega) (by decide)) ?_
        rw [j_ss1 (a := 10) (b0 := 11) (by decide)]
        refine j_aload_n (pc := 34) dX3_giveCents_34 rfl ?_
        refine j_getf (pc := 35) dX3_giveCents_35 jfX3_18 (j_hn (by decide) (j_hn (by decide) H0)) rfl ?_
        refine j_iload (pc := 38) dX3_giveCents_38 rfl ?_
        refine j_ldc2 (pc := 40) dX3_giveCents_40 jnX3_43 ?_
        refine j_last (pc := 43) dX3_giveCents_43 j_hs (jix_nI (by omega) (by decide)) ?_
        rw [j_ss0 (a := 11)]
        refine j_iincN (a := i) (d := 1) (pc := 44) dX3_giveCents_44 rfl (by decide) ?_
        refine j_goto (pc := 47) (tgt := 2) dX3_giveCents_47 (by decide) ?_
        exact j_sub rfl ih
  · refine j_iload_n (pc := 2) dX3_giveCents_2 rfl ?_
    refine j_aload_n (pc := 3) dX3_giveCents_3 rfl ?_
    refine j_getf (pc := 4) dX3_giveCents_4 jfX3_21 (j_hn (by decide) (j_hn (by decide) H0)) rfl ?_
    refine j_icmp_geN (a := min n k.toInt.toNat) (b := n) (pc := 7) (tgt := 50) dX3_giveCents_7 (by decide) (by omega) (by omega) (fun c1 => ?_) (fun c1 => ?_)
    · exact j_vret (pc := 50) dX3_giveCents_50 rfl (Nat.le_of_ble_eq_true rfl) (Nat.le_of_ble_eq_true rfl) K1
    · refine j_iload_n (pc := 10) dX3_giveCents_10 rfl ?_
      refine j_i2l (pc := 11) dX3_giveCents_11 ?_
      refine j_lload_n (pc := 12) dX3_giveCents_12 rfl ?_
      refine j_lc_ge (pc := 13) (tgt := 50) dX3_giveCents_13 dX3_giveCents_14 (by decide) (fun c2 => ?_) (fun c2 => ?_)
      · exact j_vret (pc := 50) dX3_giveCents_50 rfl (Nat.le_of_ble_eq_true rfl) (Nat.le_of_ble_eq_true rfl) K1
      · exfalso; exact c2 ((j_lkc (by omega)).mpr (by omega))
set_option maxRecDepth 20000 in
theorem s_X3_giveCents {l : Launch} {G : jG} {h : jH} {Q : Option Value → jH → Prop} {n : Nat} {k : Int64} {ps cu : Nat → Int64} (H0 : h.2 8 = some (jO 3 [.ref 9, .ref 10, .ref 11, .int (nI n)])) (H1 : h.2 10 = some (jL 12 ps)) (H2 : h.2 11 = some (jL 12 cu)) (hn : n ≤ 12) (K1 : Q none (j_set (j_set h 10 (jL 12 ((j_gv n ps cu (min n k.toInt.toNat)).1))) 11 (jL 12 ((j_gv n ps cu (min n k.toInt.toNat)).2)))) : J l G mX3_giveCents 0 0 0 (lv_args 0 [.ref 8, .long k]) [] h Q := by
  refine j_iconst (pc := 0) (v := 0) dX3_giveCents_0 (by decide) ?_
  refine j_istore_n (pc := 1) dX3_giveCents_1 (by decide) ?_
  refine j_pad H1 ?_
  refine j_pad (j_hn (by decide) H2) ?_
  exact j_sub rfl (l_X3_giveCents H0 H1 H2 hn K1 0 (Nat.zero_le _))
