set_option maxRecDepth 20000 in
theorem l_X2_total {l : Launch} {G : jG} {h : jH} {Q : Option Value → jH → Prop} {a ea eb n : Nat} {dy tk tb : Int32} {am : Nat → Int64} (H0 : h.2 a = some (jO 2 [.ref ea, .ref eb, .int (nI n), .int dy, .int tk, .int tb])) (H1 : h.2 eb = some (jL 8 am)) (hn : n ≤ 8) (K1 : Q (some (.long (j_sm am n))) h) : ∀ i : Nat, i ≤ n → J l G mX2_total 0 0 4 [(0, .ref a), (1, .long (j_sm am i)), (3, .int (nI i))] [] h Q := by
  refine j_for ?_ ?_
  · intro i hi ih
    refine j_iload_n (pc := 4) dX2_total_4 rfl ?_
    refine j_aload_n (pc := 5) dX2_total_5 rfl ?_
    refine j_getf (pc := 6) dX2_total_6 jfX2_23 H0 rfl ?_
    refine j_icmp_geN (a := i) (b := n) (pc := 9) (tgt := 27) dX2_total_9 (by decide) (by omega) (by omega) (fun c1 => ?_) (fun c1 => ?_)
    · exfalso; omega
    · refine j_lload_n (pc := 12) dX2_total_12 rfl ?_
      refine j_aload_n (pc := 13) dX2_total_13 rfl ?_
      refine j_getf (pc := 14) dX2_total_14 jfX2_15 H0 rfl ?_
      refine j_iload_n (pc := 17) dX2_total_17 rfl ?_
      refine j_lald (pc := 18) dX2_total_18 H1 (jix_nI (by omega) (by decide)) ?_
      refine j_ladd (pc := 19) dX2_total_19 ?_
      refine j_lstore_n (pc := 20) dX2_total_20 (by decide) ?_
      refine j_iincN (a := i) (d := 1) (pc := 21) dX2_total_21 rfl (by decide) ?_
      refine j_goto (pc := 24) (tgt := 4) dX2_total_24 (by decide) ?_
      exact j_sub rfl ih
  · refine j_iload_n (pc := 4) dX2_total_4 rfl ?_
    refine j_aload_n (pc := 5) dX2_total_5 rfl ?_
    refine j_getf (pc := 6) dX2_total_6 jfX2_23 H0 rfl ?_
    refine j_icmp_geN (a := n) (b := n) (pc := 9) (tgt := 27) dX2_total_9 (by decide) (by omega) (by omega) (fun c1 => ?_) (fun c1 => ?_)
    · refine j_lload_n (pc := 27) dX2_total_27 rfl ?_
      exact j_lret (pc := 28) dX2_total_28 rfl (Nat.le_of_ble_eq_true rfl) (Nat.le_of_ble_eq_true rfl) K1
    · exfalso; omega
set_option maxRecDepth 20000 in
theorem s_X2_total {l : Launch} {G : jG} {h : jH} {Q : Option Value → jH → Prop} {a ea eb n : Nat} {dy tk tb : Int32} {am : Nat → Int64} (H0 : h.2 a = some (jO 2 [.ref ea, .ref eb, .int (nI n), .int dy, .int tk, .int tb])) (H1 : h.2 eb = some (jL 8 am)) (hn : n ≤ 8) (K1 : Q (some (.long (j_sm am n))) h) : J l G mX2_total 0 0 0 (lv_args 0 [.ref a]) [] h Q := by
  refine j_lconst (pc := 0) (v := 0) dX2_total_0 (by decide) ?_
  refine j_lstore_n (pc := 1) dX2_total_1 (by decide) ?_
  refine j_iconst (pc := 2) (v := 0) dX2_total_2 (by decide) ?_
  refine j_istore_n (pc := 3) dX2_total_3 (by decide) ?_
  exact j_sub rfl (l_X2_total H0 H1 hn K1 0 (Nat.zero_le _))
