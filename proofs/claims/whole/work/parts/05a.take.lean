theorem x_v_m1 {tx : Nat → Int32} {L a : Nat} {m : Int32} (ha : a ≤ L) (h : x_ok tx L a m) : ¬ x_v tx L a = -1 := by
  intro z
  have := x_v_nn ha h
  rw [z] at this
  exact absurd this (by decide)

set_option maxRecDepth 20000 in
theorem s_X4_takePercent {l : Launch} {G : jG} {h : jH} {Q : Option Value → jH → Prop} {dq p o L a : Nat} {ws wn : Int32} {f1 by_ : Nat → Int32} (H0 : h.2 dq = some (jO 4 [.ref (dq + 1), .ref (dq + 2), .ref (dq + 3), .ref (dq + 4)])) (H1 : h.2 (dq + 1) = some (jI 2 f1)) (H2 : h.2 1 = some (jO 5 [.ref 2, .int (nI L), .int ws, .int (nI a), .int wn])) (H3 : h.2 2 = some (jC 600 by_)) (hL : L ≤ 600) (ha : a ≤ L) (hp : p < 2) (ho : o < 2) (hdq : 17 ≤ dq) (K1 : (f1 p) = (-1) → x_ok by_ L a (100 - (if f1 o < 0 then 0 else f1 o)) → Q (some (.int 1)) (j_set (j_set h 1 (jO 5 [.ref 2, .int (nI L), .int (nI (x_ws by_ L a)), .int (nI (x_ne by_ L a)), .int (wn + 1)])) (dq + 1) (jI 2 (va_up f1 p (x_v by_ L a))))) (K2 : (f1 p) = (-1) → ¬ x_ok by_ L a (100 - (if f1 o < 0 then 0 else f1 o)) → Q (some (.int 0)) (j_set (j_set h 1 (jO 5 [.ref 2, .int (nI L), .int (nI (x_ws by_ L a)), .int (nI (x_ne by_ L a)), .int (wn + 1)])) (dq + 1) (jI 2 (va_up f1 p (-1))))) (K3 : ¬ (f1 p) = (-1) → Q (some (.int 0)) h) : J l G mX4_takePercent 0 0 0 (lv_args 0 [.ref dq, .ref 1, .int (nI p), .int (nI o)]) [] h Q := by
  refine j_aload_n (pc := 0) dX4_takePercent_0 rfl ?_
  refine j_getf (pc := 1) dX4_takePercent_1 jfX4_9 H0 rfl ?_
  refine j_iload_n (pc := 4) dX4_takePercent_4 rfl ?_
  refine j_iald (pc := 5) dX4_takePercent_5 H1 (jix_nI (by omega) (by decide)) ?_
  refine j_iconst (pc := 6) (v := -1) dX4_takePercent_6 (by decide) ?_
  refine j_icmp_eq (pc := 7) (tgt := 12) dX4_takePercent_7 (by decide) (fun c1 => ?_) (fun c1 => ?_)
  · refine j_aload_n (pc := 12) dX4_takePercent_12 rfl ?_
    refine j_getf (pc := 13) dX4_takePercent_13 jfX4_9 H0 rfl ?_
    refine j_iload_n (pc := 16) dX4_takePercent_16 rfl ?_
    refine j_aload_n (pc := 17) dX4_takePercent_17 rfl ?_
    refine j_bipush (pc := 18) (v := 100) dX4_takePercent_18 (by decide) ?_
    refine j_aload_n (pc := 20) dX4_takePercent_20 rfl ?_
    refine j_iload_n (pc := 21) dX4_takePercent_21 rfl ?_
    refine j_V1 (rm' := rmX4_percentOf) (pc := 22) dX4_takePercent_22 jlX4_73 H0 rfl ⟨Nat.le_of_ble_eq_true rfl, Nat.le_of_ble_eq_true rfl, Nat.le_of_ble_eq_true rfl, Nat.le_of_ble_eq_true rfl, Nat.le_of_ble_eq_true rfl, Nat.le_of_ble_eq_true rfl⟩ ?_
    refine s_X4_percentOf (w := o) H0 H1 ho ?_
    show J l G mX4_takePercent _ _ 25 _ [.int (if f1 o < 0 then 0 else f1 o), .int 100, .ref 1, .int (nI p), .ref (dq + 1)] h Q
    refine j_isub (pc := 25) dX4_takePercent_25 ?_
    refine j_V1 (rm' := rmX5_nextNumber) (pc := 26) dX4_takePercent_26 jlX4_77 H2 rfl ⟨Nat.le_of_ble_eq_true rfl, Nat.le_of_ble_eq_true rfl, Nat.le_of_ble_eq_true rfl, Nat.le_of_ble_eq_true rfl, Nat.le_of_ble_eq_true rfl, Nat.le_of_ble_eq_true rfl⟩ ?_
    refine s_X5_num2 (L := L) (a := a) H2 H3 hL ha (fun c2 => ?_) (fun c3 => ?_)
    · show J l G mX4_takePercent _ _ 29 _ [.int (x_v by_ L a), .int (nI p), .ref (dq + 1)] (j_set h 1 (jO 5 [.ref 2, .int (nI L), .int (nI (x_ws by_ L a)), .int (nI (x_ne by_ L a)), .int (wn + 1)])) Q
      refine j_iast (pc := 29) dX4_takePercent_29 (j_hn (by omega) H1) (jix_nI (by omega) (by decide)) ?_
      refine j_aload_n (pc := 30) dX4_takePercent_30 rfl ?_
      refine j_getf (pc := 31) dX4_takePercent_31 jfX4_9 (j_hn (by omega) (j_hn (by omega) H0)) rfl ?_
      refine j_iload_n (pc := 34) dX4_takePercent_34 rfl ?_
      refine j_ialdS (pc := 35) dX4_takePercent_35 j_hs (jix_nI (by omega) (by decide)) ?_
      refine j_iconst (pc := 36) (v := -1) dX4_takePercent_36 (by decide) ?_
      refine j_icmp_eq (pc := 37) (tgt := 44) dX4_takePercent_37 (by decide) (fun c4 => ?_) (fun c4 => ?_)
      · exfalso; exact absurd c4 (x_v_m1 ha c2)
      · refine j_iconst (pc := 40) (v := 1) dX4_takePercent_40 (by decide) ?_
        refine j_goto (pc := 41) (tgt := 45) dX4_takePercent_41 (by decide) ?_
        exact j_iret (pc := 45) dX4_takePercent_45 rfl rfl (Nat.le_of_ble_eq_true rfl) (Nat.le_of_ble_eq_true rfl) (K1 c1 c2)
    · show J l G mX4_takePercent _ _ 29 _ [.int (-1), .int (nI p), .ref (dq + 1)] (j_set h 1 (jO 5 [.ref 2, .int (nI L), .int (nI (x_ws by_ L a)), .int (nI (x_ne by_ L a)), .int (wn + 1)])) Q
      refine j_iast (pc := 29) dX4_takePercent_29 (j_hn (by omega) H1) (jix_nI (by omega) (by decide)) ?_
      refine j_aload_n (pc := 30) dX4_takePercent_30 rfl ?_
      refine j_getf (pc := 31) dX4_takePercent_31 jfX4_9 (j_hn (by omega) (j_hn (by omega) H0)) rfl ?_
      refine j_iload_n (pc := 34) dX4_takePercent_34 rfl ?_
      refine j_ialdS (pc := 35) dX4_takePercent_35 j_hs (jix_nI (by omega) (by decide)) ?_
      refine j_iconst (pc := 36) (v := -1) dX4_takePercent_36 (by decide) ?_
      refine j_icmp_eq (pc := 37) (tgt := 44) dX4_takePercent_37 (by decide) (fun c5 => ?_) (fun c5 => ?_)
      · refine j_iconst (pc := 44) (v := 0) dX4_takePercent_44 (by decide) ?_
        exact j_iret (pc := 45) dX4_takePercent_45 rfl rfl (Nat.le_of_ble_eq_true rfl) (Nat.le_of_ble_eq_true rfl) (K2 c1 c3)
      · exact absurd c5 (by decide)
  · refine j_iconst (pc := 10) (v := 0) dX4_takePercent_10 (by decide) ?_
    exact j_iret (pc := 11) dX4_takePercent_11 rfl rfl (Nat.le_of_ble_eq_true rfl) (Nat.le_of_ble_eq_true rfl) (K3 c1)

set_option maxRecDepth 20000 in
theorem s_X4_takeValue {l : Launch} {G : jG} {h : jH} {Q : Option Value → jH → Prop} {va L a : Nat} {ws wn m : Int32} {f1 by_ : Nat → Int32} (H0 : h.2 1 = some (jO 5 [.ref 2, .int (nI L), .int ws, .int (nI a), .int wn])) (H1 : h.2 2 = some (jC 600 by_)) (H2 : h.2 va = some (jI 10 f1)) (hL : L ≤ 600) (ha : a ≤ L) (hva : 17 ≤ va) (K1 : x_ok by_ L a (nI (10 - 1)) → x_ok by_ L (x_ne by_ L a) m → Q (some (.int 1)) (j_set (j_set h 1 (jO 5 [.ref 2, .int (nI L), .int (nI (x_ws by_ L (x_ne by_ L a))), .int (nI (x_ne by_ L (x_ne by_ L a))), .int ((wn + 1) + 1)])) va (jI 10 (va_up f1 ((x_v by_ L a).toNatClampNeg) (x_v by_ L (x_ne by_ L a)))))) (K2 : x_ok by_ L a (nI (10 - 1)) → ¬ x_ok by_ L (x_ne by_ L a) m → Q (some (.int 0)) (j_set h 1 (jO 5 [.ref 2, .int (nI L), .int (nI (x_ws by_ L (x_ne by_ L a))), .int (nI (x_ne by_ L (x_ne by_ L a))), .int ((wn + 1) + 1)]))) (K3 : ¬ x_ok by_ L a (nI (10 - 1)) → Q (some (.int 0)) (j_set h 1 (jO 5 [.ref 2, .int (nI L), .int (nI (x_ws by_ L a)), .int (nI (x_ne by_ L a)), .int (wn + 1)]))) : J l G mX4_takeValue 0 0 0 (lv_args 0 [.ref 1, .ref va, .int m]) [] h Q := by
  refine j_aload_n (pc := 0) dX4_takeValue_0 rfl ?_
  refine j_aload_n (pc := 1) dX4_takeValue_1 rfl ?_
  refine j_alen (pc := 2) dX4_takeValue_2 (t := 0) rfl H2 ?_
  refine j_iconst (pc := 3) (v := 1) dX4_takeValue_3 (by decide) ?_
  refine j_isubN (a := 10) (b := 1) (pc := 4) dX4_takeValue_4 (by omega) ?_
  refine j_V1 (rm' := rmX5_nextNumber) (pc := 5) dX4_takeValue_5 jlX4_77 H0 rfl ⟨Nat.le_of_ble_eq_true rfl, Nat.le_of_ble_eq_true rfl, Nat.le_of_ble_eq_true rfl, Nat.le_of_ble_eq_true rfl, Nat.le_of_ble_eq_true rfl, Nat.le_of_ble_eq_true rfl⟩ ?_
  refine s_X5_num2 (L := L) (a := a) H0 H1 hL ha (fun c1 => ?_) (fun c2 => ?_)
  · show J l G mX4_takeValue _ _ 8 _ [.int (x_v by_ L a)] (j_set h 1 (jO 5 [.ref 2, .int (nI L), .int (nI (x_ws by_ L a)), .int (nI (x_ne by_ L a)), .int (wn + 1)])) Q
    refine j_istore_n (pc := 8) dX4_takeValue_8 (by decide) ?_
    refine j_iload_n (pc := 9) dX4_takeValue_9 rfl ?_
    refine j_if_ge (pc := 10) (tgt := 15) dX4_takeValue_10 (by decide) (fun c3 => ?_) (fun c3 => ?_)
    · refine j_aload_n (pc := 15) dX4_takeValue_15 rfl ?_
      refine j_iload_n (pc := 16) dX4_takeValue_16 rfl ?_
      refine j_V1 (rm' := rmX5_nextNumber) (pc := 17) dX4_takeValue_17 jlX4_77 j_hs rfl ⟨Nat.le_of_ble_eq_true rfl, Nat.le_of_ble_eq_true rfl, Nat.le_of_ble_eq_true rfl, Nat.le_of_ble_eq_true rfl, Nat.le_of_ble_eq_true rfl, Nat.le_of_ble_eq_true rfl⟩ ?_
      refine s_X5_num2 (L := L) (a := (x_ne by_ L a)) j_hs (j_hn (by decide) H1) hL (x_ne_le by_ ha) (fun c4 => ?_) (fun c5 => ?_)
      · show J l G mX4_takeValue _ _ 20 _ [.int (x_v by_ L (x_ne by_ L a))] (j_set (j_set h 1 (jO 5 [.ref 2, .int (nI L), .int (nI (x_ws by_ L a)), .int (nI (x_ne by_ L a)), .int (wn + 1)])) 1 (jO 5 [.ref 2, .int (nI L), .int (nI (x_ws by_ L (x_ne by_ L a))), .int (nI (x_ne by_ L (x_ne by_ L a))), .int ((wn + 1) + 1)])) Q
        rw [j_ss0 (a := 1)]
        refine j_istore (pc := 20) dX4_takeValue_20 (by decide) ?_
        refine j_iload (pc := 22) dX4_takeValue_22 rfl ?_
        refine j_if_ge (pc := 24) (tgt := 29) dX4_takeValue_24 (by decide) (fun c6 => ?_) (fun c6 => ?_)
        · refine j_aload_n (pc := 29) dX4_takeValue_29 rfl ?_
          refine j_iload_n (pc := 30) dX4_takeValue_30 rfl ?_
          refine j_iload (pc := 31) dX4_takeValue_31 rfl ?_
          refine j_iast (pc := 33) dX4_takeValue_33 (j_hn (by omega) H2) (x_ix10 ha c1) ?_
          refine j_iconst (pc := 34) (v := 1) dX4_takeValue_34 (by decide) ?_
          exact j_iret (pc := 35) dX4_takeValue_35 rfl rfl (Nat.le_of_ble_eq_true rfl) (Nat.le_of_ble_eq_true rfl) (K1 c1 c4)
        · exfalso; exact c6 (x_v_nn (x_ne_le by_ ha) c4)
      · show J l G mX4_takeValue _ _ 20 _ [.int (-1)] (j_set (j_set h 1 (jO 5 [.ref 2, .int (nI L), .int (nI (x_ws by_ L a)), .int (nI (x_ne by_ L a)), .int (wn + 1)])) 1 (jO 5 [.ref 2, .int (nI L), .int (nI (x_ws by_ L (x_ne by_ L a))), .int (nI (x_ne by_ L (x_ne by_ L a))), .int ((wn + 1) + 1)])) Q
        rw [j_ss0 (a := 1)]
        refine j_istore (pc := 20) dX4_takeValue_20 (by decide) ?_
        refine j_iload (pc := 22) dX4_takeValue_22 rfl ?_
        refine j_if_ge (pc := 24) (tgt := 29) dX4_takeValue_24 (by decide) (fun c7 => ?_) (fun c7 => ?_)
        · exact absurd c7 (by decide)
        · refine j_iconst (pc := 27) (v := 0) dX4_takeValue_27 (by decide) ?_
          exact j_iret (pc := 28) dX4_takeValue_28 rfl rfl (Nat.le_of_ble_eq_true rfl) (Nat.le_of_ble_eq_true rfl) (K2 c1 c5)
    · exfalso; exact c3 (x_v_nn ha c1)
  · show J l G mX4_takeValue _ _ 8 _ [.int (-1)] (j_set h 1 (jO 5 [.ref 2, .int (nI L), .int (nI (x_ws by_ L a)), .int (nI (x_ne by_ L a)), .int (wn + 1)])) Q
    refine j_istore_n (pc := 8) dX4_takeValue_8 (by decide) ?_
    refine j_iload_n (pc := 9) dX4_takeValue_9 rfl ?_
    refine j_if_ge (pc := 10) (tgt := 15) dX4_takeValue_10 (by decide) (fun c8 => ?_) (fun c8 => ?_)
    · exact absurd c8 (by decide)
    · refine j_iconst (pc := 13) (v := 0) dX4_takeValue_13 (by decide) ?_
      exact j_iret (pc := 14) dX4_takeValue_14 rfl rfl (Nat.le_of_ble_eq_true rfl) (Nat.le_of_ble_eq_true rfl) (K3 c2)
