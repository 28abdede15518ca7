set_option maxRecDepth 20000 in
theorem s_X4_takeSentence {l : Launch} {G : jG} {h : jH} {Q : Option Value → jH → Prop} {dq L e f : Nat} {wn : Int32} {f1 f2 f3 f4 by_ : Nat → Int32} (H0 : h.2 dq = some (jO 4 [.ref (dq + 1), .ref (dq + 2), .ref (dq + 3), .ref (dq + 4)])) (H1 : h.2 (dq + 1) = some (jI 2 f1)) (H2 : h.2 (dq + 2) = some (jI 10 f2)) (H3 : h.2 (dq + 3) = some (jI 10 f3)) (H4 : h.2 (dq + 4) = some (jI 10 f4)) (H5 : h.2 1 = some (jO 5 [.ref 2, .int (nI L), .int (nI f), .int (nI e), .int wn])) (H6 : h.2 2 = some (jC 600 by_)) (hgok : j_gok G) (hL : L ≤ 600) (hf : f ≤ e) (he : e ≤ L) (hdq : 17 ≤ dq) (K1 : x_is by_ f e (jsbyt.getD 0 []) → (f1 0) = (-1) → x_ok by_ L e (100 - (if f1 1 < 0 then 0 else f1 1)) → Q (some (.int 1)) (j_set (j_set h 1 (jO 5 [.ref 2, .int (nI L), .int (nI (x_ws by_ L e)), .int (nI (x_ne by_ L e)), .int (wn + 1)])) (dq + 1) (jI 2 (va_up f1 0 (x_v by_ L e))))) (K2 : x_is by_ f e (jsbyt.getD 0 []) → (f1 0) = (-1) → ¬ x_ok by_ L e (100 - (if f1 1 < 0 then 0 else f1 1)) → Q (some (.int 0)) (j_set (j_set h 1 (jO 5 [.ref 2, .int (nI L), .int (nI (x_ws by_ L e)), .int (nI (x_ne by_ L e)), .int (wn + 1)])) (dq + 1) (jI 2 (va_up f1 0 (-1))))) (K3 : x_is by_ f e (jsbyt.getD 0 []) → ¬ (f1 0) = (-1) → Q (some (.int 0)) h) (K4 : ¬ x_is by_ f e (jsbyt.getD 0 []) → x_is by_ f e (jsbyt.getD 1 []) → (f1 1) = (-1) → x_ok by_ L e (100 - (if f1 0 < 0 then 0 else f1 0)) → Q (some (.int 1)) (j_set (j_set h 1 (jO 5 [.ref 2, .int (nI L), .int (nI (x_ws by_ L e)), .int (nI (x_ne by_ L e)), .int (wn + 1)])) (dq + 1) (jI 2 (va_up f1 1 (x_v by_ L e))))) (K5 : ¬ x_is by_ f e (jsbyt.getD 0 []) → x_is by_ f e (jsbyt.getD 1 []) → (f1 1) = (-1) → ¬ x_ok by_ L e (100 - (if f1 0 < 0 then 0 else f1 0)) → Q (some (.int 0)) (j_set (j_set h 1 (jO 5 [.ref 2, .int (nI L), .int (nI (x_ws by_ L e)), .int (nI (x_ne by_ L e)), .int (wn + 1)])) (dq + 1) (jI 2 (va_up f1 1 (-1))))) (K6 : ¬ x_is by_ f e (jsbyt.getD 0 []) → x_is by_ f e (jsbyt.getD 1 []) → ¬ (f1 1) = (-1) → Q (some (.int 0)) h) (K7 : ¬ x_is by_ f e (jsbyt.getD 0 []) → ¬ x_is by_ f e (jsbyt.getD 1 []) → x_is by_ f e (jsbyt.getD 2 []) → x_ok by_ L e (nI (10 - 1)) → x_ok by_ L (x_ne by_ L e) 2 → Q (some (.int 1)) (j_set (j_set h 1 (jO 5 [.ref 2, .int (nI L), .int (nI (x_ws by_ L (x_ne by_ L e))), .int (nI (x_ne by_ L (x_ne by_ L e))), .int ((wn + 1) + 1)])) (dq + 2) (jI 10 (va_up f2 ((x_v by_ L e).toNatClampNeg) (x_v by_ L (x_ne by_ L e)))))) (K8 : ¬ x_is by_ f e (jsbyt.getD 0 []) → ¬ x_is by_ f e (jsbyt.getD 1 []) → x_is by_ f e (jsbyt.getD 2 []) → x_ok by_ L e (nI (10 - 1)) → ¬ x_ok by_ L (x_ne by_ L e) 2 → Q (some (.int 0)) (j_set h 1 (jO 5 [.ref 2, .int (nI L), .int (nI (x_ws by_ L (x_ne by_ L e))), .int (nI (x_ne by_ L (x_ne by_ L e))), .int ((wn + 1) + 1)]))) (K9 : ¬ x_is by_ f e (jsbyt.getD 0 []) → ¬ x_is by_ f e (jsbyt.getD 1 []) → x_is by_ f e (jsbyt.getD 2 []) → ¬ x_ok by_ L e (nI (10 - 1)) → Q (some (.int 0)) (j_set h 1 (jO 5 [.ref 2, .int (nI L), .int (nI (x_ws by_ L e)), .int (nI (x_ne by_ L e)), .int (wn + 1)]))) (K10 : ¬ x_is by_ f e (jsbyt.getD 0 []) → ¬ x_is by_ f e (jsbyt.getD 1 []) → ¬ x_is by_ f e (jsbyt.getD 2 []) → x_is by_ f e (jsbyt.getD 3 []) → x_ok by_ L e (nI (10 - 1)) → x_ok by_ L (x_ne by_ L e) 1000 → Q (some (.int 1)) (j_set (j_set h 1 (jO 5 [.ref 2, .int (nI L), .int (nI (x_ws by_ L (x_ne by_ L e))), .int (nI (x_ne by_ L (x_ne by_ L e))), .int ((wn + 1) + 1)])) (dq + 3) (jI 10 (va_up f3 ((x_v by_ L e).toNatClampNeg) (x_v by_ L (x_ne by_ L e)))))) (K11 : ¬ x_is by_ f e (jsbyt.getD 0 []) → ¬ x_is by_ f e (jsbyt.getD 1 []) → ¬ x_is by_ f e (jsbyt.getD 2 []) → x_is by_ f e (jsbyt.getD 3 []) → x_ok by_ L e (nI (10 - 1)) → ¬ x_ok by_ L (x_ne by_ L e) 1000 → Q (some (.int 0)) (j_set h 1 (jO 5 [.ref 2, .int (nI L), .int (nI (x_ws by_ L (x_ne by_ L e))), .int (nI (x_ne by_ L (x_ne by_ L e))), .int ((wn + 1) + 1)]))) (K12 : ¬ x_is by_ f e (jsbyt.getD 0 []) → ¬ x_is by_ f e (jsbyt.getD 1 []) → ¬ x_is by_ f e (jsbyt.getD 2 []) → x_is by_ f e (jsbyt.getD 3 []) → ¬ x_ok by_ L e (nI (10 - 1)) → Q (some (.int 0)) (j_set h 1 (jO 5 [.ref 2, .int (nI L), .int (nI (x_ws by_ L e)), .int (nI (x_ne by_ L e)), .int (wn + 1)]))) (K13 : ¬ x_is by_ f e (jsbyt.getD 0 []) → ¬ x_is by_ f e (jsbyt.getD 1 []) → ¬ x_is by_ f e (jsbyt.getD 2 []) → ¬ x_is by_ f e (jsbyt.getD 3 []) → x_is by_ f e (jsbyt.getD 4 []) → x_ok by_ L e (nI (10 - 1)) → x_ok by_ L (x_ne by_ L e) 999999 → Q (some (.int 1)) (j_set (j_set h 1 (jO 5 [.ref 2, .int (nI L), .int (nI (x_ws by_ L (x_ne by_ L e))), .int (nI (x_ne by_ L (x_ne by_ L e))), .int ((wn + 1) + 1)])) (dq + 4) (jI 10 (va_up f4 ((x_v by_ L e).toNatClampNeg) (x_v by_ L (x_ne by_ L e)))))) (K14 : ¬ x_is by_ f e (jsbyt.getD 0 []) → ¬ x_is by_ f e (jsbyt.getD 1 []) → ¬ x_is by_ f e (jsbyt.getD 2 []) → ¬ x_is by_ f e (jsbyt.getD 3 []) → x_is by_ f e (jsbyt.getD 4 []) → x_ok by_ L e (nI (10 - 1)) → ¬ x_ok by_ L (x_ne by_ L e) 999999 → Q (some (.int 0)) (j_set h 1 (jO 5 [.ref 2, .int (nI L), .int (nI (x_ws by_ L (x_ne by_ L e))), .int (nI (x_ne by_ L (x_ne by_ L e))), .int ((wn + 1) + 1)]))) (K15 : ¬ x_is by_ f e (jsbyt.getD 0 []) → ¬ x_is by_ f e (jsbyt.getD 1 []) → ¬ x_is by_ f e (jsbyt.getD 2 []) → ¬ x_is by_ f e (jsbyt.getD 3 []) → x_is by_ f e (jsbyt.getD 4 []) → ¬ x_ok by_ L e (nI (10 - 1)) → Q (some (.int 0)) (j_set h 1 (jO 5 [.ref 2, .int (nI L), .int (nI (x_ws by_ L e)), .int (nI (x_ne by_ L e)), .int (wn + 1)]))) (K16 : ¬ x_is by_ f e (jsbyt.getD 0 []) → ¬ x_is by_ f e (jsbyt.getD 1 []) → ¬ x_is by_ f e (jsbyt.getD 2 []) → ¬ x_is by_ f e (jsbyt.getD 3 []) → ¬ x_is by_ f e (jsbyt.getD 4 []) → Q (some (.int 0)) h) : J l G mX4_takeSentence 0 0 0 (lv_args 0 [.ref dq, .ref 1]) [] h Q := by
  obtain ⟨fv, hv, hG⟩ := hgok
  refine j_aload_n (pc := 0) dX4_takeSentence_0 rfl ?_
  refine j_ldcS (pc := 1) (i := 1) (x := 1) rfl (fun U hU => (hG U hU).2.2.2.1) dX4_takeSentence_1 ?_
  refine j_V1 (rm' := rmX5_wordIs) (pc := 3) dX4_takeSentence_3 jlX4_52 H5 rfl ⟨Nat.le_of_ble_eq_true rfl, Nat.le_of_ble_eq_true rfl, Nat.le_of_ble_eq_true rfl, Nat.le_of_ble_eq_true rfl, Nat.le_of_ble_eq_true rfl, Nat.le_of_ble_eq_true rfl⟩ ?_
  refine s_X5_wordIs (L := L) (f := f) (e := e) (i := 0) H5 H6 ⟨fv, hv, hG⟩ (by decide) rfl hf (by omega) (fun c1 => ?_) (fun c2 => ?_)
  · show J l G mX4_takeSentence _ _ 6 _ [.int 1] h Q
    refine j_if_eq (pc := 6) (tgt := 17) dX4_takeSentence_6 (by decide) (fun c3 => ?_) (fun c3 => ?_)
    · exact absurd c3 (by decide)
    · refine j_aload_n (pc := 9) dX4_takeSentence_9 rfl ?_
      refine j_aload_n (pc := 10) dX4_takeSentence_10 rfl ?_
      refine j_iconst (pc := 11) (v := 0) dX4_takeSentence_11 (by decide) ?_
      refine j_iconst (pc := 12) (v := 1) dX4_takeSentence_12 (by decide) ?_
      refine j_V3 (rm' := rmX4_takePercent) (pc := 13) dX4_takeSentence_13 jlX4_56 H0 rfl ⟨Nat.le_of_ble_eq_true rfl, Nat.le_of_ble_eq_true rfl, Nat.le_of_ble_eq_true rfl, Nat.le_of_ble_eq_true rfl, Nat.le_of_ble_eq_true rfl, Nat.le_of_ble_eq_true rfl⟩ ?_
      refine s_X4_takePercent (p := 0) (o := 1) (L := L) (a := e) H0 H1 H5 H6 hL he (by decide) (by decide) hdq (fun c4 c5 => ?_) (fun c6 c7 => ?_) (fun c8 => ?_)
      · show J l G mX4_takeSentence _ _ 16 _ [.int 1] (j_set (j_set h 1 (jO 5 [.ref 2, .int (nI L), .int (nI (x_ws by_ L e)), .int (nI (x_ne by_ L e)), .int (wn + 1)])) (dq + 1) (jI 2 (va_up f1 0 (x_v by_ L e)))) Q
        exact j_iret (pc := 16) dX4_takeSentence_16 rfl rfl (Nat.le_of_ble_eq_true rfl) (Nat.le_of_ble_eq_true rfl) (K1 c1 c4 c5)
      · show J l G mX4_takeSentence _ _ 16 _ [.int 0] (j_set (j_set h 1 (jO 5 [.ref 2, .int (nI L), .int (nI (x_ws by_ L e)), .int (nI (x_ne by_ L e)), .int (wn + 1)])) (dq + 1) (jI 2 (va_up f1 0 (-1)))) Q
        exact j_iret (pc := 16) dX4_takeSentence_16 rfl rfl (Nat.le_of_ble_eq_true rfl) (Nat.le_of_ble_eq_true rfl) (K2 c1 c6 c7)
      · show J l G mX4_takeSentence _ _ 16 _ [.int 0] h Q
        exact j_iret (pc := 16) dX4_takeSentence_16 rfl rfl (Nat.le_of_ble_eq_true rfl) (Nat.le_of_ble_eq_true rfl) (K3 c1 c8)
  · show J l G mX4_takeSentence _ _ 6 _ [.int 0] h Q
    refine j_if_eq (pc := 6) (tgt := 17) dX4_takeSentence_6 (by decide) (fun c9 => ?_) (fun c9 => ?_)
    · refine j_aload_n (pc := 17) dX4_takeSentence_17 rfl ?_
      refine j_ldcS (pc := 18) (i := 2) (x := 2) rfl (fun U hU => (hG U hU).2.2.2.2.1) dX4_takeSentence_18 ?_
      refine j_V1 (rm' := rmX5_wordIs) (pc := 20) dX4_takeSentence_20 jlX4_52 H5 rfl ⟨Nat.le_of_ble_eq_true rfl, Nat.le_of_ble_eq_true rfl, Nat.le_of_ble_eq_true rfl, Nat.le_of_ble_eq_true rfl, Nat.le_of_ble_eq_true rfl, Nat.le_of_ble_eq_true rfl⟩ ?_
      refine s_X5_wordIs (L := L) (f := f) (e := e) (i := 1) H5 H6 ⟨fv, hv, hG⟩ (by decide) rfl hf (by omega) (fun c10 => ?_) (fun c11 => ?_)
      · show J l G mX4_takeSentence _ _ 23 _ [.int 1] h Q
        refine j_if_eq (pc := 23) (tgt := 34) dX4_takeSentence_23 (by decide) (fun c12 => ?_) (fun c12 => ?_)
        · exact absurd c12 (by decide)
        · refine j_aload_n (pc := 26) dX4_takeSentence_26 rfl ?_
          refine j_aload_n (pc := 27) dX4_takeSentence_27 rfl ?_
          refine j_iconst (pc := 28) (v := 1) dX4_takeSentence_28 (by decide) ?_
          refine j_iconst (pc := 29) (v := 0) dX4_takeSentence_29 (by decide) ?_
          refine j_V3 (rm' := rmX4_takePercent) (pc := 30) dX4_takeSentence_30 jlX4_56 H0 rfl ⟨Nat.le_of_ble_eq_true rfl, Nat.le_of_ble_eq_true rfl, Nat.le_of_ble_eq_true rfl, Nat.le_of_ble_eq_true rfl, Nat.le_of_ble_eq_true rfl, Nat.le_of_ble_eq_true rfl⟩ ?_
          refine s_X4_takePercent (p := 1) (o := 0) (L := L) (a := e) H0 H1 H5 H6 hL he (by decide) (by decide) hdq (fun c13 c14 => ?_) (fun c15 c16 => ?_) (fun c17 => ?_)
          · show J l G mX4_takeSentence _ _ 33 _ [.int 1] (j_set (j_set h 1 (jO 5 [.ref 2, .int (nI L), .int (nI (x_ws by_ L e)), .int (nI (x_ne by_ L e)), .int (wn + 1)])) (dq + 1) (jI 2 (va_up f1 1 (x_v by_ L e)))) Q
            exact j_iret (pc := 33) dX4_takeSentence_33 rfl rfl (Nat.le_of_ble_eq_true rfl) (Nat.le_of_ble_eq_true rfl) (K4 c2 c10 c13 c14)
          · show J l G mX4_takeSentence _ _ 33 _ [.int 0] (j_set (j_set h 1 (jO 5 [.ref 2, .int (nI L), .int (nI (x_ws by_ L e)), .int (nI (x_ne by_ L e)), .int (wn + 1)])) (dq + 1) (jI 2 (va_up f1 1 (-1)))) Q
            exact j_iret (pc := 33) dX4_takeSentence_33 rfl rfl (Nat.le_of_ble_eq_true rfl) (Nat.le_of_ble_eq_true rfl) (K5 c2 c10 c15 c16)
          · show J l G mX4_takeSentence _ _ 33 _ [.int 0] h Q
            exact j_iret (pc := 33) dX4_takeSentence_33 rfl rfl (Nat.le_of_ble_eq_true rfl) (Nat.le_of_ble_eq_true rfl) (K6 c2 c10 c17)
      · show J l G mX4_takeSentence _ _ 23 _ [.int 0] h Q
        refine j_if_eq (pc := 23) (tgt := 34) dX4_takeSentence_23 (by decide) (fun c18 => ?_) (fun c18 => ?_)
        · refine j_aload_n (pc := 34) dX4_takeSentence_34 rfl ?_
          refine j_ldcS (pc := 35) (i := 3) (x := 3) rfl (fun U hU => (hG U hU).2.2.2.2.2.1) dX4_takeSentence_35 ?_
          refine j_V1 (rm' := rmX5_wordIs) (pc := 37) dX4_takeSentence_37 jlX4_52 H5 rfl ⟨Nat.le_of_ble_eq_true rfl, Nat.le_of_ble_eq_true rfl, Nat.le_of_ble_eq_true rfl, Nat.le_of_ble_eq_true rfl, Nat.le_of_ble_eq_true rfl, Nat.le_of_ble_eq_true rfl⟩ ?_
          refine s_X5_wordIs (L := L) (f := f) (e := e) (i := 2) H5 H6 ⟨fv, hv, hG⟩ (by decide) rfl hf (by omega) (fun c19 => ?_) (fun c20 => ?_)
          · show J l G mX4_takeSentence _ _ 40 _ [.int 1] h Q
            refine j_if_eq (pc := 40) (tgt := 53) dX4_takeSentence_40 (by decide) (fun c21 => ?_) (fun c21 => ?_)
            · exact absurd c21 (by decide)
            · refine j_aload_n (pc := 43) dX4_takeSentence_43 rfl ?_
              refine j_aload_n (pc := 44) dX4_takeSentence_44 rfl ?_
              refine j_getf (pc := 45) dX4_takeSentence_45 jfX4_15 H0 rfl ?_
              refine j_iconst (pc := 48) (v := 2) dX4_takeSentence_48 (by decide) ?_
              refine j_S3 (rm' := rmX4_takeValue) (pc := 49) dX4_takeSentence_49 jlX4_64 ⟨Nat.le_of_ble_eq_true rfl, Nat.le_of_ble_eq_true rfl, Nat.le_of_ble_eq_true rfl, Nat.le_of_ble_eq_true rfl, Nat.le_of_ble_eq_true rfl, Nat.le_of_ble_eq_true rfl⟩ ?_
              refine s_X4_takeValue (L := L) (a := e) H5 H6 H2 hL he (by omega) (fun c22 c23 => ?_) (fun c24 c25 => ?_) (fun c26 => ?_)
              · show J l G mX4_takeSentence _ _ 52 _ [.int 1] (j_set (j_set h 1 (jO 5 [.ref 2, .int (nI L), .int (nI (x_ws by_ L (x_ne by_ L e))), .int (nI (x_ne by_ L (x_ne by_ L e))), .int ((wn + 1) + 1)])) (dq + 2) (jI 10 (va_up f2 ((x_v by_ L e).toNatClampNeg) (x_v by_ L (x_ne by_ L e))))) Q
                exact j_iret (pc := 52) dX4_takeSentence_52 rfl rfl (Nat.le_of_ble_eq_true rfl) (Nat.le_of_ble_eq_true rfl) (K7 c2 c11 c19 c22 c23)
              · show J l G mX4_takeSentence _ _ 52 _ [.int 0] (j_set h 1 (jO 5 [.ref 2, .int (nI L), .int (nI (x_ws by_ L (x_ne by_ L e))), .int (nI (x_ne by_ L (x_ne by_ L e))), .int ((wn + 1) + 1)])) Q
                exact j_iret (pc := 52) dX4_takeSentence_52 rfl rfl (Nat.le_of_ble_eq_true rfl) (Nat.le_of_ble_eq_true rfl) (K8 c2 c11 c19 c24 c25)
              · show J l G mX4_takeSentence _ _ 52 _ [.int 0] (j_set h 1 (jO 5 [.ref 2, .int (nI L), .int (nI (x_ws by_ L e)), .int (nI (x_ne by_ L e)), .int (wn + 1)])) Q
                exact j_iret (pc := 52) dX4_takeSentence_52 rfl rfl (Nat.le_of_ble_eq_true rfl) (Nat.le_of_ble_eq_true rfl) (K9 c2 c11 c19 c26)
          · show J l G mX4_takeSentence _ _ 40 _ [.int 0] h Q
            refine j_if_eq (pc := 40) (tgt := 53) dX4_takeSentence_40 (by decide) (fun c27 => ?_) (fun c27 => ?_)
            · refine j_aload_n (pc := 53) dX4_takeSentence_53 rfl ?_
              refine j_ldcS (pc := 54) (i := 4) (x := 4) rfl (fun U hU => (hG U hU).2.2.2.2.2.2.1) dX4_takeSentence_54 ?_
              refine j_V1 (rm' := rmX5_wordIs) (pc := 56) dX4_takeSentence_56 jlX4_52 H5 rfl ⟨Nat.le_of_ble_eq_true rfl, Nat.le_of_ble_eq_true rfl, Nat.le_of_ble_eq_true rfl, Nat.le_of_ble_eq_true rfl, Nat.le_of_ble_eq_true rfl, Nat.le_of_ble_eq_true rfl⟩ ?_
              refine s_X5_wordIs (L := L) (f := f) (e := e) (i := 3) H5 H6 ⟨fv, hv, hG⟩ (by decide) rfl hf (by omega) (fun c28 => ?_) (fun c29 => ?_)
              · show J l G mX4_takeSentence _ _ 59 _ [.int 1] h Q
                refine j_if_eq (pc := 59) (tgt := 74) dX4_takeSentence_59 (by decide) (fun c30 => ?_) (fun c30 => ?_)
                · exact absurd c30 (by decide)
                · refine j_aload_n (pc := 62) dX4_takeSentence_62 rfl ?_
                  refine j_aload_n (pc := 63) dX4_takeSentence_63 rfl ?_
                  refine j_getf (pc := 64) dX4_takeSentence_64 jfX4_18 H0 rfl ?_
                  refine j_sipush (pc := 67) (v := 1000) dX4_takeSentence_67 (by decide) ?_
                  refine j_S3 (rm' := rmX4_takeValue) (pc := 70) dX4_takeSentence_70 jlX4_64 ⟨Nat.le_of_ble_eq_true rfl, Nat.le_of_ble_eq_true rfl, Nat.le_of_ble_eq_true rfl, Nat.le_of_ble_eq_true rfl, Nat.le_of_ble_eq_true rfl, Nat.le_of_ble_eq_true rfl⟩ ?_
                  refine s_X4_takeValue (L := L) (a := e) H5 H6 H3 hL he (by omega) (fun c31 c32 => ?_) (fun c33 c34 => ?_) (fun c35 => ?_)
                  · show J l G mX4_takeSentence _ _ 73 _ [.int 1] (j_set (j_set h 1 (jO 5 [.ref 2, .int (nI L), .int (nI (x_ws by_ L (x_ne by_ L e))), .int (nI (x_ne by_ L (x_ne by_ L e))), .int ((wn + 1) + 1)])) (dq + 3) (jI 10 (va_up f3 ((x_v by_ L e).toNatClampNeg) (x_v by_ L (x_ne by_ L e))))) Q
                    exact j_iret (pc := 73) dX4_takeSentence_73 rfl rfl (Nat.le_of_ble_eq_true rfl) (Nat.le_of_ble_eq_true rfl) (K10 c2 c11 c20 c28 c31 c32)
                  · show J l G mX4_takeSentence _ _ 73 _ [.int 0] (j_set h 1 (jO 5 [.ref 2, .int (nI L), .int (nI (x_ws by_ L (x_ne by_ L e))), .int (nI (x_ne by_ L (x_ne by_ L e))), .int ((wn + 1) + 1)])) Q
                    exact j_iret (pc := 73) dX4_takeSentence_73 rfl rfl (Nat.le_of_ble_eq_true rfl) (Nat.le_of_ble_eq_true rfl) (K11 c2 c11 c20 c28 c33 c34)
                  · show J l G mX4_takeSentence _ _ 73 _ [.int 0] (j_set h 1 (jO 5 [.ref 2, .int (nI L), .int (nI (x_ws by_ L e)), .int (nI (x_ne by_ L e)), .int (wn + 1)])) Q
                    exact j_iret (pc := 73) dX4_takeSentence_73 rfl rfl (Nat.le_of_ble_eq_true rfl) (Nat.le_of_ble_eq_true rfl) (K12 c2 c11 c20 c28 c35)
              · show J l G mX4_takeSentence _ _ 59 _ [.int 0] h Q
                refine j_if_eq (pc := 59) (tgt := 74) dX4_takeSentence_59 (by decide) (fun c36 => ?_) (fun c36 => ?_)
                · refine j_aload_n (pc := 74) dX4_takeSentence_74 rfl ?_
                  refine j_ldcS (pc := 75) (i := 5) (x := 5) rfl (fun U hU => (hG U hU).2.2.2.2.2.2.2) dX4_takeSentence_75 ?_
                  refine j_V1 (rm' := rmX5_wordIs) (pc := 77) dX4_takeSentence_77 jlX4_52 H5 rfl ⟨Nat.le_of_ble_eq_true rfl, Nat.le_of_ble_eq_true rfl, Nat.le_of_ble_eq_true rfl, Nat.le_of_ble_eq_true rfl, Nat.le_of_ble_eq_true rfl, Nat.le_of_ble_eq_true rfl⟩ ?_
                  refine s_X5_wordIs (L := L) (f := f) (e := e) (i := 4) H5 H6 ⟨fv, hv, hG⟩ (by decide) rfl hf (by omega) (fun c37 => ?_) (fun c38 => ?_)
                  · show J l G mX4_takeSentence _ _ 80 _ [.int 1] h Q
                    refine j_if_eq (pc := 80) (tgt := 100) dX4_takeSentence_80 (by decide) (fun c39 => ?_) (fun c39 => ?_)
                    · exact absurd c39 (by decide)
                    · refine j_aload_n (pc := 83) dX4_takeSentence_83 rfl ?_
                      refine j_aload_n (pc := 84) dX4_takeSentence_84 rfl ?_
                      refine j_getf (pc := 85) dX4_takeSentence_85 jfX4_21 H0 rfl ?_
                      refine j_ldc (pc := 88) dX4_takeSentence_88 jnX4_72 ?_
                      refine j_S3 (rm' := rmX4_takeValue) (pc := 90) dX4_takeSentence_90 jlX4_64 ⟨Nat.le_of_ble_eq_true rfl, Nat.le_of_ble_eq_true rfl, Nat.le_of_ble_eq_true rfl, Nat.le_of_ble_eq_true rfl, Nat.le_of_ble_eq_true rfl, Nat.le_of_ble_eq_true rfl⟩ ?_
                      refine s_X4_takeValue (L := L) (a := e) H5 H6 H4 hL he (by omega) (fun c40 c41 => ?_) (fun c42 c43 => ?_) (fun c44 => ?_)
                      · show J l G mX4_takeSentence _ _ 93 _ [.int 1] (j_set (j_set h 1 (jO 5 [.ref 2, .int (nI L), .int (nI (x_ws by_ L (x_ne by_ L e))), .int (nI (x_ne by_ L (x_ne by_ L e))), .int ((wn + 1) + 1)])) (dq + 4) (jI 10 (va_up f4 ((x_v by_ L e).toNatClampNeg) (x_v by_ L (x_ne by_ L e))))) Q
                        refine j_if_eq (pc := 93) (tgt := 100) dX4_takeSentence_93 (by decide) (fun c45 => ?_) (fun c45 => ?_)
                        · exact absurd c45 (by decide)
                        · refine j_iconst (pc := 96) (v := 1) dX4_takeSentence_96 (by decide) ?_
                          refine j_goto (pc := 97) (tgt := 101) dX4_takeSentence_97 (by decide) ?_
                          exact j_iret (pc := 101) dX4_takeSentence_101 rfl rfl (Nat.le_of_ble_eq_true rfl) (Nat.le_of_ble_eq_true rfl) (K13 c2 c11 c20 c29 c37 c40 c41)
                      · show J l G mX4_takeSentence _ _ 93 _ [.int 0] (j_set h 1 (jO 5 [.ref 2, .int (nI L), .int (nI (x_ws by_ L (x_ne by_ L e))), .int (nI (x_ne by_ L (x_ne by_ L e))), .int ((wn + 1) + 1)])) Q
                        refine j_if_eq (pc := 93) (tgt := 100) dX4_takeSentence_93 (by decide) (fun c46 => ?_) (fun c46 => ?_)
                        · refine j_iconst (pc := 100) (v := 0) dX4_takeSentence_100 (by decide) ?_
                          exact j_iret (pc := 101) dX4_takeSentence_101 rfl rfl (Nat.le_of_ble_eq_true rfl) (Nat.le_of_ble_eq_true rfl) (K14 c2 c11 c20 c29 c37 c42 c43)
                        · exact absurd c46 (by decide)
                      · show J l G mX4_takeSentence _ _ 93 _ [.int 0] (j_set h 1 (jO 5 [.ref 2, .int (nI L), .int (nI (x_ws by_ L e)), .int (nI (x_ne by_ L e)), .int (wn + 1)])) Q
                        refine j_if_eq (pc := 93) (tgt := 100) dX4_takeSentence_93 (by decide) (fun c47 => ?_) (fun c47 => ?_)
                        · refine j_iconst (pc := 100) (v := 0) dX4_takeSentence_100 (by decide) ?_
                          exact j_iret (pc := 101) dX4_takeSentence_101 rfl rfl (Nat.le_of_ble_eq_true rfl) (Nat.le_of_ble_eq_true rfl) (K15 c2 c11 c20 c29 c37 c44)
                        · exact absurd c47 (by decide)
                  · show J l G mX4_takeSentence _ _ 80 _ [.int 0] h Q
                    refine j_if_eq (pc := 80) (tgt := 100) dX4_takeSentence_80 (by decide) (fun c48 => ?_) (fun c48 => ?_)
                    · refine j_iconst (pc := 100) (v := 0) dX4_takeSentence_100 (by decide) ?_
                      exact j_iret (pc := 101) dX4_takeSentence_101 rfl rfl (Nat.le_of_ble_eq_true rfl) (Nat.le_of_ble_eq_true rfl) (K16 c2 c11 c20 c29 c38)
                    · exact absurd c48 (by decide)
                · exact absurd c36 (by decide)
            · exact absurd c27 (by decide)
        · exact absurd c18 (by decide)
    · exact absurd c9 (by decide)
