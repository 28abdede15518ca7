def o_plW (pw : Nat → Int64) (pc_ : Nat → Int32) : Nat → Int64 := va_up (va_up (va_up pw 0 ((if pc_ 0 < 0 then 0 else pc_ 0).toInt64)) (0 + 1) ((if pc_ 1 < 0 then 0 else pc_ 1).toInt64)) ((0 + 1) + 1) (((100 - (if pc_ 0 < 0 then 0 else pc_ 0)) - (if pc_ 1 < 0 then 0 else pc_ 1)).toInt64)
def o_plS (prt pw ps cu : Nat → Int64) (pc_ : Nat → Int32) : Nat → Int64 := o_dvS (((0 + 1) + 1) + 1) (prt 0) (va_up (va_up (va_up pw 0 ((if pc_ 0 < 0 then 0 else pc_ 0).toInt64)) (0 + 1) ((if pc_ 1 < 0 then 0 else pc_ 1).toInt64)) ((0 + 1) + 1) (((100 - (if pc_ 0 < 0 then 0 else pc_ 0)) - (if pc_ 1 < 0 then 0 else pc_ 1)).toInt64)) ps cu
def o_plC (prt pw ps cu : Nat → Int64) (pc_ : Nat → Int32) : Nat → Int64 := o_dvC (((0 + 1) + 1) + 1) (prt 0) (va_up (va_up (va_up pw 0 ((if pc_ 0 < 0 then 0 else pc_ 0).toInt64)) (0 + 1) ((if pc_ 1 < 0 then 0 else pc_ 1).toInt64)) ((0 + 1) + 1) (((100 - (if pc_ 0 < 0 then 0 else pc_ 0)) - (if pc_ 1 < 0 then 0 else pc_ 1)).toInt64)) ps cu
def o_plP (prt pw ps cu : Nat → Int64) (pc_ : Nat → Int32) : Nat → Int64 := va_up (va_up (va_up prt 1 ((o_dvS (((0 + 1) + 1) + 1) (prt 0) (va_up (va_up (va_up pw 0 ((if pc_ 0 < 0 then 0 else pc_ 0).toInt64)) (0 + 1) ((if pc_ 1 < 0 then 0 else pc_ 1).toInt64)) ((0 + 1) + 1) (((100 - (if pc_ 0 < 0 then 0 else pc_ 0)) - (if pc_ 1 < 0 then 0 else pc_ 1)).toInt64)) ps cu) 0)) 2 ((o_dvS (((0 + 1) + 1) + 1) (prt 0) (va_up (va_up (va_up pw 0 ((if pc_ 0 < 0 then 0 else pc_ 0).toInt64)) (0 + 1) ((if pc_ 1 < 0 then 0 else pc_ 1).toInt64)) ((0 + 1) + 1) (((100 - (if pc_ 0 < 0 then 0 else pc_ 0)) - (if pc_ 1 < 0 then 0 else pc_ 1)).toInt64)) ps cu) 1)) 3 ((o_dvS (((0 + 1) + 1) + 1) (prt 0) (va_up (va_up (va_up pw 0 ((if pc_ 0 < 0 then 0 else pc_ 0).toInt64)) (0 + 1) ((if pc_ 1 < 0 then 0 else pc_ 1).toInt64)) ((0 + 1) + 1) (((100 - (if pc_ 0 < 0 then 0 else pc_ 0)) - (if pc_ 1 < 0 then 0 else pc_ 1)).toInt64)) ps cu) 2)
def o_plZ (ps : Nat → Int64) : Nat → Int64 := o_dvZ ps
def o_plN (prt ps : Nat → Int64) : Nat → Int64 := va_up (va_up (va_up prt 1 ((o_dvZ ps) 0)) 2 ((o_dvZ ps) 1)) 3 ((o_dvZ ps) 2)
set_option maxRecDepth 20000 in
theorem s_X6_partLeft {l : Launch} {G : jG} {h : jH} {Q : Option Value → jH → Prop} {tr sp : Nat} {sal : Int64} {stl : Int32} {ru n : Nat} {prt pw ps cu : Nat → Int64} {pc_ : Nat → Int32} (H0 : h.2 tr = some (jO 6 [.int (nI sp), .long sal, .ref (tr + 1), .ref (tr + 2), .ref (tr + 3), .ref (tr + 4), .int stl])) (H1 : h.2 (tr + 3) = some (jL 6 prt)) (H2 : h.2 ru = some (jO 4 [.ref (ru + 1), .ref (ru + 2), .ref (ru + 3), .ref (ru + 4)])) (H3 : h.2 (ru + 1) = some (jI 2 pc_)) (H4 : h.2 8 = some (jO 3 [.ref 9, .ref 10, .ref 11, .int (nI n)])) (H5 : h.2 9 = some (jL 12 pw)) (H6 : h.2 10 = some (jL 12 ps)) (H7 : h.2 11 = some (jL 12 cu)) (htr : 50 ≤ tr) (hru : 17 ≤ ru) (hru2 : ru ≤ 22) (K1 : 0 < (j_sm (va_up (va_up (va_up pw 0 ((if pc_ 0 < 0 then 0 else pc_ 0).toInt64)) (0 + 1) ((if pc_ 1 < 0 then 0 else pc_ 1).toInt64)) ((0 + 1) + 1) (((100 - (if pc_ 0 < 0 then 0 else pc_ 0)) - (if pc_ 1 < 0 then 0 else pc_ 1)).toInt64)) (((0 + 1) + 1) + 1)) → Q none (j_set (j_set (j_set (j_set (j_set h 8 (jO 3 [.ref 9, .ref 10, .ref 11, .int (nI (((0 + 1) + 1) + 1))])) 9 (jL 12 (o_plW pw pc_))) 10 (jL 12 (o_plS prt pw ps cu pc_))) 11 (jL 12 (o_plC prt pw ps cu pc_))) (tr + 3) (jL 6 (o_plP prt pw ps cu pc_)))) (K2 : ¬ (0 < (j_sm (va_up (va_up (va_up pw 0 ((if pc_ 0 < 0 then 0 else pc_ 0).toInt64)) (0 + 1) ((if pc_ 1 < 0 then 0 else pc_ 1).toInt64)) ((0 + 1) + 1) (((100 - (if pc_ 0 < 0 then 0 else pc_ 0)) - (if pc_ 1 < 0 then 0 else pc_ 1)).toInt64)) (((0 + 1) + 1) + 1))) → Q none (j_set (j_set (j_set (j_set h 8 (jO 3 [.ref 9, .ref 10, .ref 11, .int (nI (((0 + 1) + 1) + 1))])) 9 (jL 12 (o_plW pw pc_))) 10 (jL 12 (o_plZ ps))) (tr + 3) (jL 6 (o_plN prt ps)))) : J l G mX6_partLeft 0 0 0 (lv_args 0 [.ref tr, .ref ru, .ref 8]) [] h Q := by
  refine j_aload_n (pc := 0) dX6_partLeft_0 rfl ?_
  refine j_iconst (pc := 1) (v := 0) dX6_partLeft_1 (by decide) ?_
  refine j_V1 (rm' := rmX4_percentOf) (pc := 2) dX6_partLeft_2 jlX6_86 H2 rfl ⟨Nat.le_of_ble_eq_true rfl, Nat.le_of_ble_eq_true rfl, Nat.le_of_ble_eq_true rfl, Nat.le_of_ble_eq_true rfl, Nat.le_of_ble_eq_true rfl, Nat.le_of_ble_eq_true rfl⟩ ?_
  refine s_X4_percentOf (w := 0) H2 H3 (by decide) ?_
  show J l G mX6_partLeft _ _ 5 _ [.int (if pc_ 0 < 0 then 0 else pc_ 0)] h Q
  refine j_istore_n (pc := 5) dX6_partLeft_5 (by decide) ?_
  refine j_aload_n (pc := 6) dX6_partLeft_6 rfl ?_
  refine j_iconst (pc := 7) (v := 1) dX6_partLeft_7 (by decide) ?_
  refine j_V1 (rm' := rmX4_percentOf) (pc := 8) dX6_partLeft_8 jlX6_86 H2 rfl ⟨Nat.le_of_ble_eq_true rfl, Nat.le_of_ble_eq_true rfl, Nat.le_of_ble_eq_true rfl, Nat.le_of_ble_eq_true rfl, Nat.le_of_ble_eq_true rfl, Nat.le_of_ble_eq_true rfl⟩ ?_
  refine s_X4_percentOf (w := 1) H2 H3 (by decide) ?_
  show J l G mX6_partLeft _ _ 11 _ [.int (if pc_ 1 < 0 then 0 else pc_ 1)] h Q
  refine j_istore (pc := 11) dX6_partLeft_11 (by decide) ?_
  refine j_aload_n (pc := 13) dX6_partLeft_13 rfl ?_
  refine j_V0 (rm' := rmX3_clear) (pc := 14) dX6_partLeft_14 jlX6_90 H4 rfl ⟨Nat.le_of_ble_eq_true rfl, Nat.le_of_ble_eq_true rfl, Nat.le_of_ble_eq_true rfl, Nat.le_of_ble_eq_true rfl, Nat.le_of_ble_eq_true rfl, Nat.le_of_ble_eq_true rfl⟩ ?_
  refine s_X3_clear (n := n) H4 ?_
  show J l G mX6_partLeft _ _ 17 _ [] (j_set h 8 (jO 3 [.ref 9, .ref 10, .ref 11, .int 0])) Q
  refine j_aload_n (pc := 17) dX6_partLeft_17 rfl ?_
  refine j_iload_n (pc := 18) dX6_partLeft_18 rfl ?_
  refine j_i2l (pc := 19) dX6_partLeft_19 ?_
  refine j_V1 (rm' := rmX3_add) (pc := 20) dX6_partLeft_20 jlX6_95 j_hs rfl ⟨Nat.le_of_ble_eq_true rfl, Nat.le_of_ble_eq_true rfl, Nat.le_of_ble_eq_true rfl, Nat.le_of_ble_eq_true rfl, Nat.le_of_ble_eq_true rfl, Nat.le_of_ble_eq_true rfl⟩ ?_
  refine s_X3_add (n := 0) j_hs (j_hn (by decide) H5) (by decide) (fun c1 => ?_) (fun c2 => ?_)
  · exact absurd c1 (by decide)
  · show J l G mX6_partLeft _ _ 23 _ [] (j_set (j_set (j_set h 8 (jO 3 [.ref 9, .ref 10, .ref 11, .int 0])) 9 (jL 12 (va_up pw 0 ((if pc_ 0 < 0 then 0 else pc_ 0).toInt64)))) 8 (jO 3 [.ref 9, .ref 10, .ref 11, .int (nI (0 + 1))])) Q
    rw [j_ss1 (a := 8) (b0 := 9) (by decide)]
    refine j_aload_n (pc := 23) dX6_partLeft_23 rfl ?_
    refine j_iload (pc := 24) dX6_partLeft_24 rfl ?_
    refine j_i2l (pc := 26) dX6_partLeft_26 ?_
    refine j_V1 (rm' := rmX3_add) (pc := 27) dX6_partLeft_27 jlX6_95 (j_hn (by decide) j_hs) rfl ⟨Nat.le_of_ble_eq_true rfl, Nat.le_of_ble_eq_true rfl, Nat.le_of_ble_eq_true rfl, Nat.le_of_ble_eq_true rfl, Nat.le_of_ble_eq_true rfl, Nat.le_of_ble_eq_true rfl⟩ ?_
    refine s_X3_add (n := (0 + 1)) (j_hn (by decide) j_hs) j_hs (by decide) (fun c3 => ?_) (fun c4 => ?_)
    · exact absurd c3 (by decide)
    · show J l G mX6_partLeft _ _ 30 _ [] (j_set (j_set (j_set (j_set h 8 (jO 3 [.ref 9, .ref 10, .ref 11, .int (nI (0 + 1))])) 9 (jL 12 (va_up pw 0 ((if pc_ 0 < 0 then 0 else pc_ 0).toInt64)))) 9 (jL 12 (va_up (va_up pw 0 ((if pc_ 0 < 0 then 0 else pc_ 0).toInt64)) (0 + 1) ((if pc_ 1 < 0 then 0 else pc_ 1).toInt64)))) 8 (jO 3 [.ref 9, .ref 10, .ref 11, .int (nI ((0 + 1) + 1))])) Q
      rw [show (j_set (j_set (j_set (j_set h 8 (jO 3 [.ref 9, .ref 10, .ref 11, .int (nI (0 + 1))])) 9 (jL 12 (va_up pw 0 ((if pc_ 0 < 0 then 0 else pc_ 0).toInt64)))) 9 (jL 12 (va_up (va_up pw 0 ((if pc_ 0 < 0 then 0 else pc_ 0).toInt64)) (0 + 1) ((if pc_ 1 < 0 then 0 else pc_ 1).toInt64)))) 8 (jO 3 [.ref 9, .ref 10, .ref 11, .int (nI ((0 + 1) + 1))])) = (j_set (j_set h 8 (jO 3 [.ref 9, .ref 10, .ref 11, .int (nI ((0 + 1) + 1))])) 9 (jL 12 (va_up (va_up pw 0 ((if pc_ 0 < 0 then 0 else pc_ 0).toInt64)) (0 + 1) ((if pc_ 1 < 0 then 0 else pc_ 1).toInt64)))) from by rw [j_ss0 (a := 9), j_ss1 (a := 8) (b0 := 9) (by decide)]]
      refine j_aload_n (pc := 30) dX6_partLeft_30 rfl ?_
      refine j_bipush (pc := 31) (v := 100) dX6_partLeft_31 (by decide) ?_
      refine j_iload_n (pc := 33) dX6_partLeft_33 rfl ?_
      refine j_isub (pc := 34) dX6_partLeft_34 ?_
      refine j_iload (pc := 35) dX6_partLeft_35 rfl ?_
      refine j_isub (pc := 37) dX6_partLeft_37 ?_
      refine j_i2l (pc := 38) dX6_partLeft_38 ?_
      refine j_V1 (rm' := rmX3_add) (pc := 39) dX6_partLeft_39 jlX6_95 (j_hn (by decide) j_hs) rfl ⟨Nat.le_of_ble_eq_true rfl, Nat.le_of_ble_eq_true rfl, Nat.le_of_ble_eq_true rfl, Nat.le_of_ble_eq_true rfl, Nat.le_of_ble_eq_true rfl, Nat.le_of_ble_eq_true rfl⟩ ?_
      refine s_X3_add (n := ((0 + 1) + 1)) (j_hn (by decide) j_hs) j_hs (by decide) (fun c5 => ?_) (fun c6 => ?_)
      · exact absurd c5 (by decide)
      · show J l G mX6_partLeft _ _ 42 _ [] (j_set (j_set (j_set (j_set h 8 (jO 3 [.ref 9, .ref 10, .ref 11, .int (nI ((0 + 1) + 1))])) 9 (jL 12 (va_up (va_up pw 0 ((if pc_ 0 < 0 then 0 else pc_ 0).toInt64)) (0 + 1) ((if pc_ 1 < 0 then 0 else pc_ 1).toInt64)))) 9 (jL 12 (va_up (va_up (va_up pw 0 ((if pc_ 0 < 0 then 0 else pc_ 0).toInt64)) (0 + 1) ((if pc_ 1 < 0 then 0 else pc_ 1).toInt64)) ((0 + 1) + 1) (((100 - (if pc_ 0 < 0 then 0 else pc_ 0)) - (if pc_ 1 < 0 then 0 else pc_ 1)).toInt64)))) 8 (jO 3 [.ref 9, .ref 10, .ref 11, .int (nI (((0 + 1) + 1) + 1))])) Q
        rw [show (j_set (j_set (j_set (j_set h 8 (jO 3 [.ref 9, .ref 10, .ref 11, .int (nI ((0 + 1) + 1))])) 9 (jL 12 (va_up (va_up pw 0 ((if pc_ 0 < 0 then 0 else pc_ 0).toInt64)) (0 + 1) ((if pc_ 1 < 0 then 0 else pc_ 1).toInt64)))) 9 (jL 12 (va_up (va_up (va_up pw 0 ((if pc_ 0 < 0 then 0 else pc_ 0).toInt64)) (0 + 1) ((if pc_ 1 < 0 then 0 else pc_ 1).toInt64)) ((0 + 1) + 1) (((100 - (if pc_ 0 < 0 then 0 else pc_ 0)) - (if pc_ 1 < 0 then 0 else pc_ 1)).toInt64)))) 8 (jO 3 [.ref 9, .ref 10, .ref 11, .int (nI (((0 + 1) + 1) + 1))])) = (j_set (j_set h 8 (jO 3 [.ref 9, .ref 10, .ref 11, .int (nI (((0 + 1) + 1) + 1))])) 9 (jL 12 (va_up (va_up (va_up pw 0 ((if pc_ 0 < 0 then 0 else pc_ 0).toInt64)) (0 + 1) ((if pc_ 1 < 0 then 0 else pc_ 1).toInt64)) ((0 + 1) + 1) (((100 - (if pc_ 0 < 0 then 0 else pc_ 0)) - (if pc_ 1 < 0 then 0 else pc_ 1)).toInt64)))) from by rw [j_ss0 (a := 9), j_ss1 (a := 8) (b0 := 9) (by decide)]]
        refine j_aload_n (pc := 42) dX6_partLeft_42 rfl ?_
        refine j_aload_n (pc := 43) dX6_partLeft_43 rfl ?_
        refine j_getf (pc := 44) dX6_partLeft_44 jfX6_19 (j_hn (by omega) (j_hn (by omega) H0)) rfl ?_
        refine j_iconst (pc := 47) (v := 0) dX6_partLeft_47 (by decide) ?_
        refine j_lald (pc := 48) dX6_partLeft_48 (j_hn (by omega) (j_hn (by omega) H1)) (jix_nI (q := 0) (by decide) (by decide)) ?_
        refine j_V1 (rm' := rmX3_divide) (pc := 49) dX6_partLeft_49 jlX6_99 (j_hn (by decide) j_hs) rfl ⟨Nat.le_of_ble_eq_true rfl, Nat.le_of_ble_eq_true rfl, Nat.le_of_ble_eq_true rfl, Nat.le_of_ble_eq_true rfl, Nat.le_of_ble_eq_true rfl, Nat.le_of_ble_eq_true rfl⟩ ?_
        refine s_X3_divide (n := (((0 + 1) + 1) + 1)) (j_hn (by decide) j_hs) j_hs (j_hn (by decide) (j_hn (by decide) H6)) (j_hn (by decide) (j_hn (by decide) H7)) (by decide) (fun c7 c8 => ?_) (fun c9 => ?_)
        · show J l G mX6_partLeft _ _ 52 _ [.int 1] (j_set (j_set (j_set (j_set h 8 (jO 3 [.ref 9, .ref 10, .ref 11, .int (nI (((0 + 1) + 1) + 1))])) 9 (jL 12 (va_up (va_up (va_up pw 0 ((if pc_ 0 < 0 then 0 else pc_ 0).toInt64)) (0 + 1) ((if pc_ 1 < 0 then 0 else pc_ 1).toInt64)) ((0 + 1) + 1) (((100 - (if pc_ 0 < 0 then 0 else pc_ 0)) - (if pc_ 1 < 0 then 0 else pc_ 1)).toInt64)))) 10 (jL 12 (o_dvS (((0 + 1) + 1) + 1) (prt 0) (va_up (va_up (va_up pw 0 ((if pc_ 0 < 0 then 0 else pc_ 0).toInt64)) (0 + 1) ((if pc_ 1 < 0 then 0 else pc_ 1).toInt64)) ((0 + 1) + 1) (((100 - (if pc_ 0 < 0 then 0 else pc_ 0)) - (if pc_ 1 < 0 then 0 else pc_ 1)).toInt64)) ps cu))) 11 (jL 12 (o_dvC (((0 + 1) + 1) + 1) (prt 0) (va_up (va_up (va_up pw 0 ((if pc_ 0 < 0 then 0 else pc_ 0).toInt64)) (0 + 1) ((if pc_ 1 < 0 then 0 else pc_ 1).toInt64)) ((0 + 1) + 1) (((100 - (if pc_ 0 < 0 then 0 else pc_ 0)) - (if pc_ 1 < 0 then 0 else pc_ 1)).toInt64)) ps cu))) Q
          refine j_pop (pc := 52) dX6_partLeft_52 rfl ?_
          refine j_aload_n (pc := 53) dX6_partLeft_53 rfl ?_
          refine j_getf (pc := 54) dX6_partLeft_54 jfX6_19 (j_hn (by omega) (j_hn (by omega) (j_hn (by omega) (j_hn (by omega) H0)))) rfl ?_
          refine j_iconst (pc := 57) (v := 1) dX6_partLeft_57 (by decide) ?_
          refine j_aload_n (pc := 58) dX6_partLeft_58 rfl ?_
          refine j_getf (pc := 59) dX6_partLeft_59 jfX6_103 (j_hn (by decide) (j_hn (by decide) (j_hn (by decide) j_hs))) rfl ?_
          refine j_iconst (pc := 62) (v := 0) dX6_partLeft_62 (by decide) ?_
          refine j_lald (pc := 63) dX6_partLeft_63 (j_hn (by decide) j_hs) (jix_nI (q := 0) (by decide) (by decide)) ?_
          refine j_last (pc := 64) dX6_partLeft_64 (j_hn (by omega) (j_hn (by omega) (j_hn (by omega) (j_hn (by omega) H1)))) (jix_nI (q := 1) (by decide) (by decide)) ?_
          refine j_aload_n (pc := 65) dX6_partLeft_65 rfl ?_
          refine j_getf (pc := 66) dX6_partLeft_66 jfX6_19 (j_hn (by omega) (j_hn (by omega) (j_hn (by omega) (j_hn (by omega) (j_hn (by omega) H0))))) rfl ?_
          refine j_iconst (pc := 69) (v := 2) dX6_partLeft_69 (by decide) ?_
          refine j_aload_n (pc := 70) dX6_partLeft_70 rfl ?_
          refine j_getf (pc := 71) dX6_partLeft_71 jfX6_103 (j_hn (by omega) (j_hn (by decide) (j_hn (by decide) (j_hn (by decide) j_hs)))) rfl ?_
          refine j_iconst (pc := 74) (v := 1) dX6_partLeft_74 (by decide) ?_
          refine j_lald (pc := 75) dX6_partLeft_75 (j_hn (by omega) (j_hn (by decide) j_hs)) (jix_nI (q := 1) (by decide) (by decide)) ?_
          refine j_last (pc := 76) dX6_partLeft_76 j_hs (jix_nI (q := 2) (by decide) (by decide)) ?_
          rw [j_ss0 (a := tr + 3)]
          refine j_aload_n (pc := 77) dX6_partLeft_77 rfl ?_
          refine j_getf (pc := 78) dX6_partLeft_78 jfX6_19 (j_hn (by omega) (j_hn (by omega) (j_hn (by omega) (j_hn (by omega) (j_hn (by omega) H0))))) rfl ?_
          refine j_iconst (pc := 81) (v := 3) dX6_partLeft_81 (by decide) ?_
          refine j_aload_n (pc := 82) dX6_partLeft_82 rfl ?_
          refine j_getf (pc := 83) dX6_partLeft_83 jfX6_103 (j_hn (by omega) (j_hn (by decide) (j_hn (by decide) (j_hn (by decide) j_hs)))) rfl ?_
          refine j_iconst (pc := 86) (v := 2) dX6_partLeft_86 (by decide) ?_
          refine j_lald (pc := 87) dX6_partLeft_87 (j_hn (by omega) (j_hn (by decide) j_hs)) (jix_nI (q := 2) (by decide) (by decide)) ?_
          refine j_last (pc := 88) dX6_partLeft_88 j_hs (jix_nI (q := 3) (by decide) (by decide)) ?_
          rw [j_ss0 (a := tr + 3)]
          exact j_vret (pc := 89) dX6_partLeft_89 rfl (Nat.le_of_ble_eq_true rfl) (Nat.le_of_ble_eq_true rfl) (K1 c7)
        · show J l G mX6_partLeft _ _ 52 _ [.int 0] (j_set (j_set (j_set h 8 (jO 3 [.ref 9, .ref 10, .ref 11, .int (nI (((0 + 1) + 1) + 1))])) 9 (jL 12 (va_up (va_up (va_up pw 0 ((if pc_ 0 < 0 then 0 else pc_ 0).toInt64)) (0 + 1) ((if pc_ 1 < 0 then 0 else pc_ 1).toInt64)) ((0 + 1) + 1) (((100 - (if pc_ 0 < 0 then 0 else pc_ 0)) - (if pc_ 1 < 0 then 0 else pc_ 1)).toInt64)))) 10 (jL 12 (o_dvZ ps))) Q
          refine j_pop (pc := 52) dX6_partLeft_52 rfl ?_
          refine j_aload_n (pc := 53) dX6_partLeft_53 rfl ?_
          refine j_getf (pc := 54) dX6_partLeft_54 jfX6_19 (j_hn (by omega) (j_hn (by omega) (j_hn (by omega) H0))) rfl ?_
          refine j_iconst (pc := 57) (v := 1) dX6_partLeft_57 (by decide) ?_
          refine j_aload_n (pc := 58) dX6_partLeft_58 rfl ?_
          refine j_getf (pc := 59) dX6_partLeft_59 jfX6_103 (j_hn (by decide) (j_hn (by decide) j_hs)) rfl ?_
          refine j_iconst (pc := 62) (v := 0) dX6_partLeft_62 (by decide) ?_
          refine j_lald (pc := 63) dX6_partLeft_63 j_hs (jix_nI (q := 0) (by decide) (by decide)) ?_
          refine j_last (pc := 64) dX6_partLeft_64 (j_hn (by omega) (j_hn (by omega) (j_hn (by omega) H1))) (jix_nI (q := 1) (by decide) (by decide)) ?_
          refine j_aload_n (pc := 65) dX6_partLeft_65 rfl ?_
          refine j_getf (pc := 66) dX6_partLeft_66 jfX6_19 (j_hn (by omega) (j_hn (by omega) (j_hn (by omega) (j_hn (by omega) H0)))) rfl ?_
          refine j_iconst (pc := 69) (v := 2) dX6_partLeft_69 (by decide) ?_
          refine j_aload_n (pc := 70) dX6_partLeft_70 rfl ?_
          refine j_getf (pc := 71) dX6_partLeft_71 jfX6_103 (j_hn (by omega) (j_hn (by decide) (j_hn (by decide) j_hs))) rfl ?_
          refine j_iconst (pc := 74) (v := 1) dX6_partLeft_74 (by decide) ?_
          refine j_lald (pc := 75) dX6_partLeft_75 (j_hn (by omega) j_hs) (jix_nI (q := 1) (by decide) (by decide)) ?_
          refine j_last (pc := 76) dX6_partLeft_76 j_hs (jix_nI (q := 2) (by decide) (by decide)) ?_
          rw [j_ss0 (a := tr + 3)]
          refine j_aload_n (pc := 77) dX6_partLeft_77 rfl ?_
          refine j_getf (pc := 78) dX6_partLeft_78 jfX6_19 (j_hn (by omega) (j_hn (by omega) (j_hn (by omega) (j_hn (by omega) H0)))) rfl ?_
          refine j_iconst (pc := 81) (v := 3) dX6_partLeft_81 (by decide) ?_
          refine j_aload_n (pc := 82) dX6_partLeft_82 rfl ?_
          refine j_getf (pc := 83) dX6_partLeft_83 jfX6_103 (j_hn (by omega) (j_hn (by decide) (j_hn (by decide) j_hs))) rfl ?_
          refine j_iconst (pc := 86) (v := 2) dX6_partLeft_86 (by decide) ?_
          refine j_lald (pc := 87) dX6_partLeft_87 (j_hn (by omega) j_hs) (jix_nI (q := 2) (by decide) (by decide)) ?_
          refine j_last (pc := 88) dX6_partLeft_88 j_hs (jix_nI (q := 3) (by decide) (by decide)) ?_
          rw [j_ss0 (a := tr + 3)]
          exact j_vret (pc := 89) dX6_partLeft_89 rfl (Nat.le_of_ble_eq_true rfl) (Nat.le_of_ble_eq_true rfl) (K2 c9)
