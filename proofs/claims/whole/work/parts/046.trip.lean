set_option maxRecDepth 20000 in
theorem s_X4_percentOf {l : Launch} {G : jG} {h : jH} {Q : Option Value → jH → Prop} {ru w : Nat} {pc_ : Nat → Int32} (H0 : h.2 ru = some (jO 4 [.ref (ru + 1), .ref (ru + 2), .ref (ru + 3), .ref (ru + 4)])) (H1 : h.2 (ru + 1) = some (jI 2 pc_)) (hw : w < 2) (K1 : Q (some (.int (if pc_ w < 0 then 0 else pc_ w))) h) : J l G mX4_percentOf 0 0 0 (lv_args 0 [.ref ru, .int (nI w)]) [] h Q := by
  refine j_aload_n (pc := 0) dX4_percentOf_0 rfl ?_
  refine j_getf (pc := 1) dX4_percentOf_1 jfX4_9 H0 rfl ?_
  refine j_iload_n (pc := 4) dX4_percentOf_4 rfl ?_
  refine j_iald (pc := 5) dX4_percentOf_5 H1 (jix_nI (by omega) (by decide)) ?_
  refine j_iconst (pc := 6) (v := 0) dX4_percentOf_6 (by decide) ?_
  refine j_maxI (pc := 7) dX4_percentOf_7 jmX4_80 jms_maxI jitJ9 jmc_maxI (Nat.le_of_ble_eq_true rfl) (Nat.le_of_ble_eq_true rfl) (Nat.le_of_ble_eq_true rfl) (Nat.le_of_ble_eq_true rfl) ?_
  exact j_iret (pc := 10) dX4_percentOf_10 rfl rfl (Nat.le_of_ble_eq_true rfl) (Nat.le_of_ble_eq_true rfl) (K1)

set_option maxRecDepth 20000 in
theorem l_X6_costsOff {l : Launch} {G : jG} {h : jH} {Q : Option Value → jH → Prop} {tr sp : Nat} {sal : Int64} {stl : Int32} {ru : Nat} {x : Int32} {cst : Nat → Int64} {plc : Nat → Int32} (H0 : h.2 tr = some (jO 6 [.int (nI sp), .long sal, .ref (tr + 1), .ref (tr + 2), .ref (tr + 3), .ref (tr + 4), .int stl])) (H1 : h.2 (tr + 1) = some (jL 10 cst)) (H2 : h.2 ru = some (jO 4 [.ref (ru + 1), .ref (ru + 2), .ref (ru + 3), .ref (ru + 4)])) (H3 : h.2 (ru + 2) = some (jI 10 plc)) (htr : 50 ≤ tr) (hru : 17 ≤ ru) (hru2 : ru ≤ 22) (K1 : Q (some (.long (j_sc cst plc x 10))) h) : ∀ i : Nat, i ≤ 10 → J l G mX6_costsOff 0 0 5 [(0, .ref tr), (1, .ref ru), (2, .int x), (3, .long (j_sc cst plc x i)), (5, .int (nI i))] [] h Q := by
  refine j_for ?_ ?_
  · intro i hi ih
    refine j_iload (pc := 5) dX6_costsOff_5 rfl ?_
    refine j_bipush (pc := 7) (v := 10) dX6_costsOff_7 (by decide) ?_
    refine j_icmp_geN (a := i) (b := 10) (pc := 9) (tgt := 39) dX6_costsOff_9 (by decide) (by omega) (by omega) (fun c1 => ?_) (fun c1 => ?_)
    · exfalso; omega
    · refine j_aload_n (pc := 12) dX6_costsOff_12 rfl ?_
      refine j_getf (pc := 13) dX6_costsOff_13 jfX6_118 H2 rfl ?_
      refine j_iload (pc := 16) dX6_costsOff_16 rfl ?_
      refine j_iald (pc := 18) dX6_costsOff_18 H3 (jix_nI (by omega) (by decide)) ?_
      refine j_iload_n (pc := 19) dX6_costsOff_19 rfl ?_
      refine j_icmp_ne (pc := 20) (tgt := 33) dX6_costsOff_20 (by decide) (fun c2 => ?_) (fun c2 => ?_)
      · refine j_iincN (a := i) (d := 1) (pc := 33) dX6_costsOff_33 rfl (by decide) ?_
        refine j_goto (pc := 36) (tgt := 5) dX6_costsOff_36 (by decide) ?_
        rw [j_sc_f c2] at ih
        exact j_sub rfl ih
      · refine j_lload_n (pc := 23) dX6_costsOff_23 rfl ?_
        refine j_aload_n (pc := 24) dX6_costsOff_24 rfl ?_
        refine j_getf (pc := 25) dX6_costsOff_25 jfX6_9 H0 rfl ?_
        refine j_iload (pc := 28) dX6_costsOff_28 rfl ?_
        refine j_lald (pc := 30) dX6_costsOff_30 H1 (jix_nI (by omega) (by decide)) ?_
        refine j_ladd (pc := 31) dX6_costsOff_31 ?_
        refine j_lstore_n (pc := 32) dX6_costsOff_32 (by decide) ?_
        refine j_iincN (a := i) (d := 1) (pc := 33) dX6_costsOff_33 rfl (by decide) ?_
        refine j_goto (pc := 36) (tgt := 5) dX6_costsOff_36 (by decide) ?_
        rw [j_sc_t c2] at ih
        exact j_sub rfl ih
  · refine j_iload (pc := 5) dX6_costsOff_5 rfl ?_
    refine j_bipush (pc := 7) (v := 10) dX6_costsOff_7 (by decide) ?_
    refine j_icmp_geN (a := 10) (b := 10) (pc := 9) (tgt := 39) dX6_costsOff_9 (by decide) (by omega) (by omega) (fun c1 => ?_) (fun c1 => ?_)
    · refine j_lload_n (pc := 39) dX6_costsOff_39 rfl ?_
      exact j_lret (pc := 40) dX6_costsOff_40 rfl (Nat.le_of_ble_eq_true rfl) (Nat.le_of_ble_eq_true rfl) K1
    · exfalso; omega
set_option maxRecDepth 20000 in
theorem s_X6_costsOff {l : Launch} {G : jG} {h : jH} {Q : Option Value → jH → Prop} {tr sp : Nat} {sal : Int64} {stl : Int32} {ru : Nat} {x : Int32} {cst : Nat → Int64} {plc : Nat → Int32} (H0 : h.2 tr = some (jO 6 [.int (nI sp), .long sal, .ref (tr + 1), .ref (tr + 2), .ref (tr + 3), .ref (tr + 4), .int stl])) (H1 : h.2 (tr + 1) = some (jL 10 cst)) (H2 : h.2 ru = some (jO 4 [.ref (ru + 1), .ref (ru + 2), .ref (ru + 3), .ref (ru + 4)])) (H3 : h.2 (ru + 2) = some (jI 10 plc)) (htr : 50 ≤ tr) (hru : 17 ≤ ru) (hru2 : ru ≤ 22) (K1 : Q (some (.long (j_sc cst plc x 10))) h) : J l G mX6_costsOff 0 0 0 (lv_args 0 [.ref tr, .ref ru, .int x]) [] h Q := by
  refine j_lconst (pc := 0) (v := 0) dX6_costsOff_0 (by decide) ?_
  refine j_lstore_n (pc := 1) dX6_costsOff_1 (by decide) ?_
  refine j_iconst (pc := 2) (v := 0) dX6_costsOff_2 (by decide) ?_
  refine j_istore (pc := 3) dX6_costsOff_3 (by decide) ?_
  exact j_sub rfl (l_X6_costsOff H0 H1 H2 H3 htr hru hru2 K1 0 (Nat.zero_le _))

set_option maxRecDepth 20000 in
theorem l_X6_countAboard {l : Launch} {G : jG} {h : jH} {Q : Option Value → jH → Prop} {tr sp : Nat} {sal : Int64} {stl : Int32} {dys : Nat → Int32} (H0 : h.2 tr = some (jO 6 [.int (nI sp), .long sal, .ref (tr + 1), .ref (tr + 2), .ref (tr + 3), .ref (tr + 4), .int stl])) (H1 : h.2 (tr + 2) = some (jI 12 dys))  (K1 : Q (some (.int (nI (j_ct dys 12)))) h) : ∀ i : Nat, i ≤ 12 → J l G mX6_countAboard 0 0 4 [(0, .ref tr), (1, .int (nI (j_ct dys i))), (2, .int (nI i))] [] h Q := by
  refine j_for ?_ ?_
  · intro i hi ih
    have hm := j_ct_le dys i
    refine j_iload_n (pc := 4) dX6_countAboard_4 rfl ?_
    refine j_bipush (pc := 5) (v := 12) dX6_countAboard_5 (by decide) ?_
    refine j_icmp_geN (a := i) (b := 12) (pc := 7) (tgt := 28) dX6_countAboard_7 (by decide) (by omega) (by omega) (fun c1 => ?_) (fun c1 => ?_)
    · exfalso; omega
    · refine j_aload_n (pc := 10) dX6_countAboard_10 rfl ?_
      refine j_getf (pc := 11) dX6_countAboard_11 jfX6_15 H0 rfl ?_
      refine j_iload_n (pc := 14) dX6_countAboard_14 rfl ?_
      refine j_iald (pc := 15) dX6_countAboard_15 H1 (jix_nI (by omega) (by decide)) ?_
      refine j_if_le (pc := 16) (tgt := 22) dX6_countAboard_16 (by decide) (fun c2 => ?_) (fun c2 => ?_)
      · refine j_iincN (a := i) (d := 1) (pc := 22) dX6_countAboard_22 rfl (by decide) ?_
        refine j_goto (pc := 25) (tgt := 4) dX6_countAboard_25 (by decide) ?_
        rw [j_ct_f c2] at ih
        exact j_sub rfl ih
      · refine j_iincN (a := j_ct dys i) (d := 1) (pc := 19) dX6_countAboard_19 rfl (by decide) ?_
        refine j_iincN (a := i) (d := 1) (pc := 22) dX6_countAboard_22 rfl (by decide) ?_
        refine j_goto (pc := 25) (tgt := 4) dX6_countAboard_25 (by decide) ?_
        rw [j_ct_t c2] at ih
        exact j_sub rfl ih
  · refine j_iload_n (pc := 4) dX6_countAboard_4 rfl ?_
    refine j_bipush (pc := 5) (v := 12) dX6_countAboard_5 (by decide) ?_
    refine j_icmp_geN (a := 12) (b := 12) (pc := 7) (tgt := 28) dX6_countAboard_7 (by decide) (by omega) (by omega) (fun c1 => ?_) (fun c1 => ?_)
    · refine j_iload_n (pc := 28) dX6_countAboard_28 rfl ?_
      exact j_iret (pc := 29) dX6_countAboard_29 rfl rfl (Nat.le_of_ble_eq_true rfl) (Nat.le_of_ble_eq_true rfl) K1
    · exfalso; omega
set_option maxRecDepth 20000 in
theorem s_X6_countAboard {l : Launch} {G : jG} {h : jH} {Q : Option Value → jH → Prop} {tr sp : Nat} {sal : Int64} {stl : Int32} {dys : Nat → Int32} (H0 : h.2 tr = some (jO 6 [.int (nI sp), .long sal, .ref (tr + 1), .ref (tr + 2), .ref (tr + 3), .ref (tr + 4), .int stl])) (H1 : h.2 (tr + 2) = some (jI 12 dys))  (K1 : Q (some (.int (nI (j_ct dys 12)))) h) : J l G mX6_countAboard 0 0 0 (lv_args 0 [.ref tr]) [] h Q := by
  refine j_iconst (pc := 0) (v := 0) dX6_countAboard_0 (by decide) ?_
  refine j_istore_n (pc := 1) dX6_countAboard_1 (by decide) ?_
  refine j_iconst (pc := 2) (v := 0) dX6_countAboard_2 (by decide) ?_
  refine j_istore_n (pc := 3) dX6_countAboard_3 (by decide) ?_
  exact j_sub rfl (l_X6_countAboard H0 H1 K1 0 (Nat.zero_le _))

set_option maxRecDepth 20000 in
theorem s_X6_hasOf {l : Launch} {G : jG} {h : jH} {Q : Option Value → jH → Prop} {tr sp : Nat} {sal : Int64} {stl : Int32} {p : Nat} {srw : Nat → Option Nat} {s0 s1 : Nat → Int64} (H0 : h.2 tr = some (jO 6 [.int (nI sp), .long sal, .ref (tr + 1), .ref (tr + 2), .ref (tr + 3), .ref (tr + 4), .int stl])) (H1 : h.2 (tr + 4) = some (jQ 6 4 srw)) (H2 : h.2 (tr + 5) = some (jL 12 s0)) (H3 : h.2 (tr + 6) = some (jL 12 s1)) (hp : p < 12) (hs0 : srw 0 = some (tr + 5)) (hs1 : srw 1 = some (tr + 6)) (K1 : Q (some (.long ((s0 p) + (s1 p)))) h) : J l G mX6_hasOf 0 0 0 (lv_args 0 [.ref tr, .int (nI p)]) [] h Q := by
  refine j_aload_n (pc := 0) dX6_hasOf_0 rfl ?_
  refine j_getf (pc := 1) dX6_hasOf_1 jfX6_24 H0 rfl ?_
  refine j_iconst (pc := 4) (v := 0) dX6_hasOf_4 (by decide) ?_
  refine j_aaldR (pc := 5) dX6_hasOf_5 (t := 6) rfl rfl H1 (jix_nI (q := 0) (by decide) (by decide)) hs0 ?_
  refine j_iload_n (pc := 6) dX6_hasOf_6 rfl ?_
  refine j_lald (pc := 7) dX6_hasOf_7 H2 (jix_nI (by omega) (by decide)) ?_
  refine j_aload_n (pc := 8) dX6_hasOf_8 rfl ?_
  refine j_getf (pc := 9) dX6_hasOf_9 jfX6_24 H0 rfl ?_
  refine j_iconst (pc := 12) (v := 1) dX6_hasOf_12 (by decide) ?_
  refine j_aaldR (pc := 13) dX6_hasOf_13 (t := 6) rfl rfl H1 (jix_nI (q := 1) (by decide) (by decide)) hs1 ?_
  refine j_iload_n (pc := 14) dX6_hasOf_14 rfl ?_
  refine j_lald (pc := 15) dX6_hasOf_15 H3 (jix_nI (by omega) (by decide)) ?_
  refine j_ladd (pc := 16) dX6_hasOf_16 ?_
  exact j_lret (pc := 17) dX6_hasOf_17 rfl (Nat.le_of_ble_eq_true rfl) (Nat.le_of_ble_eq_true rfl) (K1)

def o_tu1 (p : Nat) (x : Int32) (dys : Nat → Int32) (s0 s1 : Nat → Int64) : Nat → Int64 := va_up s1 p (if 0 < (x.toInt64 * ((dys p).toInt64)) - (s0 p) then (x.toInt64 * ((dys p).toInt64)) - (s0 p) else 0)
def o_tuP (p : Nat) (x : Int32) (dys : Nat → Int32) (prt s0 : Nat → Int64) : Nat → Int64 := va_up prt 1 ((prt 1) - (if 0 < (x.toInt64 * ((dys p).toInt64)) - (s0 p) then (x.toInt64 * ((dys p).toInt64)) - (s0 p) else 0))
set_option maxRecDepth 20000 in
theorem s_X6_topUp {l : Launch} {G : jG} {h : jH} {Q : Option Value → jH → Prop} {tr sp : Nat} {sal : Int64} {stl : Int32} {p : Nat} {x : Int32} {dys : Nat → Int32} {prt : Nat → Int64} {srw : Nat → Option Nat} {s0 s1 : Nat → Int64} (H0 : h.2 tr = some (jO 6 [.int (nI sp), .long sal, .ref (tr + 1), .ref (tr + 2), .ref (tr + 3), .ref (tr + 4), .int stl])) (H1 : h.2 (tr + 2) = some (jI 12 dys)) (H2 : h.2 (tr + 3) = some (jL 6 prt)) (H3 : h.2 (tr + 4) = some (jQ 6 4 srw)) (H4 : h.2 (tr + 5) = some (jL 12 s0)) (H5 : h.2 (tr + 6) = some (jL 12 s1)) (hp : p < 12) (hs0 : srw 0 = some (tr + 5)) (hs1 : srw 1 = some (tr + 6)) (K1 : Q none (j_set (j_set h (tr + 6) (jL 12 (o_tu1 p x dys s0 s1))) (tr + 3) (jL 6 (o_tuP p x dys prt s0)))) : J l G mX6_topUp 0 0 0 (lv_args 0 [.ref tr, .int (nI p), .int x]) [] h Q := by
  refine j_iload_n (pc := 0) dX6_topUp_0 rfl ?_
  refine j_i2l (pc := 1) dX6_topUp_1 ?_
  refine j_aload_n (pc := 2) dX6_topUp_2 rfl ?_
  refine j_getf (pc := 3) dX6_topUp_3 jfX6_15 H0 rfl ?_
  refine j_iload_n (pc := 6) dX6_topUp_6 rfl ?_
  refine j_iald (pc := 7) dX6_topUp_7 H1 (jix_nI (by omega) (by decide)) ?_
  refine j_i2l (pc := 8) dX6_topUp_8 ?_
  refine j_lmul (pc := 9) dX6_topUp_9 ?_
  refine j_lstore_n (pc := 10) dX6_topUp_10 (by decide) ?_
  refine j_lload_n (pc := 11) dX6_topUp_11 rfl ?_
  refine j_aload_n (pc := 12) dX6_topUp_12 rfl ?_
  refine j_getf (pc := 13) dX6_topUp_13 jfX6_24 H0 rfl ?_
  refine j_iconst (pc := 16) (v := 0) dX6_topUp_16 (by decide) ?_
  refine j_aaldR (pc := 17) dX6_topUp_17 (t := 6) rfl rfl H3 (jix_nI (q := 0) (by decide) (by decide)) hs0 ?_
  refine j_iload_n (pc := 18) dX6_topUp_18 rfl ?_
  refine j_lald (pc := 19) dX6_topUp_19 H4 (jix_nI (by omega) (by decide)) ?_
  refine j_lsub (pc := 20) dX6_topUp_20 ?_
  refine j_lconst (pc := 21) (v := 0) dX6_topUp_21 (by decide) ?_
  refine j_maxL (pc := 22) dX6_topUp_22 jmX6_80 jms_maxL jitJ9 jmc_maxL (Nat.le_of_ble_eq_true rfl) (Nat.le_of_ble_eq_true rfl) (Nat.le_of_ble_eq_true rfl) (Nat.le_of_ble_eq_true rfl) ?_
  refine j_lstore (pc := 25) dX6_topUp_25 (by decide) ?_
  refine j_aload_n (pc := 27) dX6_topUp_27 rfl ?_
  refine j_getf (pc := 28) dX6_topUp_28 jfX6_24 H0 rfl ?_
  refine j_iconst (pc := 31) (v := 1) dX6_topUp_31 (by decide) ?_
  refine j_aaldR (pc := 32) dX6_topUp_32 (t := 6) rfl rfl H3 (jix_nI (q := 1) (by decide) (by decide)) hs1 ?_
  refine j_iload_n (pc := 33) dX6_topUp_33 rfl ?_
  refine j_lload (pc := 34) dX6_topUp_34 rfl ?_
  refine j_last (pc := 36) dX6_topUp_36 H5 (jix_nI (by omega) (by decide)) ?_
  refine j_aload_n (pc := 37) dX6_topUp_37 rfl ?_
  refine j_getf (pc := 38) dX6_topUp_38 jfX6_19 (j_hn (by omega) H0) rfl ?_
  refine j_iconst (pc := 41) (v := 1) dX6_topUp_41 (by decide) ?_
  refine j_dup2 (pc := 42) dX6_topUp_42 rfl rfl ?_
  refine j_lald (pc := 43) dX6_topUp_43 (j_hn (by omega) H2) (jix_nI (q := 1) (by decide) (by decide)) ?_
  refine j_lload (pc := 44) dX6_topUp_44 rfl ?_
  refine j_lsub (pc := 46) dX6_topUp_46 ?_
  refine j_last (pc := 47) dX6_topUp_47 (j_hn (by omega) H2) (jix_nI (q := 1) (by decide) (by decide)) ?_
  exact j_vret (pc := 48) dX6_topUp_48 rfl (Nat.le_of_ble_eq_true rfl) (Nat.le_of_ble_eq_true rfl) (K1)

def o_pyA (p : Nat) (ad s0 s1 : Nat → Int64) : Nat → Int64 := va_up ad p ((ad p) - (if ad p < (s0 p) + (s1 p) then ad p else (s0 p) + (s1 p)))
def o_py2 (p : Nat) (ad s0 s1 s2 : Nat → Int64) : Nat → Int64 := va_up s2 p (if ad p < (s0 p) + (s1 p) then ad p else (s0 p) + (s1 p))
def o_py3 (p : Nat) (ad s0 s1 s3 : Nat → Int64) : Nat → Int64 := va_up s3 p (((s0 p) + (s1 p)) - (if ad p < (s0 p) + (s1 p) then ad p else (s0 p) + (s1 p)))
set_option maxRecDepth 20000 in
theorem s_X6_pay {l : Launch} {G : jG} {h : jH} {Q : Option Value → jH → Prop} {tr sp : Nat} {sal : Int64} {stl : Int32} {p P : Nat} {ad : Nat → Int64} {srw : Nat → Option Nat} {s0 s1 s2 s3 : Nat → Int64} (H0 : h.2 tr = some (jO 6 [.int (nI sp), .long sal, .ref (tr + 1), .ref (tr + 2), .ref (tr + 3), .ref (tr + 4), .int stl])) (H1 : h.2 (tr + 4) = some (jQ 6 4 srw)) (H2 : h.2 (tr + 5) = some (jL 12 s0)) (H3 : h.2 (tr + 6) = some (jL 12 s1)) (H4 : h.2 (tr + 7) = some (jL 12 s2)) (H5 : h.2 (tr + 8) = some (jL 12 s3)) (H6 : h.2 3 = some (jO 1 [.ref 4, .ref 5, .int (nI P)])) (H7 : h.2 5 = some (jL 12 ad)) (hp : p < 12) (hs0 : srw 0 = some (tr + 5)) (hs1 : srw 1 = some (tr + 6)) (hs2 : srw 2 = some (tr + 7)) (hs3 : srw 3 = some (tr + 8)) (htr : 50 ≤ tr) (K1 : Q none (j_set (j_set (j_set h 5 (jL 12 (o_pyA p ad s0 s1))) (tr + 7) (jL 12 (o_py2 p ad s0 s1 s2))) (tr + 8) (jL 12 (o_py3 p ad s0 s1 s3)))) : J l G mX6_pay 0 0 0 (lv_args 0 [.ref tr, .int (nI p), .ref 3]) [] h Q := by
  refine j_aload_n (pc := 0) dX6_pay_0 rfl ?_
  refine j_iload_n (pc := 1) dX6_pay_1 rfl ?_
  refine j_V1 (rm' := rmX6_hasOf) (pc := 2) dX6_pay_2 jlX6_111 H0 rfl ⟨Nat.le_of_ble_eq_true rfl, Nat.le_of_ble_eq_true rfl, Nat.le_of_ble_eq_true rfl, Nat.le_of_ble_eq_true rfl, Nat.le_of_ble_eq_true rfl, Nat.le_of_ble_eq_true rfl⟩ ?_
  refine s_X6_hasOf (p := p) (sp := sp) H0 H1 H2 H3 hp hs0 hs1 ?_
  show J l G mX6_pay _ _ 5 _ [.long ((s0 p) + (s1 p))] h Q
  refine j_lstore_n (pc := 5) dX6_pay_5 (by decide) ?_
  refine j_lload_n (pc := 6) dX6_pay_6 rfl ?_
  refine j_aload_n (pc := 7) dX6_pay_7 rfl ?_
  refine j_getf (pc := 8) dX6_pay_8 jfX6_115 H6 rfl ?_
  refine j_iload_n (pc := 11) dX6_pay_11 rfl ?_
  refine j_lald (pc := 12) dX6_pay_12 H7 (jix_nI (by omega) (by decide)) ?_
  refine j_minL (pc := 13) dX6_pay_13 jmX6_105 jms_minL jitJ9 jmc_minL (Nat.le_of_ble_eq_true rfl) (Nat.le_of_ble_eq_true rfl) (Nat.le_of_ble_eq_true rfl) (Nat.le_of_ble_eq_true rfl) ?_
  refine j_lstore (pc := 16) dX6_pay_16 (by decide) ?_
  refine j_aload_n (pc := 18) dX6_pay_18 rfl ?_
  refine j_getf (pc := 19) dX6_pay_19 jfX6_115 H6 rfl ?_
  refine j_iload_n (pc := 22) dX6_pay_22 rfl ?_
  refine j_dup2 (pc := 23) dX6_pay_23 rfl rfl ?_
  refine j_lald (pc := 24) dX6_pay_24 H7 (jix_nI (by omega) (by decide)) ?_
  refine j_lload (pc := 25) dX6_pay_25 rfl ?_
  refine j_lsub (pc := 27) dX6_pay_27 ?_
  refine j_last (pc := 28) dX6_pay_28 H7 (jix_nI (by omega) (by decide)) ?_
  refine j_aload_n (pc := 29) dX6_pay_29 rfl ?_
  refine j_getf (pc := 30) dX6_pay_30 jfX6_24 (j_hn (by omega) H0) rfl ?_
  refine j_iconst (pc := 33) (v := 2) dX6_pay_33 (by decide) ?_
  refine j_aaldR (pc := 34) dX6_pay_34 (t := 6) rfl rfl (j_hn (by omega) H1) (jix_nI (q := 2) (by decide) (by decide)) hs2 ?_
  refine j_iload_n (pc := 35) dX6_pay_35 rfl ?_
  refine j_lload (pc := 36) dX6_pay_36 rfl ?_
  refine j_last (pc := 38) dX6_pay_38 (j_hn (by omega) H4) (jix_nI (by omega) (by decide)) ?_
  refine j_aload_n (pc := 39) dX6_pay_39 rfl ?_
  refine j_getf (pc := 40) dX6_pay_40 jfX6_24 (j_hn (by omega) (j_hn (by omega) H0)) rfl ?_
  refine j_iconst (pc := 43) (v := 3) dX6_pay_43 (by decide) ?_
  refine j_aaldR (pc := 44) dX6_pay_44 (t := 6) rfl rfl (j_hn (by omega) (j_hn (by omega) H1)) (jix_nI (q := 3) (by decide) (by decide)) hs3 ?_
  refine j_iload_n (pc := 45) dX6_pay_45 rfl ?_
  refine j_lload_n (pc := 46) dX6_pay_46 rfl ?_
  refine j_lload (pc := 47) dX6_pay_47 rfl ?_
  refine j_lsub (pc := 49) dX6_pay_49 ?_
  refine j_last (pc := 50) dX6_pay_50 (j_hn (by omega) (j_hn (by omega) H5)) (jix_nI (by omega) (by decide)) ?_
  exact j_vret (pc := 51) dX6_pay_51 rfl (Nat.le_of_ble_eq_true rfl) (Nat.le_of_ble_eq_true rfl) (K1)

def o_blP (sp : Nat) (sal : Int64) (cst prt lo : Nat → Int64) (plc : Nat → Int32) : Nat → Int64 := va_up (va_up (va_up prt 4 (lo sp)) 0 (if 0 < (sal - (j_sc cst plc 0 10)) - (lo sp) then (sal - (j_sc cst plc 0 10)) - (lo sp) else 0)) 5 (if 0 < -((sal - (j_sc cst plc 0 10)) - (lo sp)) then -((sal - (j_sc cst plc 0 10)) - (lo sp)) else 0)
def o_blL (sp : Nat) (sal : Int64) (cst prt lo : Nat → Int64) (plc : Nat → Int32) : Nat → Int64 := va_up lo sp (if 0 < -((sal - (j_sc cst plc 0 10)) - (lo sp)) then -((sal - (j_sc cst plc 0 10)) - (lo sp)) else 0)
set_option maxRecDepth 20000 in
theorem s_X6_bearLoss {l : Launch} {G : jG} {h : jH} {Q : Option Value → jH → Prop} {tr sp : Nat} {sal : Int64} {stl : Int32} {ru : Nat} {cst prt lo : Nat → Int64} {plc : Nat → Int32} (H0 : h.2 tr = some (jO 6 [.int (nI sp), .long sal, .ref (tr + 1), .ref (tr + 2), .ref (tr + 3), .ref (tr + 4), .int stl])) (H1 : h.2 (tr + 1) = some (jL 10 cst)) (H2 : h.2 (tr + 3) = some (jL 6 prt)) (H3 : h.2 ru = some (jO 4 [.ref (ru + 1), .ref (ru + 2), .ref (ru + 3), .ref (ru + 4)])) (H4 : h.2 (ru + 2) = some (jI 10 plc)) (H5 : h.2 6 = some (jL 4 lo)) (htr : 50 ≤ tr) (hru : 17 ≤ ru) (hru2 : ru ≤ 22) (hsp : sp < 4) (K1 : Q none (j_set (j_set h (tr + 3) (jL 6 (o_blP sp sal cst prt lo plc))) 6 (jL 4 (o_blL sp sal cst prt lo plc)))) : J l G mX6_bearLoss 0 0 0 (lv_args 0 [.ref tr, .ref ru, .ref 6]) [] h Q := by
  refine j_aload_n (pc := 0) dX6_bearLoss_0 rfl ?_
  refine j_getf (pc := 1) dX6_bearLoss_1 jfX6_19 H0 rfl ?_
  refine j_iconst (pc := 4) (v := 4) dX6_bearLoss_4 (by decide) ?_
  refine j_aload_n (pc := 5) dX6_bearLoss_5 rfl ?_
  refine j_aload_n (pc := 6) dX6_bearLoss_6 rfl ?_
  refine j_getf (pc := 7) dX6_bearLoss_7 jfX6_27 H0 rfl ?_
  refine j_lald (pc := 10) dX6_bearLoss_10 H5 (jix_nI (by omega) (by decide)) ?_
  refine j_last (pc := 11) dX6_bearLoss_11 H2 (jix_nI (q := 4) (by decide) (by decide)) ?_
  refine j_aload_n (pc := 12) dX6_bearLoss_12 rfl ?_
  refine j_getf (pc := 13) dX6_bearLoss_13 jfX6_31 (j_hn (by omega) H0) rfl ?_
  refine j_aload_n (pc := 16) dX6_bearLoss_16 rfl ?_
  refine j_aload_n (pc := 17) dX6_bearLoss_17 rfl ?_
  refine j_iconst (pc := 18) (v := 0) dX6_bearLoss_18 (by decide) ?_
  refine j_V2 (rm' := rmX6_costsOff) (pc := 19) dX6_bearLoss_19 jlX6_76 (j_hn (by omega) H0) rfl ⟨Nat.le_of_ble_eq_true rfl, Nat.le_of_ble_eq_true rfl, Nat.le_of_ble_eq_true rfl, Nat.le_of_ble_eq_true rfl, Nat.le_of_ble_eq_true rfl, Nat.le_of_ble_eq_true rfl⟩ ?_
  refine s_X6_costsOff (sp := sp) (j_hn (by omega) H0) (j_hn (by omega) H1) (j_hn (by omega) H3) (j_hn (by omega) H4) htr hru hru2 ?_
  show J l G mX6_bearLoss _ _ 22 _ [.long (j_sc cst plc 0 10), .long sal] (j_set h (tr + 3) (jL 6 (va_up prt 4 (lo sp)))) Q
  refine j_lsub (pc := 22) dX6_bearLoss_22 ?_
  refine j_aload_n (pc := 23) dX6_bearLoss_23 rfl ?_
  refine j_aload_n (pc := 24) dX6_bearLoss_24 rfl ?_
  refine j_getf (pc := 25) dX6_bearLoss_25 jfX6_27 (j_hn (by omega) H0) rfl ?_
  refine j_lald (pc := 28) dX6_bearLoss_28 (j_hn (by omega) H5) (jix_nI (by omega) (by decide)) ?_
  refine j_lsub (pc := 29) dX6_bearLoss_29 ?_
  refine j_lstore_n (pc := 30) dX6_bearLoss_30 (by decide) ?_
  refine j_aload_n (pc := 31) dX6_bearLoss_31 rfl ?_
  refine j_getf (pc := 32) dX6_bearLoss_32 jfX6_19 (j_hn (by omega) H0) rfl ?_
  refine j_iconst (pc := 35) (v := 0) dX6_bearLoss_35 (by decide) ?_
  refine j_lload_n (pc := 36) dX6_bearLoss_36 rfl ?_
  refine j_lconst (pc := 37) (v := 0) dX6_bearLoss_37 (by decide) ?_
  refine j_maxL (pc := 38) dX6_bearLoss_38 jmX6_80 jms_maxL jitJ9 jmc_maxL (Nat.le_of_ble_eq_true rfl) (Nat.le_of_ble_eq_true rfl) (Nat.le_of_ble_eq_true rfl) (Nat.le_of_ble_eq_true rfl) ?_
  refine j_last (pc := 41) dX6_bearLoss_41 j_hs (jix_nI (q := 0) (by decide) (by decide)) ?_
  rw [j_ss0 (a := tr + 3)]
  refine j_aload_n (pc := 42) dX6_bearLoss_42 rfl ?_
  refine j_getf (pc := 43) dX6_bearLoss_43 jfX6_19 (j_hn (by omega) H0) rfl ?_
  refine j_iconst (pc := 46) (v := 5) dX6_bearLoss_46 (by decide) ?_
  refine j_lload_n (pc := 47) dX6_bearLoss_47 rfl ?_
  refine j_lneg (pc := 48) dX6_bearLoss_48 ?_
  refine j_lconst (pc := 49) (v := 0) dX6_bearLoss_49 (by decide) ?_
  refine j_maxL (pc := 50) dX6_bearLoss_50 jmX6_80 jms_maxL jitJ9 jmc_maxL (Nat.le_of_ble_eq_true rfl) (Nat.le_of_ble_eq_true rfl) (Nat.le_of_ble_eq_true rfl) (Nat.le_of_ble_eq_true rfl) ?_
  refine j_last (pc := 53) dX6_bearLoss_53 j_hs (jix_nI (q := 5) (by decide) (by decide)) ?_
  rw [j_ss0 (a := tr + 3)]
  refine j_aload_n (pc := 54) dX6_bearLoss_54 rfl ?_
  refine j_aload_n (pc := 55) dX6_bearLoss_55 rfl ?_
  refine j_getf (pc := 56) dX6_bearLoss_56 jfX6_27 (j_hn (by omega) H0) rfl ?_
  refine j_aload_n (pc := 59) dX6_bearLoss_59 rfl ?_
  refine j_getf (pc := 60) dX6_bearLoss_60 jfX6_19 (j_hn (by omega) H0) rfl ?_
  refine j_iconst (pc := 63) (v := 5) dX6_bearLoss_63 (by decide) ?_
  refine j_laldS (pc := 64) dX6_bearLoss_64 j_hs (jix_nI (q := 5) (by decide) (by decide)) ?_
  refine j_last (pc := 65) dX6_bearLoss_65 (j_hn (by omega) H5) (jix_nI (by omega) (by decide)) ?_
  exact j_vret (pc := 66) dX6_bearLoss_66 rfl (Nat.le_of_ble_eq_true rfl) (Nat.le_of_ble_eq_true rfl) (K1)

def o_bcP (cst prt : Nat → Int64) (plc : Nat → Int32) : Nat → Int64 := va_up (va_up prt 3 ((prt 3) - (if prt 3 < j_sc cst plc 1 10 then prt 3 else j_sc cst plc 1 10))) 1 (((va_up prt 3 ((prt 3) - (if prt 3 < j_sc cst plc 1 10 then prt 3 else j_sc cst plc 1 10))) 1) - (((j_sc cst plc 1 10) - (if prt 3 < j_sc cst plc 1 10 then prt 3 else j_sc cst plc 1 10)) + (j_sc cst plc 2 10)))
set_option maxRecDepth 20000 in
theorem s_X6_bearCosts {l : Launch} {G : jG} {h : jH} {Q : Option Value → jH → Prop} {tr sp : Nat} {sal : Int64} {stl : Int32} {ru : Nat} {cst prt : Nat → Int64} {plc : Nat → Int32} (H0 : h.2 tr = some (jO 6 [.int (nI sp), .long sal, .ref (tr + 1), .ref (tr + 2), .ref (tr + 3), .ref (tr + 4), .int stl])) (H1 : h.2 (tr + 1) = some (jL 10 cst)) (H2 : h.2 (tr + 3) = some (jL 6 prt)) (H3 : h.2 ru = some (jO 4 [.ref (ru + 1), .ref (ru + 2), .ref (ru + 3), .ref (ru + 4)])) (H4 : h.2 (ru + 2) = some (jI 10 plc)) (htr : 50 ≤ tr) (hru : 17 ≤ ru) (hru2 : ru ≤ 22) (K1 : Q none (j_set h (tr + 3) (jL 6 (o_bcP cst prt plc)))) : J l G mX6_bearCosts 0 0 0 (lv_args 0 [.ref tr, .ref ru]) [] h Q := by
  refine j_aload_n (pc := 0) dX6_bearCosts_0 rfl ?_
  refine j_aload_n (pc := 1) dX6_bearCosts_1 rfl ?_
  refine j_iconst (pc := 2) (v := 1) dX6_bearCosts_2 (by decide) ?_
  refine j_V2 (rm' := rmX6_costsOff) (pc := 3) dX6_bearCosts_3 jlX6_76 H0 rfl ⟨Nat.le_of_ble_eq_true rfl, Nat.le_of_ble_eq_true rfl, Nat.le_of_ble_eq_true rfl, Nat.le_of_ble_eq_true rfl, Nat.le_of_ble_eq_true rfl, Nat.le_of_ble_eq_true rfl⟩ ?_
  refine s_X6_costsOff (sp := sp) H0 H1 H3 H4 htr hru hru2 ?_
  show J l G mX6_bearCosts _ _ 6 _ [.long (j_sc cst plc 1 10)] h Q
  refine j_lstore_n (pc := 6) dX6_bearCosts_6 (by decide) ?_
  refine j_lload_n (pc := 7) dX6_bearCosts_7 rfl ?_
  refine j_aload_n (pc := 8) dX6_bearCosts_8 rfl ?_
  refine j_getf (pc := 9) dX6_bearCosts_9 jfX6_19 H0 rfl ?_
  refine j_iconst (pc := 12) (v := 3) dX6_bearCosts_12 (by decide) ?_
  refine j_lald (pc := 13) dX6_bearCosts_13 H2 (jix_nI (q := 3) (by decide) (by decide)) ?_
  refine j_minL (pc := 14) dX6_bearCosts_14 jmX6_105 jms_minL jitJ9 jmc_minL (Nat.le_of_ble_eq_true rfl) (Nat.le_of_ble_eq_true rfl) (Nat.le_of_ble_eq_true rfl) (Nat.le_of_ble_eq_true rfl) ?_
  refine j_lstore (pc := 17) dX6_bearCosts_17 (by decide) ?_
  refine j_aload_n (pc := 19) dX6_bearCosts_19 rfl ?_
  refine j_getf (pc := 20) dX6_bearCosts_20 jfX6_19 H0 rfl ?_
  refine j_iconst (pc := 23) (v := 3) dX6_bearCosts_23 (by decide) ?_
  refine j_dup2 (pc := 24) dX6_bearCosts_24 rfl rfl ?_
  refine j_lald (pc := 25) dX6_bearCosts_25 H2 (jix_nI (q := 3) (by decide) (by decide)) ?_
  refine j_lload (pc := 26) dX6_bearCosts_26 rfl ?_
  refine j_lsub (pc := 28) dX6_bearCosts_28 ?_
  refine j_last (pc := 29) dX6_bearCosts_29 H2 (jix_nI (q := 3) (by decide) (by decide)) ?_
  refine j_aload_n (pc := 30) dX6_bearCosts_30 rfl ?_
  refine j_getf (pc := 31) dX6_bearCosts_31 jfX6_19 (j_hn (by omega) H0) rfl ?_
  refine j_iconst (pc := 34) (v := 1) dX6_bearCosts_34 (by decide) ?_
  refine j_dup2 (pc := 35) dX6_bearCosts_35 rfl rfl ?_
  refine j_lald (pc := 36) dX6_bearCosts_36 j_hs (jix_nI (q := 1) (by decide) (by decide)) ?_
  refine j_lload_n (pc := 37) dX6_bearCosts_37 rfl ?_
  refine j_lload (pc := 38) dX6_bearCosts_38 rfl ?_
  refine j_lsub (pc := 40) dX6_bearCosts_40 ?_
  refine j_aload_n (pc := 41) dX6_bearCosts_41 rfl ?_
  refine j_aload_n (pc := 42) dX6_bearCosts_42 rfl ?_
  refine j_iconst (pc := 43) (v := 2) dX6_bearCosts_43 (by decide) ?_
  refine j_V2 (rm' := rmX6_costsOff) (pc := 44) dX6_bearCosts_44 jlX6_76 (j_hn (by omega) H0) rfl ⟨Nat.le_of_ble_eq_true rfl, Nat.le_of_ble_eq_true rfl, Nat.le_of_ble_eq_true rfl, Nat.le_of_ble_eq_true rfl, Nat.le_of_ble_eq_true rfl, Nat.le_of_ble_eq_true rfl⟩ ?_
  refine s_X6_costsOff (sp := sp) (j_hn (by omega) H0) (j_hn (by omega) H1) (j_hn (by omega) H3) (j_hn (by omega) H4) htr hru hru2 ?_
  show J l G mX6_bearCosts _ _ 47 _ [.long (j_sc cst plc 2 10), .long ((j_sc cst plc 1 10) - (if prt 3 < j_sc cst plc 1 10 then prt 3 else j_sc cst plc 1 10)), .long ((va_up prt 3 ((prt 3) - (if prt 3 < j_sc cst plc 1 10 then prt 3 else j_sc cst plc 1 10))) 1), .int 1, .ref (tr + 3)] (j_set h (tr + 3) (jL 6 (va_up prt 3 ((prt 3) - (if prt 3 < j_sc cst plc 1 10 then prt 3 else j_sc cst plc 1 10))))) Q
  refine j_ladd (pc := 47) dX6_bearCosts_47 ?_
  refine j_lsub (pc := 48) dX6_bearCosts_48 ?_
  refine j_last (pc := 49) dX6_bearCosts_49 j_hs (jix_nI (q := 1) (by decide) (by decide)) ?_
  rw [j_ss0 (a := tr + 3)]
  exact j_vret (pc := 50) dX6_bearCosts_50 rfl (Nat.le_of_ble_eq_true rfl) (Nat.le_of_ble_eq_true rfl) (K1)
