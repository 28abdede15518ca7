def o_dvS (n : Nat) (sum : Int64) (pw ps cu : Nat → Int64) : Nat → Int64 := (j_gv n (j_f0 (j_f0 ps (fun _ => 0) 12) (fun k => sum * pw k / j_sm pw n) n) (j_f0 (cu) (fun k => sum * pw k - sum * pw k / j_sm pw n * j_sm pw n) n) (min n (j_ld sum (fun k => sum * pw k / j_sm pw n) n).toInt.toNat)).1
def o_dvC (n : Nat) (sum : Int64) (pw ps cu : Nat → Int64) : Nat → Int64 := (j_gv n (j_f0 (j_f0 ps (fun _ => 0) 12) (fun k => sum * pw k / j_sm pw n) n) (j_f0 (cu) (fun k => sum * pw k - sum * pw k / j_sm pw n * j_sm pw n) n) (min n (j_ld sum (fun k => sum * pw k / j_sm pw n) n).toInt.toNat)).2
def o_dvZ (ps : Nat → Int64) : Nat → Int64 := j_f0 ps (fun _ => 0) 12
set_option maxRecDepth 20000 in
theorem s_X3_divide {l : Launch} {G : jG} {h : jH} {Q : Option Value → jH → Prop} {n : Nat} {sum : Int64} {pw ps cu : Nat → Int64} (H0 : h.2 8 = some (jO 3 [.ref 9, .ref 10, .ref 11, .int (nI n)])) (H1 : h.2 9 = some (jL 12 pw)) (H2 : h.2 10 = some (jL 12 ps)) (H3 : h.2 11 = some (jL 12 cu)) (hn : n ≤ 12) (K1 : 0 < (j_sm pw n) → Q (some (.int 1)) (j_set (j_set h 10 (jL 12 (o_dvS n sum pw ps cu))) 11 (jL 12 (o_dvC n sum pw ps cu)))) (K2 : ¬ (0 < (j_sm pw n)) → Q (some (.int 0)) (j_set h 10 (jL 12 (o_dvZ ps)))) : J l G mX3_divide 0 0 0 (lv_args 0 [.ref 8, .long sum]) [] h Q := by
  refine j_aload_n (pc := 0) dX3_divide_0 rfl ?_
  refine j_getf (pc := 1) dX3_divide_1 jfX3_15 H0 rfl ?_
  refine j_lconst (pc := 4) (v := 0) dX3_divide_4 (by decide) ?_
  refine j_S2 (rm' := rmJ7_fill_d0a16) (pc := 5) dX3_divide_5 jlX3_25 ⟨Nat.le_of_ble_eq_true rfl, Nat.le_of_ble_eq_true rfl, Nat.le_of_ble_eq_true rfl, Nat.le_of_ble_eq_true rfl, Nat.le_of_ble_eq_true rfl, Nat.le_of_ble_eq_true rfl⟩ ?_
  refine s_J7_fill_d0a16 H2 (by decide) ?_
  show J l G mX3_divide _ _ 8 _ [] (j_set h 10 (jL 12 (j_f0 ps (fun _ => 0) 12))) Q
  refine j_aload_n (pc := 8) dX3_divide_8 rfl ?_
  refine j_V0 (rm' := rmX3_wholeWeight) (pc := 9) dX3_divide_9 jlX3_31 (j_hn (by decide) H0) rfl ⟨Nat.le_of_ble_eq_true rfl, Nat.le_of_ble_eq_true rfl, Nat.le_of_ble_eq_true rfl, Nat.le_of_ble_eq_true rfl, Nat.le_of_ble_eq_true rfl, Nat.le_of_ble_eq_true rfl⟩ ?_
  refine s_X3_wholeWeight (n := n) (j_hn (by decide) H0) (j_hn (by decide) H1) hn ?_
  show J l G mX3_divide _ _ 12 _ [.long (j_sm pw n)] (j_set h 10 (jL 12 (j_f0 ps (fun _ => 0) 12))) Q
  refine j_lstore_n (pc := 12) dX3_divide_12 (by decide) ?_
  refine j_lload_n (pc := 13) dX3_divide_13 rfl ?_
  refine j_lconst (pc := 14) (v := 0) dX3_divide_14 (by decide) ?_
  refine j_lc_gt (pc := 15) (tgt := 21) dX3_divide_15 dX3_divide_16 (by decide) (fun c1 => ?_) (fun c1 => ?_)
  · refine j_lload_n (pc := 21) dX3_divide_21 rfl ?_
    refine j_lstore (pc := 22) dX3_divide_22 (by decide) ?_
    refine j_iconst (pc := 24) (v := 0) dX3_divide_24 (by decide) ?_
    refine j_istore (pc := 25) dX3_divide_25 (by decide) ?_
    refine j_pad (j_hn (by decide) H3) ?_
    refine j_sub (lv' := [(0, .ref 8), (1, .long sum), (3, .long (j_sm pw n)), (5, .long (j_ld sum (fun k => sum * pw k / j_sm pw n) 0)), (7, .int (nI 0))]) rfl ?_
    refine j_for (N := n) (S := fun i1 => J l G mX3_divide 0 0 27 [(0, .ref 8), (1, .long sum), (3, .long (j_sm pw n)), (5, .long (j_ld sum (fun k => sum * pw k / j_sm pw n) i1)), (7, .int (nI i1))] [] (j_set (j_set h 10 (jL 12 (j_f0 (j_f0 ps (fun _ => 0) 12) (fun k => sum * pw k / j_sm pw n) i1))) 11 (jL 12 (j_f0 (cu) (fun k => sum * pw k - sum * pw k / j_sm pw n * j_sm pw n) i1))) Q) ?_ ?_ 0 (Nat.zero_le _)
    · intro i1 hi1 ih1
      refine j_iload (pc := 27) dX3_divide_27 rfl ?_
      refine j_aload_n (pc := 29) dX3_divide_29 rfl ?_
      refine j_getf (pc := 30) dX3_divide_30 jfX3_21 (j_hn (by decide) (j_hn (by decide) H0)) rfl ?_
      refine j_icmp_geN (a := i1) (b := n) (pc := 33) (tgt := 87) dX3_divide_33 (by decide) (by omega) (by omega) (fun c2 => ?_) (fun c2 => ?_)
      · exfalso; omega
      · refine j_lload_n (pc := 36) dX3_divide_36 rfl ?_
        refine j_aload_n (pc := 37) dX3_divide_37 rfl ?_
        refine j_getf (pc := 38) dX3_divide_38 jfX3_9 (j_hn (by decide) (j_hn (by decide) H0)) rfl ?_
        refine j_iload (pc := 41) dX3_divide_41 rfl ?_
        refine j_lald (pc := 43) dX3_divide_43 (j_hn (by decide) (j_hn (by decide) H1)) (jix_nI (by omega) (by decide)) ?_
        refine j_lmul (pc := 44) dX3_divide_44 ?_
        refine j_lstore (pc := 45) dX3_divide_45 (by decide) ?_
        refine j_aload_n (pc := 47) dX3_divide_47 rfl ?_
        refine j_getf (pc := 48) dX3_divide_48 jfX3_15 (j_hn (by decide) (j_hn (by decide) H0)) rfl ?_
        refine j_iload (pc := 51) dX3_divide_51 rfl ?_
        refine j_lload (pc := 53) dX3_divide_53 rfl ?_
        refine j_lload_n (pc := 55) dX3_divide_55 rfl ?_
        refine j_ldiv (pc := 56) dX3_divide_56 (fun z => absurd c1 (by rw [z]; decide)) ?_
        refine j_last (pc := 57) dX3_divide_57 (j_hn (by decide) j_hs) (jix_nI (by omega) (by decide)) ?_
        rw [j_ss1 (a := 10) (b0 := 11) (by decide)]
        refine j_aload_n (pc := 58) dX3_divide_58 rfl ?_
        refine j_getf (pc := 59) dX3_divide_59 jfX3_18 (j_hn (by decide) (j_hn (by decide) H0)) rfl ?_
        refine j_iload (pc := 62) dX3_divide_62 rfl ?_
        refine j_lload (pc := 64) dX3_divide_64 rfl ?_
        refine j_lload_n (pc := 66) dX3_divide_66 rfl ?_
        refine j_lrem (pc := 67) dX3_divide_67 (fun z => absurd c1 (by rw [z]; decide)) ?_
        refine j_last (pc := 68) dX3_divide_68 j_hs (jix_nI (by omega) (by decide)) ?_
        rw [j_ss0 (a := 11)]
        refine j_lload (pc := 69) dX3_divide_69 rfl ?_
        refine j_aload_n (pc := 71) dX3_divide_71 rfl ?_
        refine j_getf (pc := 72) dX3_divide_72 jfX3_15 (j_hn (by decide) (j_hn (by decide) H0)) rfl ?_
        refine j_iload (pc := 75) dX3_divide_75 rfl ?_
        refine j_laldS (pc := 77) dX3_divide_77 (j_hn (by decide) j_hs) (jix_nI (by omega) (by decide)) ?_
        refine j_lsub (pc := 78) dX3_divide_78 ?_
        refine j_lstore (pc := 79) dX3_divide_79 (by decide) ?_
        refine j_iincN (a := i1) (d := 1) (pc := 81) dX3_divide_81 rfl (by decide) ?_
        refine j_goto (pc := 84) (tgt := 27) dX3_divide_84 (by decide) ?_
        exact j_sub rfl ih1
    · refine j_iload (pc := 27) dX3_divide_27 rfl ?_
      refine j_aload_n (pc := 29) dX3_divide_29 rfl ?_
      refine j_getf (pc := 30) dX3_divide_30 jfX3_21 (j_hn (by decide) (j_hn (by decide) H0)) rfl ?_
      refine j_icmp_geN (a := n) (b := n) (pc := 33) (tgt := 87) dX3_divide_33 (by decide) (by omega) (by omega) (fun c3 => ?_) (fun c3 => ?_)
      · refine j_aload_n (pc := 87) dX3_divide_87 rfl ?_
        refine j_lload (pc := 88) dX3_divide_88 rfl ?_
        refine j_V1 (rm' := rmX3_giveCents) (pc := 90) dX3_divide_90 jlX3_35 (j_hn (by decide) (j_hn (by decide) H0)) rfl ⟨Nat.le_of_ble_eq_true rfl, Nat.le_of_ble_eq_true rfl, Nat.le_of_ble_eq_true rfl, Nat.le_of_ble_eq_true rfl, Nat.le_of_ble_eq_true rfl, Nat.le_of_ble_eq_true rfl⟩ ?_
        refine s_X3_giveCents (n := n) (j_hn (by decide) (j_hn (by decide) H0)) (j_hn (by decide) j_hs) j_hs hn ?_
        show J l G mX3_divide _ _ 93 _ [] (j_set (j_set (j_set (j_set h 10 (jL 12 (j_f0 (j_f0 ps (fun _ => 0) 12) (fun k => sum * pw k / j_sm pw n) n))) 11 (jL 12 (j_f0 (cu) (fun k => sum * pw k - sum * pw k / j_sm pw n * j_sm pw n) n))) 10 (jL 12 ((j_gv n (j_f0 (j_f0 ps (fun _ => 0) 12) (fun k => sum * pw k / j_sm pw n) n) (j_f0 (cu) (fun k => sum * pw k - sum * pw k / j_sm pw n * j_sm pw n) n) (min n (j_ld sum (fun k => sum * pw k / j_sm pw n) n).toInt.toNat)).1))) 11 (jL 12 ((j_gv n (j_f0 (j_f0 ps (fun _ => 0) 12) (fun k => sum * pw k / j_sm pw n) n) (j_f0 (cu) (fun k => sum * pw k - sum * pw k / j_sm pw n * j_sm pw n) n) (min n (j_ld sum (fun k => sum * pw k / j_sm pw n) n).toInt.toNat)).2))) Q
        rw [show (j_set (j_set (j_set (j_set h 10 (jL 12 (j_f0 (j_f0 ps (fun _ => 0) 12) (fun k => sum * pw k / j_sm pw n) n))) 11 (jL 12 (j_f0 (cu) (fun k => sum * pw k - sum * pw k / j_sm pw n * j_sm pw n) n))) 10 (jL 12 ((j_gv n (j_f0 (j_f0 ps (fun _ => 0) 12) (fun k => sum * pw k / j_sm pw n) n) (j_f0 (cu) (fun k => sum * pw k - sum * pw k / j_sm pw n * j_sm pw n) n) (min n (j_ld sum (fun k => sum * pw k / j_sm pw n) n).toInt.toNat)).1))) 11 (jL 12 ((j_gv n (j_f0 (j_f0 ps (fun _ => 0) 12) (fun k => sum * pw k / j_sm pw n) n) (j_f0 (cu) (fun k => sum * pw k - sum * pw k / j_sm pw n * j_sm pw n) n) (min n (j_ld sum (fun k => sum * pw k / j_sm pw n) n).toInt.toNat)).2))) = (j_set (j_set h 10 (jL 12 ((j_gv n (j_f0 (j_f0 ps (fun _ => 0) 12) (fun k => sum * pw k / j_sm pw n) n) (j_f0 (cu) (fun k => sum * pw k - sum * pw k / j_sm pw n * j_sm pw n) n) (min n (j_ld sum (fun k => sum * pw k / j_sm pw n) n).toInt.toNat)).1))) 11 (jL 12 ((j_gv n (j_f0 (j_f0 ps (fun _ => 0) 12) (fun k => sum * pw k / j_sm pw n) n) (j_f0 (cu) (fun k => sum * pw k - sum * pw k / j_sm pw n * j_sm pw n) n) (min n (j_ld sum (fun k => sum * pw k / j_sm pw n) n).toInt.toNat)).2))) from by rw [j_ss1 (a := 10) (b0 := 11) (by decide), j_ss0 (a := 11)]]
        refine j_iconst (pc := 93) (v := 1) dX3_divide_93 (by decide) ?_
        exact j_iret (pc := 94) dX3_divide_94 rfl rfl (Nat.le_of_ble_eq_true rfl) (Nat.le_of_ble_eq_true rfl) (K1 c1)
      · exfalso; omega
  · refine j_iconst (pc := 19) (v := 0) dX3_divide_19 (by decide) ?_
    exact j_iret (pc := 20) dX3_divide_20 rfl rfl (Nat.le_of_ble_eq_true rfl) (Nat.le_of_ble_eq_true rfl) (K2 c1)
