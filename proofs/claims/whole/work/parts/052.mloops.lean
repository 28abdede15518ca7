set_option maxRecDepth 20000 in
theorem s_X8_costsOf {l : Launch} {G : jG} {h : jH} {Q : Option Value → jH → Prop} {at_ cl es fr op ps sz ts wd x : Int32} {t : Nat} {ru : Nat → Int32} {co : Nat → Int64}  (H0 : h.2 27 = some (mO sz at_ fr wd ps ts es op cl)) (H1 : h.2 29 = some (jI 34 ru)) (H2 : h.2 36 = some (jL 200 co)) (ht : t < 20) (K1 : Q (some (.long (j_tc (fun k => co (10 * t + k)) (fun k => ru (2 + k)) x 0 10))) h) : J l G mX8_costsOf 0 0 0 (lv_args 0 [.ref 27, .int (nI t), .int x]) [] h Q := by
  refine j_lconst (pc := 0) (v := 0) dX8_costsOf_0 (by decide) ?_
  refine j_lstore_n (pc := 1) dX8_costsOf_1 (by decide) ?_
  refine j_iconst (pc := 2) (v := 0) dX8_costsOf_2 (by decide) ?_
  refine j_istore (pc := 3) dX8_costsOf_3 (by decide) ?_
  refine j_sub (lv' := [(0, .ref 27), (1, .int (nI t)), (2, .int x), (3, .long (j_tc (fun k => co (10 * t + k)) (fun k => ru (2 + k)) x 0 0)), (5, .int (nI 0))]) rfl ?_
  refine j_for (N := 10) (S := fun i1 => J l G mX8_costsOf 0 0 5 [(0, .ref 27), (1, .int (nI t)), (2, .int x), (3, .long (j_tc (fun k => co (10 * t + k)) (fun k => ru (2 + k)) x 0 i1)), (5, .int (nI i1))] [] h Q) ?_ ?_ 0 (Nat.zero_le _)
  · intro i1 hi1 ih1
    refine j_iload (pc := 5) dX8_costsOf_5 rfl ?_
    refine j_bipush (pc := 7) (v := 10) dX8_costsOf_7 (by decide) ?_
    refine j_icmp_geN (a := i1) (b := 10) (pc := 9) (tgt := 50) dX8_costsOf_9 (by decide) (by omega) (by omega) (fun c1 => ?_) (fun c1 => ?_)
    · exfalso; omega
    · refine j_lload_n (pc := 12) dX8_costsOf_12 rfl ?_
      refine j_aload_n (pc := 13) dX8_costsOf_13 rfl ?_
      refine j_getf (pc := 14) dX8_costsOf_14 jfX8_13 H0 rfl ?_
      refine j_iconst (pc := 17) (v := 2) dX8_costsOf_17 (by decide) ?_
      refine j_iload (pc := 18) dX8_costsOf_18 rfl ?_
      refine j_iaddN (a := 2) (b := i1) (pc := 20) dX8_costsOf_20 ?_
      refine j_iald (pc := 21) dX8_costsOf_21 H1 (jix_nI (by omega) (by decide)) ?_
      refine j_iload_n (pc := 22) dX8_costsOf_22 rfl ?_
      have KT1 : J l G mX8_costsOf 0 0 42 [(0, .ref 27), (1, .int (nI t)), (2, .int x), (3, .long (j_tc (fun k => co (10 * t + k)) (fun k => ru (2 + k)) x 0 i1)), (5, .int (nI i1))] [.long (if (ru (2 + i1)) = x then co ((10 * t) + i1) else 0), .long (j_tc (fun k => co (10 * t + k)) (fun k => ru (2 + k)) x 0 i1)] h Q := by
        refine j_ladd (pc := 42) dX8_costsOf_42 ?_
        refine j_lstore_n (pc := 43) dX8_costsOf_43 (by decide) ?_
        refine j_iincN (a := i1) (d := 1) (pc := 44) dX8_costsOf_44 rfl (by decide) ?_
        refine j_goto (pc := 47) (tgt := 5) dX8_costsOf_47 (by decide) ?_
        exact j_sub rfl ih1
      refine j_icmp_ne (pc := 23) (tgt := 41) dX8_costsOf_23 (by decide) (fun c2 => ?_) (fun c2 => ?_)
      · refine j_lconst (pc := 41) (v := 0) dX8_costsOf_41 (by decide) ?_
        rw [if_neg c2] at KT1
        exact j_sub rfl KT1
      · refine j_aload_n (pc := 26) dX8_costsOf_26 rfl ?_
        refine j_getf (pc := 27) dX8_costsOf_27 jfX8_35 H0 rfl ?_
        refine j_bipush (pc := 30) (v := 10) dX8_costsOf_30 (by decide) ?_
        refine j_iload_n (pc := 32) dX8_costsOf_32 rfl ?_
        refine j_imulN (a := 10) (b := t) (pc := 33) dX8_costsOf_33 ?_
        refine j_iload (pc := 34) dX8_costsOf_34 rfl ?_
        refine j_iaddN (a := 10 * t) (b := i1) (pc := 36) dX8_costsOf_36 ?_
        refine j_lald (pc := 37) dX8_costsOf_37 H2 (jix_nI (by omega) (by decide)) ?_
        refine j_goto (pc := 38) (tgt := 42) dX8_costsOf_38 (by decide) ?_
        rw [if_pos c2] at KT1
        exact j_sub rfl KT1
  · refine j_iload (pc := 5) dX8_costsOf_5 rfl ?_
    refine j_bipush (pc := 7) (v := 10) dX8_costsOf_7 (by decide) ?_
    refine j_icmp_geN (a := 10) (b := 10) (pc := 9) (tgt := 50) dX8_costsOf_9 (by decide) (by omega) (by omega) (fun c3 => ?_) (fun c3 => ?_)
    · refine j_lload_n (pc := 50) dX8_costsOf_50 rfl ?_
      exact j_lret (pc := 51) dX8_costsOf_51 rfl (Nat.le_of_ble_eq_true rfl) (Nat.le_of_ble_eq_true rfl) (K1)
    · exfalso; omega

def o_pcG (n : Nat) (sum : Int64) (we ge re : Nat → Int64) : Nat → Int64 := (j_gv n (j_f0 ge (fun k => sum * we k / j_sm we n) n) (j_f0 re (fun k => sum * we k - sum * we k / j_sm we n * j_sm we n) n) ((j_ld sum (fun k => sum * we k / j_sm we n) n).toInt.toNat)).1
def o_pcR (n : Nat) (sum : Int64) (we ge re : Nat → Int64) : Nat → Int64 := (j_gv n (j_f0 ge (fun k => sum * we k / j_sm we n) n) (j_f0 re (fun k => sum * we k - sum * we k / j_sm we n * j_sm we n) n) ((j_ld sum (fun k => sum * we k / j_sm we n) n).toInt.toNat)).2
set_option maxRecDepth 20000 in
theorem s_X8_partByCents {l : Launch} {G : jG} {h : jH} {Q : Option Value → jH → Prop} {at_ cl es fr op ps sz ts wd : Int32} {n : Nat} {sum : Int64} {we : Nat → Int64} {ge : Nat → Int64} {re : Nat → Int64}  (H0 : h.2 27 = some (mO sz at_ fr wd ps ts es op cl)) (H1 : h.2 41 = some (jL 12 we)) (H2 : h.2 42 = some (jL 12 ge)) (H3 : h.2 43 = some (jL 12 re)) (hn : n ≤ 12) (hn1 : 1 ≤ n) (hw : ¬ j_sm we n = 0) (K1 : Q none (j_set (j_set h 42 (jL 12 (o_pcG n sum we ge re))) 43 (jL 12 (o_pcR n sum we ge re)))) : J l G mX8_partByCents 0 0 0 (lv_args 0 [.ref 27, .long sum, .int (nI n)]) [] h Q := by
  refine j_lconst (pc := 0) (v := 0) dX8_partByCents_0 (by decide) ?_
  refine j_lstore (pc := 1) dX8_partByCents_1 (by decide) ?_
  refine j_iconst (pc := 3) (v := 0) dX8_partByCents_3 (by decide) ?_
  refine j_istore (pc := 4) dX8_partByCents_4 (by decide) ?_
  refine j_sub (lv' := [(0, .ref 27), (1, .long sum), (3, .int (nI n)), (4, .long (j_sm we 0)), (6, .int (nI 0))]) rfl ?_
  refine j_for (N := n) (S := fun i1 => J l G mX8_partByCents 0 0 6 [(0, .ref 27), (1, .long sum), (3, .int (nI n)), (4, .long (j_sm we i1)), (6, .int (nI i1))] [] h Q) ?_ ?_ 0 (Nat.zero_le _)
  · intro i1 hi1 ih1
    refine j_iload (pc := 6) dX8_partByCents_6 rfl ?_
    refine j_iload_n (pc := 8) dX8_partByCents_8 rfl ?_
    refine j_icmp_geN (a := i1) (b := n) (pc := 9) (tgt := 30) dX8_partByCents_9 (by decide) (by omega) (by omega) (fun c1 => ?_) (fun c1 => ?_)
    · exfalso; omega
    · refine j_lload (pc := 12) dX8_partByCents_12 rfl ?_
      refine j_aload_n (pc := 14) dX8_partByCents_14 rfl ?_
      refine j_getf (pc := 15) dX8_partByCents_15 jfX8_51 H0 rfl ?_
      refine j_iload (pc := 18) dX8_partByCents_18 rfl ?_
      refine j_lald (pc := 20) dX8_partByCents_20 H1 (jix_nI (by omega) (by decide)) ?_
      refine j_ladd (pc := 21) dX8_partByCents_21 ?_
      refine j_lstore (pc := 22) dX8_partByCents_22 (by decide) ?_
      refine j_iincN (a := i1) (d := 1) (pc := 24) dX8_partByCents_24 rfl (by decide) ?_
      refine j_goto (pc := 27) (tgt := 6) dX8_partByCents_27 (by decide) ?_
      exact j_sub rfl ih1
  · refine j_iload (pc := 6) dX8_partByCents_6 rfl ?_
    refine j_iload_n (pc := 8) dX8_partByCents_8 rfl ?_
    refine j_icmp_geN (a := n) (b := n) (pc := 9) (tgt := 30) dX8_partByCents_9 (by decide) (by omega) (by omega) (fun c2 => ?_) (fun c2 => ?_)
    · refine j_lload_n (pc := 30) dX8_partByCents_30 rfl ?_
      refine j_lstore (pc := 31) dX8_partByCents_31 (by decide) ?_
      refine j_iconst (pc := 33) (v := 0) dX8_partByCents_33 (by decide) ?_
      refine j_istore (pc := 34) dX8_partByCents_34 (by decide) ?_
      refine j_pad H2 ?_
      refine j_pad (j_hn (by decide) H3) ?_
      refine j_sub (lv' := [(0, .ref 27), (1, .long sum), (3, .int (nI n)), (4, .long (j_sm we n)), (6, .long (j_ld sum (fun k => sum * we k / j_sm we n) 0)), (8, .int (nI 0))]) rfl ?_
      refine j_for (N := n) (S := fun i2 => J l G mX8_partByCents 0 0 36 [(0, .ref 27), (1, .long sum), (3, .int (nI n)), (4, .long (j_sm we n)), (6, .long (j_ld sum (fun k => sum * we k / j_sm we n) i2)), (8, .int (nI i2))] [] (j_set (j_set h 42 (jL 12 (j_f0 ge (fun k => sum * we k / j_sm we n) i2))) 43 (jL 12 (j_f0 re (fun k => sum * we k - sum * we k / j_sm we n * j_sm we n) i2))) Q) ?_ ?_ 0 (Nat.zero_le _)
      · intro i2 hi2 ih2
        refine j_iload (pc := 36) dX8_partByCents_36 rfl ?_
        refine j_iload_n (pc := 38) dX8_partByCents_38 rfl ?_
        refine j_icmp_geN (a := i2) (b := n) (pc := 39) (tgt := 98) dX8_partByCents_39 (by decide) (by omega) (by omega) (fun c3 => ?_) (fun c3 => ?_)
        · exfalso; omega
        · refine j_aload_n (pc := 42) dX8_partByCents_42 rfl ?_
          refine j_getf (pc := 43) dX8_partByCents_43 jfX8_54 (j_hn (by decide) (j_hn (by decide) H0)) rfl ?_
          refine j_iload (pc := 46) dX8_partByCents_46 rfl ?_
          refine j_lload_n (pc := 48) dX8_partByCents_48 rfl ?_
          refine j_aload_n (pc := 49) dX8_partByCents_49 rfl ?_
          refine j_getf (pc := 50) dX8_partByCents_50 jfX8_51 (j_hn (by decide) (j_hn (by decide) H0)) rfl ?_
          refine j_iload (pc := 53) dX8_partByCents_53 rfl ?_
          refine j_lald (pc := 55) dX8_partByCents_55 (j_hn (by decide) (j_hn (by decide) H1)) (jix_nI (by omega) (by decide)) ?_
          refine j_lmul (pc := 56) dX8_partByCents_56 ?_
          refine j_lload (pc := 57) dX8_partByCents_57 rfl ?_
          refine j_ldiv (pc := 59) dX8_partByCents_59 hw ?_
          refine j_last (pc := 60) dX8_partByCents_60 (j_hn (by decide) j_hs) (jix_nI (by omega) (by decide)) ?_
          rw [j_ss1 (a := 42) (b0 := 43) (by decide)]
          refine j_aload_n (pc := 61) dX8_partByCents_61 rfl ?_
          refine j_getf (pc := 62) dX8_partByCents_62 jfX8_57 (j_hn (by decide) (j_hn (by decide) H0)) rfl ?_
          refine j_iload (pc := 65) dX8_partByCents_65 rfl ?_
          refine j_lload_n (pc := 67) dX8_partByCents_67 rfl ?_
          refine j_aload_n (pc := 68) dX8_partByCents_68 rfl ?_
          refine j_getf (pc := 69) dX8_partByCents_69 jfX8_51 (j_hn (by decide) (j_hn (by decide) H0)) rfl ?_
          refine j_iload (pc := 72) dX8_partByCents_72 rfl ?_
          refine j_lald (pc := 74) dX8_partByCents_74 (j_hn (by decide) (j_hn (by decide) H1)) (jix_nI (by omega) (by decide)) ?_
          refine j_lmul (pc := 75) dX8_partByCents_75 ?_
          refine j_lload (pc := 76) dX8_partByCents_76 rfl ?_
          refine j_lrem (pc := 78) dX8_partByCents_78 hw ?_
          refine j_last (pc := 79) dX8_partByCents_79 j_hs (jix_nI (by omega) (by decide)) ?_
          rw [j_ss0 (a := 43)]
          refine j_lload (pc := 80) dX8_partByCents_80 rfl ?_
          refine j_aload_n (pc := 82) dX8_partByCents_82 rfl ?_
          refine j_getf (pc := 83) dX8_partByCents_83 jfX8_54 (j_hn (by decide) (j_hn (by decide) H0)) rfl ?_
          refine j_iload (pc := 86) dX8_partByCents_86 rfl ?_
          refine j_laldS (pc := 88) dX8_partByCents_88 (j_hn (by decide) j_hs) (jix_nI (by omega) (by decide)) ?_
          refine j_lsub (pc := 89) dX8_partByCents_89 ?_
          refine j_lstore (pc := 90) dX8_partByCents_90 (by decide) ?_
          refine j_iincN (a := i2) (d := 1) (pc := 92) dX8_partByCents_92 rfl (by decide) ?_
          refine j_goto (pc := 95) (tgt := 36) dX8_partByCents_95 (by decide) ?_
          exact j_sub rfl ih2
      · refine j_iload (pc := 36) dX8_partByCents_36 rfl ?_
        refine j_iload_n (pc := 38) dX8_partByCents_38 rfl ?_
        refine j_icmp_geN (a := n) (b := n) (pc := 39) (tgt := 98) dX8_partByCents_39 (by decide) (by omega) (by omega) (fun c4 => ?_) (fun c4 => ?_)
        · refine j_sub (lv' := [(0, .ref 27), (1, .long sum), (3, .int (nI n)), (4, .long (j_sm we n)), (6, .long (j_dn (j_ld sum (fun k => sum * we k / j_sm we n) n) 0))]) rfl ?_
          refine j_for (N := (j_ld sum (fun k => sum * we k / j_sm we n) n).toInt.toNat) (S := fun i3 => J l G mX8_partByCents 0 0 98 [(0, .ref 27), (1, .long sum), (3, .int (nI n)), (4, .long (j_sm we n)), (6, .long (j_dn (j_ld sum (fun k => sum * we k / j_sm we n) n) i3))] [] (j_set (j_set h 42 (jL 12 ((j_gv n (j_f0 ge (fun k => sum * we k / j_sm we n) n) (j_f0 re (fun k => sum * we k - sum * we k / j_sm we n * j_sm we n) n) i3).1))) 43 (jL 12 ((j_gv n (j_f0 ge (fun k => sum * we k / j_sm we n) n) (j_f0 re (fun k => sum * we k - sum * we k / j_sm we n * j_sm we n) n) i3).2))) Q) ?_ ?_ 0 (Nat.zero_le _)
          · intro i3 hi3 ih3
            refine j_lload (pc := 98) dX8_partByCents_98 rfl ?_
            refine j_lconst (pc := 100) (v := 0) dX8_partByCents_100 (by decide) ?_
            refine j_lc_le (pc := 101) (tgt := 180) dX8_partByCents_101 dX8_partByCents_102 (by decide) (fun c5 => ?_) (fun c5 => ?_)
            · exfalso; have z := (j_dn_le (by omega)).mp c5; omega
            · refine j_iconst (pc := 105) (v := 0) dX8_partByCents_105 (by decide) ?_
              refine j_istore (pc := 106) dX8_partByCents_106 (by decide) ?_
              refine j_iconst (pc := 108) (v := 1) dX8_partByCents_108 (by decide) ?_
              refine j_istore (pc := 109) dX8_partByCents_109 (by decide) ?_
              refine j_sub (lv' := [(0, .ref 27), (1, .long sum), (3, .int (nI n)), (4, .long (j_sm we n)), (6, .long (j_dn (j_ld sum (fun k => sum * we k / j_sm we n) n) i3)), (8, .int (nI (j_mx ((j_gv n (j_f0 ge (fun k => sum * we k / j_sm we n) n) (j_f0 re (fun k => sum * we k - sum * we k / j_sm we n * j_sm we n) n) i3).2) 1))), (9, .int (nI 1))]) (by rw [j_mx_1]; rfl) ?_
              refine j_for (N := n) (S := fun i4 => J l G mX8_partByCents 0 0 111 [(0, .ref 27), (1, .long sum), (3, .int (nI n)), (4, .long (j_sm we n)), (6, .long (j_dn (j_ld sum (fun k => sum * we k / j_sm we n) n) i3)), (8, .int (nI (j_mx ((j_gv n (j_f0 ge (fun k => sum * we k / j_sm we n) n) (j_f0 re (fun k => sum * we k - sum * we k / j_sm we n * j_sm we n) n) i3).2) i4))), (9, .int (nI i4))] [] (j_set (j_set h 42 (jL 12 ((j_gv n (j_f0 ge (fun k => sum * we k / j_sm we n) n) (j_f0 re (fun k => sum * we k - sum * we k / j_sm we n * j_sm we n) n) i3).1))) 43 (jL 12 ((j_gv n (j_f0 ge (fun k => sum * we k / j_sm we n) n) (j_f0 re (fun k => sum * we k - sum * we k / j_sm we n * j_sm we n) n) i3).2))) Q) ?_ ?_ 1 hn1
              · intro i4 hi4 ih4
                have hmx := j_mx_le ((j_gv n (j_f0 ge (fun k => sum * we k / j_sm we n) n) (j_f0 re (fun k => sum * we k - sum * we k / j_sm we n * j_sm we n) n) i3).2) i4
                refine j_iload (pc := 111) dX8_partByCents_111 rfl ?_
                refine j_iload_n (pc := 113) dX8_partByCents_113 rfl ?_
                refine j_icmp_geN (a := i4) (b := n) (pc := 114) (tgt := 150) dX8_partByCents_114 (by decide) (by omega) (by omega) (fun c6 => ?_) (fun c6 => ?_)
                · exfalso; omega
                · refine j_aload_n (pc := 117) dX8_partByCents_117 rfl ?_
                  refine j_getf (pc := 118) dX8_partByCents_118 jfX8_57 (j_hn (by decide) (j_hn (by decide) H0)) rfl ?_
                  refine j_iload (pc := 121) dX8_partByCents_121 rfl ?_
                  refine j_lald (pc := 123) dX8_partByCents_123 j_hs (jix_nI (by omega) (by decide)) ?_
                  refine j_aload_n (pc := 124) dX8_partByCents_124 rfl ?_
                  refine j_getf (pc := 125) dX8_partByCents_125 jfX8_57 (j_hn (by decide) (j_hn (by decide) H0)) rfl ?_
                  refine j_iload (pc := 128) dX8_partByCents_128 rfl ?_
                  refine j_lald (pc := 130) dX8_partByCents_130 j_hs (jix_nI (by omega) (by decide)) ?_
                  have KT1 : J l G mX8_partByCents 0 0 142 [(0, .ref 27), (1, .long sum), (3, .int (nI n)), (4, .long (j_sm we n)), (6, .long (j_dn (j_ld sum (fun k => sum * we k / j_sm we n) n) i3)), (8, .int (nI (j_mx ((j_gv n (j_f0 ge (fun k => sum * we k / j_sm we n) n) (j_f0 re (fun k => sum * we k - sum * we k / j_sm we n * j_sm we n) n) i3).2) i4))), (9, .int (nI i4))] [.int (if (((j_gv n (j_f0 ge (fun k => sum * we k / j_sm we n) n) (j_f0 re (fun k => sum * we k - sum * we k / j_sm we n * j_sm we n) n) i3).2) i4) ≤ (((j_gv n (j_f0 ge (fun k => sum * we k / j_sm we n) n) (j_f0 re (fun k => sum * we k - sum * we k / j_sm we n * j_sm we n) n) i3).2) (j_mx ((j_gv n (j_f0 ge (fun k => sum * we k / j_sm we n) n) (j_f0 re (fun k => sum * we k - sum * we k / j_sm we n * j_sm we n) n) i3).2) i4)) then nI (j_mx ((j_gv n (j_f0 ge (fun k => sum * we k / j_sm we n) n) (j_f0 re (fun k => sum * we k - sum * we k / j_sm we n * j_sm we n) n) i3).2) i4) else nI i4)] (j_set (j_set h 42 (jL 12 ((j_gv n (j_f0 ge (fun k => sum * we k / j_sm we n) n) (j_f0 re (fun k => sum * we k - sum * we k / j_sm we n * j_sm we n) n) i3).1))) 43 (jL 12 ((j_gv n (j_f0 ge (fun k => sum * we k / j_sm we n) n) (j_f0 re (fun k => sum * we k - sum * we k / j_sm we n * j_sm we n) n) i3).2))) Q := by
                    refine j_istore (pc := 142) dX8_partByCents_142 (by decide) ?_
                    refine j_iincN (a := i4) (d := 1) (pc := 144) dX8_partByCents_144 rfl (by decide) ?_
                    refine j_goto (pc := 147) (tgt := 111) dX8_partByCents_147 (by decide) ?_
                    rw [j_mx_n] at ih4
                    exact j_sub rfl ih4
                  refine j_lc_le (pc := 131) (tgt := 140) dX8_partByCents_131 dX8_partByCents_132 (by decide) (fun c7 => ?_) (fun c7 => ?_)
                  · refine j_iload (pc := 140) dX8_partByCents_140 rfl ?_
                    rw [if_pos c7] at KT1
                    exact j_sub rfl KT1
                  · refine j_iload (pc := 135) dX8_partByCents_135 rfl ?_
                    refine j_goto (pc := 137) (tgt := 142) dX8_partByCents_137 (by decide) ?_
                    rw [if_neg c7] at KT1
                    exact j_sub rfl KT1
              · have hmn := j_mx_le ((j_gv n (j_f0 ge (fun k => sum * we k / j_sm we n) n) (j_f0 re (fun k => sum * we k - sum * we k / j_sm we n * j_sm we n) n) i3).2) n
                refine j_iload (pc := 111) dX8_partByCents_111 rfl ?_
                refine j_iload_n (pc := 113) dX8_partByCents_113 rfl ?_
                refine j_icmp_geN (a := n) (b := n) (pc := 114) (tgt := 150) dX8_partByCents_114 (by decide) (by omega) (by omega) (fun c8 => ?_) (fun c8 => ?_)
                · refine j_aload_n (pc := 150) dX8_partByCents_150 rfl ?_
                  refine j_getf (pc := 151) dX8_partByCents_151 jfX8_54 (j_hn (by decide) (j_hn (by decide) H0)) rfl ?_
                  refine j_iload (pc := 154) dX8_partByCents_154 rfl ?_
                  refine j_dup2 (pc := 156) dX8_partByCents_156 rfl rfl ?_
                  refine j_lald (pc := 157) dX8_partByCents_157 (j_hn (by decide) j_hs) (jix_nI (by omega) (by decide)) ?_
                  refine j_lconst (pc := 158) (v := 1) dX8_partByCents_158 (by decide) ?_
                  refine j_ladd (pc := 159) dX8_partByCents_159 ?_
                  refine j_last (pc := 160) dX8_partByCents_160 (j_hn (by decide) j_hs) (jix_nI (by omega) (by decide)) ?_
                  rw [j_ss1 (a := 42) (b0 := 43) (by decide)]
                  refine j_aload_n (pc := 161) dX8_partByCents_161 rfl ?_
                  refine j_getf (pc := 162) dX8_partByCents_162 jfX8_57 (j_hn (by decide) (j_hn (by decide) H0)) rfl ?_
                  refine j_iload (pc := 165) dX8_partByCents_165 rfl ?_
                  refine j_ldc2 (pc := 167) dX8_partByCents_167 jnX8_146 ?_
                  refine j_last (pc := 170) dX8_partByCents_170 j_hs (jix_nI (by omega) (by decide)) ?_
                  rw [j_ss0 (a := 43)]
                  refine j_lload (pc := 171) dX8_partByCents_171 rfl ?_
                  refine j_lconst (pc := 173) (v := 1) dX8_partByCents_173 (by decide) ?_
                  refine j_lsub (pc := 174) dX8_partByCents_174 ?_
                  refine j_lstore (pc := 175) dX8_partByCents_175 (by decide) ?_
                  refine j_goto (pc := 177) (tgt := 98) dX8_partByCents_177 (by decide) ?_
                  exact j_sub rfl ih3
                · exfalso; omega
          · refine j_lload (pc := 98) dX8_partByCents_98 rfl ?_
            refine j_lconst (pc := 100) (v := 0) dX8_partByCents_100 (by decide) ?_
            refine j_lc_le (pc := 101) (tgt := 180) dX8_partByCents_101 dX8_partByCents_102 (by decide) (fun c9 => ?_) (fun c9 => ?_)
            · exact j_vret (pc := 180) dX8_partByCents_180 rfl (Nat.le_of_ble_eq_true rfl) (Nat.le_of_ble_eq_true rfl) (K1)
            · exfalso; exact c9 ((j_dn_le (by omega)).mpr (by omega))
        · exfalso; omega
    · exfalso; omega
