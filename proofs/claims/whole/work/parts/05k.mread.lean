/-- the model's object and what is said so far -/
def j_m2 (h : jH) (sz at_ fr wd ps ts es op cl : Int32) (fs : Nat → Int32) : jH := j_set (j_set h 27 (mO sz at_ fr wd ps ts es op cl)) 30 (jI 34 fs)
theorem j_m2_27 {h : jH} {sz at_ fr wd sz' at' fr' wd' ps ts es op cl : Int32} {fs : Nat → Int32} : j_set (j_m2 h sz at_ fr wd ps ts es op cl fs) 27 (mO sz' at' fr' wd' ps ts es op cl) = j_m2 h sz' at' fr' wd' ps ts es op cl fs := by
  unfold j_m2
  rw [j_ss1 (by decide)]
theorem j_m2_m2 {h : jH} {sz at_ fr wd sz' at' fr' wd' ps ts es op cl : Int32} {fs gs : Nat → Int32} : j_m2 (j_m2 h sz at_ fr wd ps ts es op cl fs) sz' at' fr' wd' ps ts es op cl gs = j_m2 h sz' at' fr' wd' ps ts es op cl gs := by
  rw [j_m2, j_m2_27]
  unfold j_m2
  rw [j_ss0]
theorem j_m2_h27 {h : jH} {sz at_ fr wd ps ts es op cl : Int32} {fs : Nat → Int32} : (j_m2 h sz at_ fr wd ps ts es op cl fs).2 27 = some (mO sz at_ fr wd ps ts es op cl) := j_hn (by decide) j_hs
theorem j_m2_h30 {h : jH} {sz at_ fr wd ps ts es op cl : Int32} {fs : Nat → Int32} : (j_m2 h sz at_ fr wd ps ts es op cl fs).2 30 = some (jI 34 fs) := j_hs
theorem j_m2_ho {h : jH} {sz at_ fr wd ps ts es op cl : Int32} {fs : Nat → Int32} {q : Nat} {e : jE} (h1 : q ≠ 27) (h2 : q ≠ 30) (hq : h.2 q = some e) : (j_m2 h sz at_ fr wd ps ts es op cl fs).2 q = some e := j_hn h2 (j_hn h1 hq)
set_option maxRecDepth 20000 in
theorem l_X8_read {l : Launch} {G : jG} {h0 : jH} {Q : Option Value → jH → Prop} {L : Nat} {ps ts es op cl : Int32} {tx : Nat → Int32} (H1 : h0.2 28 = some (jI 600 tx)) (hL : L ≤ 600) : ∀ (k a n : Nat) (fr w : Int32) (fs : Nat → Int32), L < a + k → a ≤ L → n ≤ a →
    (∀ at_ fr : Int32, (x_rd tx L k a w n fs).1 = 1 → J l G mX8_read 0 0 82 [(0, .ref 27), (1, .int (nI (x_rd tx L k a w n fs).2.1)), (2, .int 1)] [] (j_m2 h0 (nI L) at_ fr (x_rd tx L k a w n fs).2.2.1 ps ts es op cl (x_rd tx L k a w n fs).2.2.2) Q) →
    (∀ (at_ fr v : Int32) (gs : Nat → Int32), ¬ (x_rd tx L k a w n fs).1 = 1 → J l G mX8_read 0 0 82 [(0, .ref 27), (1, .int v), (2, .int 0)] [] (j_m2 h0 (nI L) at_ fr (x_rd tx L k a w n fs).2.2.1 ps ts es op cl gs) Q) →
    J l G mX8_read 0 0 51 [(0, .ref 27), (1, .int (nI n)), (2, .int 1)] [] (j_m2 h0 (nI L) (nI a) fr w ps ts es op cl fs) Q
  | 0, a, n, fr, w, fs => fun h1 h2 h3 K1 K2 => by omega
  | k + 1, a, n, fr, w, fs => fun h1 h2 h3 K1 K2 => by
    have hs := x_ws_spec tx h2
    have he : x_ne tx L a ≤ L := x_ne_le tx h2
    have hse : x_ws tx L a ≤ x_ne tx L a := (x_we_spec tx hs.2.1).1
    refine j_iload_n (pc := 51) dX8_read_51 rfl ?_
    refine j_if_eq (pc := 52) (tgt := 82) dX8_read_52 (by decide) (fun c1 => absurd c1 (by decide)) (fun c1 => ?_)
    refine j_aload_n (pc := 55) dX8_read_55 rfl ?_
    refine j_V0 (rm' := rmX8_isNext) (pc := 56) dX8_read_56 jlX8_94 j_m2_h27 rfl ⟨Nat.le_of_ble_eq_true rfl, Nat.le_of_ble_eq_true rfl, Nat.le_of_ble_eq_true rfl, Nat.le_of_ble_eq_true rfl, Nat.le_of_ble_eq_true rfl, Nat.le_of_ble_eq_true rfl⟩ ?_
    refine s_X8_isNext (a := a) j_m2_h27 (j_m2_ho (by decide) (by decide) H1) hL h2 (fun c2 => ?_) (fun c2 => ?_)
    · show J l G mX8_read _ _ 59 _ [.int 0] (j_set (j_m2 h0 (nI L) (nI a) fr w ps ts es op cl fs) 27 (mO (nI L) (nI (x_ne tx L a)) (nI (x_ws tx L a)) w ps ts es op cl)) Q
      rw [j_m2_27]
      refine j_if_eq (pc := 59) (tgt := 82) dX8_read_59 (by decide) (fun c3 => ?_) (fun c3 => absurd rfl c3)
      have q := K1 (nI (x_ne tx L a)) (nI (x_ws tx L a))
      rw [x_rd_e (show x_ne tx L a ≤ x_ws tx L a from c2)] at q
      exact j_sub rfl (q rfl)
    · have hne : ¬ x_ne tx L a ≤ x_ws tx L a := c2
      show J l G mX8_read _ _ 59 _ [.int 1] (j_set (j_m2 h0 (nI L) (nI a) fr w ps ts es op cl fs) 27 (mO (nI L) (nI (x_ne tx L a)) (nI (x_ws tx L a)) w ps ts es op cl)) Q
      rw [j_m2_27]
      refine j_if_eq (pc := 59) (tgt := 82) dX8_read_59 (by decide) (fun c3 => absurd c3 (by decide)) (fun c3 => ?_)
      refine j_aload_n (pc := 62) dX8_read_62 rfl ?_
      refine j_V0 (rm' := rmX8_isSentence) (pc := 63) dX8_read_63 jlX8_120 j_m2_h27 rfl ⟨Nat.le_of_ble_eq_true rfl, Nat.le_of_ble_eq_true rfl, Nat.le_of_ble_eq_true rfl, Nat.le_of_ble_eq_true rfl, Nat.le_of_ble_eq_true rfl, Nat.le_of_ble_eq_true rfl⟩ ?_
      have so := x_sen_ok tx (f := x_ws tx L a) he w fs
      refine s_X8_sen (e := x_ne tx L a) (f := x_ws tx L a) j_m2_h27 (j_m2_ho (by decide) (by decide) H1) j_m2_h30 hL hse he ?_
      intro fr'
      show J l G mX8_read _ _ 66 _ [.int (x_sen tx L (x_ws tx L a) (x_ne tx L a) w fs).1] (j_m2 (j_m2 h0 (nI L) (nI (x_ne tx L a)) (nI (x_ws tx L a)) w ps ts es op cl fs) (nI L) (nI (x_sen tx L (x_ws tx L a) (x_ne tx L a) w fs).2.1) fr' (x_sen tx L (x_ws tx L a) (x_ne tx L a) w fs).2.2.1 ps ts es op cl (x_sen tx L (x_ws tx L a) (x_ne tx L a) w fs).2.2.2) Q
      rw [j_m2_m2]
      rcases so.2.2 with e1 | e1
      · rw [e1]
        refine j_istore_n (pc := 66) dX8_read_66 (by decide) ?_
        refine j_iload_n (pc := 67) dX8_read_67 rfl ?_
        refine j_iload_n (pc := 68) dX8_read_68 rfl ?_
        refine j_if_eq (pc := 69) (tgt := 76) dX8_read_69 (by decide) (fun c4 => absurd c4 (by decide)) (fun c4 => ?_)
        refine j_iconst (pc := 72) (v := 1) dX8_read_72 (by decide) ?_
        refine j_goto (pc := 73) (tgt := 77) dX8_read_73 (by decide) ?_
        refine j_iaddN (a := n) (b := 1) (pc := 77) dX8_read_77 ?_
        refine j_istore_n (pc := 78) dX8_read_78 (by decide) ?_
        refine j_goto (pc := 79) (tgt := 51) dX8_read_79 (by decide) ?_
        rw [x_rd_s hne e1] at K1 K2
        exact j_sub rfl (l_X8_read H1 hL k _ (n + 1) fr' _ _ (by omega) so.2.1 (by omega) K1 K2)
      · have e2 : ¬ (x_sen tx L (x_ws tx L a) (x_ne tx L a) w fs).1 = 1 := by rw [e1]; decide
        rw [e1]
        refine j_istore_n (pc := 66) dX8_read_66 (by decide) ?_
        refine j_iload_n (pc := 67) dX8_read_67 rfl ?_
        refine j_iload_n (pc := 68) dX8_read_68 rfl ?_
        refine j_if_eq (pc := 69) (tgt := 76) dX8_read_69 (by decide) (fun c4 => ?_) (fun c4 => absurd rfl c4)
        refine j_iconst (pc := 76) (v := 0) dX8_read_76 (by decide) ?_
        refine j_iadd (pc := 77) dX8_read_77 ?_
        refine j_istore_n (pc := 78) dX8_read_78 (by decide) ?_
        refine j_goto (pc := 79) (tgt := 51) dX8_read_79 (by decide) ?_
        refine j_iload_n (pc := 51) dX8_read_51 rfl ?_
        refine j_if_eq (pc := 52) (tgt := 82) dX8_read_52 (by decide) (fun c5 => ?_) (fun c5 => absurd rfl c5)
        have q := K2 (nI (x_sen tx L (x_ws tx L a) (x_ne tx L a) w fs).2.1) fr' (nI n + 0) (x_sen tx L (x_ws tx L a) (x_ne tx L a) w fs).2.2.2
        rw [x_rd_n hne e2] at q
        exact j_sub rfl (q (show ¬ (0 : Int32) = 1 by decide))
/-- nothing said -/
def x_v0 (k : Nat) : Int32 := if 12 ≤ k ∧ k < 22 then 1 else 0
theorem x_v0_f (fs : Nat → Int32) : x_f0 (j_f0 fs x_v0 34) := fun k hk => by rw [j_f0_at, if_pos hk]; rfl
set_option maxRecDepth 20000 in
theorem s_X8_read {l : Launch} {G : jG} {h : jH} {Q : Option Value → jH → Prop} {L : Nat} {at_ fr wd ps ts es op cl : Int32} {tx rs fs : Nat → Int32} (H0 : h.2 27 = some (mO (nI L) at_ fr wd ps ts es op cl)) (H1 : h.2 28 = some (jI 600 tx)) (H2 : h.2 29 = some (jI 34 rs)) (H3 : h.2 30 = some (jI 34 fs)) (hL : L ≤ 600)
    (K1 : ∀ at_ fr wd : Int32, (x_rd tx L 601 0 (nI 0) 0 (j_f0 fs x_v0 34)).1 = 1 → Q (some (.int (nI (x_rd tx L 601 0 (nI 0) 0 (j_f0 fs x_v0 34)).2.1))) (j_set (j_m2 h (nI 0) at_ fr wd ps ts es op cl (x_rd tx L 601 0 (nI 0) 0 (j_f0 fs x_v0 34)).2.2.2) 29 (jI 34 (j_f0 rs (x_rd tx L 601 0 (nI 0) 0 (j_f0 fs x_v0 34)).2.2.2 34))))
    (K2 : ∀ (at_ fr wd : Int32) (gs : Nat → Int32), ¬ (x_rd tx L 601 0 (nI 0) 0 (j_f0 fs x_v0 34)).1 = 1 → Q (some (.int (-1 - (x_rd tx L 601 0 (nI 0) 0 (j_f0 fs x_v0 34)).2.2.1))) (j_m2 h (nI 0) at_ fr wd ps ts es op cl gs)) : J l G mX8_read 0 0 0 (lv_args 0 [.ref 27]) [] h Q := by
  refine j_iconst (pc := 0) (v := 0) dX8_read_0 (by decide) ?_
  refine j_istore_n (pc := 1) dX8_read_1 (by decide) ?_
  refine j_pad H3 ?_
  refine j_sub (lv' := [(0, .ref 27), (1, .int (nI 0))]) rfl ?_
  refine j_for (N := 34) (S := fun i => J l G mX8_read 0 0 2 [(0, .ref 27), (1, .int (nI i))] [] (j_set h 30 (jI 34 (j_f0 fs x_v0 i))) Q) ?_ ?_ 0 (Nat.zero_le _)
  · intro i hi ih
    have hv : ∀ v : Int32, v = x_v0 i → J l G mX8_read 0 0 30 [(0, .ref 27), (1, .int (nI i))] [.int v, .int (nI i), .ref 30] (j_set h 30 (jI 34 (j_f0 fs x_v0 i))) Q := by
      intro v hv
      refine j_iast (pc := 30) dX8_read_30 j_hs (jix_nI hi (by decide)) ?_
      rw [j_ss0, hv]
      refine j_iincN (a := i) (d := 1) (pc := 31) dX8_read_31 rfl (by decide) ?_
      refine j_goto (pc := 34) (tgt := 2) dX8_read_34 (by decide) ?_
      exact j_sub rfl ih
    refine j_iload_n (pc := 2) dX8_read_2 rfl ?_
    refine j_bipush (pc := 3) (v := 34) dX8_read_3 (by decide) ?_
    refine j_icmp_geN (a := i) (b := 34) (pc := 5) (tgt := 37) dX8_read_5 (by decide) (by omega) (by omega) (fun c1 => absurd hi (Nat.not_lt.mpr c1)) (fun c1 => ?_)
    refine j_aload_n (pc := 8) dX8_read_8 rfl ?_
    refine j_getf (pc := 9) dX8_read_9 jfX8_16 (j_hn (by decide) H0) rfl ?_
    refine j_iload_n (pc := 12) dX8_read_12 rfl ?_
    refine j_iload_n (pc := 13) dX8_read_13 rfl ?_
    refine j_bipush (pc := 14) (v := 12) dX8_read_14 (by decide) ?_
    refine j_icmp_ltN (a := i) (b := 12) (pc := 16) (tgt := 29) dX8_read_16 (by decide) (by omega) (by omega) (fun c2 => ?_) (fun c2 => ?_)
    · refine j_iconst (pc := 29) (v := 0) dX8_read_29 (by decide) ?_
      exact hv 0 (by unfold x_v0; rw [if_neg (by omega)])
    · refine j_iload_n (pc := 19) dX8_read_19 rfl ?_
      refine j_bipush (pc := 20) (v := 22) dX8_read_20 (by decide) ?_
      refine j_icmp_geN (a := i) (b := 22) (pc := 22) (tgt := 29) dX8_read_22 (by decide) (by omega) (by omega) (fun c3 => ?_) (fun c3 => ?_)
      · refine j_iconst (pc := 29) (v := 0) dX8_read_29 (by decide) ?_
        exact hv 0 (by unfold x_v0; rw [if_neg (by omega)])
      · refine j_iconst (pc := 25) (v := 1) dX8_read_25 (by decide) ?_
        refine j_goto (pc := 26) (tgt := 30) dX8_read_26 (by decide) ?_
        exact hv 1 (by unfold x_v0; rw [if_pos (by omega)])
  · refine j_iload_n (pc := 2) dX8_read_2 rfl ?_
    refine j_bipush (pc := 3) (v := 34) dX8_read_3 (by decide) ?_
    refine j_icmp_geN (a := 34) (b := 34) (pc := 5) (tgt := 37) dX8_read_5 (by decide) (by omega) (by omega) (fun c1 => ?_) (fun c1 => absurd (Nat.le_refl 34) c1)
    refine j_aload_n (pc := 37) dX8_read_37 rfl ?_
    refine j_iconst (pc := 38) (v := 0) dX8_read_38 (by decide) ?_
    refine j_putf (pc := 39) dX8_read_39 jfX8_88 (j_hn (by decide) H0) rfl rfl (Nat.le_of_ble_eq_true rfl) ?_
    show J l G mX8_read _ _ 42 _ _ (j_set (j_set h 30 (jI 34 (j_f0 fs x_v0 34))) 27 (mO (nI L) (nI 0) fr wd ps ts es op cl)) Q
    rw [j_comm (a := 30) (b := 27) (by decide)]
    refine j_aload_n (pc := 42) dX8_read_42 rfl ?_
    refine j_iconst (pc := 43) (v := 0) dX8_read_43 (by decide) ?_
    refine j_putf (pc := 44) dX8_read_44 jfX8_98 (j_hn (by decide) j_hs) rfl rfl (Nat.le_of_ble_eq_true rfl) ?_
    show J l G mX8_read _ _ 47 _ _ (j_set (j_m2 h (nI L) (nI 0) fr wd ps ts es op cl (j_f0 fs x_v0 34)) 27 (mO (nI L) (nI 0) fr (nI 0) ps ts es op cl)) Q
    rw [j_m2_27]
    refine j_iconst (pc := 47) (v := 0) dX8_read_47 (by decide) ?_
    refine j_istore_n (pc := 48) dX8_read_48 (by decide) ?_
    refine j_iconst (pc := 49) (v := 1) dX8_read_49 (by decide) ?_
    refine j_istore_n (pc := 50) dX8_read_50 (by decide) ?_
    refine j_sub (lv' := [(0, .ref 27), (1, .int (nI 0)), (2, .int 1)]) rfl ?_
    refine l_X8_read (l := l) (G := G) (h0 := h) H1 hL 601 0 0 fr (nI 0) (j_f0 fs x_v0 34) (by omega) (Nat.zero_le _) (Nat.le_refl _) ?_ ?_
    · intro at_ fr hr
      generalize hR : x_rd tx L 601 0 (nI 0) 0 (j_f0 fs x_v0 34) = r at hr K1 ⊢
      refine j_aload_n (pc := 82) dX8_read_82 rfl ?_
      refine j_iconst (pc := 83) (v := 0) dX8_read_83 (by decide) ?_
      refine j_putf (pc := 84) dX8_read_84 jfX8_84 j_m2_h27 rfl rfl (Nat.le_of_ble_eq_true rfl) ?_
      show J l G mX8_read _ _ 87 _ _ (j_set (j_m2 h (nI L) at_ fr r.2.2.1 ps ts es op cl r.2.2.2) 27 (mO (nI 0) at_ fr r.2.2.1 ps ts es op cl)) Q
      rw [j_m2_27]
      refine j_iload_n (pc := 87) dX8_read_87 rfl ?_
      refine j_if_ne (pc := 88) (tgt := 98) dX8_read_88 (by decide) (fun c2 => ?_) (fun c2 => absurd c2 (by decide))
      refine j_iconst (pc := 98) (v := 0) dX8_read_98 (by decide) ?_
      refine j_istore_n (pc := 99) dX8_read_99 (by decide) ?_
      refine j_pad (j_m2_ho (by decide) (by decide) H2) ?_
      refine j_sub (lv' := [(0, .ref 27), (1, .int (nI r.2.1)), (3, .int (nI 0))]) rfl ?_
      refine j_for (N := 34) (S := fun i => J l G mX8_read 0 0 100 [(0, .ref 27), (1, .int (nI r.2.1)), (3, .int (nI i))] [] (j_set (j_m2 h (nI 0) at_ fr r.2.2.1 ps ts es op cl r.2.2.2) 29 (jI 34 (j_f0 rs r.2.2.2 i))) Q) ?_ ?_ 0 (Nat.zero_le _)
      · intro i hi ih
        refine j_iload_n (pc := 100) dX8_read_100 rfl ?_
        refine j_bipush (pc := 101) (v := 34) dX8_read_101 (by decide) ?_
        refine j_icmp_geN (a := i) (b := 34) (pc := 103) (tgt := 124) dX8_read_103 (by decide) (by omega) (by omega) (fun c1 => absurd hi (Nat.not_lt.mpr c1)) (fun c1 => ?_)
        refine j_aload_n (pc := 106) dX8_read_106 rfl ?_
        refine j_getf (pc := 107) dX8_read_107 jfX8_13 (j_hn (by decide) j_m2_h27) rfl ?_
        refine j_iload_n (pc := 110) dX8_read_110 rfl ?_
        refine j_aload_n (pc := 111) dX8_read_111 rfl ?_
        refine j_getf (pc := 112) dX8_read_112 jfX8_16 (j_hn (by decide) j_m2_h27) rfl ?_
        refine j_iload_n (pc := 115) dX8_read_115 rfl ?_
        refine j_iald (pc := 116) dX8_read_116 (j_hn (by decide) j_m2_h30) (jix_nI hi (by decide)) ?_
        refine j_iast (pc := 117) dX8_read_117 j_hs (jix_nI hi (by decide)) ?_
        rw [j_ss0]
        refine j_iincN (a := i) (d := 1) (pc := 118) dX8_read_118 rfl (by decide) ?_
        refine j_goto (pc := 121) (tgt := 100) dX8_read_121 (by decide) ?_
        exact j_sub rfl ih
      · refine j_iload_n (pc := 100) dX8_read_100 rfl ?_
        refine j_bipush (pc := 101) (v := 34) dX8_read_101 (by decide) ?_
        refine j_icmp_geN (a := 34) (b := 34) (pc := 103) (tgt := 124) dX8_read_103 (by decide) (by omega) (by omega) (fun c1 => ?_) (fun c1 => absurd (Nat.le_refl 34) c1)
        refine j_iload_n (pc := 124) dX8_read_124 rfl ?_
        exact j_iret (pc := 125) dX8_read_125 rfl rfl (Nat.le_of_ble_eq_true rfl) (Nat.le_of_ble_eq_true rfl) (K1 at_ fr r.2.2.1 hr)
    · intro at_ fr v gs hr
      generalize hR : x_rd tx L 601 0 (nI 0) 0 (j_f0 fs x_v0 34) = r at hr K2 ⊢
      refine j_aload_n (pc := 82) dX8_read_82 rfl ?_
      refine j_iconst (pc := 83) (v := 0) dX8_read_83 (by decide) ?_
      refine j_putf (pc := 84) dX8_read_84 jfX8_84 j_m2_h27 rfl rfl (Nat.le_of_ble_eq_true rfl) ?_
      show J l G mX8_read _ _ 87 _ _ (j_set (j_m2 h (nI L) at_ fr r.2.2.1 ps ts es op cl gs) 27 (mO (nI 0) at_ fr r.2.2.1 ps ts es op cl)) Q
      rw [j_m2_27]
      refine j_iload_n (pc := 87) dX8_read_87 rfl ?_
      refine j_if_ne (pc := 88) (tgt := 98) dX8_read_88 (by decide) (fun c2 => absurd rfl c2) (fun c2 => ?_)
      refine j_iconst (pc := 91) (v := -1) dX8_read_91 (by decide) ?_
      refine j_aload_n (pc := 92) dX8_read_92 rfl ?_
      refine j_getf (pc := 93) dX8_read_93 jfX8_98 j_m2_h27 rfl ?_
      refine j_isub (pc := 96) dX8_read_96 ?_
      exact j_iret (pc := 97) dX8_read_97 rfl rfl (Nat.le_of_ble_eq_true rfl) (Nat.le_of_ble_eq_true rfl) (K2 at_ fr r.2.2.1 gs hr)
