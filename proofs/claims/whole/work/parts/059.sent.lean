theorem x_ix {tx : Nat → Int32} {L a p : Nat} (ha : a ≤ L) (h : x_ok tx L a 9) (hp : p ≤ 24) : jix (nI p + x_v tx L a) (p + (x_v tx L a).toNatClampNeg) 34 := by
  obtain ⟨v, hv, e⟩ := x_v_nat ha h
  have h9 := h.2.2.2
  rw [e] at h9 ⊢
  have h9' : v ≤ 9 := (nI_leI (b := 9) (by omega) (by omega)).mp h9
  rw [nI_clamp (by omega), nI_add]
  exact jix_nI (by omega) (by omega)
theorem x_ix10 {tx : Nat → Int32} {L a : Nat} (ha : a ≤ L) (h : x_ok tx L a 9) : jix (x_v tx L a) (x_v tx L a).toNatClampNeg 10 := by
  obtain ⟨v, hv, e⟩ := x_v_nat ha h
  have h9 := h.2.2.2
  rw [e] at h9 ⊢
  have h9' : v ≤ 9 := (nI_leI (b := 9) (by omega) (by omega)).mp h9
  rw [nI_clamp (by omega)]
  exact jix_nI (by omega) (by omega)

set_option maxRecDepth 20000 in
theorem s_X8_isSentence {l : Launch} {G : jG} {h : jH} {Q : Option Value → jH → Prop} {cl es op ps ts wd : Int32} {L e f : Nat} {tx : Nat → Int32} {fs : Nat → Int32}  (H0 : h.2 27 = some (mO (nI L) (nI e) (nI f) wd ps ts es op cl)) (H1 : h.2 28 = some (jI 600 tx)) (H2 : h.2 30 = some (jI 34 fs)) (hL : L ≤ 600) (hf : f ≤ e) (he : e ≤ L) (K1 : x_is tx f e ([115, 104, 105, 112]) → ¬ (fs (32 + 0)) = 1 → x_ok tx L e (100 - (fs (1 - 0))) → Q (some (.int 1)) (j_set (j_set h 27 (mO (nI L) (nI (x_ne tx L e)) (nI (x_ws tx L e)) ((wd + 1) + 1) ps ts es op cl)) 30 (jI 34 (va_up (va_up fs 0 (x_v tx L e)) (32 + 0) 1)))) (K2 : x_is tx f e ([115, 104, 105, 112]) → ¬ (fs (32 + 0)) = 1 → ¬ x_ok tx L e (100 - (fs (1 - 0))) → Q (some (.int 0)) (j_set h 27 (mO (nI L) (nI (x_ne tx L e)) (nI (x_ws tx L e)) (wd + 1) ps ts es op cl))) (K3 : x_is tx f e ([115, 104, 105, 112]) → (fs (32 + 0)) = 1 → Q (some (.int 0)) h) (K4 : ¬ x_is tx f e ([115, 104, 105, 112]) → x_is tx f e ([103, 101, 97, 114]) → ¬ (fs (32 + 1)) = 1 → x_ok tx L e (100 - (fs (1 - 1))) → Q (some (.int 1)) (j_set (j_set h 27 (mO (nI L) (nI (x_ne tx L e)) (nI (x_ws tx L e)) ((wd + 1) + 1) ps ts es op cl)) 30 (jI 34 (va_up (va_up fs 1 (x_v tx L e)) (32 + 1) 1)))) (K5 : ¬ x_is tx f e ([115, 104, 105, 112]) → x_is tx f e ([103, 101, 97, 114]) → ¬ (fs (32 + 1)) = 1 → ¬ x_ok tx L e (100 - (fs (1 - 1))) → Q (some (.int 0)) (j_set h 27 (mO (nI L) (nI (x_ne tx L e)) (nI (x_ws tx L e)) (wd + 1) ps ts es op cl))) (K6 : ¬ x_is tx f e ([115, 104, 105, 112]) → x_is tx f e ([103, 101, 97, 114]) → (fs (32 + 1)) = 1 → Q (some (.int 0)) h) (K7 : ¬ x_is tx f e ([115, 104, 105, 112]) → ¬ x_is tx f e ([103, 101, 97, 114]) → x_is tx f e ([99, 111, 115, 116]) → x_ok tx L e 9 → x_ok tx L (x_ne tx L e) 2 → Q (some (.int 1)) (j_set (j_set h 27 (mO (nI L) (nI (x_ne tx L (x_ne tx L e))) (nI (x_ws tx L (x_ne tx L e))) (((wd + 1) + 1) + 1) ps ts es op cl)) 30 (jI 34 (va_up fs (2 + (x_v tx L e).toNatClampNeg) (x_v tx L (x_ne tx L e)))))) (K8 : ¬ x_is tx f e ([115, 104, 105, 112]) → ¬ x_is tx f e ([103, 101, 97, 114]) → x_is tx f e ([99, 111, 115, 116]) → x_ok tx L e 9 → ¬ x_ok tx L (x_ne tx L e) 2 → Q (some (.int 0)) (j_set h 27 (mO (nI L) (nI (x_ne tx L (x_ne tx L e))) (nI (x_ws tx L (x_ne tx L e))) ((wd + 1) + 1) ps ts es op cl))) (K9 : ¬ x_is tx f e ([115, 104, 105, 112]) → ¬ x_is tx f e ([103, 101, 97, 114]) → x_is tx f e ([99, 111, 115, 116]) → ¬ x_ok tx L e 9 → Q (some (.int 0)) (j_set h 27 (mO (nI L) (nI (x_ne tx L e)) (nI (x_ws tx L e)) (wd + 1) ps ts es op cl))) (K10 : ¬ x_is tx f e ([115, 104, 105, 112]) → ¬ x_is tx f e ([103, 101, 97, 114]) → ¬ x_is tx f e ([99, 111, 115, 116]) → x_is tx f e ([114, 111, 108, 101]) → x_ok tx L e 9 → x_ok tx L (x_ne tx L e) 1000 → Q (some (.int 1)) (j_set (j_set h 27 (mO (nI L) (nI (x_ne tx L (x_ne tx L e))) (nI (x_ws tx L (x_ne tx L e))) (((wd + 1) + 1) + 1) ps ts es op cl)) 30 (jI 34 (va_up fs (12 + (x_v tx L e).toNatClampNeg) (x_v tx L (x_ne tx L e)))))) (K11 : ¬ x_is tx f e ([115, 104, 105, 112]) → ¬ x_is tx f e ([103, 101, 97, 114]) → ¬ x_is tx f e ([99, 111, 115, 116]) → x_is tx f e ([114, 111, 108, 101]) → x_ok tx L e 9 → ¬ x_ok tx L (x_ne tx L e) 1000 → Q (some (.int 0)) (j_set h 27 (mO (nI L) (nI (x_ne tx L (x_ne tx L e))) (nI (x_ws tx L (x_ne tx L e))) ((wd + 1) + 1) ps ts es op cl))) (K12 : ¬ x_is tx f e ([115, 104, 105, 112]) → ¬ x_is tx f e ([103, 101, 97, 114]) → ¬ x_is tx f e ([99, 111, 115, 116]) → x_is tx f e ([114, 111, 108, 101]) → ¬ x_ok tx L e 9 → Q (some (.int 0)) (j_set h 27 (mO (nI L) (nI (x_ne tx L e)) (nI (x_ws tx L e)) (wd + 1) ps ts es op cl))) (K13 : ¬ x_is tx f e ([115, 104, 105, 112]) → ¬ x_is tx f e ([103, 101, 97, 114]) → ¬ x_is tx f e ([99, 111, 115, 116]) → ¬ x_is tx f e ([114, 111, 108, 101]) → x_is tx f e ([108, 101, 97, 115, 116]) → x_ok tx L e 9 → x_ok tx L (x_ne tx L e) 999999 → Q (some (.int 1)) (j_set (j_set h 27 (mO (nI L) (nI (x_ne tx L (x_ne tx L e))) (nI (x_ws tx L (x_ne tx L e))) (((wd + 1) + 1) + 1) ps ts es op cl)) 30 (jI 34 (va_up fs (22 + (x_v tx L e).toNatClampNeg) (x_v tx L (x_ne tx L e)))))) (K14 : ¬ x_is tx f e ([115, 104, 105, 112]) → ¬ x_is tx f e ([103, 101, 97, 114]) → ¬ x_is tx f e ([99, 111, 115, 116]) → ¬ x_is tx f e ([114, 111, 108, 101]) → x_is tx f e ([108, 101, 97, 115, 116]) → x_ok tx L e 9 → ¬ x_ok tx L (x_ne tx L e) 999999 → Q (some (.int 0)) (j_set h 27 (mO (nI L) (nI (x_ne tx L (x_ne tx L e))) (nI (x_ws tx L (x_ne tx L e))) ((wd + 1) + 1) ps ts es op cl))) (K15 : ¬ x_is tx f e ([115, 104, 105, 112]) → ¬ x_is tx f e ([103, 101, 97, 114]) → ¬ x_is tx f e ([99, 111, 115, 116]) → ¬ x_is tx f e ([114, 111, 108, 101]) → x_is tx f e ([108, 101, 97, 115, 116]) → ¬ x_ok tx L e 9 → Q (some (.int 0)) (j_set h 27 (mO (nI L) (nI (x_ne tx L e)) (nI (x_ws tx L e)) (wd + 1) ps ts es op cl))) (K16 : ¬ x_is tx f e ([115, 104, 105, 112]) → ¬ x_is tx f e ([103, 101, 97, 114]) → ¬ x_is tx f e ([99, 111, 115, 116]) → ¬ x_is tx f e ([114, 111, 108, 101]) → ¬ x_is tx f e ([108, 101, 97, 115, 116]) → Q (some (.int 0)) h) : J l G mX8_isSentence 0 0 0 (lv_args 0 [.ref 27]) [] h Q := by
  refine j_aload_n (pc := 0) dX8_isSentence_0 rfl ?_
  refine j_ldc2 (pc := 1) dX8_isSentence_1 jnX8_101 ?_
  refine j_iconst (pc := 4) (v := 4) dX8_isSentence_4 (by decide) ?_
  refine j_V2 (rm' := rmX8_isWord) (pc := 5) dX8_isSentence_5 jlX8_103 H0 rfl ⟨Nat.le_of_ble_eq_true rfl, Nat.le_of_ble_eq_true rfl, Nat.le_of_ble_eq_true rfl, Nat.le_of_ble_eq_true rfl, Nat.le_of_ble_eq_true rfl, Nat.le_of_ble_eq_true rfl⟩ ?_
  refine s_X8_isWord (n := 4) (e := e) (f := f) (lt := ([115, 104, 105, 112])) H0 H1 x_ship (by decide) hf (by omega) (fun c1 => ?_) (fun c2 => ?_)
  · show J l G mX8_isSentence _ _ 8 _ [.int 1] h Q
    refine j_if_ne (pc := 8) (tgt := 22) dX8_isSentence_8 (by decide) (fun c3 => ?_) (fun c3 => ?_)
    · refine j_aload_n (pc := 22) dX8_isSentence_22 rfl ?_
      refine j_ldc2 (pc := 23) dX8_isSentence_23 jnX8_101 ?_
      refine j_iconst (pc := 26) (v := 4) dX8_isSentence_26 (by decide) ?_
      refine j_V2 (rm' := rmX8_isWord) (pc := 27) dX8_isSentence_27 jlX8_103 H0 rfl ⟨Nat.le_of_ble_eq_true rfl, Nat.le_of_ble_eq_true rfl, Nat.le_of_ble_eq_true rfl, Nat.le_of_ble_eq_true rfl, Nat.le_of_ble_eq_true rfl, Nat.le_of_ble_eq_true rfl⟩ ?_
      refine s_X8_isWord (n := 4) (e := e) (f := f) (lt := ([115, 104, 105, 112])) H0 H1 x_ship (by decide) hf (by omega) (fun c4 => ?_) (fun c5 => ?_)
      · show J l G mX8_isSentence _ _ 30 _ [.int 1] h Q
        refine j_if_eq (pc := 30) (tgt := 37) dX8_isSentence_30 (by decide) (fun c6 => ?_) (fun c6 => ?_)
        · exact absurd c6 (by decide)
        · refine j_iconst (pc := 33) (v := 0) dX8_isSentence_33 (by decide) ?_
          refine j_goto (pc := 34) (tgt := 38) dX8_isSentence_34 (by decide) ?_
          refine j_istore_n (pc := 38) dX8_isSentence_38 (by decide) ?_
          refine j_aload_n (pc := 39) dX8_isSentence_39 rfl ?_
          refine j_getf (pc := 40) dX8_isSentence_40 jfX8_16 H0 rfl ?_
          refine j_bipush (pc := 43) (v := 32) dX8_isSentence_43 (by decide) ?_
          refine j_iload_n (pc := 45) dX8_isSentence_45 rfl ?_
          refine j_iaddN (a := 32) (b := 0) (pc := 46) dX8_isSentence_46 ?_
          refine j_iald (pc := 47) dX8_isSentence_47 H2 (jix_nI (by omega) (by decide)) ?_
          refine j_iconst (pc := 48) (v := 1) dX8_isSentence_48 (by decide) ?_
          refine j_icmp_ne (pc := 49) (tgt := 54) dX8_isSentence_49 (by decide) (fun c7 => ?_) (fun c7 => ?_)
          · refine j_aload_n (pc := 54) dX8_isSentence_54 rfl ?_
            refine j_dup (pc := 55) dX8_isSentence_55 rfl ?_
            refine j_getf (pc := 56) dX8_isSentence_56 jfX8_98 H0 rfl ?_
            refine j_iconst (pc := 59) (v := 1) dX8_isSentence_59 (by decide) ?_
            refine j_iadd (pc := 60) dX8_isSentence_60 ?_
            refine j_putf (pc := 61) dX8_isSentence_61 jfX8_98 H0 rfl rfl (Nat.le_of_ble_eq_true rfl) ?_
            show J l G mX8_isSentence _ _ 64 _ _ (j_set h 27 (mO (nI L) (nI e) (nI f) (wd + 1) ps ts es op cl)) Q
            refine j_aload_n (pc := 64) dX8_isSentence_64 rfl ?_
            refine j_bipush (pc := 65) (v := 100) dX8_isSentence_65 (by decide) ?_
            refine j_aload_n (pc := 67) dX8_isSentence_67 rfl ?_
            refine j_getf (pc := 68) dX8_isSentence_68 jfX8_16 j_hs rfl ?_
            refine j_iconst (pc := 71) (v := 1) dX8_isSentence_71 (by decide) ?_
            refine j_iload_n (pc := 72) dX8_isSentence_72 rfl ?_
            refine j_isubN (a := 1) (b := 0) (pc := 73) dX8_isSentence_73 (by omega) ?_
            refine j_iald (pc := 74) dX8_isSentence_74 (j_hn (by decide) H2) (jix_nI (by omega) (by decide)) ?_
            refine j_isub (pc := 75) dX8_isSentence_75 ?_
            refine j_V1 (rm' := rmX8_number) (pc := 76) dX8_isSentence_76 jlX8_109 j_hs rfl ⟨Nat.le_of_ble_eq_true rfl, Nat.le_of_ble_eq_true rfl, Nat.le_of_ble_eq_true rfl, Nat.le_of_ble_eq_true rfl, Nat.le_of_ble_eq_true rfl, Nat.le_of_ble_eq_true rfl⟩ ?_
            refine s_X8_num2 (L := L) (a := e) j_hs (j_hn (by decide) H1) hL he (fun c8 => ?_) (fun c9 => ?_)
            · show J l G mX8_isSentence _ _ 79 _ [.int (x_v tx L e)] (j_set (j_set h 27 (mO (nI L) (nI e) (nI f) (wd + 1) ps ts es op cl)) 27 (mO (nI L) (nI (x_ne tx L e)) (nI (x_ws tx L e)) ((wd + 1) + 1) ps ts es op cl)) Q
              rw [j_ss0 (a := 27)]
              refine j_istore_n (pc := 79) dX8_isSentence_79 (by decide) ?_
              refine j_iload_n (pc := 80) dX8_isSentence_80 rfl ?_
              refine j_if_ge (pc := 81) (tgt := 86) dX8_isSentence_81 (by decide) (fun c10 => ?_) (fun c10 => ?_)
              · refine j_aload_n (pc := 86) dX8_isSentence_86 rfl ?_
                refine j_getf (pc := 87) dX8_isSentence_87 jfX8_16 j_hs rfl ?_
                refine j_iload_n (pc := 90) dX8_isSentence_90 rfl ?_
                refine j_iload_n (pc := 91) dX8_isSentence_91 rfl ?_
                refine j_iast (pc := 92) dX8_isSentence_92 (j_hn (by decide) H2) (jix_nI (q := 0) (by decide) (by decide)) ?_
                refine j_aload_n (pc := 93) dX8_isSentence_93 rfl ?_
                refine j_getf (pc := 94) dX8_isSentence_94 jfX8_16 (j_hn (by decide) j_hs) rfl ?_
                refine j_bipush (pc := 97) (v := 32) dX8_isSentence_97 (by decide) ?_
                refine j_iload_n (pc := 99) dX8_isSentence_99 rfl ?_
                refine j_iaddN (a := 32) (b := 0) (pc := 100) dX8_isSentence_100 ?_
                refine j_iconst (pc := 101) (v := 1) dX8_isSentence_101 (by decide) ?_
                refine j_iast (pc := 102) dX8_isSentence_102 j_hs (jix_nI (by omega) (by decide)) ?_
                rw [j_ss0 (a := 30)]
                refine j_iconst (pc := 103) (v := 1) dX8_isSentence_103 (by decide) ?_
                exact j_iret (pc := 104) dX8_isSentence_104 rfl rfl (Nat.le_of_ble_eq_true rfl) (Nat.le_of_ble_eq_true rfl) (K1 c1 c7 c8)
              · exfalso; exact c10 (x_v_nn he c8)
            · show J l G mX8_isSentence _ _ 79 _ [.int (-1)] (j_set (j_set h 27 (mO (nI L) (nI e) (nI f) (wd + 1) ps ts es op cl)) 27 (mO (nI L) (nI (x_ne tx L e)) (nI (x_ws tx L e)) (wd + 1) ps ts es op cl)) Q
              rw [j_ss0 (a := 27)]
              refine j_istore_n (pc := 79) dX8_isSentence_79 (by decide) ?_
              refine j_iload_n (pc := 80) dX8_isSentence_80 rfl ?_
              refine j_if_ge (pc := 81) (tgt := 86) dX8_isSentence_81 (by decide) (fun c11 => ?_) (fun c11 => ?_)
              · exact absurd c11 (by decide)
              · refine j_iconst (pc := 84) (v := 0) dX8_isSentence_84 (by decide) ?_
                exact j_iret (pc := 85) dX8_isSentence_85 rfl rfl (Nat.le_of_ble_eq_true rfl) (Nat.le_of_ble_eq_true rfl) (K2 c1 c7 c9)
          · refine j_iconst (pc := 52) (v := 0) dX8_isSentence_52 (by decide) ?_
            exact j_iret (pc := 53) dX8_isSentence_53 rfl rfl (Nat.le_of_ble_eq_true rfl) (Nat.le_of_ble_eq_true rfl) (K3 c1 c7)
      · exact absurd c1 c5
    · exact absurd c3 (by decide)
  · show J l G mX8_isSentence _ _ 8 _ [.int 0] h Q
    refine j_if_ne (pc := 8) (tgt := 22) dX8_isSentence_8 (by decide) (fun c12 => ?_) (fun c12 => ?_)
    · exact absurd c12 (by decide)
    · refine j_aload_n (pc := 11) dX8_isSentence_11 rfl ?_
      refine j_ldc2 (pc := 12) dX8_isSentence_12 jnX8_107 ?_
      refine j_iconst (pc := 15) (v := 4) dX8_isSentence_15 (by decide) ?_
      refine j_V2 (rm' := rmX8_isWord) (pc := 16) dX8_isSentence_16 jlX8_103 H0 rfl ⟨Nat.le_of_ble_eq_true rfl, Nat.le_of_ble_eq_true rfl, Nat.le_of_ble_eq_true rfl, Nat.le_of_ble_eq_true rfl, Nat.le_of_ble_eq_true rfl, Nat.le_of_ble_eq_true rfl⟩ ?_
      refine s_X8_isWord (n := 4) (e := e) (f := f) (lt := ([103, 101, 97, 114])) H0 H1 x_gear (by decide) hf (by omega) (fun c13 => ?_) (fun c14 => ?_)
      · show J l G mX8_isSentence _ _ 19 _ [.int 1] h Q
        refine j_if_eq (pc := 19) (tgt := 105) dX8_isSentence_19 (by decide) (fun c15 => ?_) (fun c15 => ?_)
        · exact absurd c15 (by decide)
        · refine j_aload_n (pc := 22) dX8_isSentence_22 rfl ?_
          refine j_ldc2 (pc := 23) dX8_isSentence_23 jnX8_101 ?_
          refine j_iconst (pc := 26) (v := 4) dX8_isSentence_26 (by decide) ?_
          refine j_V2 (rm' := rmX8_isWord) (pc := 27) dX8_isSentence_27 jlX8_103 H0 rfl ⟨Nat.le_of_ble_eq_true rfl, Nat.le_of_ble_eq_true rfl, Nat.le_of_ble_eq_true rfl, Nat.le_of_ble_eq_true rfl, Nat.le_of_ble_eq_true rfl, Nat.le_of_ble_eq_true rfl⟩ ?_
          refine s_X8_isWord (n := 4) (e := e) (f := f) (lt := ([115, 104, 105, 112])) H0 H1 x_ship (by decide) hf (by omega) (fun c16 => ?_) (fun c17 => ?_)
          · exact absurd c16 c2
          · show J l G mX8_isSentence _ _ 30 _ [.int 0] h Q
            refine j_if_eq (pc := 30) (tgt := 37) dX8_isSentence_30 (by decide) (fun c18 => ?_) (fun c18 => ?_)
            · refine j_iconst (pc := 37) (v := 1) dX8_isSentence_37 (by decide) ?_
              refine j_istore_n (pc := 38) dX8_isSentence_38 (by decide) ?_
              refine j_aload_n (pc := 39) dX8_isSentence_39 rfl ?_
              refine j_getf (pc := 40) dX8_isSentence_40 jfX8_16 H0 rfl ?_
              refine j_bipush (pc := 43) (v := 32) dX8_isSentence_43 (by decide) ?_
              refine j_iload_n (pc := 45) dX8_isSentence_45 rfl ?_
              refine j_iaddN (a := 32) (b := 1) (pc := 46) dX8_isSentence_46 ?_
              refine j_iald (pc := 47) dX8_isSentence_47 H2 (jix_nI (by omega) (by decide)) ?_
              refine j_iconst (pc := 48) (v := 1) dX8_isSentence_48 (by decide) ?_
              refine j_icmp_ne (pc := 49) (tgt := 54) dX8_isSentence_49 (by decide) (fun c19 => ?_) (fun c19 => ?_)
              · refine j_aload_n (pc := 54) dX8_isSentence_54 rfl ?_
                refine j_dup (pc := 55) dX8_isSentence_55 rfl ?_
                refine j_getf (pc := 56) dX8_isSentence_56 jfX8_98 H0 rfl ?_
                refine j_iconst (pc := 59) (v := 1) dX8_isSentence_59 (by decide) ?_
                refine j_iadd (pc := 60) dX8_isSentence_60 ?_
                refine j_putf (pc := 61) dX8_isSentence_61 jfX8_98 H0 rfl rfl (Nat.le_of_ble_eq_true rfl) ?_
                show J l G mX8_isSentence _ _ 64 _ _ (j_set h 27 (mO (nI L) (nI e) (nI f) (wd + 1) ps ts es op cl)) Q
                refine j_aload_n (pc := 64) dX8_isSentence_64 rfl ?_
                refine j_bipush (pc := 65) (v := 100) dX8_isSentence_65 (by decide) ?_
                refine j_aload_n (pc := 67) dX8_isSentence_67 rfl ?_
                refine j_getf (pc := 68) dX8_isSentence_68 jfX8_16 j_hs rfl ?_
                refine j_iconst (pc := 71) (v := 1) dX8_isSentence_71 (by decide) ?_
                refine j_iload_n (pc := 72) dX8_isSentence_72 rfl ?_
                refine j_isubN (a := 1) (b := 1) (pc := 73) dX8_isSentence_73 (by omega) ?_
                refine j_iald (pc := 74) dX8_isSentence_74 (j_hn (by decide) H2) (jix_nI (by omega) (by decide)) ?_
                refine j_isub (pc := 75) dX8_isSentence_75 ?_
                refine j_V1 (rm' := rmX8_number) (pc := 76) dX8_isSentence_76 jlX8_109 j_hs rfl ⟨Nat.le_of_ble_eq_true rfl, Nat.le_of_ble_eq_true rfl, Nat.le_of_ble_eq_true rfl, Nat.le_of_ble_eq_true rfl, Nat.le_of_ble_eq_true rfl, Nat.le_of_ble_eq_true rfl⟩ ?_
                refine s_X8_num2 (L := L) (a := e) j_hs (j_hn (by decide) H1) hL he (fun c20 => ?_) (fun c21 => ?_)
                · show J l G mX8_isSentence _ _ 79 _ [.int (x_v tx L e)] (j_set (j_set h 27 (mO (nI L) (nI e) (nI f) (wd + 1) ps ts es op cl)) 27 (mO (nI L) (nI (x_ne tx L e)) (nI (x_ws tx L e)) ((wd + 1) + 1) ps ts es op cl)) Q
                  rw [j_ss0 (a := 27)]
                  refine j_istore_n (pc := 79) dX8_isSentence_79 (by decide) ?_
                  refine j_iload_n (pc := 80) dX8_isSentence_80 rfl ?_
                  refine j_if_ge (pc := 81) (tgt := 86) dX8_isSentence_81 (by decide) (fun c22 => ?_) (fun c22 => ?_)
                  · refine j_aload_n (pc := 86) dX8_isSentence_86 rfl ?_
                    refine j_getf (pc := 87) dX8_isSentence_87 jfX8_16 j_hs rfl ?_
                    refine j_iload_n (pc := 90) dX8_isSentence_90 rfl ?_
                    refine j_iload_n (pc := 91) dX8_isSentence_91 rfl ?_
                    refine j_iast (pc := 92) dX8_isSentence_92 (j_hn (by decide) H2) (jix_nI (q := 1) (by decide) (by decide)) ?_
                    refine j_aload_n (pc := 93) dX8_isSentence_93 rfl ?_
                    refine j_getf (pc := 94) dX8_isSentence_94 jfX8_16 (j_hn (by decide) j_hs) rfl ?_
                    refine j_bipush (pc := 97) (v := 32) dX8_isSentence_97 (by decide) ?_
                    refine j_iload_n (pc := 99) dX8_isSentence_99 rfl ?_
                    refine j_iaddN (a := 32) (b := 1) (pc := 100) dX8_isSentence_100 ?_
                    refine j_iconst (pc := 101) (v := 1) dX8_isSentence_101 (by decide) ?_
                    refine j_iast (pc := 102) dX8_isSentence_102 j_hs (jix_nI (by omega) (by decide)) ?_
                    rw [j_ss0 (a := 30)]
                    refine j_iconst (pc := 103) (v := 1) dX8_isSentence_103 (by decide) ?_
                    exact j_iret (pc := 104) dX8_isSentence_104 rfl rfl (Nat.le_of_ble_eq_true rfl) (Nat.le_of_ble_eq_true rfl) (K4 c2 c13 c19 c20)
                  · exfalso; exact c22 (x_v_nn he c20)
                · show J l G mX8_isSentence _ _ 79 _ [.int (-1)] (j_set (j_set h 27 (mO (nI L) (nI e) (nI f) (wd + 1) ps ts es op cl)) 27 (mO (nI L) (nI (x_ne tx L e)) (nI (x_ws tx L e)) (wd + 1) ps ts es op cl)) Q
                  rw [j_ss0 (a := 27)]
                  refine j_istore_n (pc := 79) dX8_isSentence_79 (by decide) ?_
                  refine j_iload_n (pc := 80) dX8_isSentence_80 rfl ?_
                  refine j_if_ge (pc := 81) (tgt := 86) dX8_isSentence_81 (by decide) (fun c23 => ?_) (fun c23 => ?_)
                  · exact absurd c23 (by decide)
                  · refine j_iconst (pc := 84) (v := 0) dX8_isSentence_84 (by decide) ?_
                    exact j_iret (pc := 85) dX8_isSentence_85 rfl rfl (Nat.le_of_ble_eq_true rfl) (Nat.le_of_ble_eq_true rfl) (K5 c2 c13 c19 c21)
              · refine j_iconst (pc := 52) (v := 0) dX8_isSentence_52 (by decide) ?_
                exact j_iret (pc := 53) dX8_isSentence_53 rfl rfl (Nat.le_of_ble_eq_true rfl) (Nat.le_of_ble_eq_true rfl) (K6 c2 c13 c19)
            · exact absurd c18 (by decide)
      · show J l G mX8_isSentence _ _ 19 _ [.int 0] h Q
        refine j_if_eq (pc := 19) (tgt := 105) dX8_isSentence_19 (by decide) (fun c24 => ?_) (fun c24 => ?_)
        · refine j_aload_n (pc := 105) dX8_isSentence_105 rfl ?_
          refine j_ldc2 (pc := 106) dX8_isSentence_106 jnX8_113 ?_
          refine j_iconst (pc := 109) (v := 4) dX8_isSentence_109 (by decide) ?_
          refine j_V2 (rm' := rmX8_isWord) (pc := 110) dX8_isSentence_110 jlX8_103 H0 rfl ⟨Nat.le_of_ble_eq_true rfl, Nat.le_of_ble_eq_true rfl, Nat.le_of_ble_eq_true rfl, Nat.le_of_ble_eq_true rfl, Nat.le_of_ble_eq_true rfl, Nat.le_of_ble_eq_true rfl⟩ ?_
          refine s_X8_isWord (n := 4) (e := e) (f := f) (lt := ([99, 111, 115, 116])) H0 H1 x_cost (by decide) hf (by omega) (fun c25 => ?_) (fun c26 => ?_)
          · show J l G mX8_isSentence _ _ 113 _ [.int 1] h Q
            refine j_if_eq (pc := 113) (tgt := 120) dX8_isSentence_113 (by decide) (fun c27 => ?_) (fun c27 => ?_)
            · exact absurd c27 (by decide)
            · refine j_iconst (pc := 116) (v := 2) dX8_isSentence_116 (by decide) ?_
              refine j_goto (pc := 117) (tgt := 153) dX8_isSentence_117 (by decide) ?_
              refine j_istore_n (pc := 153) dX8_isSentence_153 (by decide) ?_
              refine j_iload_n (pc := 154) dX8_isSentence_154 rfl ?_
              refine j_if_ge (pc := 155) (tgt := 160) dX8_isSentence_155 (by decide) (fun c28 => ?_) (fun c28 => ?_)
              · refine j_aload_n (pc := 160) dX8_isSentence_160 rfl ?_
                refine j_dup (pc := 161) dX8_isSentence_161 rfl ?_
                refine j_getf (pc := 162) dX8_isSentence_162 jfX8_98 H0 rfl ?_
                refine j_iconst (pc := 165) (v := 1) dX8_isSentence_165 (by decide) ?_
                refine j_iadd (pc := 166) dX8_isSentence_166 ?_
                refine j_putf (pc := 167) dX8_isSentence_167 jfX8_98 H0 rfl rfl (Nat.le_of_ble_eq_true rfl) ?_
                show J l G mX8_isSentence _ _ 170 _ _ (j_set h 27 (mO (nI L) (nI e) (nI f) (wd + 1) ps ts es op cl)) Q
                refine j_aload_n (pc := 170) dX8_isSentence_170 rfl ?_
                refine j_bipush (pc := 171) (v := 9) dX8_isSentence_171 (by decide) ?_
                refine j_V1 (rm' := rmX8_number) (pc := 173) dX8_isSentence_173 jlX8_109 j_hs rfl ⟨Nat.le_of_ble_eq_true rfl, Nat.le_of_ble_eq_true rfl, Nat.le_of_ble_eq_true rfl, Nat.le_of_ble_eq_true rfl, Nat.le_of_ble_eq_true rfl, Nat.le_of_ble_eq_true rfl⟩ ?_
                refine s_X8_num2 (L := L) (a := e) j_hs (j_hn (by decide) H1) hL he (fun c29 => ?_) (fun c30 => ?_)
                · show J l G mX8_isSentence _ _ 176 _ [.int (x_v tx L e)] (j_set (j_set h 27 (mO (nI L) (nI e) (nI f) (wd + 1) ps ts es op cl)) 27 (mO (nI L) (nI (x_ne tx L e)) (nI (x_ws tx L e)) ((wd + 1) + 1) ps ts es op cl)) Q
                  rw [j_ss0 (a := 27)]
                  refine j_istore_n (pc := 176) dX8_isSentence_176 (by decide) ?_
                  refine j_iload_n (pc := 177) dX8_isSentence_177 rfl ?_
                  refine j_if_ge (pc := 178) (tgt := 185) dX8_isSentence_178 (by decide) (fun c31 => ?_) (fun c31 => ?_)
                  · refine j_aload_n (pc := 185) dX8_isSentence_185 rfl ?_
                    refine j_iload_n (pc := 186) dX8_isSentence_186 rfl ?_
                    refine j_iconst (pc := 187) (v := 2) dX8_isSentence_187 (by decide) ?_
                    refine j_icmp_ne (pc := 188) (tgt := 195) dX8_isSentence_188 (by decide) (fun c32 => ?_) (fun c32 => ?_)
                    · exact absurd c32 (by decide)
                    · refine j_iconst (pc := 191) (v := 2) dX8_isSentence_191 (by decide) ?_
                      refine j_goto (pc := 192) (tgt := 209) dX8_isSentence_192 (by decide) ?_
                      refine j_V1 (rm' := rmX8_number) (pc := 209) dX8_isSentence_209 jlX8_109 j_hs rfl ⟨Nat.le_of_ble_eq_true rfl, Nat.le_of_ble_eq_true rfl, Nat.le_of_ble_eq_true rfl, Nat.le_of_ble_eq_true rfl, Nat.le_of_ble_eq_true rfl, Nat.le_of_ble_eq_true rfl⟩ ?_
                      refine s_X8_num2 (L := L) (a := (x_ne tx L e)) j_hs (j_hn (by decide) H1) hL (x_ne_le tx he) (fun c33 => ?_) (fun c34 => ?_)
                      · show J l G mX8_isSentence _ _ 212 _ [.int (x_v tx L (x_ne tx L e))] (j_set (j_set h 27 (mO (nI L) (nI (x_ne tx L e)) (nI (x_ws tx L e)) ((wd + 1) + 1) ps ts es op cl)) 27 (mO (nI L) (nI (x_ne tx L (x_ne tx L e))) (nI (x_ws tx L (x_ne tx L e))) (((wd + 1) + 1) + 1) ps ts es op cl)) Q
                        rw [j_ss0 (a := 27)]
                        refine j_istore_n (pc := 212) dX8_isSentence_212 (by decide) ?_
                        refine j_iload_n (pc := 213) dX8_isSentence_213 rfl ?_
                        refine j_if_ge (pc := 214) (tgt := 219) dX8_isSentence_214 (by decide) (fun c35 => ?_) (fun c35 => ?_)
                        · refine j_aload_n (pc := 219) dX8_isSentence_219 rfl ?_
                          refine j_getf (pc := 220) dX8_isSentence_220 jfX8_16 j_hs rfl ?_
                          refine j_iload_n (pc := 223) dX8_isSentence_223 rfl ?_
                          refine j_iload_n (pc := 224) dX8_isSentence_224 rfl ?_
                          refine j_iadd (pc := 225) dX8_isSentence_225 ?_
                          refine j_iload_n (pc := 226) dX8_isSentence_226 rfl ?_
                          refine j_iast (pc := 227) dX8_isSentence_227 (j_hn (by decide) H2) (x_ix (p := 2) he c29 (by decide)) ?_
                          refine j_iconst (pc := 228) (v := 1) dX8_isSentence_228 (by decide) ?_
                          exact j_iret (pc := 229) dX8_isSentence_229 rfl rfl (Nat.le_of_ble_eq_true rfl) (Nat.le_of_ble_eq_true rfl) (K7 c2 c14 c25 c29 c33)
                        · exfalso; exact c35 (x_v_nn (x_ne_le tx he) c33)
                      · show J l G mX8_isSentence _ _ 212 _ [.int (-1)] (j_set (j_set h 27 (mO (nI L) (nI (x_ne tx L e)) (nI (x_ws tx L e)) ((wd + 1) + 1) ps ts es op cl)) 27 (mO (nI L) (nI (x_ne tx L (x_ne tx L e))) (nI (x_ws tx L (x_ne tx L e))) ((wd + 1) + 1) ps ts es op cl)) Q
                        rw [j_ss0 (a := 27)]
                        refine j_istore_n (pc := 212) dX8_isSentence_212 (by decide) ?_
                        refine j_iload_n (pc := 213) dX8_isSentence_213 rfl ?_
                        refine j_if_ge (pc := 214) (tgt := 219) dX8_isSentence_214 (by decide) (fun c36 => ?_) (fun c36 => ?_)
                        · exact absurd c36 (by decide)
                        · refine j_iconst (pc := 217) (v := 0) dX8_isSentence_217 (by decide) ?_
                          exact j_iret (pc := 218) dX8_isSentence_218 rfl rfl (Nat.le_of_ble_eq_true rfl) (Nat.le_of_ble_eq_true rfl) (K8 c2 c14 c25 c29 c34)
                  · exfalso; exact c31 (x_v_nn he c29)
                · show J l G mX8_isSentence _ _ 176 _ [.int (-1)] (j_set (j_set h 27 (mO (nI L) (nI e) (nI f) (wd + 1) ps ts es op cl)) 27 (mO (nI L) (nI (x_ne tx L e)) (nI (x_ws tx L e)) (wd + 1) ps ts es op cl)) Q
                  rw [j_ss0 (a := 27)]
                  refine j_istore_n (pc := 176) dX8_isSentence_176 (by decide) ?_
                  refine j_iload_n (pc := 177) dX8_isSentence_177 rfl ?_
                  refine j_if_ge (pc := 178) (tgt := 185) dX8_isSentence_178 (by decide) (fun c37 => ?_) (fun c37 => ?_)
                  · exact absurd c37 (by decide)
                  · refine j_iconst (pc := 181) (v := -1) dX8_isSentence_181 (by decide) ?_
                    refine j_goto (pc := 182) (tgt := 212) dX8_isSentence_182 (by decide) ?_
                    refine j_istore_n (pc := 212) dX8_isSentence_212 (by decide) ?_
                    refine j_iload_n (pc := 213) dX8_isSentence_213 rfl ?_
                    refine j_if_ge (pc := 214) (tgt := 219) dX8_isSentence_214 (by decide) (fun c38 => ?_) (fun c38 => ?_)
                    · exact absurd c38 (by decide)
                    · refine j_iconst (pc := 217) (v := 0) dX8_isSentence_217 (by decide) ?_
                      exact j_iret (pc := 218) dX8_isSentence_218 rfl rfl (Nat.le_of_ble_eq_true rfl) (Nat.le_of_ble_eq_true rfl) (K9 c2 c14 c25 c30)
              · exact absurd c28 (by decide)
          · show J l G mX8_isSentence _ _ 113 _ [.int 0] h Q
            refine j_if_eq (pc := 113) (tgt := 120) dX8_isSentence_113 (by decide) (fun c39 => ?_) (fun c39 => ?_)
            · refine j_aload_n (pc := 120) dX8_isSentence_120 rfl ?_
              refine j_ldc2 (pc := 121) dX8_isSentence_121 jnX8_115 ?_
              refine j_iconst (pc := 124) (v := 4) dX8_isSentence_124 (by decide) ?_
              refine j_V2 (rm' := rmX8_isWord) (pc := 125) dX8_isSentence_125 jlX8_103 H0 rfl ⟨Nat.le_of_ble_eq_true rfl, Nat.le_of_ble_eq_true rfl, Nat.le_of_ble_eq_true rfl, Nat.le_of_ble_eq_true rfl, Nat.le_of_ble_eq_true rfl, Nat.le_of_ble_eq_true rfl⟩ ?_
              refine s_X8_isWord (n := 4) (e := e) (f := f) (lt := ([114, 111, 108, 101])) H0 H1 x_role (by decide) hf (by omega) (fun c40 => ?_) (fun c41 => ?_)
              · show J l G mX8_isSentence _ _ 128 _ [.int 1] h Q
                refine j_if_eq (pc := 128) (tgt := 136) dX8_isSentence_128 (by decide) (fun c42 => ?_) (fun c42 => ?_)
                · exact absurd c42 (by decide)
                · refine j_bipush (pc := 131) (v := 12) dX8_isSentence_131 (by decide) ?_
                  refine j_goto (pc := 133) (tgt := 153) dX8_isSentence_133 (by decide) ?_
                  refine j_istore_n (pc := 153) dX8_isSentence_153 (by decide) ?_
                  refine j_iload_n (pc := 154) dX8_isSentence_154 rfl ?_
                  refine j_if_ge (pc := 155) (tgt := 160) dX8_isSentence_155 (by decide) (fun c43 => ?_) (fun c43 => ?_)
                  · refine j_aload_n (pc := 160) dX8_isSentence_160 rfl ?_
                    refine j_dup (pc := 161) dX8_isSentence_161 rfl ?_
                    refine j_getf (pc := 162) dX8_isSentence_162 jfX8_98 H0 rfl ?_
                    refine j_iconst (pc := 165) (v := 1) dX8_isSentence_165 (by decide) ?_
                    refine j_iadd (pc := 166) dX8_isSentence_166 ?_
                    refine j_putf (pc := 167) dX8_isSentence_167 jfX8_98 H0 rfl rfl (Nat.le_of_ble_eq_true rfl) ?_
                    show J l G mX8_isSentence _ _ 170 _ _ (j_set h 27 (mO (nI L) (nI e) (nI f) (wd + 1) ps ts es op cl)) Q
                    refine j_aload_n (pc := 170) dX8_isSentence_170 rfl ?_
                    refine j_bipush (pc := 171) (v := 9) dX8_isSentence_171 (by decide) ?_
                    refine j_V1 (rm' := rmX8_number) (pc := 173) dX8_isSentence_173 jlX8_109 j_hs rfl ⟨Nat.le_of_ble_eq_true rfl, Nat.le_of_ble_eq_true rfl, Nat.le_of_ble_eq_true rfl, Nat.le_of_ble_eq_true rfl, Nat.le_of_ble_eq_true rfl, Nat.le_of_ble_eq_true rfl⟩ ?_
                    refine s_X8_num2 (L := L) (a := e) j_hs (j_hn (by decide) H1) hL he (fun c44 => ?_) (fun c45 => ?_)
                    · show J l G mX8_isSentence _ _ 176 _ [.int (x_v tx L e)] (j_set (j_set h 27 (mO (nI L) (nI e) (nI f) (wd + 1) ps ts es op cl)) 27 (mO (nI L) (nI (x_ne tx L e)) (nI (x_ws tx L e)) ((wd + 1) + 1) ps ts es op cl)) Q
                      rw [j_ss0 (a := 27)]
                      refine j_istore_n (pc := 176) dX8_isSentence_176 (by decide) ?_
                      refine j_iload_n (pc := 177) dX8_isSentence_177 rfl ?_
                      refine j_if_ge (pc := 178) (tgt := 185) dX8_isSentence_178 (by decide) (fun c46 => ?_) (fun c46 => ?_)
                      · refine j_aload_n (pc := 185) dX8_isSentence_185 rfl ?_
                        refine j_iload_n (pc := 186) dX8_isSentence_186 rfl ?_
                        refine j_iconst (pc := 187) (v := 2) dX8_isSentence_187 (by decide) ?_
                        refine j_icmp_ne (pc := 188) (tgt := 195) dX8_isSentence_188 (by decide) (fun c47 => ?_) (fun c47 => ?_)
                        · refine j_iload_n (pc := 195) dX8_isSentence_195 rfl ?_
                          refine j_bipush (pc := 196) (v := 12) dX8_isSentence_196 (by decide) ?_
                          refine j_icmp_ne (pc := 198) (tgt := 207) dX8_isSentence_198 (by decide) (fun c48 => ?_) (fun c48 => ?_)
                          · exact absurd c48 (by decide)
                          · refine j_sipush (pc := 201) (v := 1000) dX8_isSentence_201 (by decide) ?_
                            refine j_goto (pc := 204) (tgt := 209) dX8_isSentence_204 (by decide) ?_
                            refine j_V1 (rm' := rmX8_number) (pc := 209) dX8_isSentence_209 jlX8_109 j_hs rfl ⟨Nat.le_of_ble_eq_true rfl, Nat.le_of_ble_eq_true rfl, Nat.le_of_ble_eq_true rfl, Nat.le_of_ble_eq_true rfl, Nat.le_of_ble_eq_true rfl, Nat.le_of_ble_eq_true rfl⟩ ?_
                            refine s_X8_num2 (L := L) (a := (x_ne tx L e)) j_hs (j_hn (by decide) H1) hL (x_ne_le tx he) (fun c49 => ?_) (fun c50 => ?_)
                            · show J l G mX8_isSentence _ _ 212 _ [.int (x_v tx L (x_ne tx L e))] (j_set (j_set h 27 (mO (nI L) (nI (x_ne tx L e)) (nI (x_ws tx L e)) ((wd + 1) + 1) ps ts es op cl)) 27 (mO (nI L) (nI (x_ne tx L (x_ne tx L e))) (nI (x_ws tx L (x_ne tx L e))) (((wd + 1) + 1) + 1) ps ts es op cl)) Q
                              rw [j_ss0 (a := 27)]
                              refine j_istore_n (pc := 212) dX8_isSentence_212 (by decide) ?_
                              refine j_iload_n (pc := 213) dX8_isSentence_213 rfl ?_
                              refine j_if_ge (pc := 214) (tgt := 219) dX8_isSentence_214 (by decide) (fun c51 => ?_) (fun c51 => ?_)
                              · refine j_aload_n (pc := 219) dX8_isSentence_219 rfl ?_
                                refine j_getf (pc := 220) dX8_isSentence_220 jfX8_16 j_hs rfl ?_
                                refine j_iload_n (pc := 223) dX8_isSentence_223 rfl ?_
                                refine j_iload_n (pc := 224) dX8_isSentence_224 rfl ?_
                                refine j_iadd (pc := 225) dX8_isSentence_225 ?_
                                refine j_iload_n (pc := 226) dX8_isSentence_226 rfl ?_
                                refine j_iast (pc := 227) dX8_isSentence_227 (j_hn (by decide) H2) (x_ix (p := 12) he c44 (by decide)) ?_
                                refine j_iconst (pc := 228) (v := 1) dX8_isSentence_228 (by decide) ?_
                                exact j_iret (pc := 229) dX8_isSentence_229 rfl rfl (Nat.le_of_ble_eq_true rfl) (Nat.le_of_ble_eq_true rfl) (K10 c2 c14 c26 c40 c44 c49)
                              · exfalso; exact c51 (x_v_nn (x_ne_le tx he) c49)
                            · show J l G mX8_isSentence _ _ 212 _ [.int (-1)] (j_set (j_set h 27 (mO (nI L) (nI (x_ne tx L e)) (nI (x_ws tx L e)) ((wd + 1) + 1) ps ts es op cl)) 27 (mO (nI L) (nI (x_ne tx L (x_ne tx L e))) (nI (x_ws tx L (x_ne tx L e))) ((wd + 1) + 1) ps ts es op cl)) Q
                              rw [j_ss0 (a := 27)]
                              refine j_istore_n (pc := 212) dX8_isSentence_212 (by decide) ?_
                              refine j_iload_n (pc := 213) dX8_isSentence_213 rfl ?_
                              refine j_if_ge (pc := 214) (tgt := 219) dX8_isSentence_214 (by decide) (fun c52 => ?_) (fun c52 => ?_)
                              · exact absurd c52 (by decide)
                              · refine j_iconst (pc := 217) (v := 0) dX8_isSentence_217 (by decide) ?_
                                exact j_iret (pc := 218) dX8_isSentence_218 rfl rfl (Nat.le_of_ble_eq_true rfl) (Nat.le_of_ble_eq_true rfl) (K11 c2 c14 c26 c40 c44 c50)
                        · exact absurd c47 (by decide)
                      · exfalso; exact c46 (x_v_nn he c44)
                    · show J l G mX8_isSentence _ _ 176 _ [.int (-1)] (j_set (j_set h 27 (mO (nI L) (nI e) (nI f) (wd + 1) ps ts es op cl)) 27 (mO (nI L) (nI (x_ne tx L e)) (nI (x_ws tx L e)) (wd + 1) ps ts es op cl)) Q
                      rw [j_ss0 (a := 27)]
                      refine j_istore_n (pc := 176) dX8_isSentence_176 (by decide) ?_
                      refine j_iload_n (pc := 177) dX8_isSentence_177 rfl ?_
                      refine j_if_ge (pc := 178) (tgt := 185) dX8_isSentence_178 (by decide) (fun c53 => ?_) (fun c53 => ?_)
                      · exact absurd c53 (by decide)
                      · refine j_iconst (pc := 181) (v := -1) dX8_isSentence_181 (by decide) ?_
                        refine j_goto (pc := 182) (tgt := 212) dX8_isSentence_182 (by decide) ?_
                        refine j_istore_n (pc := 212) dX8_isSentence_212 (by decide) ?_
                        refine j_iload_n (pc := 213) dX8_isSentence_213 rfl ?_
                        refine j_if_ge (pc := 214) (tgt := 219) dX8_isSentence_214 (by decide) (fun c54 => ?_) (fun c54 => ?_)
                        · exact absurd c54 (by decide)
                        · refine j_iconst (pc := 217) (v := 0) dX8_isSentence_217 (by decide) ?_
                          exact j_iret (pc := 218) dX8_isSentence_218 rfl rfl (Nat.le_of_ble_eq_true rfl) (Nat.le_of_ble_eq_true rfl) (K12 c2 c14 c26 c40 c45)
                  · exact absurd c43 (by decide)
              · show J l G mX8_isSentence _ _ 128 _ [.int 0] h Q
                refine j_if_eq (pc := 128) (tgt := 136) dX8_isSentence_128 (by decide) (fun c55 => ?_) (fun c55 => ?_)
                · refine j_aload_n (pc := 136) dX8_isSentence_136 rfl ?_
                  refine j_ldc2 (pc := 137) dX8_isSentence_137 jnX8_117 ?_
                  refine j_iconst (pc := 140) (v := 5) dX8_isSentence_140 (by decide) ?_
                  refine j_V2 (rm' := rmX8_isWord) (pc := 141) dX8_isSentence_141 jlX8_103 H0 rfl ⟨Nat.le_of_ble_eq_true rfl, Nat.le_of_ble_eq_true rfl, Nat.le_of_ble_eq_true rfl, Nat.le_of_ble_eq_true rfl, Nat.le_of_ble_eq_true rfl, Nat.le_of_ble_eq_true rfl⟩ ?_
                  refine s_X8_isWord (n := 5) (e := e) (f := f) (lt := ([108, 101, 97, 115, 116])) H0 H1 x_least (by decide) hf (by omega) (fun c56 => ?_) (fun c57 => ?_)
                  · show J l G mX8_isSentence _ _ 144 _ [.int 1] h Q
                    refine j_if_eq (pc := 144) (tgt := 152) dX8_isSentence_144 (by decide) (fun c58 => ?_) (fun c58 => ?_)
                    · exact absurd c58 (by decide)
                    · refine j_bipush (pc := 147) (v := 22) dX8_isSentence_147 (by decide) ?_
                      refine j_goto (pc := 149) (tgt := 153) dX8_isSentence_149 (by decide) ?_
                      refine j_istore_n (pc := 153) dX8_isSentence_153 (by decide) ?_
                      refine j_iload_n (pc := 154) dX8_isSentence_154 rfl ?_
                      refine j_if_ge (pc := 155) (tgt := 160) dX8_isSentence_155 (by decide) (fun c59 => ?_) (fun c59 => ?_)
                      · refine j_aload_n (pc := 160) dX8_isSentence_160 rfl ?_
                        refine j_dup (pc := 161) dX8_isSentence_161 rfl ?_
                        refine j_getf (pc := 162) dX8_isSentence_162 jfX8_98 H0 rfl ?_
                        refine j_iconst (pc := 165) (v := 1) dX8_isSentence_165 (by decide) ?_
                        refine j_iadd (pc := 166) dX8_isSentence_166 ?_
                        refine j_putf (pc := 167) dX8_isSentence_167 jfX8_98 H0 rfl rfl (Nat.le_of_ble_eq_true rfl) ?_
                        show J l G mX8_isSentence _ _ 170 _ _ (j_set h 27 (mO (nI L) (nI e) (nI f) (wd + 1) ps ts es op cl)) Q
                        refine j_aload_n (pc := 170) dX8_isSentence_170 rfl ?_
                        refine j_bipush (pc := 171) (v := 9) dX8_isSentence_171 (by decide) ?_
                        refine j_V1 (rm' := rmX8_number) (pc := 173) dX8_isSentence_173 jlX8_109 j_hs rfl ⟨Nat.le_of_ble_eq_true rfl, Nat.le_of_ble_eq_true rfl, Nat.le_of_ble_eq_true rfl, Nat.le_of_ble_eq_true rfl, Nat.le_of_ble_eq_true rfl, Nat.le_of_ble_eq_true rfl⟩ ?_
                        refine s_X8_num2 (L := L) (a := e) j_hs (j_hn (by decide) H1) hL he (fun c60 => ?_) (fun c61 => ?_)
                        · show J l G mX8_isSentence _ _ 176 _ [.int (x_v tx L e)] (j_set (j_set h 27 (mO (nI L) (nI e) (nI f) (wd + 1) ps ts es op cl)) 27 (mO (nI L) (nI (x_ne tx L e)) (nI (x_ws tx L e)) ((wd + 1) + 1) ps ts es op cl)) Q
                          rw [j_ss0 (a := 27)]
                          refine j_istore_n (pc := 176) dX8_isSentence_176 (by decide) ?_
                          refine j_iload_n (pc := 177) dX8_isSentence_177 rfl ?_
                          refine j_if_ge (pc := 178) (tgt := 185) dX8_isSentence_178 (by decide) (fun c62 => ?_) (fun c62 => ?_)
                          · refine j_aload_n (pc := 185) dX8_isSentence_185 rfl ?_
                            refine j_iload_n (pc := 186) dX8_isSentence_186 rfl ?_
                            refine j_iconst (pc := 187) (v := 2) dX8_isSentence_187 (by decide) ?_
                            refine j_icmp_ne (pc := 188) (tgt := 195) dX8_isSentence_188 (by decide) (fun c63 => ?_) (fun c63 => ?_)
                            · refine j_iload_n (pc := 195) dX8_isSentence_195 rfl ?_
                              refine j_bipush (pc := 196) (v := 12) dX8_isSentence_196 (by decide) ?_
                              refine j_icmp_ne (pc := 198) (tgt := 207) dX8_isSentence_198 (by decide) (fun c64 => ?_) (fun c64 => ?_)
                              · refine j_ldc (pc := 207) dX8_isSentence_207 jnX8_119 ?_
                                refine j_V1 (rm' := rmX8_number) (pc := 209) dX8_isSentence_209 jlX8_109 j_hs rfl ⟨Nat.le_of_ble_eq_true rfl, Nat.le_of_ble_eq_true rfl, Nat.le_of_ble_eq_true rfl, Nat.le_of_ble_eq_true rfl, Nat.le_of_ble_eq_true rfl, Nat.le_of_ble_eq_true rfl⟩ ?_
                                refine s_X8_num2 (L := L) (a := (x_ne tx L e)) j_hs (j_hn (by decide) H1) hL (x_ne_le tx he) (fun c65 => ?_) (fun c66 => ?_)
                                · show J l G mX8_isSentence _ _ 212 _ [.int (x_v tx L (x_ne tx L e))] (j_set (j_set h 27 (mO (nI L) (nI (x_ne tx L e)) (nI (x_ws tx L e)) ((wd + 1) + 1) ps ts es op cl)) 27 (mO (nI L) (nI (x_ne tx L (x_ne tx L e))) (nI (x_ws tx L (x_ne tx L e))) (((wd + 1) + 1) + 1) ps ts es op cl)) Q
                                  rw [j_ss0 (a := 27)]
                                  refine j_istore_n (pc := 212) dX8_isSentence_212 (by decide) ?_
                                  refine j_iload_n (pc := 213) dX8_isSentence_213 rfl ?_
                                  refine j_if_ge (pc := 214) (tgt := 219) dX8_isSentence_214 (by decide) (fun c67 => ?_) (fun c67 => ?_)
                                  · refine j_aload_n (pc := 219) dX8_isSentence_219 rfl ?_
                                    refine j_getf (pc := 220) dX8_isSentence_220 jfX8_16 j_hs rfl ?_
                                    refine j_iload_n (pc := 223) dX8_isSentence_223 rfl ?_
                                    refine j_iload_n (pc := 224) dX8_isSentence_224 rfl ?_
                                    refine j_iadd (pc := 225) dX8_isSentence_225 ?_
                                    refine j_iload_n (pc := 226) dX8_isSentence_226 rfl ?_
                                    refine j_iast (pc := 227) dX8_isSentence_227 (j_hn (by decide) H2) (x_ix (p := 22) he c60 (by decide)) ?_
                                    refine j_iconst (pc := 228) (v := 1) dX8_isSentence_228 (by decide) ?_
                                    exact j_iret (pc := 229) dX8_isSentence_229 rfl rfl (Nat.le_of_ble_eq_true rfl) (Nat.le_of_ble_eq_true rfl) (K13 c2 c14 c26 c41 c56 c60 c65)
                                  · exfalso; exact c67 (x_v_nn (x_ne_le tx he) c65)
                                · show J l G mX8_isSentence _ _ 212 _ [.int (-1)] (j_set (j_set h 27 (mO (nI L) (nI (x_ne tx L e)) (nI (x_ws tx L e)) ((wd + 1) + 1) ps ts es op cl)) 27 (mO (nI L) (nI (x_ne tx L (x_ne tx L e))) (nI (x_ws tx L (x_ne tx L e))) ((wd + 1) + 1) ps ts es op cl)) Q
                                  rw [j_ss0 (a := 27)]
                                  refine j_istore_n (pc := 212) dX8_isSentence_212 (by decide) ?_
                                  refine j_iload_n (pc := 213) dX8_isSentence_213 rfl ?_
                                  refine j_if_ge (pc := 214) (tgt := 219) dX8_isSentence_214 (by decide) (fun c68 => ?_) (fun c68 => ?_)
                                  · exact absurd c68 (by decide)
                                  · refine j_iconst (pc := 217) (v := 0) dX8_isSentence_217 (by decide) ?_
                                    exact j_iret (pc := 218) dX8_isSentence_218 rfl rfl (Nat.le_of_ble_eq_true rfl) (Nat.le_of_ble_eq_true rfl) (K14 c2 c14 c26 c41 c56 c60 c66)
                              · exact absurd c64 (by decide)
                            · exact absurd c63 (by decide)
                          · exfalso; exact c62 (x_v_nn he c60)
                        · show J l G mX8_isSentence _ _ 176 _ [.int (-1)] (j_set (j_set h 27 (mO (nI L) (nI e) (nI f) (wd + 1) ps ts es op cl)) 27 (mO (nI L) (nI (x_ne tx L e)) (nI (x_ws tx L e)) (wd + 1) ps ts es op cl)) Q
                          rw [j_ss0 (a := 27)]
                          refine j_istore_n (pc := 176) dX8_isSentence_176 (by decide) ?_
                          refine j_iload_n (pc := 177) dX8_isSentence_177 rfl ?_
                          refine j_if_ge (pc := 178) (tgt := 185) dX8_isSentence_178 (by decide) (fun c69 => ?_) (fun c69 => ?_)
                          · exact absurd c69 (by decide)
                          · refine j_iconst (pc := 181) (v := -1) dX8_isSentence_181 (by decide) ?_
                            refine j_goto (pc := 182) (tgt := 212) dX8_isSentence_182 (by decide) ?_
                            refine j_istore_n (pc := 212) dX8_isSentence_212 (by decide) ?_
                            refine j_iload_n (pc := 213) dX8_isSentence_213 rfl ?_
                            refine j_if_ge (pc := 214) (tgt := 219) dX8_isSentence_214 (by decide) (fun c70 => ?_) (fun c70 => ?_)
                            · exact absurd c70 (by decide)
                            · refine j_iconst (pc := 217) (v := 0) dX8_isSentence_217 (by decide) ?_
                              exact j_iret (pc := 218) dX8_isSentence_218 rfl rfl (Nat.le_of_ble_eq_true rfl) (Nat.le_of_ble_eq_true rfl) (K15 c2 c14 c26 c41 c56 c61)
                      · exact absurd c59 (by decide)
                  · show J l G mX8_isSentence _ _ 144 _ [.int 0] h Q
                    refine j_if_eq (pc := 144) (tgt := 152) dX8_isSentence_144 (by decide) (fun c71 => ?_) (fun c71 => ?_)
                    · refine j_iconst (pc := 152) (v := -1) dX8_isSentence_152 (by decide) ?_
                      refine j_istore_n (pc := 153) dX8_isSentence_153 (by decide) ?_
                      refine j_iload_n (pc := 154) dX8_isSentence_154 rfl ?_
                      refine j_if_ge (pc := 155) (tgt := 160) dX8_isSentence_155 (by decide) (fun c72 => ?_) (fun c72 => ?_)
                      · exact absurd c72 (by decide)
                      · refine j_iconst (pc := 158) (v := 0) dX8_isSentence_158 (by decide) ?_
                        exact j_iret (pc := 159) dX8_isSentence_159 rfl rfl (Nat.le_of_ble_eq_true rfl) (Nat.le_of_ble_eq_true rfl) (K16 c2 c14 c26 c41 c57)
                    · exact absurd c71 (by decide)
                · exact absurd c55 (by decide)
            · exact absurd c39 (by decide)
        · exact absurd c24 (by decide)
