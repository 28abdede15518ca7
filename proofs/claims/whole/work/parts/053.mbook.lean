theorem j_fl_lo {α : Type} {f : Nat → α} {o : Nat} {v : Nat → α} {i j : Nat} (h : j < o) : j_fl f o v i j = f j := by
  rw [j_fl_at, if_neg (by omega)]
theorem jn_we {x : Int32} {E : Nat} (h0 : ¬ x.toInt64 < 1) (h1 : ¬ (nI E).toInt64 < x.toInt64) (hE : E < 2147483648) : ∃ e : Nat, e < E ∧ x = nI (e + 1) := by
  refine jn_e (fun z => h0 ?_) (fun z => h1 ?_) hE
  · have := Int32.lt_iff_toInt_lt.mp z
    rw [Int64.lt_iff_toInt_lt]
    have e1 : x.toInt64.toInt = x.toInt := by simp
    have e2 : (1 : Int64).toInt = (1 : Int32).toInt := by decide
    rw [e1, e2]
    exact this
  · have := Int32.lt_iff_toInt_lt.mp z
    rw [Int64.lt_iff_toInt_lt]
    have e1 : x.toInt64.toInt = x.toInt := by simp
    have e2 : (nI E).toInt64.toInt = (nI E).toInt := by simp
    rw [e1, e2]
    exact this
/-- what balance sums: entry by entry, row by row -/
def j_bm (ac : Nat → Int32) (am : Nat → Int64) (ey : Nat → Int32) (rr : Nat → Nat) (a m : Int32) : Nat → Int64
  | 0 => 0
  | e + 1 => if m < ey (e + 1) / 30 then j_bm ac am ey rr a m e else j_tc (fun k => am (8 * (e + 1) + k)) (fun k => ac (8 * (e + 1) + k)) a (j_bm ac am ey rr a m e) (rr e)
theorem j_bm_f {ac : Nat → Int32} {am : Nat → Int64} {ey : Nat → Int32} {rr : Nat → Nat} {a m : Int32} {e : Nat} (h : m < ey (e + 1) / 30) : j_bm ac am ey rr a m (e + 1) = j_bm ac am ey rr a m e := if_pos h
theorem j_bm_t {ac : Nat → Int32} {am : Nat → Int64} {ey : Nat → Int32} {rr : Nat → Nat} {a m : Int32} {e : Nat} (h : ¬ m < ey (e + 1) / 30) : j_bm ac am ey rr a m (e + 1) = j_tc (fun k => am (8 * (e + 1) + k)) (fun k => ac (8 * (e + 1) + k)) a (j_bm ac am ey rr a m e) (rr e) := if_neg h

set_option maxRecDepth 20000 in
theorem s_X8_sums {l : Launch} {G : jG} {h : jH} {Q : Option Value → jH → Prop} {at_ cl es fr op ps sz t0 wd : Int32} {T : Nat} {se : Nat → Int32} {sa : Nat → Int64} {co : Nat → Int64} {pa : Nat → Int64} {ss : Nat → Int64}  (H0 : h.2 27 = some (mO sz at_ fr wd ps (nI T) es op cl)) (H1 : h.2 38 = some (jZ 20 se)) (H2 : h.2 35 = some (jL 20 sa)) (H3 : h.2 36 = some (jL 200 co)) (H4 : h.2 39 = some (jL 120 pa)) (H5 : h.2 40 = some (jL 960 ss)) (hT : T ≤ 20) (K1 : t0 < 0 → Q (some (.int 0)) h) (K2 : ¬ (t0 < 0) → (nI T) ≤ t0 → Q (some (.int 0)) h) (K3 : ¬ (t0 < 0) → ¬ ((nI T) ≤ t0) → ∀ t : Nat, t0 = nI t → t < T → ¬ (se t) = 0 → ¬ (j_ad (pa (6 * t + 1) + pa (6 * t + 2)) (fun k => ss (48 * t + 4 * k) + ss (48 * t + 4 * k + 1)) 12) = (j_ld ((sa t - pa (6 * t + 4)) + pa (6 * t + 5)) (fun k => co (10 * t + k)) 10) → Q (some (.int 0)) h) (K4 : ¬ (t0 < 0) → ¬ ((nI T) ≤ t0) → ∀ t : Nat, t0 = nI t → t < T → ¬ (se t) = 0 → (j_ad (pa (6 * t + 1) + pa (6 * t + 2)) (fun k => ss (48 * t + 4 * k) + ss (48 * t + 4 * k + 1)) 12) = (j_ld ((sa t - pa (6 * t + 4)) + pa (6 * t + 5)) (fun k => co (10 * t + k)) 10) → Q (some (.int 1)) h) (K5 : ¬ (t0 < 0) → ¬ ((nI T) ≤ t0) → ∀ t : Nat, t0 = nI t → t < T → (se t) = 0 → Q (some (.int 0)) h) : J l G mX8_sums 0 0 0 (lv_args 0 [.ref 27, .int t0]) [] h Q := by
  refine j_aload_n (pc := 0) dX8_sums_0 rfl ?_
  refine j_iload_n (pc := 1) dX8_sums_1 rfl ?_
  refine j_V1 (rm' := rmX8_isTrip) (pc := 2) dX8_sums_2 jlX8_141 H0 rfl ⟨Nat.le_of_ble_eq_true rfl, Nat.le_of_ble_eq_true rfl, Nat.le_of_ble_eq_true rfl, Nat.le_of_ble_eq_true rfl, Nat.le_of_ble_eq_true rfl, Nat.le_of_ble_eq_true rfl⟩ ?_
  refine s_X8_isTrip H0 (fun c1 => ?_) (fun c2 c3 => ?_) (fun c4 c5 => ?_)
  · show J l G mX8_sums _ _ 5 _ [.int 0] h Q
    refine j_if_eq (pc := 5) (tgt := 17) dX8_sums_5 (by decide) (fun c6 => ?_) (fun c6 => ?_)
    · refine j_iconst (pc := 17) (v := 0) dX8_sums_17 (by decide) ?_
      exact j_iret (pc := 18) dX8_sums_18 rfl rfl (Nat.le_of_ble_eq_true rfl) (Nat.le_of_ble_eq_true rfl) (K1 c1)
    · exact absurd c6 (by decide)
  · show J l G mX8_sums _ _ 5 _ [.int 0] h Q
    refine j_if_eq (pc := 5) (tgt := 17) dX8_sums_5 (by decide) (fun c7 => ?_) (fun c7 => ?_)
    · refine j_iconst (pc := 17) (v := 0) dX8_sums_17 (by decide) ?_
      exact j_iret (pc := 18) dX8_sums_18 rfl rfl (Nat.le_of_ble_eq_true rfl) (Nat.le_of_ble_eq_true rfl) (K2 c2 c3)
    · exact absurd c7 (by decide)
  · show J l G mX8_sums _ _ 5 _ [.int 1] h Q
    refine j_if_eq (pc := 5) (tgt := 17) dX8_sums_5 (by decide) (fun c8 => ?_) (fun c8 => ?_)
    · exact absurd c8 (by decide)
    · obtain ⟨t, ht, rfl⟩ : ∃ t : Nat, t < T ∧ t0 = nI t := jn_ge c4 c5 (jn_P (by omega))
      refine j_aload_n (pc := 8) dX8_sums_8 rfl ?_
      refine j_getf (pc := 9) dX8_sums_9 jfX8_41 H0 rfl ?_
      refine j_iload_n (pc := 12) dX8_sums_12 rfl ?_
      refine j_zald (pc := 13) dX8_sums_13 H1 (jix_nI (by omega) (by decide)) ?_
      refine j_if_ne (pc := 14) (tgt := 19) dX8_sums_14 (by decide) (fun c9 => ?_) (fun c9 => ?_)
      · refine j_aload_n (pc := 19) dX8_sums_19 rfl ?_
        refine j_getf (pc := 20) dX8_sums_20 jfX8_45 H0 rfl ?_
        refine j_bipush (pc := 23) (v := 6) dX8_sums_23 (by decide) ?_
        refine j_iload_n (pc := 25) dX8_sums_25 rfl ?_
        refine j_imulN (a := 6) (b := t) (pc := 26) dX8_sums_26 ?_
        refine j_iconst (pc := 27) (v := 1) dX8_sums_27 (by decide) ?_
        refine j_iaddN (a := 6 * t) (b := 1) (pc := 28) dX8_sums_28 ?_
        refine j_lald (pc := 29) dX8_sums_29 H4 (jix_nI (by omega) (by decide)) ?_
        refine j_aload_n (pc := 30) dX8_sums_30 rfl ?_
        refine j_getf (pc := 31) dX8_sums_31 jfX8_45 H0 rfl ?_
        refine j_bipush (pc := 34) (v := 6) dX8_sums_34 (by decide) ?_
        refine j_iload_n (pc := 36) dX8_sums_36 rfl ?_
        refine j_imulN (a := 6) (b := t) (pc := 37) dX8_sums_37 ?_
        refine j_iconst (pc := 38) (v := 2) dX8_sums_38 (by decide) ?_
        refine j_iaddN (a := 6 * t) (b := 2) (pc := 39) dX8_sums_39 ?_
        refine j_lald (pc := 40) dX8_sums_40 H4 (jix_nI (by omega) (by decide)) ?_
        refine j_ladd (pc := 41) dX8_sums_41 ?_
        refine j_lstore_n (pc := 42) dX8_sums_42 (by decide) ?_
        refine j_iconst (pc := 43) (v := 0) dX8_sums_43 (by decide) ?_
        refine j_istore (pc := 44) dX8_sums_44 (by decide) ?_
        refine j_sub (lv' := [(0, .ref 27), (1, .int (nI t)), (2, .long (j_ad (pa (6 * t + 1) + pa (6 * t + 2)) (fun k => ss (48 * t + 4 * k) + ss (48 * t + 4 * k + 1)) 0)), (4, .int (nI 0))]) rfl ?_
        refine j_for (N := 12) (S := fun i1 => J l G mX8_sums 0 0 46 [(0, .ref 27), (1, .int (nI t)), (2, .long (j_ad (pa (6 * t + 1) + pa (6 * t + 2)) (fun k => ss (48 * t + 4 * k) + ss (48 * t + 4 * k + 1)) i1)), (4, .int (nI i1))] [] h Q) ?_ ?_ 0 (Nat.zero_le _)
        · intro i1 hi1 ih1
          refine j_iload (pc := 46) dX8_sums_46 rfl ?_
          refine j_bipush (pc := 48) (v := 12) dX8_sums_48 (by decide) ?_
          refine j_icmp_geN (a := i1) (b := 12) (pc := 50) (tgt := 93) dX8_sums_50 (by decide) (by omega) (by omega) (fun c10 => ?_) (fun c10 => ?_)
          · exfalso; omega
          · refine j_lload_n (pc := 53) dX8_sums_53 rfl ?_
            refine j_aload_n (pc := 54) dX8_sums_54 rfl ?_
            refine j_getf (pc := 55) dX8_sums_55 jfX8_48 H0 rfl ?_
            refine j_bipush (pc := 58) (v := 48) dX8_sums_58 (by decide) ?_
            refine j_iload_n (pc := 60) dX8_sums_60 rfl ?_
            refine j_imulN (a := 48) (b := t) (pc := 61) dX8_sums_61 ?_
            refine j_iconst (pc := 62) (v := 4) dX8_sums_62 (by decide) ?_
            refine j_iload (pc := 63) dX8_sums_63 rfl ?_
            refine j_imulN (a := 4) (b := i1) (pc := 65) dX8_sums_65 ?_
            refine j_iaddN (a := 48 * t) (b := 4 * i1) (pc := 66) dX8_sums_66 ?_
            refine j_lald (pc := 67) dX8_sums_67 H5 (jix_nI (by omega) (by decide)) ?_
            refine j_aload_n (pc := 68) dX8_sums_68 rfl ?_
            refine j_getf (pc := 69) dX8_sums_69 jfX8_48 H0 rfl ?_
            refine j_bipush (pc := 72) (v := 48) dX8_sums_72 (by decide) ?_
            refine j_iload_n (pc := 74) dX8_sums_74 rfl ?_
            refine j_imulN (a := 48) (b := t) (pc := 75) dX8_sums_75 ?_
            refine j_iconst (pc := 76) (v := 4) dX8_sums_76 (by decide) ?_
            refine j_iload (pc := 77) dX8_sums_77 rfl ?_
            refine j_imulN (a := 4) (b := i1) (pc := 79) dX8_sums_79 ?_
            refine j_iaddN (a := 48 * t) (b := 4 * i1) (pc := 80) dX8_sums_80 ?_
            refine j_iconst (pc := 81) (v := 1) dX8_sums_81 (by decide) ?_
            refine j_iaddN (a := (48 * t) + (4 * i1)) (b := 1) (pc := 82) dX8_sums_82 ?_
            refine j_lald (pc := 83) dX8_sums_83 H5 (jix_nI (by omega) (by decide)) ?_
            refine j_ladd (pc := 84) dX8_sums_84 ?_
            refine j_ladd (pc := 85) dX8_sums_85 ?_
            refine j_lstore_n (pc := 86) dX8_sums_86 (by decide) ?_
            refine j_iincN (a := i1) (d := 1) (pc := 87) dX8_sums_87 rfl (by decide) ?_
            refine j_goto (pc := 90) (tgt := 46) dX8_sums_90 (by decide) ?_
            exact j_sub rfl ih1
        · refine j_iload (pc := 46) dX8_sums_46 rfl ?_
          refine j_bipush (pc := 48) (v := 12) dX8_sums_48 (by decide) ?_
          refine j_icmp_geN (a := 12) (b := 12) (pc := 50) (tgt := 93) dX8_sums_50 (by decide) (by omega) (by omega) (fun c11 => ?_) (fun c11 => ?_)
          · refine j_aload_n (pc := 93) dX8_sums_93 rfl ?_
            refine j_getf (pc := 94) dX8_sums_94 jfX8_32 H0 rfl ?_
            refine j_iload_n (pc := 97) dX8_sums_97 rfl ?_
            refine j_lald (pc := 98) dX8_sums_98 H2 (jix_nI (by omega) (by decide)) ?_
            refine j_aload_n (pc := 99) dX8_sums_99 rfl ?_
            refine j_getf (pc := 100) dX8_sums_100 jfX8_45 H0 rfl ?_
            refine j_bipush (pc := 103) (v := 6) dX8_sums_103 (by decide) ?_
            refine j_iload_n (pc := 105) dX8_sums_105 rfl ?_
            refine j_imulN (a := 6) (b := t) (pc := 106) dX8_sums_106 ?_
            refine j_iconst (pc := 107) (v := 4) dX8_sums_107 (by decide) ?_
            refine j_iaddN (a := 6 * t) (b := 4) (pc := 108) dX8_sums_108 ?_
            refine j_lald (pc := 109) dX8_sums_109 H4 (jix_nI (by omega) (by decide)) ?_
            refine j_lsub (pc := 110) dX8_sums_110 ?_
            refine j_aload_n (pc := 111) dX8_sums_111 rfl ?_
            refine j_getf (pc := 112) dX8_sums_112 jfX8_45 H0 rfl ?_
            refine j_bipush (pc := 115) (v := 6) dX8_sums_115 (by decide) ?_
            refine j_iload_n (pc := 117) dX8_sums_117 rfl ?_
            refine j_imulN (a := 6) (b := t) (pc := 118) dX8_sums_118 ?_
            refine j_iconst (pc := 119) (v := 5) dX8_sums_119 (by decide) ?_
            refine j_iaddN (a := 6 * t) (b := 5) (pc := 120) dX8_sums_120 ?_
            refine j_lald (pc := 121) dX8_sums_121 H4 (jix_nI (by omega) (by decide)) ?_
            refine j_ladd (pc := 122) dX8_sums_122 ?_
            refine j_lstore (pc := 123) dX8_sums_123 (by decide) ?_
            refine j_iconst (pc := 125) (v := 0) dX8_sums_125 (by decide) ?_
            refine j_istore (pc := 126) dX8_sums_126 (by decide) ?_
            refine j_sub (lv' := [(0, .ref 27), (1, .int (nI t)), (2, .long (j_ad (pa (6 * t + 1) + pa (6 * t + 2)) (fun k => ss (48 * t + 4 * k) + ss (48 * t + 4 * k + 1)) 12)), (4, .long (j_ld ((sa t - pa (6 * t + 4)) + pa (6 * t + 5)) (fun k => co (10 * t + k)) 0)), (6, .int (nI 0))]) rfl ?_
            refine j_for (N := 10) (S := fun i2 => J l G mX8_sums 0 0 128 [(0, .ref 27), (1, .int (nI t)), (2, .long (j_ad (pa (6 * t + 1) + pa (6 * t + 2)) (fun k => ss (48 * t + 4 * k) + ss (48 * t + 4 * k + 1)) 12)), (4, .long (j_ld ((sa t - pa (6 * t + 4)) + pa (6 * t + 5)) (fun k => co (10 * t + k)) i2)), (6, .int (nI i2))] [] h Q) ?_ ?_ 0 (Nat.zero_le _)
            · intro i2 hi2 ih2
              refine j_iload (pc := 128) dX8_sums_128 rfl ?_
              refine j_bipush (pc := 130) (v := 10) dX8_sums_130 (by decide) ?_
              refine j_icmp_geN (a := i2) (b := 10) (pc := 132) (tgt := 158) dX8_sums_132 (by decide) (by omega) (by omega) (fun c12 => ?_) (fun c12 => ?_)
              · exfalso; omega
              · refine j_lload (pc := 135) dX8_sums_135 rfl ?_
                refine j_aload_n (pc := 137) dX8_sums_137 rfl ?_
                refine j_getf (pc := 138) dX8_sums_138 jfX8_35 H0 rfl ?_
                refine j_bipush (pc := 141) (v := 10) dX8_sums_141 (by decide) ?_
                refine j_iload_n (pc := 143) dX8_sums_143 rfl ?_
                refine j_imulN (a := 10) (b := t) (pc := 144) dX8_sums_144 ?_
                refine j_iload (pc := 145) dX8_sums_145 rfl ?_
                refine j_iaddN (a := 10 * t) (b := i2) (pc := 147) dX8_sums_147 ?_
                refine j_lald (pc := 148) dX8_sums_148 H3 (jix_nI (by omega) (by decide)) ?_
                refine j_lsub (pc := 149) dX8_sums_149 ?_
                refine j_lstore (pc := 150) dX8_sums_150 (by decide) ?_
                refine j_iincN (a := i2) (d := 1) (pc := 152) dX8_sums_152 rfl (by decide) ?_
                refine j_goto (pc := 155) (tgt := 128) dX8_sums_155 (by decide) ?_
                exact j_sub rfl ih2
            · refine j_iload (pc := 128) dX8_sums_128 rfl ?_
              refine j_bipush (pc := 130) (v := 10) dX8_sums_130 (by decide) ?_
              refine j_icmp_geN (a := 10) (b := 10) (pc := 132) (tgt := 158) dX8_sums_132 (by decide) (by omega) (by omega) (fun c13 => ?_) (fun c13 => ?_)
              · refine j_lload_n (pc := 158) dX8_sums_158 rfl ?_
                refine j_lload (pc := 159) dX8_sums_159 rfl ?_
                refine j_lc_ne (pc := 161) (tgt := 169) dX8_sums_161 dX8_sums_162 (by decide) (fun c14 => ?_) (fun c14 => ?_)
                · refine j_iconst (pc := 169) (v := 0) dX8_sums_169 (by decide) ?_
                  exact j_iret (pc := 170) dX8_sums_170 rfl rfl (Nat.le_of_ble_eq_true rfl) (Nat.le_of_ble_eq_true rfl) (K3 c4 c5 t rfl ht c9 c14)
                · refine j_iconst (pc := 165) (v := 1) dX8_sums_165 (by decide) ?_
                  refine j_goto (pc := 166) (tgt := 170) dX8_sums_166 (by decide) ?_
                  exact j_iret (pc := 170) dX8_sums_170 rfl rfl (Nat.le_of_ble_eq_true rfl) (Nat.le_of_ble_eq_true rfl) (K4 c4 c5 t rfl ht c9 c14)
              · exfalso; omega
          · exfalso; omega
      · refine j_iconst (pc := 17) (v := 0) dX8_sums_17 (by decide) ?_
        exact j_iret (pc := 18) dX8_sums_18 rfl rfl (Nat.le_of_ble_eq_true rfl) (Nat.le_of_ble_eq_true rfl) (K5 c4 c5 t rfl ht c9)

set_option maxRecDepth 20000 in
theorem s_X8_put {l : Launch} {G : jG} {h : jH} {Q : Option Value → jH → Prop} {at_ cl d0 fr op ps sz ts wd : Int32} {E o R : Nat} {sg : Int64} {ey : Nat → Int32} {er : Nat → Int32} {tk : Nat → Int32} {tn : Nat → Int32} {ac : Nat → Int32} {am : Nat → Int64}  (H0 : h.2 27 = some (mO sz at_ fr wd ps ts (nI E) op cl)) (H1 : h.2 44 = some (jI 61 ey)) (H2 : h.2 45 = some (jI 61 er)) (H3 : h.2 46 = some (jI 61 tk)) (H4 : h.2 47 = some (jI 61 tn)) (H5 : h.2 48 = some (jI 488 ac)) (H6 : h.2 49 = some (jL 488 am)) (hE : E < 60) (ho : o ≤ E) (hR : er o = nI R) (hR8 : R ≤ 8) (K1 : Q none (j_set (j_set (j_set (j_set (j_set (j_set (j_set h 27 (mO sz at_ fr wd ps ts (nI (E + 1)) op cl)) 44 (jI 61 (va_up ey (E + 1) d0))) 45 (jI 61 (va_up er (E + 1) (er o)))) 46 (jI 61 (va_up tk (E + 1) 0))) 47 (jI 61 (va_up tn (E + 1) 0))) 48 (jI 488 (j_fl ac (8 * (E + 1)) (fun k => ac (8 * o + k)) R))) 49 (jL 488 (j_fl am (8 * (E + 1)) (fun k => sg * am (8 * o + k)) R)))) : J l G mX8_put 0 0 0 (lv_args 0 [.ref 27, .int (nI o), .int d0, .long sg]) [] h Q := by
  refine j_aload_n (pc := 0) dX8_put_0 rfl ?_
  refine j_dup (pc := 1) dX8_put_1 rfl ?_
  refine j_getf (pc := 2) dX8_put_2 jfX8_169 H0 rfl ?_
  refine j_iconst (pc := 5) (v := 1) dX8_put_5 (by decide) ?_
  refine j_iaddN (a := E) (b := 1) (pc := 6) dX8_put_6 ?_
  refine j_putf (pc := 7) dX8_put_7 jfX8_169 H0 rfl rfl (Nat.le_of_ble_eq_true rfl) ?_
  show J l G mX8_put _ _ 10 _ _ (j_set h 27 (mO sz at_ fr wd ps ts (nI (E + 1)) op cl)) Q
  refine j_aload_n (pc := 10) dX8_put_10 rfl ?_
  refine j_getf (pc := 11) dX8_put_11 jfX8_60 j_hs rfl ?_
  refine j_aload_n (pc := 14) dX8_put_14 rfl ?_
  refine j_getf (pc := 15) dX8_put_15 jfX8_169 j_hs rfl ?_
  refine j_iload_n (pc := 18) dX8_put_18 rfl ?_
  refine j_iast (pc := 19) dX8_put_19 (j_hn (by decide) H1) (jix_nI (by omega) (by decide)) ?_
  refine j_aload_n (pc := 20) dX8_put_20 rfl ?_
  refine j_getf (pc := 21) dX8_put_21 jfX8_63 (j_hn (by decide) j_hs) rfl ?_
  refine j_aload_n (pc := 24) dX8_put_24 rfl ?_
  refine j_getf (pc := 25) dX8_put_25 jfX8_169 (j_hn (by decide) j_hs) rfl ?_
  refine j_aload_n (pc := 28) dX8_put_28 rfl ?_
  refine j_getf (pc := 29) dX8_put_29 jfX8_63 (j_hn (by decide) j_hs) rfl ?_
  refine j_iload_n (pc := 32) dX8_put_32 rfl ?_
  refine j_ialdV (pc := 33) dX8_put_33 (j_hn (by decide) (j_hn (by decide) H2)) (jix_nI (by omega) (by decide)) rfl ?_
  refine j_iast (pc := 34) dX8_put_34 (j_hn (by decide) (j_hn (by decide) H2)) (jix_nI (by omega) (by decide)) ?_
  refine j_aload_n (pc := 35) dX8_put_35 rfl ?_
  refine j_getf (pc := 36) dX8_put_36 jfX8_66 (j_hn (by decide) (j_hn (by decide) j_hs)) rfl ?_
  refine j_aload_n (pc := 39) dX8_put_39 rfl ?_
  refine j_getf (pc := 40) dX8_put_40 jfX8_169 (j_hn (by decide) (j_hn (by decide) j_hs)) rfl ?_
  refine j_iconst (pc := 43) (v := 0) dX8_put_43 (by decide) ?_
  refine j_iast (pc := 44) dX8_put_44 (j_hn (by decide) (j_hn (by decide) (j_hn (by decide) H3))) (jix_nI (by omega) (by decide)) ?_
  refine j_aload_n (pc := 45) dX8_put_45 rfl ?_
  refine j_getf (pc := 46) dX8_put_46 jfX8_69 (j_hn (by decide) (j_hn (by decide) (j_hn (by decide) j_hs))) rfl ?_
  refine j_aload_n (pc := 49) dX8_put_49 rfl ?_
  refine j_getf (pc := 50) dX8_put_50 jfX8_169 (j_hn (by decide) (j_hn (by decide) (j_hn (by decide) j_hs))) rfl ?_
  refine j_iconst (pc := 53) (v := 0) dX8_put_53 (by decide) ?_
  refine j_iast (pc := 54) dX8_put_54 (j_hn (by decide) (j_hn (by decide) (j_hn (by decide) (j_hn (by decide) H4)))) (jix_nI (by omega) (by decide)) ?_
  refine j_iconst (pc := 55) (v := 0) dX8_put_55 (by decide) ?_
  refine j_istore (pc := 56) dX8_put_56 (by decide) ?_
  refine j_pad (j_hn (by decide) (j_hn (by decide) (j_hn (by decide) (j_hn (by decide) (j_hn (by decide) H5))))) ?_
  refine j_pad (j_hn (by decide) (j_hn (by decide) (j_hn (by decide) (j_hn (by decide) (j_hn (by decide) (j_hn (by decide) H6)))))) ?_
  refine j_sub (lv' := [(0, .ref 27), (1, .int (nI o)), (2, .int d0), (3, .long sg), (5, .int (nI 0))]) rfl ?_
  refine j_for (N := R) (S := fun i1 => J l G mX8_put 0 0 58 [(0, .ref 27), (1, .int (nI o)), (2, .int d0), (3, .long sg), (5, .int (nI i1))] [] (j_set (j_set (j_set (j_set (j_set (j_set (j_set h 27 (mO sz at_ fr wd ps ts (nI (E + 1)) op cl)) 44 (jI 61 (va_up ey (E + 1) d0))) 45 (jI 61 (va_up er (E + 1) (er o)))) 46 (jI 61 (va_up tk (E + 1) 0))) 47 (jI 61 (va_up tn (E + 1) 0))) 48 (jI 488 (j_fl ac (8 * (E + 1)) (fun k => ac (8 * o + k)) i1))) 49 (jL 488 (j_fl am (8 * (E + 1)) (fun k => sg * am (8 * o + k)) i1))) Q) ?_ ?_ 0 (Nat.zero_le _)
  · intro i1 hi1 ih1
    refine j_iload (pc := 58) dX8_put_58 rfl ?_
    refine j_aload_n (pc := 60) dX8_put_60 rfl ?_
    refine j_getf (pc := 61) dX8_put_61 jfX8_63 (j_hn (by decide) (j_hn (by decide) (j_hn (by decide) (j_hn (by decide) (j_hn (by decide) (j_hn (by decide) j_hs)))))) rfl ?_
    refine j_iload_n (pc := 64) dX8_put_64 rfl ?_
    refine j_ialdV (pc := 65) dX8_put_65 (j_hn (by decide) (j_hn (by decide) (j_hn (by decide) (j_hn (by decide) j_hs)))) (jix_nI (by omega) (by decide)) ((va_up_ne _ _ (by omega)).trans hR) ?_
    refine j_icmp_geN (a := i1) (b := R) (pc := 66) (tgt := 131) dX8_put_66 (by decide) (by omega) (by omega) (fun c1 => ?_) (fun c1 => ?_)
    · exfalso; omega
    · refine j_aload_n (pc := 69) dX8_put_69 rfl ?_
      refine j_getf (pc := 70) dX8_put_70 jfX8_72 (j_hn (by decide) (j_hn (by decide) (j_hn (by decide) (j_hn (by decide) (j_hn (by decide) (j_hn (by decide) j_hs)))))) rfl ?_
      refine j_bipush (pc := 73) (v := 8) dX8_put_73 (by decide) ?_
      refine j_aload_n (pc := 75) dX8_put_75 rfl ?_
      refine j_getf (pc := 76) dX8_put_76 jfX8_169 (j_hn (by decide) (j_hn (by decide) (j_hn (by decide) (j_hn (by decide) (j_hn (by decide) (j_hn (by decide) j_hs)))))) rfl ?_
      refine j_imulN (a := 8) (b := E + 1) (pc := 79) dX8_put_79 ?_
      refine j_iload (pc := 80) dX8_put_80 rfl ?_
      refine j_iaddN (a := 8 * (E + 1)) (b := i1) (pc := 82) dX8_put_82 ?_
      refine j_aload_n (pc := 83) dX8_put_83 rfl ?_
      refine j_getf (pc := 84) dX8_put_84 jfX8_72 (j_hn (by decide) (j_hn (by decide) (j_hn (by decide) (j_hn (by decide) (j_hn (by decide) (j_hn (by decide) j_hs)))))) rfl ?_
      refine j_bipush (pc := 87) (v := 8) dX8_put_87 (by decide) ?_
      refine j_iload_n (pc := 89) dX8_put_89 rfl ?_
      refine j_imulN (a := 8) (b := o) (pc := 90) dX8_put_90 ?_
      refine j_iload (pc := 91) dX8_put_91 rfl ?_
      refine j_iaddN (a := 8 * o) (b := i1) (pc := 93) dX8_put_93 ?_
      refine j_ialdV (pc := 94) dX8_put_94 (j_hn (by decide) j_hs) (jix_nI (by omega) (by decide)) (j_fl_lo (by omega)) ?_
      refine j_iast (pc := 95) dX8_put_95 (j_hn (by decide) j_hs) (jix_nI (by omega) (by decide)) ?_
      rw [j_ss1 (a := 48) (b0 := 49) (by decide)]
      refine j_aload_n (pc := 96) dX8_put_96 rfl ?_
      refine j_getf (pc := 97) dX8_put_97 jfX8_75 (j_hn (by decide) (j_hn (by decide) (j_hn (by decide) (j_hn (by decide) (j_hn (by decide) (j_hn (by decide) j_hs)))))) rfl ?_
      refine j_bipush (pc := 100) (v := 8) dX8_put_100 (by decide) ?_
      refine j_aload_n (pc := 102) dX8_put_102 rfl ?_
      refine j_getf (pc := 103) dX8_put_103 jfX8_169 (j_hn (by decide) (j_hn (by decide) (j_hn (by decide) (j_hn (by decide) (j_hn (by decide) (j_hn (by decide) j_hs)))))) rfl ?_
      refine j_imulN (a := 8) (b := E + 1) (pc := 106) dX8_put_106 ?_
      refine j_iload (pc := 107) dX8_put_107 rfl ?_
      refine j_iaddN (a := 8 * (E + 1)) (b := i1) (pc := 109) dX8_put_109 ?_
      refine j_lload_n (pc := 110) dX8_put_110 rfl ?_
      refine j_aload_n (pc := 111) dX8_put_111 rfl ?_
      refine j_getf (pc := 112) dX8_put_112 jfX8_75 (j_hn (by decide) (j_hn (by decide) (j_hn (by decide) (j_hn (by decide) (j_hn (by decide) (j_hn (by decide) j_hs)))))) rfl ?_
      refine j_bipush (pc := 115) (v := 8) dX8_put_115 (by decide) ?_
      refine j_iload_n (pc := 117) dX8_put_117 rfl ?_
      refine j_imulN (a := 8) (b := o) (pc := 118) dX8_put_118 ?_
      refine j_iload (pc := 119) dX8_put_119 rfl ?_
      refine j_iaddN (a := 8 * o) (b := i1) (pc := 121) dX8_put_121 ?_
      refine j_laldV (pc := 122) dX8_put_122 j_hs (jix_nI (by omega) (by decide)) (j_fl_lo (by omega)) ?_
      refine j_lmul (pc := 123) dX8_put_123 ?_
      refine j_last (pc := 124) dX8_put_124 j_hs (jix_nI (by omega) (by decide)) ?_
      rw [j_ss0 (a := 49)]
      refine j_iincN (a := i1) (d := 1) (pc := 125) dX8_put_125 rfl (by decide) ?_
      refine j_goto (pc := 128) (tgt := 58) dX8_put_128 (by decide) ?_
      exact j_sub rfl ih1
  · refine j_iload (pc := 58) dX8_put_58 rfl ?_
    refine j_aload_n (pc := 60) dX8_put_60 rfl ?_
    refine j_getf (pc := 61) dX8_put_61 jfX8_63 (j_hn (by decide) (j_hn (by decide) (j_hn (by decide) (j_hn (by decide) (j_hn (by decide) (j_hn (by decide) j_hs)))))) rfl ?_
    refine j_iload_n (pc := 64) dX8_put_64 rfl ?_
    refine j_ialdV (pc := 65) dX8_put_65 (j_hn (by decide) (j_hn (by decide) (j_hn (by decide) (j_hn (by decide) j_hs)))) (jix_nI (by omega) (by decide)) ((va_up_ne _ _ (by omega)).trans hR) ?_
    refine j_icmp_geN (a := R) (b := R) (pc := 66) (tgt := 131) dX8_put_66 (by decide) (by omega) (by omega) (fun c2 => ?_) (fun c2 => ?_)
    · exact j_vret (pc := 131) dX8_put_131 rfl (Nat.le_of_ble_eq_true rfl) (Nat.le_of_ble_eq_true rfl) (K1)
    · exfalso; omega

set_option maxRecDepth 20000 in
theorem s_X8_enter {l : Launch} {G : jG} {h : jH} {Q : Option Value → jH → Prop} {at_ cl fr op ps sz ts wd : Int32} {E R : Nat} {ey : Nat → Int32} {er : Nat → Int32} {tk : Nat → Int32} {tn : Nat → Int32} {ac : Nat → Int32} {am : Nat → Int64}  (H0 : h.2 27 = some (mO sz at_ fr wd ps ts (nI E) op cl)) (H1 : h.2 44 = some (jI 61 ey)) (H2 : h.2 45 = some (jI 61 er)) (H3 : h.2 46 = some (jI 61 tk)) (H4 : h.2 47 = some (jI 61 tn)) (H5 : h.2 48 = some (jI 488 ac)) (H6 : h.2 49 = some (jL 488 am)) (hE : E ≤ 60) (hR : er 0 = nI R) (hR8 : R ≤ 8) (K1 : ¬ op = 0 → R = 0 → Q (some (.int 0)) h) (K2 : ¬ op = 0 → ¬ R = 0 → ¬ (j_sm am R) = 0 → Q (some (.int 0)) h) (K3 : ¬ op = 0 → ¬ R = 0 → (j_sm am R) = 0 → ¬ E = 60 → Q (some (.int (nI (E + 1)))) (j_set (j_set (j_set (j_set (j_set (j_set (j_set h 27 (mO sz at_ fr wd ps ts (nI (E + 1)) 0 cl)) 44 (jI 61 (va_up ey (E + 1) (ey 0)))) 45 (jI 61 (va_up er (E + 1) (er 0)))) 46 (jI 61 (va_up tk (E + 1) 0))) 47 (jI 61 (va_up tn (E + 1) 0))) 48 (jI 488 (j_fl ac (8 * (E + 1)) (fun k => ac (8 * 0 + k)) R))) 49 (jL 488 (j_fl am (8 * (E + 1)) (fun k => 1 * am (8 * 0 + k)) R)))) (K4 : ¬ op = 0 → ¬ R = 0 → (j_sm am R) = 0 → E = 60 → Q (some (.int 0)) h) (K5 : op = 0 → Q (some (.int (-1))) h) : J l G mX8_enter 0 0 0 (lv_args 0 [.ref 27]) [] h Q := by
  refine j_aload_n (pc := 0) dX8_enter_0 rfl ?_
  refine j_getf (pc := 1) dX8_enter_1 jfX8_160 H0 rfl ?_
  refine j_if_ne (pc := 4) (tgt := 9) dX8_enter_4 (by decide) (fun c1 => ?_) (fun c1 => ?_)
  · refine j_lconst (pc := 9) (v := 0) dX8_enter_9 (by decide) ?_
    refine j_lstore_n (pc := 10) dX8_enter_10 (by decide) ?_
    refine j_iconst (pc := 11) (v := 0) dX8_enter_11 (by decide) ?_
    refine j_istore_n (pc := 12) dX8_enter_12 (by decide) ?_
    refine j_sub (lv' := [(0, .ref 27), (1, .long (j_sm am 0)), (3, .int (nI 0))]) rfl ?_
    refine j_for (N := R) (S := fun i1 => J l G mX8_enter 0 0 13 [(0, .ref 27), (1, .long (j_sm am i1)), (3, .int (nI i1))] [] h Q) ?_ ?_ 0 (Nat.zero_le _)
    · intro i1 hi1 ih1
      refine j_iload_n (pc := 13) dX8_enter_13 rfl ?_
      refine j_aload_n (pc := 14) dX8_enter_14 rfl ?_
      refine j_getf (pc := 15) dX8_enter_15 jfX8_63 H0 rfl ?_
      refine j_iconst (pc := 18) (v := 0) dX8_enter_18 (by decide) ?_
      refine j_ialdV (pc := 19) dX8_enter_19 H2 (jix_nI (q := 0) (by decide) (by decide)) hR ?_
      refine j_icmp_geN (a := i1) (b := R) (pc := 20) (tgt := 38) dX8_enter_20 (by decide) (by omega) (by omega) (fun c2 => ?_) (fun c2 => ?_)
      · exfalso; omega
      · refine j_lload_n (pc := 23) dX8_enter_23 rfl ?_
        refine j_aload_n (pc := 24) dX8_enter_24 rfl ?_
        refine j_getf (pc := 25) dX8_enter_25 jfX8_75 H0 rfl ?_
        refine j_iload_n (pc := 28) dX8_enter_28 rfl ?_
        refine j_lald (pc := 29) dX8_enter_29 H6 (jix_nI (by omega) (by decide)) ?_
        refine j_ladd (pc := 30) dX8_enter_30 ?_
        refine j_lstore_n (pc := 31) dX8_enter_31 (by decide) ?_
        refine j_iincN (a := i1) (d := 1) (pc := 32) dX8_enter_32 rfl (by decide) ?_
        refine j_goto (pc := 35) (tgt := 13) dX8_enter_35 (by decide) ?_
        exact j_sub rfl ih1
    · refine j_iload_n (pc := 13) dX8_enter_13 rfl ?_
      refine j_aload_n (pc := 14) dX8_enter_14 rfl ?_
      refine j_getf (pc := 15) dX8_enter_15 jfX8_63 H0 rfl ?_
      refine j_iconst (pc := 18) (v := 0) dX8_enter_18 (by decide) ?_
      refine j_ialdV (pc := 19) dX8_enter_19 H2 (jix_nI (q := 0) (by decide) (by decide)) hR ?_
      refine j_icmp_geN (a := R) (b := R) (pc := 20) (tgt := 38) dX8_enter_20 (by decide) (by omega) (by omega) (fun c3 => ?_) (fun c3 => ?_)
      · refine j_aload_n (pc := 38) dX8_enter_38 rfl ?_
        refine j_getf (pc := 39) dX8_enter_39 jfX8_63 H0 rfl ?_
        refine j_iconst (pc := 42) (v := 0) dX8_enter_42 (by decide) ?_
        refine j_ialdV (pc := 43) dX8_enter_43 H2 (jix_nI (q := 0) (by decide) (by decide)) hR ?_
        refine j_if_eqN (a := R) (pc := 44) (tgt := 62) dX8_enter_44 (by decide) (by omega) (fun c4 => ?_) (fun c4 => ?_)
        · refine j_iconst (pc := 62) (v := 0) dX8_enter_62 (by decide) ?_
          exact j_iret (pc := 63) dX8_enter_63 rfl rfl (Nat.le_of_ble_eq_true rfl) (Nat.le_of_ble_eq_true rfl) (K1 c1 c4)
        · refine j_lload_n (pc := 47) dX8_enter_47 rfl ?_
          refine j_lconst (pc := 48) (v := 0) dX8_enter_48 (by decide) ?_
          refine j_lc_ne (pc := 49) (tgt := 62) dX8_enter_49 dX8_enter_50 (by decide) (fun c5 => ?_) (fun c5 => ?_)
          · refine j_iconst (pc := 62) (v := 0) dX8_enter_62 (by decide) ?_
            exact j_iret (pc := 63) dX8_enter_63 rfl rfl (Nat.le_of_ble_eq_true rfl) (Nat.le_of_ble_eq_true rfl) (K2 c1 c4 c5)
          · refine j_aload_n (pc := 53) dX8_enter_53 rfl ?_
            refine j_getf (pc := 54) dX8_enter_54 jfX8_169 H0 rfl ?_
            refine j_bipush (pc := 57) (v := 60) dX8_enter_57 (by decide) ?_
            refine j_icmp_neN (a := E) (b := 60) (pc := 59) (tgt := 64) dX8_enter_59 (by decide) (by omega) (by omega) (fun c6 => ?_) (fun c6 => ?_)
            · refine j_aload_n (pc := 64) dX8_enter_64 rfl ?_
              refine j_iconst (pc := 65) (v := 0) dX8_enter_65 (by decide) ?_
              refine j_putf (pc := 66) dX8_enter_66 jfX8_160 H0 rfl rfl (Nat.le_of_ble_eq_true rfl) ?_
              show J l G mX8_enter _ _ 69 _ _ (j_set h 27 (mO sz at_ fr wd ps ts (nI E) 0 cl)) Q
              refine j_aload_n (pc := 69) dX8_enter_69 rfl ?_
              refine j_iconst (pc := 70) (v := 0) dX8_enter_70 (by decide) ?_
              refine j_aload_n (pc := 71) dX8_enter_71 rfl ?_
              refine j_getf (pc := 72) dX8_enter_72 jfX8_60 j_hs rfl ?_
              refine j_iconst (pc := 75) (v := 0) dX8_enter_75 (by decide) ?_
              refine j_iald (pc := 76) dX8_enter_76 (j_hn (by decide) H1) (jix_nI (q := 0) (by decide) (by decide)) ?_
              refine j_lconst (pc := 77) (v := 1) dX8_enter_77 (by decide) ?_
              refine j_V3 (rm' := rmX8_put) (pc := 78) dX8_enter_78 jlX8_176 j_hs rfl ⟨Nat.le_of_ble_eq_true rfl, Nat.le_of_ble_eq_true rfl, Nat.le_of_ble_eq_true rfl, Nat.le_of_ble_eq_true rfl, Nat.le_of_ble_eq_true rfl, Nat.le_of_ble_eq_true rfl⟩ ?_
              refine s_X8_put (o := 0) (E := E) j_hs (j_hn (by decide) H1) (j_hn (by decide) H2) (j_hn (by decide) H3) (j_hn (by decide) H4) (j_hn (by decide) H5) (j_hn (by decide) H6) (by omega) (by omega) hR hR8 ?_
              show J l G mX8_enter _ _ 81 _ [] (j_set (j_set (j_set (j_set (j_set (j_set (j_set (j_set h 27 (mO sz at_ fr wd ps ts (nI E) 0 cl)) 27 (mO sz at_ fr wd ps ts (nI (E + 1)) 0 cl)) 44 (jI 61 (va_up ey (E + 1) (ey 0)))) 45 (jI 61 (va_up er (E + 1) (er 0)))) 46 (jI 61 (va_up tk (E + 1) 0))) 47 (jI 61 (va_up tn (E + 1) 0))) 48 (jI 488 (j_fl ac (8 * (E + 1)) (fun k => ac (8 * 0 + k)) R))) 49 (jL 488 (j_fl am (8 * (E + 1)) (fun k => 1 * am (8 * 0 + k)) R))) Q
              rw [j_ss0 (a := 27)]
              refine j_aload_n (pc := 81) dX8_enter_81 rfl ?_
              refine j_getf (pc := 82) dX8_enter_82 jfX8_169 (j_hn (by decide) (j_hn (by decide) (j_hn (by decide) (j_hn (by decide) (j_hn (by decide) (j_hn (by decide) j_hs)))))) rfl ?_
              exact j_iret (pc := 85) dX8_enter_85 rfl rfl (Nat.le_of_ble_eq_true rfl) (Nat.le_of_ble_eq_true rfl) (K3 c1 c4 c5 c6)
            · refine j_iconst (pc := 62) (v := 0) dX8_enter_62 (by decide) ?_
              exact j_iret (pc := 63) dX8_enter_63 rfl rfl (Nat.le_of_ble_eq_true rfl) (Nat.le_of_ble_eq_true rfl) (K4 c1 c4 c5 c6)
      · exfalso; omega
  · refine j_iconst (pc := 7) (v := -1) dX8_enter_7 (by decide) ?_
    exact j_iret (pc := 8) dX8_enter_8 rfl rfl (Nat.le_of_ble_eq_true rfl) (Nat.le_of_ble_eq_true rfl) (K5 c1)

set_option maxRecDepth 20000 in
theorem s_X8_correct {l : Launch} {G : jG} {h : jH} {Q : Option Value → jH → Prop} {at_ d0 fr n0 op ps sz ts wd : Int32} {E C : Nat} {ey : Nat → Int32} {er : Nat → Int32} {tk : Nat → Int32} {tn : Nat → Int32} {ac : Nat → Int32} {am : Nat → Int64} {rr : Nat → Nat}  (H0 : h.2 27 = some (mO sz at_ fr wd ps ts (nI E) op (nI C))) (H1 : h.2 44 = some (jI 61 ey)) (H2 : h.2 45 = some (jI 61 er)) (H3 : h.2 46 = some (jI 61 tk)) (H4 : h.2 47 = some (jI 61 tn)) (H5 : h.2 48 = some (jI 488 ac)) (H6 : h.2 49 = some (jL 488 am)) (hE : E ≤ 60) (hrr : ∀ e, e < E → er (e + 1) = nI (rr e) ∧ rr e ≤ 8) (K1 : n0.toInt64 < 1 → Q (some (.int (-1))) h) (K2 : ¬ (n0.toInt64 < 1) → ((nI E).toInt64) < n0.toInt64 → Q (some (.int (-1))) h) (K3 : ¬ (n0.toInt64 < 1) → ¬ (((nI E).toInt64) < n0.toInt64) → ∀ e : Nat, n0 = nI (e + 1) → e < E → (nI C) ≤ ((ey (e + 1)) / 30) → Q (some (.int (-1))) h) (K4 : ¬ (n0.toInt64 < 1) → ¬ (((nI E).toInt64) < n0.toInt64) → ∀ e : Nat, n0 = nI (e + 1) → e < E → ¬ ((nI C) ≤ ((ey (e + 1)) / 30)) → 0 < (tk (e + 1)) → Q (some (.int (-1))) h) (K5 : ¬ (n0.toInt64 < 1) → ¬ (((nI E).toInt64) < n0.toInt64) → ∀ e : Nat, n0 = nI (e + 1) → e < E → ¬ ((nI C) ≤ ((ey (e + 1)) / 30)) → ¬ (0 < (tk (e + 1))) → (tn (e + 1)) ≤ 0 → d0.toInt64 < 0 → Q (some (.int (-1))) h) (K6 : ¬ (n0.toInt64 < 1) → ¬ (((nI E).toInt64) < n0.toInt64) → ∀ e : Nat, n0 = nI (e + 1) → e < E → ¬ ((nI C) ≤ ((ey (e + 1)) / 30)) → ¬ (0 < (tk (e + 1))) → (tn (e + 1)) ≤ 0 → ¬ (d0.toInt64 < 0) → 3599 < d0.toInt64 → Q (some (.int (-1))) h) (K7 : ¬ (n0.toInt64 < 1) → ¬ (((nI E).toInt64) < n0.toInt64) → ∀ e : Nat, n0 = nI (e + 1) → e < E → ¬ ((nI C) ≤ ((ey (e + 1)) / 30)) → ¬ (0 < (tk (e + 1))) → (tn (e + 1)) ≤ 0 → ¬ (d0.toInt64 < 0) → ¬ (3599 < d0.toInt64) → (d0 / 30) < (nI C) → Q (some (.int (-1))) h) (K8 : ¬ (n0.toInt64 < 1) → ¬ (((nI E).toInt64) < n0.toInt64) → ∀ e : Nat, n0 = nI (e + 1) → e < E → ¬ ((nI C) ≤ ((ey (e + 1)) / 30)) → ¬ (0 < (tk (e + 1))) → (tn (e + 1)) ≤ 0 → ¬ (d0.toInt64 < 0) → ¬ (3599 < d0.toInt64) → ¬ ((d0 / 30) < (nI C)) → ¬ E = 60 → Q (some (.int (nI (E + 1)))) (j_set (j_set (j_set (j_set (j_set (j_set (j_set h 27 (mO sz at_ fr wd ps ts (nI (E + 1)) op (nI C))) 44 (jI 61 (va_up ey (E + 1) d0))) 45 (jI 61 (va_up er (E + 1) (er (e + 1))))) 46 (jI 61 (va_up (va_up tk (E + 1) 0) (E + 1) (nI (e + 1))))) 47 (jI 61 (va_up (va_up tn (E + 1) 0) (e + 1) (nI (E + 1))))) 48 (jI 488 (j_fl ac (8 * (E + 1)) (fun k => ac (8 * (e + 1) + k)) (rr e)))) 49 (jL 488 (j_fl am (8 * (E + 1)) (fun k => (-1) * am (8 * (e + 1) + k)) (rr e))))) (K9 : ¬ (n0.toInt64 < 1) → ¬ (((nI E).toInt64) < n0.toInt64) → ∀ e : Nat, n0 = nI (e + 1) → e < E → ¬ ((nI C) ≤ ((ey (e + 1)) / 30)) → ¬ (0 < (tk (e + 1))) → (tn (e + 1)) ≤ 0 → ¬ (d0.toInt64 < 0) → ¬ (3599 < d0.toInt64) → ¬ ((d0 / 30) < (nI C)) → E = 60 → Q (some (.int (-1))) h) (K10 : ¬ (n0.toInt64 < 1) → ¬ (((nI E).toInt64) < n0.toInt64) → ∀ e : Nat, n0 = nI (e + 1) → e < E → ¬ ((nI C) ≤ ((ey (e + 1)) / 30)) → ¬ (0 < (tk (e + 1))) → ¬ ((tn (e + 1)) ≤ 0) → Q (some (.int (-1))) h) : J l G mX8_correct 0 0 0 (lv_args 0 [.ref 27, .int n0, .int d0]) [] h Q := by
  refine j_iload_n (pc := 0) dX8_correct_0 rfl ?_
  refine j_i2l (pc := 1) dX8_correct_1 ?_
  refine j_lconst (pc := 2) (v := 1) dX8_correct_2 (by decide) ?_
  refine j_aload_n (pc := 3) dX8_correct_3 rfl ?_
  refine j_getf (pc := 4) dX8_correct_4 jfX8_169 H0 rfl ?_
  refine j_i2l (pc := 7) dX8_correct_7 ?_
  refine j_S3 (rm' := rmX8_within) (pc := 8) dX8_correct_8 jlX8_80 ⟨Nat.le_of_ble_eq_true rfl, Nat.le_of_ble_eq_true rfl, Nat.le_of_ble_eq_true rfl, Nat.le_of_ble_eq_true rfl, Nat.le_of_ble_eq_true rfl, Nat.le_of_ble_eq_true rfl⟩ ?_
  refine s_X8_within  (fun c1 => ?_) (fun c2 c3 => ?_) (fun c4 c5 => ?_)
  · show J l G mX8_correct _ _ 11 _ [.int 0] h Q
    refine j_if_eq (pc := 11) (tgt := 48) dX8_correct_11 (by decide) (fun c6 => ?_) (fun c6 => ?_)
    · refine j_iconst (pc := 48) (v := -1) dX8_correct_48 (by decide) ?_
      exact j_iret (pc := 49) dX8_correct_49 rfl rfl (Nat.le_of_ble_eq_true rfl) (Nat.le_of_ble_eq_true rfl) (K1 c1)
    · exact absurd c6 (by decide)
  · show J l G mX8_correct _ _ 11 _ [.int 0] h Q
    refine j_if_eq (pc := 11) (tgt := 48) dX8_correct_11 (by decide) (fun c7 => ?_) (fun c7 => ?_)
    · refine j_iconst (pc := 48) (v := -1) dX8_correct_48 (by decide) ?_
      exact j_iret (pc := 49) dX8_correct_49 rfl rfl (Nat.le_of_ble_eq_true rfl) (Nat.le_of_ble_eq_true rfl) (K2 c2 c3)
    · exact absurd c7 (by decide)
  · show J l G mX8_correct _ _ 11 _ [.int 1] h Q
    refine j_if_eq (pc := 11) (tgt := 48) dX8_correct_11 (by decide) (fun c8 => ?_) (fun c8 => ?_)
    · exact absurd c8 (by decide)
    · obtain ⟨e, he, rfl⟩ : ∃ e : Nat, e < E ∧ n0 = nI (e + 1) := jn_we c4 c5 (by omega)
      refine j_aload_n (pc := 14) dX8_correct_14 rfl ?_
      refine j_getf (pc := 15) dX8_correct_15 jfX8_60 H0 rfl ?_
      refine j_iload_n (pc := 18) dX8_correct_18 rfl ?_
      refine j_iald (pc := 19) dX8_correct_19 H1 (jix_nI (by omega) (by decide)) ?_
      refine j_bipush (pc := 20) (v := 30) dX8_correct_20 (by decide) ?_
      refine j_idiv (pc := 22) dX8_correct_22 (by decide) ?_
      refine j_aload_n (pc := 23) dX8_correct_23 rfl ?_
      refine j_getf (pc := 24) dX8_correct_24 jfX8_166 H0 rfl ?_
      refine j_icmp_ge (pc := 27) (tgt := 48) dX8_correct_27 (by decide) (fun c9 => ?_) (fun c9 => ?_)
      · refine j_iconst (pc := 48) (v := -1) dX8_correct_48 (by decide) ?_
        exact j_iret (pc := 49) dX8_correct_49 rfl rfl (Nat.le_of_ble_eq_true rfl) (Nat.le_of_ble_eq_true rfl) (K3 c4 c5 e rfl he c9)
      · refine j_aload_n (pc := 30) dX8_correct_30 rfl ?_
        refine j_getf (pc := 31) dX8_correct_31 jfX8_66 H0 rfl ?_
        refine j_iload_n (pc := 34) dX8_correct_34 rfl ?_
        refine j_iald (pc := 35) dX8_correct_35 H3 (jix_nI (by omega) (by decide)) ?_
        refine j_if_gt (pc := 36) (tgt := 48) dX8_correct_36 (by decide) (fun c10 => ?_) (fun c10 => ?_)
        · refine j_iconst (pc := 48) (v := -1) dX8_correct_48 (by decide) ?_
          exact j_iret (pc := 49) dX8_correct_49 rfl rfl (Nat.le_of_ble_eq_true rfl) (Nat.le_of_ble_eq_true rfl) (K4 c4 c5 e rfl he c9 c10)
        · refine j_aload_n (pc := 39) dX8_correct_39 rfl ?_
          refine j_getf (pc := 40) dX8_correct_40 jfX8_69 H0 rfl ?_
          refine j_iload_n (pc := 43) dX8_correct_43 rfl ?_
          refine j_iald (pc := 44) dX8_correct_44 H4 (jix_nI (by omega) (by decide)) ?_
          refine j_if_le (pc := 45) (tgt := 50) dX8_correct_45 (by decide) (fun c11 => ?_) (fun c11 => ?_)
          · refine j_iload_n (pc := 50) dX8_correct_50 rfl ?_
            refine j_i2l (pc := 51) dX8_correct_51 ?_
            refine j_lconst (pc := 52) (v := 0) dX8_correct_52 (by decide) ?_
            refine j_ldc2 (pc := 53) dX8_correct_53 jnX8_164 ?_
            refine j_S3 (rm' := rmX8_within) (pc := 56) dX8_correct_56 jlX8_80 ⟨Nat.le_of_ble_eq_true rfl, Nat.le_of_ble_eq_true rfl, Nat.le_of_ble_eq_true rfl, Nat.le_of_ble_eq_true rfl, Nat.le_of_ble_eq_true rfl, Nat.le_of_ble_eq_true rfl⟩ ?_
            refine s_X8_within  (fun c12 => ?_) (fun c13 c14 => ?_) (fun c15 c16 => ?_)
            · show J l G mX8_correct _ _ 59 _ [.int 0] h Q
              refine j_if_eq (pc := 59) (tgt := 82) dX8_correct_59 (by decide) (fun c17 => ?_) (fun c17 => ?_)
              · refine j_iconst (pc := 82) (v := -1) dX8_correct_82 (by decide) ?_
                exact j_iret (pc := 83) dX8_correct_83 rfl rfl (Nat.le_of_ble_eq_true rfl) (Nat.le_of_ble_eq_true rfl) (K5 c4 c5 e rfl he c9 c10 c11 c12)
              · exact absurd c17 (by decide)
            · show J l G mX8_correct _ _ 59 _ [.int 0] h Q
              refine j_if_eq (pc := 59) (tgt := 82) dX8_correct_59 (by decide) (fun c18 => ?_) (fun c18 => ?_)
              · refine j_iconst (pc := 82) (v := -1) dX8_correct_82 (by decide) ?_
                exact j_iret (pc := 83) dX8_correct_83 rfl rfl (Nat.le_of_ble_eq_true rfl) (Nat.le_of_ble_eq_true rfl) (K6 c4 c5 e rfl he c9 c10 c11 c13 c14)
              · exact absurd c18 (by decide)
            · show J l G mX8_correct _ _ 59 _ [.int 1] h Q
              refine j_if_eq (pc := 59) (tgt := 82) dX8_correct_59 (by decide) (fun c19 => ?_) (fun c19 => ?_)
              · exact absurd c19 (by decide)
              · refine j_iload_n (pc := 62) dX8_correct_62 rfl ?_
                refine j_bipush (pc := 63) (v := 30) dX8_correct_63 (by decide) ?_
                refine j_idiv (pc := 65) dX8_correct_65 (by decide) ?_
                refine j_aload_n (pc := 66) dX8_correct_66 rfl ?_
                refine j_getf (pc := 67) dX8_correct_67 jfX8_166 H0 rfl ?_
                refine j_icmp_lt (pc := 70) (tgt := 82) dX8_correct_70 (by decide) (fun c20 => ?_) (fun c20 => ?_)
                · refine j_iconst (pc := 82) (v := -1) dX8_correct_82 (by decide) ?_
                  exact j_iret (pc := 83) dX8_correct_83 rfl rfl (Nat.le_of_ble_eq_true rfl) (Nat.le_of_ble_eq_true rfl) (K7 c4 c5 e rfl he c9 c10 c11 c15 c16 c20)
                · refine j_aload_n (pc := 73) dX8_correct_73 rfl ?_
                  refine j_getf (pc := 74) dX8_correct_74 jfX8_169 H0 rfl ?_
                  refine j_bipush (pc := 77) (v := 60) dX8_correct_77 (by decide) ?_
                  refine j_icmp_neN (a := E) (b := 60) (pc := 79) (tgt := 84) dX8_correct_79 (by decide) (by omega) (by omega) (fun c21 => ?_) (fun c21 => ?_)
                  · refine j_aload_n (pc := 84) dX8_correct_84 rfl ?_
                    refine j_iload_n (pc := 85) dX8_correct_85 rfl ?_
                    refine j_iload_n (pc := 86) dX8_correct_86 rfl ?_
                    refine j_ldc2 (pc := 87) dX8_correct_87 jnX8_146 ?_
                    refine j_V3 (rm' := rmX8_put) (pc := 90) dX8_correct_90 jlX8_176 H0 rfl ⟨Nat.le_of_ble_eq_true rfl, Nat.le_of_ble_eq_true rfl, Nat.le_of_ble_eq_true rfl, Nat.le_of_ble_eq_true rfl, Nat.le_of_ble_eq_true rfl, Nat.le_of_ble_eq_true rfl⟩ ?_
                    refine s_X8_put (o := (e + 1)) (E := E) (R := (rr e)) H0 H1 H2 H3 H4 H5 H6 (by omega) (by omega) (hrr e he).1 (hrr e he).2 ?_
                    show J l G mX8_correct _ _ 93 _ [] (j_set (j_set (j_set (j_set (j_set (j_set (j_set h 27 (mO sz at_ fr wd ps ts (nI (E + 1)) op (nI C))) 44 (jI 61 (va_up ey (E + 1) d0))) 45 (jI 61 (va_up er (E + 1) (er (e + 1))))) 46 (jI 61 (va_up tk (E + 1) 0))) 47 (jI 61 (va_up tn (E + 1) 0))) 48 (jI 488 (j_fl ac (8 * (E + 1)) (fun k => ac (8 * (e + 1) + k)) (rr e)))) 49 (jL 488 (j_fl am (8 * (E + 1)) (fun k => (-1) * am (8 * (e + 1) + k)) (rr e)))) Q
                    refine j_aload_n (pc := 93) dX8_correct_93 rfl ?_
                    refine j_getf (pc := 94) dX8_correct_94 jfX8_66 (j_hn (by decide) (j_hn (by decide) (j_hn (by decide) (j_hn (by decide) (j_hn (by decide) (j_hn (by decide) j_hs)))))) rfl ?_
                    refine j_aload_n (pc := 97) dX8_correct_97 rfl ?_
                    refine j_getf (pc := 98) dX8_correct_98 jfX8_169 (j_hn (by decide) (j_hn (by decide) (j_hn (by decide) (j_hn (by decide) (j_hn (by decide) (j_hn (by decide) j_hs)))))) rfl ?_
                    refine j_iload_n (pc := 101) dX8_correct_101 rfl ?_
                    refine j_iast (pc := 102) dX8_correct_102 (j_hn (by decide) (j_hn (by decide) (j_hn (by decide) j_hs))) (jix_nI (by omega) (by decide)) ?_
                    rw [j_ss3 (a := 46) (b0 := 47) (b1 := 48) (b2 := 49) (by decide) (by decide) (by decide)]
                    refine j_aload_n (pc := 103) dX8_correct_103 rfl ?_
                    refine j_getf (pc := 104) dX8_correct_104 jfX8_69 (j_hn (by decide) (j_hn (by decide) (j_hn (by decide) (j_hn (by decide) (j_hn (by decide) (j_hn (by decide) j_hs)))))) rfl ?_
                    refine j_iload_n (pc := 107) dX8_correct_107 rfl ?_
                    refine j_aload_n (pc := 108) dX8_correct_108 rfl ?_
                    refine j_getf (pc := 109) dX8_correct_109 jfX8_169 (j_hn (by decide) (j_hn (by decide) (j_hn (by decide) (j_hn (by decide) (j_hn (by decide) (j_hn (by decide) j_hs)))))) rfl ?_
                    refine j_iast (pc := 112) dX8_correct_112 (j_hn (by decide) (j_hn (by decide) j_hs)) (jix_nI (by omega) (by decide)) ?_
                    rw [j_ss2 (a := 47) (b0 := 48) (b1 := 49) (by decide) (by decide)]
                    refine j_aload_n (pc := 113) dX8_correct_113 rfl ?_
                    refine j_getf (pc := 114) dX8_correct_114 jfX8_169 (j_hn (by decide) (j_hn (by decide) (j_hn (by decide) (j_hn (by decide) (j_hn (by decide) (j_hn (by decide) j_hs)))))) rfl ?_
                    exact j_iret (pc := 117) dX8_correct_117 rfl rfl (Nat.le_of_ble_eq_true rfl) (Nat.le_of_ble_eq_true rfl) (K8 c4 c5 e rfl he c9 c10 c11 c15 c16 c20 c21)
                  · refine j_iconst (pc := 82) (v := -1) dX8_correct_82 (by decide) ?_
                    exact j_iret (pc := 83) dX8_correct_83 rfl rfl (Nat.le_of_ble_eq_true rfl) (Nat.le_of_ble_eq_true rfl) (K9 c4 c5 e rfl he c9 c10 c11 c15 c16 c20 c21)
          · refine j_iconst (pc := 48) (v := -1) dX8_correct_48 (by decide) ?_
            exact j_iret (pc := 49) dX8_correct_49 rfl rfl (Nat.le_of_ble_eq_true rfl) (Nat.le_of_ble_eq_true rfl) (K10 c4 c5 e rfl he c9 c10 c11)

set_option maxRecDepth 20000 in
theorem s_X8_entry {l : Launch} {G : jG} {h : jH} {Q : Option Value → jH → Prop} {at_ cl fr n0 op ps r0 sz ts w0 wd : Int32} {E : Nat} {ey : Nat → Int32} {er : Nat → Int32} {tk : Nat → Int32} {tn : Nat → Int32} {ac : Nat → Int32} {am : Nat → Int64} {rr : Nat → Nat}  (H0 : h.2 27 = some (mO sz at_ fr wd ps ts (nI E) op cl)) (H1 : h.2 44 = some (jI 61 ey)) (H2 : h.2 45 = some (jI 61 er)) (H3 : h.2 46 = some (jI 61 tk)) (H4 : h.2 47 = some (jI 61 tn)) (H5 : h.2 48 = some (jI 488 ac)) (H6 : h.2 49 = some (jL 488 am)) (hE : E ≤ 60) (hrr : ∀ e, e < E → er (e + 1) = nI (rr e) ∧ rr e ≤ 8) (K1 : n0.toInt64 < 1 → Q (some (.long (-9223372036854775808))) h) (K2 : ¬ (n0.toInt64 < 1) → ((nI E).toInt64) < n0.toInt64 → Q (some (.long (-9223372036854775808))) h) (K3 : ¬ (n0.toInt64 < 1) → ¬ (((nI E).toInt64) < n0.toInt64) → ∀ e : Nat, n0 = nI (e + 1) → e < E → ¬ r0 = (-1) → r0 < 0 → Q (some (.long (-9223372036854775808))) h) (K4 : ¬ (n0.toInt64 < 1) → ¬ (((nI E).toInt64) < n0.toInt64) → ∀ e : Nat, n0 = nI (e + 1) → e < E → ¬ r0 = (-1) → ¬ (r0 < 0) → r0 < (nI (rr e)) → ∀ q : Nat, r0 = nI q → q < rr e → ¬ w0 = 0 → ¬ w0 = 1 → Q (some (.long (-9223372036854775808))) h) (K5 : ¬ (n0.toInt64 < 1) → ¬ (((nI E).toInt64) < n0.toInt64) → ∀ e : Nat, n0 = nI (e + 1) → e < E → ¬ r0 = (-1) → ¬ (r0 < 0) → r0 < (nI (rr e)) → ∀ q : Nat, r0 = nI q → q < rr e → ¬ w0 = 0 → w0 = 1 → Q (some (.long (am ((8 * (e + 1)) + q)))) h) (K6 : ¬ (n0.toInt64 < 1) → ¬ (((nI E).toInt64) < n0.toInt64) → ∀ e : Nat, n0 = nI (e + 1) → e < E → ¬ r0 = (-1) → ¬ (r0 < 0) → r0 < (nI (rr e)) → ∀ q : Nat, r0 = nI q → q < rr e → w0 = 0 → Q (some (.long ((ac ((8 * (e + 1)) + q)).toInt64))) h) (K7 : ¬ (n0.toInt64 < 1) → ¬ (((nI E).toInt64) < n0.toInt64) → ∀ e : Nat, n0 = nI (e + 1) → e < E → ¬ r0 = (-1) → ¬ (r0 < 0) → ¬ (r0 < (nI (rr e))) → Q (some (.long (-9223372036854775808))) h) (K8 : ¬ (n0.toInt64 < 1) → ¬ (((nI E).toInt64) < n0.toInt64) → ∀ e : Nat, n0 = nI (e + 1) → e < E → r0 = (-1) → ¬ w0 = 0 → ¬ w0 = 1 → ¬ w0 = 2 → ¬ w0 = 3 → Q (some (.long (-9223372036854775808))) h) (K9 : ¬ (n0.toInt64 < 1) → ¬ (((nI E).toInt64) < n0.toInt64) → ∀ e : Nat, n0 = nI (e + 1) → e < E → r0 = (-1) → ¬ w0 = 0 → ¬ w0 = 1 → ¬ w0 = 2 → w0 = 3 → Q (some (.long ((tn (e + 1)).toInt64))) h) (K10 : ¬ (n0.toInt64 < 1) → ¬ (((nI E).toInt64) < n0.toInt64) → ∀ e : Nat, n0 = nI (e + 1) → e < E → r0 = (-1) → ¬ w0 = 0 → ¬ w0 = 1 → w0 = 2 → Q (some (.long ((tk (e + 1)).toInt64))) h) (K11 : ¬ (n0.toInt64 < 1) → ¬ (((nI E).toInt64) < n0.toInt64) → ∀ e : Nat, n0 = nI (e + 1) → e < E → r0 = (-1) → ¬ w0 = 0 → w0 = 1 → Q (some (.long ((er (e + 1)).toInt64))) h) (K12 : ¬ (n0.toInt64 < 1) → ¬ (((nI E).toInt64) < n0.toInt64) → ∀ e : Nat, n0 = nI (e + 1) → e < E → r0 = (-1) → w0 = 0 → Q (some (.long ((ey (e + 1)).toInt64))) h) : J l G mX8_entry 0 0 0 (lv_args 0 [.ref 27, .int n0, .int r0, .int w0]) [] h Q := by
  refine j_iload_n (pc := 0) dX8_entry_0 rfl ?_
  refine j_i2l (pc := 1) dX8_entry_1 ?_
  refine j_lconst (pc := 2) (v := 1) dX8_entry_2 (by decide) ?_
  refine j_aload_n (pc := 3) dX8_entry_3 rfl ?_
  refine j_getf (pc := 4) dX8_entry_4 jfX8_169 H0 rfl ?_
  refine j_i2l (pc := 7) dX8_entry_7 ?_
  refine j_S3 (rm' := rmX8_within) (pc := 8) dX8_entry_8 jlX8_80 ⟨Nat.le_of_ble_eq_true rfl, Nat.le_of_ble_eq_true rfl, Nat.le_of_ble_eq_true rfl, Nat.le_of_ble_eq_true rfl, Nat.le_of_ble_eq_true rfl, Nat.le_of_ble_eq_true rfl⟩ ?_
  refine s_X8_within  (fun c1 => ?_) (fun c2 c3 => ?_) (fun c4 c5 => ?_)
  · show J l G mX8_entry _ _ 11 _ [.int 0] h Q
    refine j_if_ne (pc := 11) (tgt := 18) dX8_entry_11 (by decide) (fun c6 => ?_) (fun c6 => ?_)
    · exact absurd c6 (by decide)
    · refine j_ldc2 (pc := 14) dX8_entry_14 jnX8_158 ?_
      exact j_lret (pc := 17) dX8_entry_17 rfl (Nat.le_of_ble_eq_true rfl) (Nat.le_of_ble_eq_true rfl) (K1 c1)
  · show J l G mX8_entry _ _ 11 _ [.int 0] h Q
    refine j_if_ne (pc := 11) (tgt := 18) dX8_entry_11 (by decide) (fun c7 => ?_) (fun c7 => ?_)
    · exact absurd c7 (by decide)
    · refine j_ldc2 (pc := 14) dX8_entry_14 jnX8_158 ?_
      exact j_lret (pc := 17) dX8_entry_17 rfl (Nat.le_of_ble_eq_true rfl) (Nat.le_of_ble_eq_true rfl) (K2 c2 c3)
  · show J l G mX8_entry _ _ 11 _ [.int 1] h Q
    refine j_if_ne (pc := 11) (tgt := 18) dX8_entry_11 (by decide) (fun c8 => ?_) (fun c8 => ?_)
    · obtain ⟨e, he, rfl⟩ : ∃ e : Nat, e < E ∧ n0 = nI (e + 1) := jn_we c4 c5 (by omega)
      have hr8 := (hrr e he).2
      refine j_iload_n (pc := 18) dX8_entry_18 rfl ?_
      refine j_iconst (pc := 19) (v := -1) dX8_entry_19 (by decide) ?_
      refine j_icmp_ne (pc := 20) (tgt := 86) dX8_entry_20 (by decide) (fun c9 => ?_) (fun c9 => ?_)
      · refine j_iload_n (pc := 86) dX8_entry_86 rfl ?_
        refine j_if_lt (pc := 87) (tgt := 100) dX8_entry_87 (by decide) (fun c10 => ?_) (fun c10 => ?_)
        · refine j_ldc2 (pc := 100) dX8_entry_100 jnX8_158 ?_
          exact j_lret (pc := 103) dX8_entry_103 rfl (Nat.le_of_ble_eq_true rfl) (Nat.le_of_ble_eq_true rfl) (K3 c4 c5 e rfl he c9 c10)
        · refine j_iload_n (pc := 90) dX8_entry_90 rfl ?_
          refine j_aload_n (pc := 91) dX8_entry_91 rfl ?_
          refine j_getf (pc := 92) dX8_entry_92 jfX8_63 H0 rfl ?_
          refine j_iload_n (pc := 95) dX8_entry_95 rfl ?_
          refine j_ialdV (pc := 96) dX8_entry_96 H2 (jix_nI (by omega) (by decide)) (hrr e he).1 ?_
          refine j_icmp_lt (pc := 97) (tgt := 104) dX8_entry_97 (by decide) (fun c11 => ?_) (fun c11 => ?_)
          · obtain ⟨q, hq, rfl⟩ : ∃ q : Nat, q < rr e ∧ r0 = nI q := jn_lt c10 c11 (jn_P (by omega))
            refine j_iload_n (pc := 104) dX8_entry_104 rfl ?_
            refine j_if_ne (pc := 105) (tgt := 123) dX8_entry_105 (by decide) (fun c12 => ?_) (fun c12 => ?_)
            · refine j_iload_n (pc := 123) dX8_entry_123 rfl ?_
              refine j_iconst (pc := 124) (v := 1) dX8_entry_124 (by decide) ?_
              refine j_icmp_ne (pc := 125) (tgt := 142) dX8_entry_125 (by decide) (fun c13 => ?_) (fun c13 => ?_)
              · refine j_ldc2 (pc := 142) dX8_entry_142 jnX8_158 ?_
                exact j_lret (pc := 145) dX8_entry_145 rfl (Nat.le_of_ble_eq_true rfl) (Nat.le_of_ble_eq_true rfl) (K4 c4 c5 e rfl he c9 c10 c11 q rfl hq c12 c13)
              · refine j_aload_n (pc := 128) dX8_entry_128 rfl ?_
                refine j_getf (pc := 129) dX8_entry_129 jfX8_75 H0 rfl ?_
                refine j_bipush (pc := 132) (v := 8) dX8_entry_132 (by decide) ?_
                refine j_iload_n (pc := 134) dX8_entry_134 rfl ?_
                refine j_imulN (a := 8) (b := e + 1) (pc := 135) dX8_entry_135 ?_
                refine j_iload_n (pc := 136) dX8_entry_136 rfl ?_
                refine j_iaddN (a := 8 * (e + 1)) (b := q) (pc := 137) dX8_entry_137 ?_
                refine j_lald (pc := 138) dX8_entry_138 H6 (jix_nI (by omega) (by decide)) ?_
                refine j_goto (pc := 139) (tgt := 145) dX8_entry_139 (by decide) ?_
                exact j_lret (pc := 145) dX8_entry_145 rfl (Nat.le_of_ble_eq_true rfl) (Nat.le_of_ble_eq_true rfl) (K5 c4 c5 e rfl he c9 c10 c11 q rfl hq c12 c13)
            · refine j_aload_n (pc := 108) dX8_entry_108 rfl ?_
              refine j_getf (pc := 109) dX8_entry_109 jfX8_72 H0 rfl ?_
              refine j_bipush (pc := 112) (v := 8) dX8_entry_112 (by decide) ?_
              refine j_iload_n (pc := 114) dX8_entry_114 rfl ?_
              refine j_imulN (a := 8) (b := e + 1) (pc := 115) dX8_entry_115 ?_
              refine j_iload_n (pc := 116) dX8_entry_116 rfl ?_
              refine j_iaddN (a := 8 * (e + 1)) (b := q) (pc := 117) dX8_entry_117 ?_
              refine j_iald (pc := 118) dX8_entry_118 H5 (jix_nI (by omega) (by decide)) ?_
              refine j_i2l (pc := 119) dX8_entry_119 ?_
              refine j_goto (pc := 120) (tgt := 145) dX8_entry_120 (by decide) ?_
              exact j_lret (pc := 145) dX8_entry_145 rfl (Nat.le_of_ble_eq_true rfl) (Nat.le_of_ble_eq_true rfl) (K6 c4 c5 e rfl he c9 c10 c11 q rfl hq c12)
          · refine j_ldc2 (pc := 100) dX8_entry_100 jnX8_158 ?_
            exact j_lret (pc := 103) dX8_entry_103 rfl (Nat.le_of_ble_eq_true rfl) (Nat.le_of_ble_eq_true rfl) (K7 c4 c5 e rfl he c9 c10 c11)
      · refine j_iload_n (pc := 23) dX8_entry_23 rfl ?_
        refine j_if_ne (pc := 24) (tgt := 37) dX8_entry_24 (by decide) (fun c14 => ?_) (fun c14 => ?_)
        · refine j_iload_n (pc := 37) dX8_entry_37 rfl ?_
          refine j_iconst (pc := 38) (v := 1) dX8_entry_38 (by decide) ?_
          refine j_icmp_ne (pc := 39) (tgt := 52) dX8_entry_39 (by decide) (fun c15 => ?_) (fun c15 => ?_)
          · refine j_iload_n (pc := 52) dX8_entry_52 rfl ?_
            refine j_iconst (pc := 53) (v := 2) dX8_entry_53 (by decide) ?_
            refine j_icmp_ne (pc := 54) (tgt := 67) dX8_entry_54 (by decide) (fun c16 => ?_) (fun c16 => ?_)
            · refine j_iload_n (pc := 67) dX8_entry_67 rfl ?_
              refine j_iconst (pc := 68) (v := 3) dX8_entry_68 (by decide) ?_
              refine j_icmp_ne (pc := 69) (tgt := 82) dX8_entry_69 (by decide) (fun c17 => ?_) (fun c17 => ?_)
              · refine j_ldc2 (pc := 82) dX8_entry_82 jnX8_158 ?_
                exact j_lret (pc := 85) dX8_entry_85 rfl (Nat.le_of_ble_eq_true rfl) (Nat.le_of_ble_eq_true rfl) (K8 c4 c5 e rfl he c9 c14 c15 c16 c17)
              · refine j_aload_n (pc := 72) dX8_entry_72 rfl ?_
                refine j_getf (pc := 73) dX8_entry_73 jfX8_69 H0 rfl ?_
                refine j_iload_n (pc := 76) dX8_entry_76 rfl ?_
                refine j_iald (pc := 77) dX8_entry_77 H4 (jix_nI (by omega) (by decide)) ?_
                refine j_i2l (pc := 78) dX8_entry_78 ?_
                refine j_goto (pc := 79) (tgt := 85) dX8_entry_79 (by decide) ?_
                exact j_lret (pc := 85) dX8_entry_85 rfl (Nat.le_of_ble_eq_true rfl) (Nat.le_of_ble_eq_true rfl) (K9 c4 c5 e rfl he c9 c14 c15 c16 c17)
            · refine j_aload_n (pc := 57) dX8_entry_57 rfl ?_
              refine j_getf (pc := 58) dX8_entry_58 jfX8_66 H0 rfl ?_
              refine j_iload_n (pc := 61) dX8_entry_61 rfl ?_
              refine j_iald (pc := 62) dX8_entry_62 H3 (jix_nI (by omega) (by decide)) ?_
              refine j_i2l (pc := 63) dX8_entry_63 ?_
              refine j_goto (pc := 64) (tgt := 85) dX8_entry_64 (by decide) ?_
              exact j_lret (pc := 85) dX8_entry_85 rfl (Nat.le_of_ble_eq_true rfl) (Nat.le_of_ble_eq_true rfl) (K10 c4 c5 e rfl he c9 c14 c15 c16)
          · refine j_aload_n (pc := 42) dX8_entry_42 rfl ?_
            refine j_getf (pc := 43) dX8_entry_43 jfX8_63 H0 rfl ?_
            refine j_iload_n (pc := 46) dX8_entry_46 rfl ?_
            refine j_iald (pc := 47) dX8_entry_47 H2 (jix_nI (by omega) (by decide)) ?_
            refine j_i2l (pc := 48) dX8_entry_48 ?_
            refine j_goto (pc := 49) (tgt := 85) dX8_entry_49 (by decide) ?_
            exact j_lret (pc := 85) dX8_entry_85 rfl (Nat.le_of_ble_eq_true rfl) (Nat.le_of_ble_eq_true rfl) (K11 c4 c5 e rfl he c9 c14 c15)
        · refine j_aload_n (pc := 27) dX8_entry_27 rfl ?_
          refine j_getf (pc := 28) dX8_entry_28 jfX8_60 H0 rfl ?_
          refine j_iload_n (pc := 31) dX8_entry_31 rfl ?_
          refine j_iald (pc := 32) dX8_entry_32 H1 (jix_nI (by omega) (by decide)) ?_
          refine j_i2l (pc := 33) dX8_entry_33 ?_
          refine j_goto (pc := 34) (tgt := 85) dX8_entry_34 (by decide) ?_
          exact j_lret (pc := 85) dX8_entry_85 rfl (Nat.le_of_ble_eq_true rfl) (Nat.le_of_ble_eq_true rfl) (K12 c4 c5 e rfl he c9 c14)
    · exact absurd c8 (by decide)

set_option maxRecDepth 20000 in
theorem s_X8_balance {l : Launch} {G : jG} {h : jH} {Q : Option Value → jH → Prop} {a0 at_ cl fr m0 op ps sz ts wd : Int32} {E : Nat} {ey : Nat → Int32} {er : Nat → Int32} {tk : Nat → Int32} {tn : Nat → Int32} {ac : Nat → Int32} {am : Nat → Int64} {rr : Nat → Nat}  (H0 : h.2 27 = some (mO sz at_ fr wd ps ts (nI E) op cl)) (H1 : h.2 44 = some (jI 61 ey)) (H2 : h.2 45 = some (jI 61 er)) (H3 : h.2 46 = some (jI 61 tk)) (H4 : h.2 47 = some (jI 61 tn)) (H5 : h.2 48 = some (jI 488 ac)) (H6 : h.2 49 = some (jL 488 am)) (hE : E ≤ 60) (hrr : ∀ e, e < E → er (e + 1) = nI (rr e) ∧ rr e ≤ 8) (K1 : a0.toInt64 < 0 → Q (some (.long (-9223372036854775808))) h) (K2 : ¬ (a0.toInt64 < 0) → 19 < a0.toInt64 → Q (some (.long (-9223372036854775808))) h) (K3 : ¬ (a0.toInt64 < 0) → ¬ (19 < a0.toInt64) → m0.toInt64 < 0 → Q (some (.long (-9223372036854775808))) h) (K4 : ¬ (a0.toInt64 < 0) → ¬ (19 < a0.toInt64) → ¬ (m0.toInt64 < 0) → 119 < m0.toInt64 → Q (some (.long (-9223372036854775808))) h) (K5 : ¬ (a0.toInt64 < 0) → ¬ (19 < a0.toInt64) → ¬ (m0.toInt64 < 0) → ¬ (119 < m0.toInt64) → Q (some (.long (j_bm ac am ey rr a0 m0 E))) h) : J l G mX8_balance 0 0 0 (lv_args 0 [.ref 27, .int a0, .int m0]) [] h Q := by
  refine j_iload_n (pc := 0) dX8_balance_0 rfl ?_
  refine j_i2l (pc := 1) dX8_balance_1 ?_
  refine j_lconst (pc := 2) (v := 0) dX8_balance_2 (by decide) ?_
  refine j_ldc2 (pc := 3) dX8_balance_3 jnX8_172 ?_
  refine j_S3 (rm' := rmX8_within) (pc := 6) dX8_balance_6 jlX8_80 ⟨Nat.le_of_ble_eq_true rfl, Nat.le_of_ble_eq_true rfl, Nat.le_of_ble_eq_true rfl, Nat.le_of_ble_eq_true rfl, Nat.le_of_ble_eq_true rfl, Nat.le_of_ble_eq_true rfl⟩ ?_
  refine s_X8_within  (fun c1 => ?_) (fun c2 c3 => ?_) (fun c4 c5 => ?_)
  · show J l G mX8_balance _ _ 9 _ [.int 0] h Q
    refine j_if_eq (pc := 9) (tgt := 24) dX8_balance_9 (by decide) (fun c6 => ?_) (fun c6 => ?_)
    · refine j_ldc2 (pc := 24) dX8_balance_24 jnX8_158 ?_
      exact j_lret (pc := 27) dX8_balance_27 rfl (Nat.le_of_ble_eq_true rfl) (Nat.le_of_ble_eq_true rfl) (K1 c1)
    · exact absurd c6 (by decide)
  · show J l G mX8_balance _ _ 9 _ [.int 0] h Q
    refine j_if_eq (pc := 9) (tgt := 24) dX8_balance_9 (by decide) (fun c7 => ?_) (fun c7 => ?_)
    · refine j_ldc2 (pc := 24) dX8_balance_24 jnX8_158 ?_
      exact j_lret (pc := 27) dX8_balance_27 rfl (Nat.le_of_ble_eq_true rfl) (Nat.le_of_ble_eq_true rfl) (K2 c2 c3)
    · exact absurd c7 (by decide)
  · show J l G mX8_balance _ _ 9 _ [.int 1] h Q
    refine j_if_eq (pc := 9) (tgt := 24) dX8_balance_9 (by decide) (fun c8 => ?_) (fun c8 => ?_)
    · exact absurd c8 (by decide)
    · refine j_iload_n (pc := 12) dX8_balance_12 rfl ?_
      refine j_i2l (pc := 13) dX8_balance_13 ?_
      refine j_lconst (pc := 14) (v := 0) dX8_balance_14 (by decide) ?_
      refine j_ldc2 (pc := 15) dX8_balance_15 jnX8_180 ?_
      refine j_S3 (rm' := rmX8_within) (pc := 18) dX8_balance_18 jlX8_80 ⟨Nat.le_of_ble_eq_true rfl, Nat.le_of_ble_eq_true rfl, Nat.le_of_ble_eq_true rfl, Nat.le_of_ble_eq_true rfl, Nat.le_of_ble_eq_true rfl, Nat.le_of_ble_eq_true rfl⟩ ?_
      refine s_X8_within  (fun c9 => ?_) (fun c10 c11 => ?_) (fun c12 c13 => ?_)
      · show J l G mX8_balance _ _ 21 _ [.int 0] h Q
        refine j_if_ne (pc := 21) (tgt := 28) dX8_balance_21 (by decide) (fun c14 => ?_) (fun c14 => ?_)
        · exact absurd c14 (by decide)
        · refine j_ldc2 (pc := 24) dX8_balance_24 jnX8_158 ?_
          exact j_lret (pc := 27) dX8_balance_27 rfl (Nat.le_of_ble_eq_true rfl) (Nat.le_of_ble_eq_true rfl) (K3 c4 c5 c9)
      · show J l G mX8_balance _ _ 21 _ [.int 0] h Q
        refine j_if_ne (pc := 21) (tgt := 28) dX8_balance_21 (by decide) (fun c15 => ?_) (fun c15 => ?_)
        · exact absurd c15 (by decide)
        · refine j_ldc2 (pc := 24) dX8_balance_24 jnX8_158 ?_
          exact j_lret (pc := 27) dX8_balance_27 rfl (Nat.le_of_ble_eq_true rfl) (Nat.le_of_ble_eq_true rfl) (K4 c4 c5 c10 c11)
      · show J l G mX8_balance _ _ 21 _ [.int 1] h Q
        refine j_if_ne (pc := 21) (tgt := 28) dX8_balance_21 (by decide) (fun c16 => ?_) (fun c16 => ?_)
        · refine j_lconst (pc := 28) (v := 0) dX8_balance_28 (by decide) ?_
          refine j_lstore_n (pc := 29) dX8_balance_29 (by decide) ?_
          refine j_iconst (pc := 30) (v := 1) dX8_balance_30 (by decide) ?_
          refine j_istore (pc := 31) dX8_balance_31 (by decide) ?_
          refine j_sub (lv' := [(0, .ref 27), (1, .int a0), (2, .int m0), (3, .long (j_bm ac am ey rr a0 m0 0)), (5, .int (nI (0 + 1)))]) rfl ?_
          refine j_for (N := E) (S := fun i1 => J l G mX8_balance 0 0 33 [(0, .ref 27), (1, .int a0), (2, .int m0), (3, .long (j_bm ac am ey rr a0 m0 i1)), (5, .int (nI (i1 + 1)))] [] h Q) ?_ ?_ 0 (Nat.zero_le _)
          · intro i1 hi1 ih1
            have hi1 := hi1
            have hr8 := (hrr i1 hi1).2
            refine j_iload (pc := 33) dX8_balance_33 rfl ?_
            refine j_aload_n (pc := 35) dX8_balance_35 rfl ?_
            refine j_getf (pc := 36) dX8_balance_36 jfX8_169 H0 rfl ?_
            refine j_icmp_gtN (a := i1 + 1) (b := E) (pc := 39) (tgt := 120) dX8_balance_39 (by decide) (by omega) (by omega) (fun c17 => ?_) (fun c17 => ?_)
            · exfalso; omega
            · refine j_iconst (pc := 42) (v := 0) dX8_balance_42 (by decide) ?_
              refine j_istore (pc := 43) dX8_balance_43 (by decide) ?_
              by_cases c18 : m0 < ey (i1 + 1) / 30
              · refine j_iload (pc := 45) dX8_balance_45 rfl ?_
                refine j_aload_n (pc := 47) dX8_balance_47 rfl ?_
                refine j_getf (pc := 48) dX8_balance_48 jfX8_63 H0 rfl ?_
                refine j_iload (pc := 51) dX8_balance_51 rfl ?_
                refine j_ialdV (pc := 53) dX8_balance_53 H2 (jix_nI (by omega) (by decide)) (hrr i1 hi1).1 ?_
                refine j_icmp_geN (a := 0) (b := rr i1) (pc := 54) (tgt := 114) dX8_balance_54 (by decide) (by omega) (by omega) (fun c19 => ?_) (fun c19 => ?_)
                · refine j_iincN (a := i1 + 1) (d := 1) (pc := 114) dX8_balance_114 rfl (by decide) ?_
                  refine j_goto (pc := 117) (tgt := 33) dX8_balance_117 (by decide) ?_
                  rw [j_bm_f c18] at ih1
                  exact j_sub rfl ih1
                · refine j_aload_n (pc := 57) dX8_balance_57 rfl ?_
                  refine j_getf (pc := 58) dX8_balance_58 jfX8_60 H0 rfl ?_
                  refine j_iload (pc := 61) dX8_balance_61 rfl ?_
                  refine j_iald (pc := 63) dX8_balance_63 H1 (jix_nI (by omega) (by decide)) ?_
                  refine j_bipush (pc := 64) (v := 30) dX8_balance_64 (by decide) ?_
                  refine j_idiv (pc := 66) dX8_balance_66 (by decide) ?_
                  refine j_iload_n (pc := 67) dX8_balance_67 rfl ?_
                  refine j_icmp_gt (pc := 68) (tgt := 114) dX8_balance_68 (by decide) (fun c20 => ?_) (fun c20 => ?_)
                  · refine j_iincN (a := i1 + 1) (d := 1) (pc := 114) dX8_balance_114 rfl (by decide) ?_
                    refine j_goto (pc := 117) (tgt := 33) dX8_balance_117 (by decide) ?_
                    rw [j_bm_f c18] at ih1
                    exact j_sub rfl ih1
                  · exact absurd c18 c20
              · refine j_sub (lv' := [(0, .ref 27), (1, .int a0), (2, .int m0), (3, .long (j_tc (fun k => am (8 * (i1 + 1) + k)) (fun k => ac (8 * (i1 + 1) + k)) a0 (j_bm ac am ey rr a0 m0 i1) 0)), (5, .int (nI (i1 + 1))), (6, .int (nI 0))]) rfl ?_
                refine j_for (N := (rr i1)) (S := fun i2 => J l G mX8_balance 0 0 45 [(0, .ref 27), (1, .int a0), (2, .int m0), (3, .long (j_tc (fun k => am (8 * (i1 + 1) + k)) (fun k => ac (8 * (i1 + 1) + k)) a0 (j_bm ac am ey rr a0 m0 i1) i2)), (5, .int (nI (i1 + 1))), (6, .int (nI i2))] [] h Q) ?_ ?_ 0 (Nat.zero_le _)
                · intro i2 hi2 ih2
                  refine j_iload (pc := 45) dX8_balance_45 rfl ?_
                  refine j_aload_n (pc := 47) dX8_balance_47 rfl ?_
                  refine j_getf (pc := 48) dX8_balance_48 jfX8_63 H0 rfl ?_
                  refine j_iload (pc := 51) dX8_balance_51 rfl ?_
                  refine j_ialdV (pc := 53) dX8_balance_53 H2 (jix_nI (by omega) (by decide)) (hrr i1 hi1).1 ?_
                  refine j_icmp_geN (a := i2) (b := rr i1) (pc := 54) (tgt := 114) dX8_balance_54 (by decide) (by omega) (by omega) (fun c21 => ?_) (fun c21 => ?_)
                  · exfalso; omega
                  · refine j_aload_n (pc := 57) dX8_balance_57 rfl ?_
                    refine j_getf (pc := 58) dX8_balance_58 jfX8_60 H0 rfl ?_
                    refine j_iload (pc := 61) dX8_balance_61 rfl ?_
                    refine j_iald (pc := 63) dX8_balance_63 H1 (jix_nI (by omega) (by decide)) ?_
                    refine j_bipush (pc := 64) (v := 30) dX8_balance_64 (by decide) ?_
                    refine j_idiv (pc := 66) dX8_balance_66 (by decide) ?_
                    refine j_iload_n (pc := 67) dX8_balance_67 rfl ?_
                    refine j_icmp_gt (pc := 68) (tgt := 114) dX8_balance_68 (by decide) (fun c22 => ?_) (fun c22 => ?_)
                    · exact absurd c22 c18
                    · refine j_lload_n (pc := 71) dX8_balance_71 rfl ?_
                      refine j_aload_n (pc := 72) dX8_balance_72 rfl ?_
                      refine j_getf (pc := 73) dX8_balance_73 jfX8_72 H0 rfl ?_
                      refine j_bipush (pc := 76) (v := 8) dX8_balance_76 (by decide) ?_
                      refine j_iload (pc := 78) dX8_balance_78 rfl ?_
                      refine j_imulN (a := 8) (b := i1 + 1) (pc := 80) dX8_balance_80 ?_
                      refine j_iload (pc := 81) dX8_balance_81 rfl ?_
                      refine j_iaddN (a := 8 * (i1 + 1)) (b := i2) (pc := 83) dX8_balance_83 ?_
                      refine j_iald (pc := 84) dX8_balance_84 H5 (jix_nI (by omega) (by decide)) ?_
                      refine j_iload_n (pc := 85) dX8_balance_85 rfl ?_
                      have KT1 : J l G mX8_balance 0 0 106 [(0, .ref 27), (1, .int a0), (2, .int m0), (3, .long (j_tc (fun k => am (8 * (i1 + 1) + k)) (fun k => ac (8 * (i1 + 1) + k)) a0 (j_bm ac am ey rr a0 m0 i1) i2)), (5, .int (nI (i1 + 1))), (6, .int (nI i2))] [.long (if (ac ((8 * (i1 + 1)) + i2)) = a0 then am ((8 * (i1 + 1)) + i2) else 0), .long (j_tc (fun k => am (8 * (i1 + 1) + k)) (fun k => ac (8 * (i1 + 1) + k)) a0 (j_bm ac am ey rr a0 m0 i1) i2)] h Q := by
                        refine j_ladd (pc := 106) dX8_balance_106 ?_
                        refine j_lstore_n (pc := 107) dX8_balance_107 (by decide) ?_
                        refine j_iincN (a := i2) (d := 1) (pc := 108) dX8_balance_108 rfl (by decide) ?_
                        refine j_goto (pc := 111) (tgt := 45) dX8_balance_111 (by decide) ?_
                        exact j_sub rfl ih2
                      refine j_icmp_ne (pc := 86) (tgt := 105) dX8_balance_86 (by decide) (fun c23 => ?_) (fun c23 => ?_)
                      · refine j_lconst (pc := 105) (v := 0) dX8_balance_105 (by decide) ?_
                        rw [if_neg c23] at KT1
                        exact j_sub rfl KT1
                      · refine j_aload_n (pc := 89) dX8_balance_89 rfl ?_
                        refine j_getf (pc := 90) dX8_balance_90 jfX8_75 H0 rfl ?_
                        refine j_bipush (pc := 93) (v := 8) dX8_balance_93 (by decide) ?_
                        refine j_iload (pc := 95) dX8_balance_95 rfl ?_
                        refine j_imulN (a := 8) (b := i1 + 1) (pc := 97) dX8_balance_97 ?_
                        refine j_iload (pc := 98) dX8_balance_98 rfl ?_
                        refine j_iaddN (a := 8 * (i1 + 1)) (b := i2) (pc := 100) dX8_balance_100 ?_
                        refine j_lald (pc := 101) dX8_balance_101 H6 (jix_nI (by omega) (by decide)) ?_
                        refine j_goto (pc := 102) (tgt := 106) dX8_balance_102 (by decide) ?_
                        rw [if_pos c23] at KT1
                        exact j_sub rfl KT1
                · refine j_iload (pc := 45) dX8_balance_45 rfl ?_
                  refine j_aload_n (pc := 47) dX8_balance_47 rfl ?_
                  refine j_getf (pc := 48) dX8_balance_48 jfX8_63 H0 rfl ?_
                  refine j_iload (pc := 51) dX8_balance_51 rfl ?_
                  refine j_ialdV (pc := 53) dX8_balance_53 H2 (jix_nI (by omega) (by decide)) (hrr i1 hi1).1 ?_
                  refine j_icmp_geN (a := rr i1) (b := rr i1) (pc := 54) (tgt := 114) dX8_balance_54 (by decide) (by omega) (by omega) (fun c24 => ?_) (fun c24 => ?_)
                  · refine j_iincN (a := i1 + 1) (d := 1) (pc := 114) dX8_balance_114 rfl (by decide) ?_
                    refine j_goto (pc := 117) (tgt := 33) dX8_balance_117 (by decide) ?_
                    rw [j_bm_t c18] at ih1
                    exact j_sub rfl ih1
                  · exfalso; omega
          · refine j_iload (pc := 33) dX8_balance_33 rfl ?_
            refine j_aload_n (pc := 35) dX8_balance_35 rfl ?_
            refine j_getf (pc := 36) dX8_balance_36 jfX8_169 H0 rfl ?_
            refine j_icmp_gtN (a := E + 1) (b := E) (pc := 39) (tgt := 120) dX8_balance_39 (by decide) (by omega) (by omega) (fun c25 => ?_) (fun c25 => ?_)
            · refine j_lload_n (pc := 120) dX8_balance_120 rfl ?_
              exact j_lret (pc := 121) dX8_balance_121 rfl (Nat.le_of_ble_eq_true rfl) (Nat.le_of_ble_eq_true rfl) (K5 c4 c5 c12 c13)
            · exfalso; omega
        · exact absurd c16 (by decide)
