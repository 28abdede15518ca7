/-- from a on as long as p holds, below L -/
def j_sk (p : Nat → Bool) (L : Nat) : Nat → Nat → Nat
  | 0, a => a
  | f + 1, a => if a < L ∧ p a = true then j_sk p L f (a + 1) else a
theorem j_sk_spec (p : Nat → Bool) (L : Nat) : ∀ (f a : Nat), L ≤ a + f → a ≤ j_sk p L f a ∧ (a ≤ L → j_sk p L f a ≤ L) ∧ (∀ j, a ≤ j → j < j_sk p L f a → j < L ∧ p j = true) ∧ (j_sk p L f a < L → ¬ p (j_sk p L f a) = true)
  | 0, a, h => ⟨Nat.le_refl _, fun h => h, fun j h1 h2 => absurd h2 (by simp only [j_sk]; omega), fun h1 => absurd h1 (by simp only [j_sk]; omega)⟩
  | f + 1, a, h => by
    simp only [j_sk]
    by_cases q : a < L ∧ p a = true
    · rw [if_pos q]
      obtain ⟨h1, h2, h3, h4⟩ := j_sk_spec p L f (a + 1) (by omega)
      refine ⟨by omega, fun _ => h2 (by omega), fun j h5 h6 => ?_, h4⟩
      by_cases e : j = a
      · subst e; exact q
      · exact h3 j (by omega) h6
    · rw [if_neg q]
      exact ⟨Nat.le_refl _, fun h => h, fun j h1 h2 => absurd h2 (by omega), fun h1 h2 => q ⟨h1, h2⟩⟩
theorem j_sk_congr {p q : Nat → Bool} {L : Nat} (h : ∀ j, j < L → p j = q j) : ∀ f a, j_sk p L f a = j_sk q L f a
  | 0, _ => rfl
  | f + 1, a => by
    simp only [j_sk]
    by_cases e : a < L
    · rw [h a e, j_sk_congr h f (a + 1)]
    · rw [if_neg (fun z => e z.1), if_neg (fun z => e z.1)]
def x_gp (tx : Nat → Int32) (j : Nat) : Bool := decide (tx j = 32) || decide (tx j = 10)
/-- where the next word begins; where it ends -/
def x_ws (tx : Nat → Int32) (L a : Nat) : Nat := j_sk (x_gp tx) L (L - a) a
def x_we (tx : Nat → Int32) (L a : Nat) : Nat := j_sk (fun j => !(x_gp tx j)) L (L - a) a
theorem x_ws_spec (tx : Nat → Int32) {L a : Nat} (h : a ≤ L) : a ≤ x_ws tx L a ∧ x_ws tx L a ≤ L ∧ (∀ j, a ≤ j → j < x_ws tx L a → j < L ∧ (tx j = 32 ∨ tx j = 10)) ∧ (x_ws tx L a < L → ¬ tx (x_ws tx L a) = 32 ∧ ¬ tx (x_ws tx L a) = 10) := by
  obtain ⟨h1, h2, h3, h4⟩ := j_sk_spec (x_gp tx) L (L - a) a (by omega)
  refine ⟨h1, h2 h, fun j h5 h6 => ?_, fun h5 => ?_⟩
  · have := h3 j h5 h6
    simp only [x_gp, Bool.or_eq_true, decide_eq_true_eq] at this
    exact this
  · have := h4 h5
    simp only [x_gp, Bool.or_eq_true, decide_eq_true_eq, not_or] at this
    exact this
theorem x_we_spec (tx : Nat → Int32) {L a : Nat} (h : a ≤ L) : a ≤ x_we tx L a ∧ x_we tx L a ≤ L ∧ (∀ j, a ≤ j → j < x_we tx L a → j < L ∧ ¬ tx j = 32 ∧ ¬ tx j = 10) ∧ (x_we tx L a < L → tx (x_we tx L a) = 32 ∨ tx (x_we tx L a) = 10) := by
  obtain ⟨h1, h2, h3, h4⟩ := j_sk_spec (fun j => !(x_gp tx j)) L (L - a) a (by omega)
  refine ⟨h1, h2 h, fun j h5 h6 => ?_, fun h5 => ?_⟩
  · have := h3 j h5 h6
    simpa [x_gp, not_or] using this
  · have := h4 h5
    have e : x_gp tx (x_we tx L a) = true := by
      cases hb : x_gp tx (x_we tx L a) with
      | true => rfl
      | false => exact absurd (by show (!(x_gp tx (x_we tx L a))) = true; rw [hb]; rfl) this
    simpa [x_gp] using e

set_option maxRecDepth 20000 in
theorem s_X8_isNext {l : Launch} {G : jG} {h : jH} {Q : Option Value → jH → Prop} {cl es fr op ps ts wd : Int32} {L a : Nat} {tx : Nat → Int32}  (H0 : h.2 27 = some (mO (nI L) (nI a) fr wd ps ts es op cl)) (H1 : h.2 28 = some (jI 600 tx)) (hL : L ≤ 600) (ha : a ≤ L) (K1 : (x_we tx L (x_ws tx L a)) ≤ (x_ws tx L a) → Q (some (.int 0)) (j_set h 27 (mO (nI L) (nI (x_we tx L (x_ws tx L a))) (nI (x_ws tx L a)) wd ps ts es op cl))) (K2 : ¬ (x_we tx L (x_ws tx L a)) ≤ (x_ws tx L a) → Q (some (.int 1)) (j_set h 27 (mO (nI L) (nI (x_we tx L (x_ws tx L a))) (nI (x_ws tx L a)) wd ps ts es op cl))) : J l G mX8_isNext 0 0 0 (lv_args 0 [.ref 27]) [] h Q := by
  refine j_pad H0 ?_
  refine j_sub (lv' := [(0, .ref 27)]) rfl ?_
  refine j_for (N := (x_ws tx L a - a)) (S := fun i1 => J l G mX8_isNext 0 0 0 [(0, .ref 27)] [] (j_set h 27 (mO (nI L) (nI (a + i1)) fr wd ps ts es op cl)) Q) ?_ ?_ 0 (Nat.zero_le _)
  · intro i1 hi1 ih1
    have hs := x_ws_spec tx ha
    have hg := hs.2.2.1 (a + i1) (by omega) (by omega)
    have hg1 := hg.1
    refine j_aload_n (pc := 0) dX8_isNext_0 rfl ?_
    refine j_getf (pc := 1) dX8_isNext_1 jfX8_88 j_hs rfl ?_
    refine j_aload_n (pc := 4) dX8_isNext_4 rfl ?_
    refine j_getf (pc := 5) dX8_isNext_5 jfX8_84 j_hs rfl ?_
    refine j_icmp_geN (a := a + i1) (b := L) (pc := 8) (tgt := 52) dX8_isNext_8 (by decide) (by omega) (by omega) (fun c1 => ?_) (fun c1 => ?_)
    · exfalso; omega
    · refine j_aload_n (pc := 11) dX8_isNext_11 rfl ?_
      refine j_getf (pc := 12) dX8_isNext_12 jfX8_7 j_hs rfl ?_
      refine j_aload_n (pc := 15) dX8_isNext_15 rfl ?_
      refine j_getf (pc := 16) dX8_isNext_16 jfX8_88 j_hs rfl ?_
      refine j_iald (pc := 19) dX8_isNext_19 (j_hn (by decide) H1) (jix_nI (by omega) (by decide)) ?_
      refine j_bipush (pc := 20) (v := 32) dX8_isNext_20 (by decide) ?_
      refine j_icmp_eq (pc := 22) (tgt := 39) dX8_isNext_22 (by decide) (fun c2 => ?_) (fun c2 => ?_)
      · refine j_aload_n (pc := 39) dX8_isNext_39 rfl ?_
        refine j_dup (pc := 40) dX8_isNext_40 rfl ?_
        refine j_getf (pc := 41) dX8_isNext_41 jfX8_88 j_hs rfl ?_
        refine j_iconst (pc := 44) (v := 1) dX8_isNext_44 (by decide) ?_
        refine j_iaddN (a := a + i1) (b := 1) (pc := 45) dX8_isNext_45 ?_
        refine j_putf (pc := 46) dX8_isNext_46 jfX8_88 j_hs rfl rfl (Nat.le_of_ble_eq_true rfl) ?_
        show J l G mX8_isNext _ _ 49 _ _ (j_set (j_set h 27 (mO (nI L) (nI (a + i1)) fr wd ps ts es op cl)) 27 (mO (nI L) (nI ((a + i1) + 1)) fr wd ps ts es op cl)) Q
        rw [j_ss0 (a := 27)]
        refine j_goto (pc := 49) (tgt := 0) dX8_isNext_49 (by decide) ?_
        exact j_sub rfl ih1
      · refine j_aload_n (pc := 25) dX8_isNext_25 rfl ?_
        refine j_getf (pc := 26) dX8_isNext_26 jfX8_7 j_hs rfl ?_
        refine j_aload_n (pc := 29) dX8_isNext_29 rfl ?_
        refine j_getf (pc := 30) dX8_isNext_30 jfX8_88 j_hs rfl ?_
        refine j_iald (pc := 33) dX8_isNext_33 (j_hn (by decide) H1) (jix_nI (by omega) (by decide)) ?_
        refine j_bipush (pc := 34) (v := 10) dX8_isNext_34 (by decide) ?_
        refine j_icmp_ne (pc := 36) (tgt := 52) dX8_isNext_36 (by decide) (fun c3 => ?_) (fun c3 => ?_)
        · exfalso; rcases hg.2 with z | z; exact absurd z (by assumption); exact absurd z c3
        · refine j_aload_n (pc := 39) dX8_isNext_39 rfl ?_
          refine j_dup (pc := 40) dX8_isNext_40 rfl ?_
          refine j_getf (pc := 41) dX8_isNext_41 jfX8_88 j_hs rfl ?_
          refine j_iconst (pc := 44) (v := 1) dX8_isNext_44 (by decide) ?_
          refine j_iaddN (a := a + i1) (b := 1) (pc := 45) dX8_isNext_45 ?_
          refine j_putf (pc := 46) dX8_isNext_46 jfX8_88 j_hs rfl rfl (Nat.le_of_ble_eq_true rfl) ?_
          show J l G mX8_isNext _ _ 49 _ _ (j_set (j_set h 27 (mO (nI L) (nI (a + i1)) fr wd ps ts es op cl)) 27 (mO (nI L) (nI ((a + i1) + 1)) fr wd ps ts es op cl)) Q
          rw [j_ss0 (a := 27)]
          refine j_goto (pc := 49) (tgt := 0) dX8_isNext_49 (by decide) ?_
          exact j_sub rfl ih1
  · have hs := x_ws_spec tx ha
    have hs1 := hs.1
    have hs2 := hs.2.1
    show J l G mX8_isNext 0 0 0 [(0, .ref 27)] [] (j_set h 27 (mO (nI L) (nI (a + (x_ws tx L a - a))) fr wd ps ts es op cl)) Q
    rw [show a + (x_ws tx L a - a) = x_ws tx L a from by omega]
    refine j_aload_n (pc := 0) dX8_isNext_0 rfl ?_
    refine j_getf (pc := 1) dX8_isNext_1 jfX8_88 j_hs rfl ?_
    refine j_aload_n (pc := 4) dX8_isNext_4 rfl ?_
    refine j_getf (pc := 5) dX8_isNext_5 jfX8_84 j_hs rfl ?_
    refine j_icmp_geN (a := x_ws tx L a) (b := L) (pc := 8) (tgt := 52) dX8_isNext_8 (by decide) (by omega) (by omega) (fun c4 => ?_) (fun c4 => ?_)
    · refine j_aload_n (pc := 52) dX8_isNext_52 rfl ?_
      refine j_aload_n (pc := 53) dX8_isNext_53 rfl ?_
      refine j_getf (pc := 54) dX8_isNext_54 jfX8_88 j_hs rfl ?_
      refine j_putf (pc := 57) dX8_isNext_57 jfX8_91 j_hs rfl rfl (Nat.le_of_ble_eq_true rfl) ?_
      show J l G mX8_isNext _ _ 60 _ _ (j_set (j_set h 27 (mO (nI L) (nI (x_ws tx L a)) fr wd ps ts es op cl)) 27 (mO (nI L) (nI (x_ws tx L a)) (nI (x_ws tx L a)) wd ps ts es op cl)) Q
      rw [j_ss0 (a := 27)]
      refine j_sub (lv' := [(0, .ref 27)]) rfl ?_
      refine j_for (N := (x_we tx L (x_ws tx L a) - x_ws tx L a)) (S := fun i2 => J l G mX8_isNext 0 0 60 [(0, .ref 27)] [] (j_set h 27 (mO (nI L) (nI (x_ws tx L a + i2)) (nI (x_ws tx L a)) wd ps ts es op cl)) Q) ?_ ?_ 0 (Nat.zero_le _)
      · intro i2 hi2 ih2
        have ht := x_we_spec tx hs2
        have hg := ht.2.2.1 (x_ws tx L a + i2) (by omega) (by omega)
        have hg1 := hg.1
        refine j_aload_n (pc := 60) dX8_isNext_60 rfl ?_
        refine j_getf (pc := 61) dX8_isNext_61 jfX8_88 j_hs rfl ?_
        refine j_aload_n (pc := 64) dX8_isNext_64 rfl ?_
        refine j_getf (pc := 65) dX8_isNext_65 jfX8_84 j_hs rfl ?_
        refine j_icmp_geN (a := x_ws tx L a + i2) (b := L) (pc := 68) (tgt := 112) dX8_isNext_68 (by decide) (by omega) (by omega) (fun c5 => ?_) (fun c5 => ?_)
        · exfalso; omega
        · refine j_aload_n (pc := 71) dX8_isNext_71 rfl ?_
          refine j_getf (pc := 72) dX8_isNext_72 jfX8_7 j_hs rfl ?_
          refine j_aload_n (pc := 75) dX8_isNext_75 rfl ?_
          refine j_getf (pc := 76) dX8_isNext_76 jfX8_88 j_hs rfl ?_
          refine j_iald (pc := 79) dX8_isNext_79 (j_hn (by decide) H1) (jix_nI (by omega) (by decide)) ?_
          refine j_bipush (pc := 80) (v := 32) dX8_isNext_80 (by decide) ?_
          refine j_icmp_eq (pc := 82) (tgt := 112) dX8_isNext_82 (by decide) (fun c6 => ?_) (fun c6 => ?_)
          · exfalso; exact absurd c6 hg.2.1
          · refine j_aload_n (pc := 85) dX8_isNext_85 rfl ?_
            refine j_getf (pc := 86) dX8_isNext_86 jfX8_7 j_hs rfl ?_
            refine j_aload_n (pc := 89) dX8_isNext_89 rfl ?_
            refine j_getf (pc := 90) dX8_isNext_90 jfX8_88 j_hs rfl ?_
            refine j_iald (pc := 93) dX8_isNext_93 (j_hn (by decide) H1) (jix_nI (by omega) (by decide)) ?_
            refine j_bipush (pc := 94) (v := 10) dX8_isNext_94 (by decide) ?_
            refine j_icmp_eq (pc := 96) (tgt := 112) dX8_isNext_96 (by decide) (fun c7 => ?_) (fun c7 => ?_)
            · exfalso; exact absurd c7 hg.2.2
            · refine j_aload_n (pc := 99) dX8_isNext_99 rfl ?_
              refine j_dup (pc := 100) dX8_isNext_100 rfl ?_
              refine j_getf (pc := 101) dX8_isNext_101 jfX8_88 j_hs rfl ?_
              refine j_iconst (pc := 104) (v := 1) dX8_isNext_104 (by decide) ?_
              refine j_iaddN (a := x_ws tx L a + i2) (b := 1) (pc := 105) dX8_isNext_105 ?_
              refine j_putf (pc := 106) dX8_isNext_106 jfX8_88 j_hs rfl rfl (Nat.le_of_ble_eq_true rfl) ?_
              show J l G mX8_isNext _ _ 109 _ _ (j_set (j_set h 27 (mO (nI L) (nI (x_ws tx L a + i2)) (nI (x_ws tx L a)) wd ps ts es op cl)) 27 (mO (nI L) (nI ((x_ws tx L a + i2) + 1)) (nI (x_ws tx L a)) wd ps ts es op cl)) Q
              rw [j_ss0 (a := 27)]
              refine j_goto (pc := 109) (tgt := 60) dX8_isNext_109 (by decide) ?_
              exact j_sub rfl ih2
      · have ht := x_we_spec tx hs2
        have ht1 := ht.1
        have ht2 := ht.2.1
        show J l G mX8_isNext 0 0 60 [(0, .ref 27)] [] (j_set h 27 (mO (nI L) (nI (x_ws tx L a + (x_we tx L (x_ws tx L a) - x_ws tx L a))) (nI (x_ws tx L a)) wd ps ts es op cl)) Q
        rw [show x_ws tx L a + (x_we tx L (x_ws tx L a) - x_ws tx L a) = x_we tx L (x_ws tx L a) from by omega]
        refine j_aload_n (pc := 60) dX8_isNext_60 rfl ?_
        refine j_getf (pc := 61) dX8_isNext_61 jfX8_88 j_hs rfl ?_
        refine j_aload_n (pc := 64) dX8_isNext_64 rfl ?_
        refine j_getf (pc := 65) dX8_isNext_65 jfX8_84 j_hs rfl ?_
        refine j_icmp_geN (a := x_we tx L (x_ws tx L a)) (b := L) (pc := 68) (tgt := 112) dX8_isNext_68 (by decide) (by omega) (by omega) (fun c8 => ?_) (fun c8 => ?_)
        · refine j_aload_n (pc := 112) dX8_isNext_112 rfl ?_
          refine j_getf (pc := 113) dX8_isNext_113 jfX8_88 j_hs rfl ?_
          refine j_aload_n (pc := 116) dX8_isNext_116 rfl ?_
          refine j_getf (pc := 117) dX8_isNext_117 jfX8_91 j_hs rfl ?_
          refine j_icmp_leN (a := x_we tx L (x_ws tx L a)) (b := x_ws tx L a) (pc := 120) (tgt := 127) dX8_isNext_120 (by decide) (by omega) (by omega) (fun c9 => ?_) (fun c9 => ?_)
          · refine j_iconst (pc := 127) (v := 0) dX8_isNext_127 (by decide) ?_
            exact j_iret (pc := 128) dX8_isNext_128 rfl rfl (Nat.le_of_ble_eq_true rfl) (Nat.le_of_ble_eq_true rfl) (K1 c9)
          · refine j_iconst (pc := 123) (v := 1) dX8_isNext_123 (by decide) ?_
            refine j_goto (pc := 124) (tgt := 128) dX8_isNext_124 (by decide) ?_
            exact j_iret (pc := 128) dX8_isNext_128 rfl rfl (Nat.le_of_ble_eq_true rfl) (Nat.le_of_ble_eq_true rfl) (K2 c9)
        · refine j_aload_n (pc := 71) dX8_isNext_71 rfl ?_
          refine j_getf (pc := 72) dX8_isNext_72 jfX8_7 j_hs rfl ?_
          refine j_aload_n (pc := 75) dX8_isNext_75 rfl ?_
          refine j_getf (pc := 76) dX8_isNext_76 jfX8_88 j_hs rfl ?_
          refine j_iald (pc := 79) dX8_isNext_79 (j_hn (by decide) H1) (jix_nI (by omega) (by decide)) ?_
          refine j_bipush (pc := 80) (v := 32) dX8_isNext_80 (by decide) ?_
          refine j_icmp_eq (pc := 82) (tgt := 112) dX8_isNext_82 (by decide) (fun c10 => ?_) (fun c10 => ?_)
          · refine j_aload_n (pc := 112) dX8_isNext_112 rfl ?_
            refine j_getf (pc := 113) dX8_isNext_113 jfX8_88 j_hs rfl ?_
            refine j_aload_n (pc := 116) dX8_isNext_116 rfl ?_
            refine j_getf (pc := 117) dX8_isNext_117 jfX8_91 j_hs rfl ?_
            refine j_icmp_leN (a := x_we tx L (x_ws tx L a)) (b := x_ws tx L a) (pc := 120) (tgt := 127) dX8_isNext_120 (by decide) (by omega) (by omega) (fun c11 => ?_) (fun c11 => ?_)
            · refine j_iconst (pc := 127) (v := 0) dX8_isNext_127 (by decide) ?_
              exact j_iret (pc := 128) dX8_isNext_128 rfl rfl (Nat.le_of_ble_eq_true rfl) (Nat.le_of_ble_eq_true rfl) (K1 c11)
            · refine j_iconst (pc := 123) (v := 1) dX8_isNext_123 (by decide) ?_
              refine j_goto (pc := 124) (tgt := 128) dX8_isNext_124 (by decide) ?_
              exact j_iret (pc := 128) dX8_isNext_128 rfl rfl (Nat.le_of_ble_eq_true rfl) (Nat.le_of_ble_eq_true rfl) (K2 c11)
          · refine j_aload_n (pc := 85) dX8_isNext_85 rfl ?_
            refine j_getf (pc := 86) dX8_isNext_86 jfX8_7 j_hs rfl ?_
            refine j_aload_n (pc := 89) dX8_isNext_89 rfl ?_
            refine j_getf (pc := 90) dX8_isNext_90 jfX8_88 j_hs rfl ?_
            refine j_iald (pc := 93) dX8_isNext_93 (j_hn (by decide) H1) (jix_nI (by omega) (by decide)) ?_
            refine j_bipush (pc := 94) (v := 10) dX8_isNext_94 (by decide) ?_
            refine j_icmp_eq (pc := 96) (tgt := 112) dX8_isNext_96 (by decide) (fun c12 => ?_) (fun c12 => ?_)
            · refine j_aload_n (pc := 112) dX8_isNext_112 rfl ?_
              refine j_getf (pc := 113) dX8_isNext_113 jfX8_88 j_hs rfl ?_
              refine j_aload_n (pc := 116) dX8_isNext_116 rfl ?_
              refine j_getf (pc := 117) dX8_isNext_117 jfX8_91 j_hs rfl ?_
              refine j_icmp_leN (a := x_we tx L (x_ws tx L a)) (b := x_ws tx L a) (pc := 120) (tgt := 127) dX8_isNext_120 (by decide) (by omega) (by omega) (fun c13 => ?_) (fun c13 => ?_)
              · refine j_iconst (pc := 127) (v := 0) dX8_isNext_127 (by decide) ?_
                exact j_iret (pc := 128) dX8_isNext_128 rfl rfl (Nat.le_of_ble_eq_true rfl) (Nat.le_of_ble_eq_true rfl) (K1 c13)
              · refine j_iconst (pc := 123) (v := 1) dX8_isNext_123 (by decide) ?_
                refine j_goto (pc := 124) (tgt := 128) dX8_isNext_124 (by decide) ?_
                exact j_iret (pc := 128) dX8_isNext_128 rfl rfl (Nat.le_of_ble_eq_true rfl) (Nat.le_of_ble_eq_true rfl) (K2 c13)
            · exfalso; rcases ht.2.2.2 (by omega) with z | z; exact absurd z (by assumption); exact absurd z c12
    · refine j_aload_n (pc := 11) dX8_isNext_11 rfl ?_
      refine j_getf (pc := 12) dX8_isNext_12 jfX8_7 j_hs rfl ?_
      refine j_aload_n (pc := 15) dX8_isNext_15 rfl ?_
      refine j_getf (pc := 16) dX8_isNext_16 jfX8_88 j_hs rfl ?_
      refine j_iald (pc := 19) dX8_isNext_19 (j_hn (by decide) H1) (jix_nI (by omega) (by decide)) ?_
      refine j_bipush (pc := 20) (v := 32) dX8_isNext_20 (by decide) ?_
      refine j_icmp_eq (pc := 22) (tgt := 39) dX8_isNext_22 (by decide) (fun c14 => ?_) (fun c14 => ?_)
      · exfalso; exact absurd c14 (hs.2.2.2 (by omega)).1
      · refine j_aload_n (pc := 25) dX8_isNext_25 rfl ?_
        refine j_getf (pc := 26) dX8_isNext_26 jfX8_7 j_hs rfl ?_
        refine j_aload_n (pc := 29) dX8_isNext_29 rfl ?_
        refine j_getf (pc := 30) dX8_isNext_30 jfX8_88 j_hs rfl ?_
        refine j_iald (pc := 33) dX8_isNext_33 (j_hn (by decide) H1) (jix_nI (by omega) (by decide)) ?_
        refine j_bipush (pc := 34) (v := 10) dX8_isNext_34 (by decide) ?_
        refine j_icmp_ne (pc := 36) (tgt := 52) dX8_isNext_36 (by decide) (fun c15 => ?_) (fun c15 => ?_)
        · refine j_aload_n (pc := 52) dX8_isNext_52 rfl ?_
          refine j_aload_n (pc := 53) dX8_isNext_53 rfl ?_
          refine j_getf (pc := 54) dX8_isNext_54 jfX8_88 j_hs rfl ?_
          refine j_putf (pc := 57) dX8_isNext_57 jfX8_91 j_hs rfl rfl (Nat.le_of_ble_eq_true rfl) ?_
          show J l G mX8_isNext _ _ 60 _ _ (j_set (j_set h 27 (mO (nI L) (nI (x_ws tx L a)) fr wd ps ts es op cl)) 27 (mO (nI L) (nI (x_ws tx L a)) (nI (x_ws tx L a)) wd ps ts es op cl)) Q
          rw [j_ss0 (a := 27)]
          refine j_sub (lv' := [(0, .ref 27)]) rfl ?_
          refine j_for (N := (x_we tx L (x_ws tx L a) - x_ws tx L a)) (S := fun i3 => J l G mX8_isNext 0 0 60 [(0, .ref 27)] [] (j_set h 27 (mO (nI L) (nI (x_ws tx L a + i3)) (nI (x_ws tx L a)) wd ps ts es op cl)) Q) ?_ ?_ 0 (Nat.zero_le _)
          · intro i3 hi3 ih3
            have ht := x_we_spec tx hs2
            have hg := ht.2.2.1 (x_ws tx L a + i3) (by omega) (by omega)
            have hg1 := hg.1
            refine j_aload_n (pc := 60) dX8_isNext_60 rfl ?_
            refine j_getf (pc := 61) dX8_isNext_61 jfX8_88 j_hs rfl ?_
            refine j_aload_n (pc := 64) dX8_isNext_64 rfl ?_
            refine j_getf (pc := 65) dX8_isNext_65 jfX8_84 j_hs rfl ?_
            refine j_icmp_geN (a := x_ws tx L a + i3) (b := L) (pc := 68) (tgt := 112) dX8_isNext_68 (by decide) (by omega) (by omega) (fun c16 => ?_) (fun c16 => ?_)
            · exfalso; omega
            · refine j_aload_n (pc := 71) dX8_isNext_71 rfl ?_
              refine j_getf (pc := 72) dX8_isNext_72 jfX8_7 j_hs rfl ?_
              refine j_aload_n (pc := 75) dX8_isNext_75 rfl ?_
              refine j_getf (pc := 76) dX8_isNext_76 jfX8_88 j_hs rfl ?_
              refine j_iald (pc := 79) dX8_isNext_79 (j_hn (by decide) H1) (jix_nI (by omega) (by decide)) ?_
              refine j_bipush (pc := 80) (v := 32) dX8_isNext_80 (by decide) ?_
              refine j_icmp_eq (pc := 82) (tgt := 112) dX8_isNext_82 (by decide) (fun c17 => ?_) (fun c17 => ?_)
              · exfalso; exact absurd c17 hg.2.1
              · refine j_aload_n (pc := 85) dX8_isNext_85 rfl ?_
                refine j_getf (pc := 86) dX8_isNext_86 jfX8_7 j_hs rfl ?_
                refine j_aload_n (pc := 89) dX8_isNext_89 rfl ?_
                refine j_getf (pc := 90) dX8_isNext_90 jfX8_88 j_hs rfl ?_
                refine j_iald (pc := 93) dX8_isNext_93 (j_hn (by decide) H1) (jix_nI (by omega) (by decide)) ?_
                refine j_bipush (pc := 94) (v := 10) dX8_isNext_94 (by decide) ?_
                refine j_icmp_eq (pc := 96) (tgt := 112) dX8_isNext_96 (by decide) (fun c18 => ?_) (fun c18 => ?_)
                · exfalso; exact absurd c18 hg.2.2
                · refine j_aload_n (pc := 99) dX8_isNext_99 rfl ?_
                  refine j_dup (pc := 100) dX8_isNext_100 rfl ?_
                  refine j_getf (pc := 101) dX8_isNext_101 jfX8_88 j_hs rfl ?_
                  refine j_iconst (pc := 104) (v := 1) dX8_isNext_104 (by decide) ?_
                  refine j_iaddN (a := x_ws tx L a + i3) (b := 1) (pc := 105) dX8_isNext_105 ?_
                  refine j_putf (pc := 106) dX8_isNext_106 jfX8_88 j_hs rfl rfl (Nat.le_of_ble_eq_true rfl) ?_
                  show J l G mX8_isNext _ _ 109 _ _ (j_set (j_set h 27 (mO (nI L) (nI (x_ws tx L a + i3)) (nI (x_ws tx L a)) wd ps ts es op cl)) 27 (mO (nI L) (nI ((x_ws tx L a + i3) + 1)) (nI (x_ws tx L a)) wd ps ts es op cl)) Q
                  rw [j_ss0 (a := 27)]
                  refine j_goto (pc := 109) (tgt := 60) dX8_isNext_109 (by decide) ?_
                  exact j_sub rfl ih3
          · have ht := x_we_spec tx hs2
            have ht1 := ht.1
            have ht2 := ht.2.1
            show J l G mX8_isNext 0 0 60 [(0, .ref 27)] [] (j_set h 27 (mO (nI L) (nI (x_ws tx L a + (x_we tx L (x_ws tx L a) - x_ws tx L a))) (nI (x_ws tx L a)) wd ps ts es op cl)) Q
            rw [show x_ws tx L a + (x_we tx L (x_ws tx L a) - x_ws tx L a) = x_we tx L (x_ws tx L a) from by omega]
            refine j_aload_n (pc := 60) dX8_isNext_60 rfl ?_
            refine j_getf (pc := 61) dX8_isNext_61 jfX8_88 j_hs rfl ?_
            refine j_aload_n (pc := 64) dX8_isNext_64 rfl ?_
            refine j_getf (pc := 65) dX8_isNext_65 jfX8_84 j_hs rfl ?_
            refine j_icmp_geN (a := x_we tx L (x_ws tx L a)) (b := L) (pc := 68) (tgt := 112) dX8_isNext_68 (by decide) (by omega) (by omega) (fun c19 => ?_) (fun c19 => ?_)
            · refine j_aload_n (pc := 112) dX8_isNext_112 rfl ?_
              refine j_getf (pc := 113) dX8_isNext_113 jfX8_88 j_hs rfl ?_
              refine j_aload_n (pc := 116) dX8_isNext_116 rfl ?_
              refine j_getf (pc := 117) dX8_isNext_117 jfX8_91 j_hs rfl ?_
              refine j_icmp_leN (a := x_we tx L (x_ws tx L a)) (b := x_ws tx L a) (pc := 120) (tgt := 127) dX8_isNext_120 (by decide) (by omega) (by omega) (fun c20 => ?_) (fun c20 => ?_)
              · refine j_iconst (pc := 127) (v := 0) dX8_isNext_127 (by decide) ?_
                exact j_iret (pc := 128) dX8_isNext_128 rfl rfl (Nat.le_of_ble_eq_true rfl) (Nat.le_of_ble_eq_true rfl) (K1 c20)
              · refine j_iconst (pc := 123) (v := 1) dX8_isNext_123 (by decide) ?_
                refine j_goto (pc := 124) (tgt := 128) dX8_isNext_124 (by decide) ?_
                exact j_iret (pc := 128) dX8_isNext_128 rfl rfl (Nat.le_of_ble_eq_true rfl) (Nat.le_of_ble_eq_true rfl) (K2 c20)
            · refine j_aload_n (pc := 71) dX8_isNext_71 rfl ?_
              refine j_getf (pc := 72) dX8_isNext_72 jfX8_7 j_hs rfl ?_
              refine j_aload_n (pc := 75) dX8_isNext_75 rfl ?_
              refine j_getf (pc := 76) dX8_isNext_76 jfX8_88 j_hs rfl ?_
              refine j_iald (pc := 79) dX8_isNext_79 (j_hn (by decide) H1) (jix_nI (by omega) (by decide)) ?_
              refine j_bipush (pc := 80) (v := 32) dX8_isNext_80 (by decide) ?_
              refine j_icmp_eq (pc := 82) (tgt := 112) dX8_isNext_82 (by decide) (fun c21 => ?_) (fun c21 => ?_)
              · refine j_aload_n (pc := 112) dX8_isNext_112 rfl ?_
                refine j_getf (pc := 113) dX8_isNext_113 jfX8_88 j_hs rfl ?_
                refine j_aload_n (pc := 116) dX8_isNext_116 rfl ?_
                refine j_getf (pc := 117) dX8_isNext_117 jfX8_91 j_hs rfl ?_
                refine j_icmp_leN (a := x_we tx L (x_ws tx L a)) (b := x_ws tx L a) (pc := 120) (tgt := 127) dX8_isNext_120 (by decide) (by omega) (by omega) (fun c22 => ?_) (fun c22 => ?_)
                · refine j_iconst (pc := 127) (v := 0) dX8_isNext_127 (by decide) ?_
                  exact j_iret (pc := 128) dX8_isNext_128 rfl rfl (Nat.le_of_ble_eq_true rfl) (Nat.le_of_ble_eq_true rfl) (K1 c22)
                · refine j_iconst (pc := 123) (v := 1) dX8_isNext_123 (by decide) ?_
                  refine j_goto (pc := 124) (tgt := 128) dX8_isNext_124 (by decide) ?_
                  exact j_iret (pc := 128) dX8_isNext_128 rfl rfl (Nat.le_of_ble_eq_true rfl) (Nat.le_of_ble_eq_true rfl) (K2 c22)
              · refine j_aload_n (pc := 85) dX8_isNext_85 rfl ?_
                refine j_getf (pc := 86) dX8_isNext_86 jfX8_7 j_hs rfl ?_
                refine j_aload_n (pc := 89) dX8_isNext_89 rfl ?_
                refine j_getf (pc := 90) dX8_isNext_90 jfX8_88 j_hs rfl ?_
                refine j_iald (pc := 93) dX8_isNext_93 (j_hn (by decide) H1) (jix_nI (by omega) (by decide)) ?_
                refine j_bipush (pc := 94) (v := 10) dX8_isNext_94 (by decide) ?_
                refine j_icmp_eq (pc := 96) (tgt := 112) dX8_isNext_96 (by decide) (fun c23 => ?_) (fun c23 => ?_)
                · refine j_aload_n (pc := 112) dX8_isNext_112 rfl ?_
                  refine j_getf (pc := 113) dX8_isNext_113 jfX8_88 j_hs rfl ?_
                  refine j_aload_n (pc := 116) dX8_isNext_116 rfl ?_
                  refine j_getf (pc := 117) dX8_isNext_117 jfX8_91 j_hs rfl ?_
                  refine j_icmp_leN (a := x_we tx L (x_ws tx L a)) (b := x_ws tx L a) (pc := 120) (tgt := 127) dX8_isNext_120 (by decide) (by omega) (by omega) (fun c24 => ?_) (fun c24 => ?_)
                  · refine j_iconst (pc := 127) (v := 0) dX8_isNext_127 (by decide) ?_
                    exact j_iret (pc := 128) dX8_isNext_128 rfl rfl (Nat.le_of_ble_eq_true rfl) (Nat.le_of_ble_eq_true rfl) (K1 c24)
                  · refine j_iconst (pc := 123) (v := 1) dX8_isNext_123 (by decide) ?_
                    refine j_goto (pc := 124) (tgt := 128) dX8_isNext_124 (by decide) ?_
                    exact j_iret (pc := 128) dX8_isNext_128 rfl rfl (Nat.le_of_ble_eq_true rfl) (Nat.le_of_ble_eq_true rfl) (K2 c24)
                · exfalso; rcases ht.2.2.2 (by omega) with z | z; exact absurd z (by assumption); exact absurd z c23
        · exfalso; exact absurd c15 (hs.2.2.2 (by omega)).2
