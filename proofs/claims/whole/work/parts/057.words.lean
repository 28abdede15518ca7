/-- the word from f to e is lt -/
def x_is (tx : Nat → Int32) (f e : Nat) (lt : List Int32) : Prop := e = f + lt.length ∧ ∀ k, k < lt.length → tx (f + k) = lt.getD k 0
/-- the n letters of a long, first the highest -/
def x_lt (w : Int64) (lt : List Int32) (n : Nat) : Prop := n = lt.length ∧ ∀ k, k < n → (w >>> ((nI (8 * ((n - 1) - k))).toInt64 &&& 63)) &&& 255 = (lt.getD k 0).toInt64
theorem x_i2l {a b : Int32} (h : a.toInt64 = b.toInt64) : a = b := by
  have := congrArg Int64.toInt h
  simp at this
  exact Int32.toInt_inj.mp this

set_option maxRecDepth 20000 in
theorem s_X8_isWord {l : Launch} {G : jG} {h : jH} {Q : Option Value → jH → Prop} {cl es op ps sz ts wd : Int32} {e f n : Nat} {w : Int64} {lt : List Int32} {tx : Nat → Int32}  (H0 : h.2 27 = some (mO sz (nI e) (nI f) wd ps ts es op cl)) (H1 : h.2 28 = some (jI 600 tx)) (hw : x_lt w lt n) (hn5 : n ≤ 8) (hf : f ≤ e) (he : e ≤ 600) (K1 : x_is tx f e lt → Q (some (.int 1)) h) (K2 : ¬ x_is tx f e lt → Q (some (.int 0)) h) : J l G mX8_isWord 0 0 0 (lv_args 0 [.ref 27, .long w, .int (nI n)]) [] h Q := by
  have hw1 := hw.1
  refine j_aload_n (pc := 0) dX8_isWord_0 rfl ?_
  refine j_getf (pc := 1) dX8_isWord_1 jfX8_88 H0 rfl ?_
  refine j_aload_n (pc := 4) dX8_isWord_4 rfl ?_
  refine j_getf (pc := 5) dX8_isWord_5 jfX8_91 H0 rfl ?_
  refine j_isubN (a := e) (b := f) (pc := 8) dX8_isWord_8 (by omega) ?_
  refine j_iload_n (pc := 9) dX8_isWord_9 rfl ?_
  refine j_icmp_neN (a := e - f) (b := n) (pc := 10) (tgt := 17) dX8_isWord_10 (by decide) (by omega) (by omega) (fun c1 => ?_) (fun c1 => ?_)
  · refine j_iconst (pc := 17) (v := 0) dX8_isWord_17 (by decide) ?_
    refine j_istore (pc := 18) dX8_isWord_18 (by decide) ?_
    refine j_iconst (pc := 20) (v := 0) dX8_isWord_20 (by decide) ?_
    refine j_istore (pc := 21) dX8_isWord_21 (by decide) ?_
    refine j_iload (pc := 23) dX8_isWord_23 rfl ?_
    refine j_iload_n (pc := 25) dX8_isWord_25 rfl ?_
    refine j_icmp_geN (a := 0) (b := n) (pc := 26) (tgt := 79) dX8_isWord_26 (by decide) (by omega) (by omega) (fun c2 => ?_) (fun c2 => ?_)
    · refine j_iload (pc := 79) dX8_isWord_79 rfl ?_
      exact j_iret (pc := 81) dX8_isWord_81 rfl rfl (Nat.le_of_ble_eq_true rfl) (Nat.le_of_ble_eq_true rfl) (K2 (fun z => absurd z.1 (by omega)))
    · refine j_iload (pc := 29) dX8_isWord_29 rfl ?_
      refine j_if_eq (pc := 31) (tgt := 79) dX8_isWord_31 (by decide) (fun c3 => ?_) (fun c3 => ?_)
      · refine j_iload (pc := 79) dX8_isWord_79 rfl ?_
        exact j_iret (pc := 81) dX8_isWord_81 rfl rfl (Nat.le_of_ble_eq_true rfl) (Nat.le_of_ble_eq_true rfl) (K2 (fun z => absurd z.1 (by omega)))
      · exact absurd c3 (by decide)
  · refine j_iconst (pc := 13) (v := 1) dX8_isWord_13 (by decide) ?_
    refine j_goto (pc := 14) (tgt := 18) dX8_isWord_14 (by decide) ?_
    refine j_istore (pc := 18) dX8_isWord_18 (by decide) ?_
    refine j_iconst (pc := 20) (v := 0) dX8_isWord_20 (by decide) ?_
    refine j_istore (pc := 21) dX8_isWord_21 (by decide) ?_
    refine j_sub (lv' := [(0, .ref 27), (1, .long w), (3, .int (nI n)), (4, .int 1), (5, .int (nI 0))]) rfl ?_
    refine j_for (N := n) (S := fun i => (∀ k, k < i → tx (f + k) = lt.getD k 0) → J l G mX8_isWord 0 0 23 [(0, .ref 27), (1, .long w), (3, .int (nI n)), (4, .int 1), (5, .int (nI i))] [] h Q) ?_ ?_ 0 (Nat.zero_le _) (fun k hk => absurd hk (by omega))
    · intro i hi ih hm
      refine j_iload (pc := 23) dX8_isWord_23 rfl ?_
      refine j_iload_n (pc := 25) dX8_isWord_25 rfl ?_
      refine j_icmp_geN (a := i) (b := n) (pc := 26) (tgt := 79) dX8_isWord_26 (by decide) (by omega) (by omega) (fun c4 => ?_) (fun c4 => ?_)
      · exfalso; omega
      · refine j_iload (pc := 29) dX8_isWord_29 rfl ?_
        refine j_if_eq (pc := 31) (tgt := 79) dX8_isWord_31 (by decide) (fun c5 => ?_) (fun c5 => ?_)
        · exact absurd c5 (by decide)
        · refine j_aload_n (pc := 34) dX8_isWord_34 rfl ?_
          refine j_getf (pc := 35) dX8_isWord_35 jfX8_7 H0 rfl ?_
          refine j_aload_n (pc := 38) dX8_isWord_38 rfl ?_
          refine j_getf (pc := 39) dX8_isWord_39 jfX8_91 H0 rfl ?_
          refine j_iload (pc := 42) dX8_isWord_42 rfl ?_
          refine j_iaddN (a := f) (b := i) (pc := 44) dX8_isWord_44 ?_
          refine j_iald (pc := 45) dX8_isWord_45 H1 (jix_nI (by omega) (by decide)) ?_
          refine j_i2l (pc := 46) dX8_isWord_46 ?_
          refine j_lload_n (pc := 47) dX8_isWord_47 rfl ?_
          refine j_bipush (pc := 48) (v := 8) dX8_isWord_48 (by decide) ?_
          refine j_iload_n (pc := 50) dX8_isWord_50 rfl ?_
          refine j_iconst (pc := 51) (v := 1) dX8_isWord_51 (by decide) ?_
          refine j_isubN (a := n) (b := 1) (pc := 52) dX8_isWord_52 (by omega) ?_
          refine j_iload (pc := 53) dX8_isWord_53 rfl ?_
          refine j_isubN (a := n - 1) (b := i) (pc := 55) dX8_isWord_55 (by omega) ?_
          refine j_imulN (a := 8) (b := (n - 1) - i) (pc := 56) dX8_isWord_56 ?_
          refine j_lshr (pc := 57) dX8_isWord_57 ?_
          refine j_ldc2 (pc := 58) dX8_isWord_58 jnX8_78 ?_
          refine j_land (pc := 61) dX8_isWord_61 ?_
          refine j_lc_ne (pc := 62) (tgt := 70) dX8_isWord_62 dX8_isWord_63 (by decide) (fun c6 => ?_) (fun c6 => ?_)
          · refine j_iconst (pc := 70) (v := 0) dX8_isWord_70 (by decide) ?_
            refine j_istore (pc := 71) dX8_isWord_71 (by decide) ?_
            refine j_iincN (a := i) (d := 1) (pc := 73) dX8_isWord_73 rfl (by decide) ?_
            refine j_goto (pc := 76) (tgt := 23) dX8_isWord_76 (by decide) ?_
            refine j_iload (pc := 23) dX8_isWord_23 rfl ?_
            refine j_iload_n (pc := 25) dX8_isWord_25 rfl ?_
            refine j_icmp_geN (a := i + 1) (b := n) (pc := 26) (tgt := 79) dX8_isWord_26 (by decide) (by omega) (by omega) (fun c7 => ?_) (fun c7 => ?_)
            · refine j_iload (pc := 79) dX8_isWord_79 rfl ?_
              exact j_iret (pc := 81) dX8_isWord_81 rfl rfl (Nat.le_of_ble_eq_true rfl) (Nat.le_of_ble_eq_true rfl) (K2 (fun z => c6 (by rw [z.2 i (by omega)]; exact (hw.2 i hi).symm)))
            · refine j_iload (pc := 29) dX8_isWord_29 rfl ?_
              refine j_if_eq (pc := 31) (tgt := 79) dX8_isWord_31 (by decide) (fun c8 => ?_) (fun c8 => ?_)
              · refine j_iload (pc := 79) dX8_isWord_79 rfl ?_
                exact j_iret (pc := 81) dX8_isWord_81 rfl rfl (Nat.le_of_ble_eq_true rfl) (Nat.le_of_ble_eq_true rfl) (K2 (fun z => c6 (by rw [z.2 i (by omega)]; exact (hw.2 i hi).symm)))
              · exact absurd c8 (by decide)
          · refine j_iconst (pc := 66) (v := 1) dX8_isWord_66 (by decide) ?_
            refine j_goto (pc := 67) (tgt := 71) dX8_isWord_67 (by decide) ?_
            refine j_istore (pc := 71) dX8_isWord_71 (by decide) ?_
            refine j_iincN (a := i) (d := 1) (pc := 73) dX8_isWord_73 rfl (by decide) ?_
            refine j_goto (pc := 76) (tgt := 23) dX8_isWord_76 (by decide) ?_
            exact j_sub rfl (ih (fun k hk => by
              rcases Nat.lt_or_ge k i with z | z
              · exact hm k z
              · rw [show k = i by omega]; exact x_i2l (c6.trans (hw.2 i hi))))
    · intro hm
      refine j_iload (pc := 23) dX8_isWord_23 rfl ?_
      refine j_iload_n (pc := 25) dX8_isWord_25 rfl ?_
      refine j_icmp_geN (a := n) (b := n) (pc := 26) (tgt := 79) dX8_isWord_26 (by decide) (by omega) (by omega) (fun c9 => ?_) (fun c9 => ?_)
      · refine j_iload (pc := 79) dX8_isWord_79 rfl ?_
        exact j_iret (pc := 81) dX8_isWord_81 rfl rfl (Nat.le_of_ble_eq_true rfl) (Nat.le_of_ble_eq_true rfl) (K1 ⟨by omega, fun k hk => hm k (by omega)⟩)
      · exfalso; omega
