set_option maxRecDepth 20000 in
theorem s_X2_addReversed {l : Launch} {G : jG} {h : jH} {Q : Option Value → jH → Prop} {a b n : Nat} {dd dk dn od ok_ on_ : Int32} {da oa : Nat → Int32} {dm om : Nat → Int64} (H0 : h.2 a = some (jO 2 [.ref (a + 1), .ref (a + 2), .int 0, .int dd, .int dk, .int dn])) (H1 : h.2 (a + 1) = some (jI 8 da)) (H2 : h.2 (a + 2) = some (jL 8 dm)) (H3 : h.2 b = some (jO 2 [.ref (b + 1), .ref (b + 2), .int (nI n), .int od, .int ok_, .int on_])) (H4 : h.2 (b + 1) = some (jI 8 oa)) (H5 : h.2 (b + 2) = some (jL 8 om)) (hn : n ≤ 8) (hab : b + 3 ≤ a) (K1 : Q none (j_set (j_set (j_set h a (jO 2 [.ref (a + 1), .ref (a + 2), .int (nI n), .int dd, .int dk, .int dn])) (a + 1) (jI 8 (j_f0 da oa n))) (a + 2) (jL 8 (j_f0 dm (fun k => -(om k)) n)))) : J l G mX2_addReversed 0 0 0 (lv_args 0 [.ref a, .ref b]) [] h Q := by
  refine j_iconst (pc := 0) (v := 0) dX2_addReversed_0 (by decide) ?_
  refine j_istore_n (pc := 1) dX2_addReversed_1 (by decide) ?_
  refine j_pad H0 ?_
  refine j_pad (j_hn (by omega) H1) ?_
  refine j_pad (j_hn (by omega) (j_hn (by omega) H2)) ?_
  refine j_sub (lv' := [(0, .ref a), (1, .ref b), (2, .int (nI 0))]) rfl ?_
  refine j_for (N := n) (S := fun i1 => J l G mX2_addReversed 0 0 2 [(0, .ref a), (1, .ref b), (2, .int (nI i1))] [] (j_set (j_set (j_set h a (jO 2 [.ref (a + 1), .ref (a + 2), .int (nI i1), .int dd, .int dk, .int dn])) (a + 1) (jI 8 (j_f0 da oa i1))) (a + 2) (jL 8 (j_f0 dm (fun k => -(om k)) i1))) Q) ?_ ?_ 0 (Nat.zero_le _)
  · intro i1 hi1 ih1
    refine j_iload_n (pc := 2) dX2_addReversed_2 rfl ?_
    refine j_aload_n (pc := 3) dX2_addReversed_3 rfl ?_
    refine j_getf (pc := 4) dX2_addReversed_4 jfX2_23 (j_hn (by omega) (j_hn (by omega) (j_hn (by omega) H3))) rfl ?_
    refine j_icmp_geN (a := i1) (b := n) (pc := 7) (tgt := 33) dX2_addReversed_7 (by decide) (by omega) (by omega) (fun c1 => ?_) (fun c1 => ?_)
    · exfalso; omega
    · refine j_aload_n (pc := 10) dX2_addReversed_10 rfl ?_
      refine j_aload_n (pc := 11) dX2_addReversed_11 rfl ?_
      refine j_getf (pc := 12) dX2_addReversed_12 jfX2_11 (j_hn (by omega) (j_hn (by omega) (j_hn (by omega) H3))) rfl ?_
      refine j_iload_n (pc := 15) dX2_addReversed_15 rfl ?_
      refine j_iald (pc := 16) dX2_addReversed_16 (j_hn (by omega) (j_hn (by omega) (j_hn (by omega) H4))) (jix_nI (by omega) (by decide)) ?_
      refine j_aload_n (pc := 17) dX2_addReversed_17 rfl ?_
      refine j_getf (pc := 18) dX2_addReversed_18 jfX2_15 (j_hn (by omega) (j_hn (by omega) (j_hn (by omega) H3))) rfl ?_
      refine j_iload_n (pc := 21) dX2_addReversed_21 rfl ?_
      refine j_lald (pc := 22) dX2_addReversed_22 (j_hn (by omega) (j_hn (by omega) (j_hn (by omega) H5))) (jix_nI (by omega) (by decide)) ?_
      refine j_lneg (pc := 23) dX2_addReversed_23 ?_
      refine j_V2 (rm' := rmX2_add) (pc := 24) dX2_addReversed_24 jlX2_30 (j_hn (by omega) (j_hn (by omega) j_hs)) rfl ⟨Nat.le_of_ble_eq_true rfl, Nat.le_of_ble_eq_true rfl, Nat.le_of_ble_eq_true rfl, Nat.le_of_ble_eq_true rfl, Nat.le_of_ble_eq_true rfl, Nat.le_of_ble_eq_true rfl⟩ ?_
      refine s_X2_add (R := i1) (j_hn (by omega) (j_hn (by omega) j_hs)) (j_hn (by omega) j_hs) j_hs (by omega) (fun c2 => ?_) (fun c3 => ?_)
      · show J l G mX2_addReversed _ _ 27 _ [] (j_set (j_set (j_set (j_set (j_set (j_set h a (jO 2 [.ref (a + 1), .ref (a + 2), .int (nI i1), .int dd, .int dk, .int dn])) (a + 1) (jI 8 (j_f0 da oa i1))) (a + 2) (jL 8 (j_f0 dm (fun k => -(om k)) i1))) (a + 1) (jI 8 (va_up (j_f0 da oa i1) i1 (oa i1)))) (a + 2) (jL 8 (va_up (j_f0 dm (fun k => -(om k)) i1) i1 (-(om i1))))) a (jO 2 [.ref (a + 1), .ref (a + 2), .int (nI (i1 + 1)), .int dd, .int dk, .int dn])) Q
        rw [show (j_set (j_set (j_set (j_set (j_set (j_set h a (jO 2 [.ref (a + 1), .ref (a + 2), .int (nI i1), .int dd, .int dk, .int dn])) (a + 1) (jI 8 (j_f0 da oa i1))) (a + 2) (jL 8 (j_f0 dm (fun k => -(om k)) i1))) (a + 1) (jI 8 (va_up (j_f0 da oa i1) i1 (oa i1)))) (a + 2) (jL 8 (va_up (j_f0 dm (fun k => -(om k)) i1) i1 (-(om i1))))) a (jO 2 [.ref (a + 1), .ref (a + 2), .int (nI (i1 + 1)), .int dd, .int dk, .int dn])) = (j_set (j_set (j_set h a (jO 2 [.ref (a + 1), .ref (a + 2), .int (nI (i1 + 1)), .int dd, .int dk, .int dn])) (a + 1) (jI 8 (va_up (j_f0 da oa i1) i1 (oa i1)))) (a + 2) (jL 8 (va_up (j_f0 dm (fun k => -(om k)) i1) i1 (-(om i1))))) from by rw [j_ss1 (a := a + 1) (b0 := a + 2) (by omega), j_ss0 (a := a + 2), j_ss2 (a := a) (b0 := a + 1) (b1 := a + 2) (by omega) (by omega)]]
        refine j_iincN (a := i1) (d := 1) (pc := 27) dX2_addReversed_27 rfl (by decide) ?_
        refine j_goto (pc := 30) (tgt := 2) dX2_addReversed_30 (by decide) ?_
        exact j_sub rfl ih1
      · exfalso; omega
  · refine j_iload_n (pc := 2) dX2_addReversed_2 rfl ?_
    refine j_aload_n (pc := 3) dX2_addReversed_3 rfl ?_
    refine j_getf (pc := 4) dX2_addReversed_4 jfX2_23 (j_hn (by omega) (j_hn (by omega) (j_hn (by omega) H3))) rfl ?_
    refine j_icmp_geN (a := n) (b := n) (pc := 7) (tgt := 33) dX2_addReversed_7 (by decide) (by omega) (by omega) (fun c4 => ?_) (fun c4 => ?_)
    · exact j_vret (pc := 33) dX2_addReversed_33 rfl (Nat.le_of_ble_eq_true rfl) (Nat.le_of_ble_eq_true rfl) (K1)
    · exfalso; omega

set_option maxRecDepth 20000 in
theorem s_X0_takeBack {l : Launch} {G : jG} {h : jH} {Q : Option Value → jH → Prop} {dr E C nx : Nat} {op n0 d0 : Int32} {eb rws : Nat → Nat} {dyy tkk tnn : Nat → Int32} {eac : Nat → Nat → Int32} {eam : Nat → Nat → Int64} {ea : Nat → Option Nat}  (H0 : h.2 12 = some (jO 0 [.ref 13, .int (nI E), .ref dr, .int op, .int (nI C)])) (H1 : h.2 13 = some (jQ 5 60 ea)) (FE : ∀ e, e < E → h.2 (eb e) = some (jO 2 [.ref (eb e + 1), .ref (eb e + 2), .int (nI (rws e)), .int (dyy e), .int (tkk e), .int (tnn e)])) (FA : ∀ e, e < E → h.2 (eb e + 1) = some (jI 8 (eac e))) (FM : ∀ e, e < E → h.2 (eb e + 2) = some (jL 8 (eam e))) (hx : h.1 = nx) (hE : E ≤ 60) (hea : ∀ e, e < E → ea e = some (eb e)) (hr8 : ∀ e, e < E → rws e ≤ 8) (hbE : ∀ e, e < E → 14 ≤ eb e ∧ eb e + 3 ≤ nx) (hnx : 50 ≤ nx) (K1 : n0 < 1 → Q (some (.int (-1))) h) (K2 : ¬ (n0 < 1) → (nI E) < n0 → Q (some (.int (-1))) h) (K3 : ¬ (n0 < 1) → ¬ ((nI E) < n0) → ∀ t6 : Nat, n0 = nI (t6 + 1) → t6 < E → (nI C) ≤ ((dyy t6) / 30) → Q (some (.int (-1))) h) (K4 : ¬ (n0 < 1) → ¬ ((nI E) < n0) → ∀ t6 : Nat, n0 = nI (t6 + 1) → t6 < E → ¬ ((nI C) ≤ ((dyy t6) / 30)) → (tnn t6) = 0 → (tkk t6) = 0 → d0 < 0 → Q (some (.int (-1))) h) (K5 : ¬ (n0 < 1) → ¬ ((nI E) < n0) → ∀ t6 : Nat, n0 = nI (t6 + 1) → t6 < E → ¬ ((nI C) ≤ ((dyy t6) / 30)) → (tnn t6) = 0 → (tkk t6) = 0 → ¬ (d0 < 0) → 3600 ≤ d0 → Q (some (.int (-1))) h) (K6 : ¬ (n0 < 1) → ¬ ((nI E) < n0) → ∀ t6 : Nat, n0 = nI (t6 + 1) → t6 < E → ¬ ((nI C) ≤ ((dyy t6) / 30)) → (tnn t6) = 0 → (tkk t6) = 0 → ¬ (d0 < 0) → ¬ (3600 ≤ d0) → (nI C) ≤ (d0 / 30) → E < 60 → ¬ 60 ≤ E → Q (some (.int (nI (E + 1)))) (j_set (j_set (j_set (j_set (j_set (j_set (j_inc h 3) nx (jO 2 [.ref (nx + 1), .ref (nx + 2), .int (nI (rws t6)), .int d0, .int (nI (t6 + 1)), .int 0])) (nx + 1) (jI 8 (j_f0 (fun _ => 0) (eac t6) (rws t6)))) (nx + 2) (jL 8 (j_f0 (fun _ => 0) (fun k => -((eam t6) k)) (rws t6)))) 13 (jQ 5 60 (va_up ea E (some nx)))) 12 (jO 0 [.ref 13, .int (nI (E + 1)), .ref dr, .int op, .int (nI C)])) (eb t6) (jO 2 [.ref (eb t6 + 1), .ref (eb t6 + 2), .int (nI (rws t6)), .int (dyy t6), .int (tkk t6), .int (nI (E + 1))]))) (K7 : ¬ (n0 < 1) → ¬ ((nI E) < n0) → ∀ t6 : Nat, n0 = nI (t6 + 1) → t6 < E → ¬ ((nI C) ≤ ((dyy t6) / 30)) → (tnn t6) = 0 → (tkk t6) = 0 → ¬ (d0 < 0) → ¬ (3600 ≤ d0) → (nI C) ≤ (d0 / 30) → ¬ E < 60 → Q (some (.int (-1))) h) (K8 : ¬ (n0 < 1) → ¬ ((nI E) < n0) → ∀ t6 : Nat, n0 = nI (t6 + 1) → t6 < E → ¬ ((nI C) ≤ ((dyy t6) / 30)) → (tnn t6) = 0 → (tkk t6) = 0 → ¬ (d0 < 0) → ¬ (3600 ≤ d0) → ¬ ((nI C) ≤ (d0 / 30)) → Q (some (.int (-1))) h) (K9 : ¬ (n0 < 1) → ¬ ((nI E) < n0) → ∀ t6 : Nat, n0 = nI (t6 + 1) → t6 < E → ¬ ((nI C) ≤ ((dyy t6) / 30)) → (tnn t6) = 0 → ¬ (tkk t6) = 0 → Q (some (.int (-1))) h) (K10 : ¬ (n0 < 1) → ¬ ((nI E) < n0) → ∀ t6 : Nat, n0 = nI (t6 + 1) → t6 < E → ¬ ((nI C) ≤ ((dyy t6) / 30)) → ¬ (tnn t6) = 0 → Q (some (.int (-1))) h) : J l G mX0_takeBack 0 0 0 (lv_args 0 [.ref 12, .int n0, .int d0]) [] h Q := by
  refine j_aload_n (pc := 0) dX0_takeBack_0 rfl ?_
  refine j_iload_n (pc := 1) dX0_takeBack_1 rfl ?_
  refine j_V1 (rm' := rmX0_entryAt) (pc := 2) dX0_takeBack_2 jlX0_81 H0 rfl ⟨Nat.le_of_ble_eq_true rfl, Nat.le_of_ble_eq_true rfl, Nat.le_of_ble_eq_true rfl, Nat.le_of_ble_eq_true rfl, Nat.le_of_ble_eq_true rfl, Nat.le_of_ble_eq_true rfl⟩ ?_
  refine s_X0_entryAt (E := E) (C := C) H0 H1 hE hea (fun c1 => ?_) (fun c2 c3 => ?_) (fun c4 c5 t6 ec6 ht6 => ?_)
  · show J l G mX0_takeBack _ _ 5 _ [.null] h Q
    refine j_nstore_n (pc := 5) dX0_takeBack_5 (by decide) ?_
    refine j_nload_n (pc := 6) dX0_takeBack_6 rfl ?_
    refine j_ifnullN (pc := 7) (tgt := 35) dX0_takeBack_7 (by decide) ?_
    refine j_iconst (pc := 35) (v := -1) dX0_takeBack_35 (by decide) ?_
    exact j_iret (pc := 36) dX0_takeBack_36 rfl rfl (Nat.le_of_ble_eq_true rfl) (Nat.le_of_ble_eq_true rfl) (K1 c1)
  · show J l G mX0_takeBack _ _ 5 _ [.null] h Q
    refine j_nstore_n (pc := 5) dX0_takeBack_5 (by decide) ?_
    refine j_nload_n (pc := 6) dX0_takeBack_6 rfl ?_
    refine j_ifnullN (pc := 7) (tgt := 35) dX0_takeBack_7 (by decide) ?_
    refine j_iconst (pc := 35) (v := -1) dX0_takeBack_35 (by decide) ?_
    exact j_iret (pc := 36) dX0_takeBack_36 rfl rfl (Nat.le_of_ble_eq_true rfl) (Nat.le_of_ble_eq_true rfl) (K2 c2 c3)
  · show J l G mX0_takeBack _ _ 5 _ [.ref (eb t6)] h Q
    subst ec6
    have hbt6 := hbE t6 ht6
    refine j_astore_n (pc := 5) dX0_takeBack_5 (by decide) ?_
    refine j_aload_n (pc := 6) dX0_takeBack_6 rfl ?_
    refine j_ifnull (pc := 7) dX0_takeBack_7 ?_
    refine j_aload_n (pc := 10) dX0_takeBack_10 rfl ?_
    refine j_aload_n (pc := 11) dX0_takeBack_11 rfl ?_
    refine j_getf (pc := 12) dX0_takeBack_12 jfX0_65 (FE t6 ht6) rfl ?_
    refine j_V1 (rm' := rmX0_isClosed) (pc := 15) dX0_takeBack_15 jlX0_85 H0 rfl ⟨Nat.le_of_ble_eq_true rfl, Nat.le_of_ble_eq_true rfl, Nat.le_of_ble_eq_true rfl, Nat.le_of_ble_eq_true rfl, Nat.le_of_ble_eq_true rfl, Nat.le_of_ble_eq_true rfl⟩ ?_
    refine s_X0_isClosed H0 (fun c7 => ?_) (fun c8 => ?_)
    · show J l G mX0_takeBack _ _ 18 _ [.int 0] h Q
      refine j_if_eq (pc := 18) (tgt := 35) dX0_takeBack_18 (by decide) (fun c9 => ?_) (fun c9 => ?_)
      · refine j_iconst (pc := 35) (v := -1) dX0_takeBack_35 (by decide) ?_
        exact j_iret (pc := 36) dX0_takeBack_36 rfl rfl (Nat.le_of_ble_eq_true rfl) (Nat.le_of_ble_eq_true rfl) (K3 c4 c5 t6 rfl ht6 c7)
      · exact absurd c9 (by decide)
    · show J l G mX0_takeBack _ _ 18 _ [.int 1] h Q
      refine j_if_eq (pc := 18) (tgt := 35) dX0_takeBack_18 (by decide) (fun c10 => ?_) (fun c10 => ?_)
      · exact absurd c10 (by decide)
      · refine j_aload_n (pc := 21) dX0_takeBack_21 rfl ?_
        refine j_V0 (rm' := rmX2_isTakenBack) (pc := 22) dX0_takeBack_22 jlX0_88 (FE t6 ht6) rfl ⟨Nat.le_of_ble_eq_true rfl, Nat.le_of_ble_eq_true rfl, Nat.le_of_ble_eq_true rfl, Nat.le_of_ble_eq_true rfl, Nat.le_of_ble_eq_true rfl, Nat.le_of_ble_eq_true rfl⟩ ?_
        refine s_X2_isTakenBack (FE t6 ht6) (fun c11 => ?_) (fun c12 => ?_)
        · show J l G mX0_takeBack _ _ 25 _ [.int 0] h Q
          refine j_if_ne (pc := 25) (tgt := 35) dX0_takeBack_25 (by decide) (fun c13 => ?_) (fun c13 => ?_)
          · exact absurd c13 (by decide)
          · refine j_aload_n (pc := 28) dX0_takeBack_28 rfl ?_
            refine j_V0 (rm' := rmX2_takesOneBack) (pc := 29) dX0_takeBack_29 jlX0_91 (FE t6 ht6) rfl ⟨Nat.le_of_ble_eq_true rfl, Nat.le_of_ble_eq_true rfl, Nat.le_of_ble_eq_true rfl, Nat.le_of_ble_eq_true rfl, Nat.le_of_ble_eq_true rfl, Nat.le_of_ble_eq_true rfl⟩ ?_
            refine s_X2_takesOneBack (FE t6 ht6) (fun c14 => ?_) (fun c15 => ?_)
            · show J l G mX0_takeBack _ _ 32 _ [.int 0] h Q
              refine j_if_eq (pc := 32) (tgt := 37) dX0_takeBack_32 (by decide) (fun c16 => ?_) (fun c16 => ?_)
              · refine j_aload_n (pc := 37) dX0_takeBack_37 rfl ?_
                refine j_iload_n (pc := 38) dX0_takeBack_38 rfl ?_
                refine j_V1 (rm' := rmX0_takesDay) (pc := 39) dX0_takeBack_39 jlX0_26 H0 rfl ⟨Nat.le_of_ble_eq_true rfl, Nat.le_of_ble_eq_true rfl, Nat.le_of_ble_eq_true rfl, Nat.le_of_ble_eq_true rfl, Nat.le_of_ble_eq_true rfl, Nat.le_of_ble_eq_true rfl⟩ ?_
                refine s_X0_takesDay H0 (fun c17 => ?_) (fun c18 c19 => ?_) (fun c20 c21 c22 => ?_) (fun c23 c24 c25 => ?_)
                · show J l G mX0_takeBack _ _ 42 _ [.int 0] h Q
                  refine j_if_eq (pc := 42) (tgt := 52) dX0_takeBack_42 (by decide) (fun c26 => ?_) (fun c26 => ?_)
                  · refine j_iconst (pc := 52) (v := -1) dX0_takeBack_52 (by decide) ?_
                    exact j_iret (pc := 53) dX0_takeBack_53 rfl rfl (Nat.le_of_ble_eq_true rfl) (Nat.le_of_ble_eq_true rfl) (K4 c4 c5 t6 rfl ht6 c8 c11 c14 c17)
                  · exact absurd c26 (by decide)
                · show J l G mX0_takeBack _ _ 42 _ [.int 0] h Q
                  refine j_if_eq (pc := 42) (tgt := 52) dX0_takeBack_42 (by decide) (fun c27 => ?_) (fun c27 => ?_)
                  · refine j_iconst (pc := 52) (v := -1) dX0_takeBack_52 (by decide) ?_
                    exact j_iret (pc := 53) dX0_takeBack_53 rfl rfl (Nat.le_of_ble_eq_true rfl) (Nat.le_of_ble_eq_true rfl) (K5 c4 c5 t6 rfl ht6 c8 c11 c14 c18 c19)
                  · exact absurd c27 (by decide)
                · show J l G mX0_takeBack _ _ 42 _ [.int 1] h Q
                  refine j_if_eq (pc := 42) (tgt := 52) dX0_takeBack_42 (by decide) (fun c28 => ?_) (fun c28 => ?_)
                  · exact absurd c28 (by decide)
                  · refine j_aload_n (pc := 45) dX0_takeBack_45 rfl ?_
                    refine j_V0 (rm' := rmX0_isFull) (pc := 46) dX0_takeBack_46 jlX0_30 H0 rfl ⟨Nat.le_of_ble_eq_true rfl, Nat.le_of_ble_eq_true rfl, Nat.le_of_ble_eq_true rfl, Nat.le_of_ble_eq_true rfl, Nat.le_of_ble_eq_true rfl, Nat.le_of_ble_eq_true rfl⟩ ?_
                    refine s_X0_isFull H0 (fun c29 => ?_) (fun c30 => ?_)
                    · show J l G mX0_takeBack _ _ 49 _ [.int 0] h Q
                      have c29 : E < 60 := (nI_ltI (a := E) (b := 60) (by omega) (by omega)).mp c29
                      refine j_if_eq (pc := 49) (tgt := 54) dX0_takeBack_49 (by decide) (fun c31 => ?_) (fun c31 => ?_)
                      · refine j_newcA (pc := 54) hx dX0_takeBack_54 (ci := 2) rfl jinX2 tyX2_ok jkX0_11 jiiX2 jitX2 (dfX2 G) (Nat.le_of_ble_eq_true rfl) (Nat.le_of_ble_eq_true rfl) ?_
                        show J l G mX0_takeBack _ _ 57 _ _ (j_set (j_inc h 1) nx (jO 2 [.null, .null, .int 0, .int 0, .int 0, .int 0])) Q
                        refine j_dup (pc := 57) dX0_takeBack_57 rfl ?_
                        refine j_I0 (rm' := rmX2_init) (pc := 58) dX0_takeBack_58 jlX0_17 ⟨Nat.le_of_ble_eq_true rfl, Nat.le_of_ble_eq_true rfl, Nat.le_of_ble_eq_true rfl, Nat.le_of_ble_eq_true rfl, Nat.le_of_ble_eq_true rfl, Nat.le_of_ble_eq_true rfl⟩ ?_
                        refine s_X2_init j_hs (by show h.1 + 1 = nx + 1; omega) ?_
                        show J l G mX0_takeBack _ _ 61 _ [.ref nx] (j_set (j_set (j_set (j_set (j_inc h 3) nx (jO 2 [.null, .null, .int 0, .int 0, .int 0, .int 0])) (nx + 1) (jI 8 (fun _ => 0))) nx (jO 2 [.ref (nx + 1), .ref (nx + 2), .int 0, .int 0, .int 0, .int 0])) (nx + 2) (jL 8 (fun _ => 0))) Q
                        rw [j_ss1 (a := nx) (b0 := nx + 1) (by omega)]
                        refine j_astore (pc := 61) dX0_takeBack_61 (by decide) ?_
                        refine j_aload (pc := 63) dX0_takeBack_63 rfl ?_
                        refine j_iload_n (pc := 65) dX0_takeBack_65 rfl ?_
                        refine j_V1 (rm' := rmX2_startOn) (pc := 66) dX0_takeBack_66 jlX0_34 (j_hn (by omega) (j_hn (by omega) j_hs)) rfl ⟨Nat.le_of_ble_eq_true rfl, Nat.le_of_ble_eq_true rfl, Nat.le_of_ble_eq_true rfl, Nat.le_of_ble_eq_true rfl, Nat.le_of_ble_eq_true rfl, Nat.le_of_ble_eq_true rfl⟩ ?_
                        refine s_X2_startOn (j_hn (by omega) (j_hn (by omega) j_hs)) ?_
                        show J l G mX0_takeBack _ _ 69 _ [] (j_set (j_set (j_set (j_set (j_inc h 3) nx (jO 2 [.ref (nx + 1), .ref (nx + 2), .int 0, .int 0, .int 0, .int 0])) (nx + 1) (jI 8 (fun _ => 0))) (nx + 2) (jL 8 (fun _ => 0))) nx (jO 2 [.ref (nx + 1), .ref (nx + 2), .int 0, .int d0, .int 0, .int 0])) Q
                        rw [j_ss2 (a := nx) (b0 := nx + 1) (b1 := nx + 2) (by omega) (by omega)]
                        refine j_aload (pc := 69) dX0_takeBack_69 rfl ?_
                        refine j_aload_n (pc := 71) dX0_takeBack_71 rfl ?_
                        refine j_V1 (rm' := rmX2_addReversed) (pc := 72) dX0_takeBack_72 jlX0_94 (j_hn (by omega) (j_hn (by omega) j_hs)) rfl ⟨Nat.le_of_ble_eq_true rfl, Nat.le_of_ble_eq_true rfl, Nat.le_of_ble_eq_true rfl, Nat.le_of_ble_eq_true rfl, Nat.le_of_ble_eq_true rfl, Nat.le_of_ble_eq_true rfl⟩ ?_
                        refine s_X2_addReversed (n := (rws t6)) (j_hn (by omega) (j_hn (by omega) j_hs)) (j_hn (by omega) j_hs) j_hs (j_hn (by omega) (j_hn (by omega) (j_hn (by omega) (FE t6 ht6)))) (j_hn (by omega) (j_hn (by omega) (j_hn (by omega) (FA t6 ht6)))) (j_hn (by omega) (j_hn (by omega) (j_hn (by omega) (FM t6 ht6)))) (hr8 t6 ht6) (by omega) ?_
                        show J l G mX0_takeBack _ _ 75 _ [] (j_set (j_set (j_set (j_set (j_set (j_set (j_inc h 3) nx (jO 2 [.ref (nx + 1), .ref (nx + 2), .int 0, .int d0, .int 0, .int 0])) (nx + 1) (jI 8 (fun _ => 0))) (nx + 2) (jL 8 (fun _ => 0))) nx (jO 2 [.ref (nx + 1), .ref (nx + 2), .int (nI (rws t6)), .int d0, .int 0, .int 0])) (nx + 1) (jI 8 (j_f0 (fun _ => 0) (eac t6) (rws t6)))) (nx + 2) (jL 8 (j_f0 (fun _ => 0) (fun k => -((eam t6) k)) (rws t6)))) Q
                        rw [show (j_set (j_set (j_set (j_set (j_set (j_set (j_inc h 3) nx (jO 2 [.ref (nx + 1), .ref (nx + 2), .int 0, .int d0, .int 0, .int 0])) (nx + 1) (jI 8 (fun _ => 0))) (nx + 2) (jL 8 (fun _ => 0))) nx (jO 2 [.ref (nx + 1), .ref (nx + 2), .int (nI (rws t6)), .int d0, .int 0, .int 0])) (nx + 1) (jI 8 (j_f0 (fun _ => 0) (eac t6) (rws t6)))) (nx + 2) (jL 8 (j_f0 (fun _ => 0) (fun k => -((eam t6) k)) (rws t6)))) = (j_set (j_set (j_set (j_inc h 3) nx (jO 2 [.ref (nx + 1), .ref (nx + 2), .int (nI (rws t6)), .int d0, .int 0, .int 0])) (nx + 1) (jI 8 (j_f0 (fun _ => 0) (eac t6) (rws t6)))) (nx + 2) (jL 8 (j_f0 (fun _ => 0) (fun k => -((eam t6) k)) (rws t6)))) from by rw [j_ss2 (a := nx) (b0 := nx + 1) (b1 := nx + 2) (by omega) (by omega), j_ss1 (a := nx + 1) (b0 := nx + 2) (by omega), j_ss0 (a := nx + 2)]]
                        refine j_aload (pc := 75) dX0_takeBack_75 rfl ?_
                        refine j_iload_n (pc := 77) dX0_takeBack_77 rfl ?_
                        refine j_putf (pc := 78) dX0_takeBack_78 jfX0_98 (j_hn (by omega) (j_hn (by omega) j_hs)) rfl rfl (Nat.le_of_ble_eq_true rfl) ?_
                        show J l G mX0_takeBack _ _ 81 _ _ (j_set (j_set (j_set (j_set (j_inc h 3) nx (jO 2 [.ref (nx + 1), .ref (nx + 2), .int (nI (rws t6)), .int d0, .int 0, .int 0])) (nx + 1) (jI 8 (j_f0 (fun _ => 0) (eac t6) (rws t6)))) (nx + 2) (jL 8 (j_f0 (fun _ => 0) (fun k => -((eam t6) k)) (rws t6)))) nx (jO 2 [.ref (nx + 1), .ref (nx + 2), .int (nI (rws t6)), .int d0, .int (nI (t6 + 1)), .int 0])) Q
                        rw [j_ss2 (a := nx) (b0 := nx + 1) (b1 := nx + 2) (by omega) (by omega)]
                        refine j_aload_n (pc := 81) dX0_takeBack_81 rfl ?_
                        refine j_aload_n (pc := 82) dX0_takeBack_82 rfl ?_
                        refine j_aload (pc := 83) dX0_takeBack_83 rfl ?_
                        refine j_V1 (rm' := rmX0_putIn) (pc := 85) dX0_takeBack_85 jlX0_58 (j_hn (by omega) (j_hn (by omega) (j_hn (by omega) H0))) rfl ⟨Nat.le_of_ble_eq_true rfl, Nat.le_of_ble_eq_true rfl, Nat.le_of_ble_eq_true rfl, Nat.le_of_ble_eq_true rfl, Nat.le_of_ble_eq_true rfl, Nat.le_of_ble_eq_true rfl⟩ ?_
                        refine s_X0_putIn (E := E) (C := C) (j_hn (by omega) (j_hn (by omega) (j_hn (by omega) H0))) (j_hn (by omega) (j_hn (by omega) (j_hn (by omega) H1))) (j_hn (by omega) (j_hn (by omega) j_hs)) hE (by omega) (fun c32 => ?_) (fun c33 => ?_)
                        · exfalso; omega
                        · show J l G mX0_takeBack _ _ 88 _ [.int (nI (E + 1)), .ref (eb t6)] (j_set (j_set (j_set (j_set (j_set (j_inc h 3) nx (jO 2 [.ref (nx + 1), .ref (nx + 2), .int (nI (rws t6)), .int d0, .int (nI (t6 + 1)), .int 0])) (nx + 1) (jI 8 (j_f0 (fun _ => 0) (eac t6) (rws t6)))) (nx + 2) (jL 8 (j_f0 (fun _ => 0) (fun k => -((eam t6) k)) (rws t6)))) 13 (jQ 5 60 (va_up ea E (some nx)))) 12 (jO 0 [.ref 13, .int (nI (E + 1)), .ref dr, .int op, .int (nI C)])) Q
                          refine j_putf (pc := 88) dX0_takeBack_88 jfX0_101 (j_hn (by omega) (j_hn (by omega) (j_hn (by omega) (j_hn (by omega) (j_hn (by omega) (FE t6 ht6)))))) rfl rfl (Nat.le_of_ble_eq_true rfl) ?_
                          show J l G mX0_takeBack _ _ 91 _ _ (j_set (j_set (j_set (j_set (j_set (j_set (j_inc h 3) nx (jO 2 [.ref (nx + 1), .ref (nx + 2), .int (nI (rws t6)), .int d0, .int (nI (t6 + 1)), .int 0])) (nx + 1) (jI 8 (j_f0 (fun _ => 0) (eac t6) (rws t6)))) (nx + 2) (jL 8 (j_f0 (fun _ => 0) (fun k => -((eam t6) k)) (rws t6)))) 13 (jQ 5 60 (va_up ea E (some nx)))) 12 (jO 0 [.ref 13, .int (nI (E + 1)), .ref dr, .int op, .int (nI C)])) (eb t6) (jO 2 [.ref (eb t6 + 1), .ref (eb t6 + 2), .int (nI (rws t6)), .int (dyy t6), .int (tkk t6), .int (nI (E + 1))])) Q
                          refine j_aload_n (pc := 91) dX0_takeBack_91 rfl ?_
                          refine j_getf (pc := 92) dX0_takeBack_92 jfX0_101 j_hs rfl ?_
                          exact j_iret (pc := 95) dX0_takeBack_95 rfl rfl (Nat.le_of_ble_eq_true rfl) (Nat.le_of_ble_eq_true rfl) (K6 c4 c5 t6 rfl ht6 c8 c11 c14 c20 c21 c22 c29 c33)
                      · exact absurd c31 (by decide)
                    · show J l G mX0_takeBack _ _ 49 _ [.int 1] h Q
                      have c30 : ¬ E < 60 := fun z => c30 ((nI_ltI (a := E) (b := 60) (by omega) (by omega)).mpr z)
                      refine j_if_eq (pc := 49) (tgt := 54) dX0_takeBack_49 (by decide) (fun c34 => ?_) (fun c34 => ?_)
                      · exact absurd c34 (by decide)
                      · refine j_iconst (pc := 52) (v := -1) dX0_takeBack_52 (by decide) ?_
                        exact j_iret (pc := 53) dX0_takeBack_53 rfl rfl (Nat.le_of_ble_eq_true rfl) (Nat.le_of_ble_eq_true rfl) (K7 c4 c5 t6 rfl ht6 c8 c11 c14 c20 c21 c22 c30)
                · show J l G mX0_takeBack _ _ 42 _ [.int 0] h Q
                  refine j_if_eq (pc := 42) (tgt := 52) dX0_takeBack_42 (by decide) (fun c35 => ?_) (fun c35 => ?_)
                  · refine j_iconst (pc := 52) (v := -1) dX0_takeBack_52 (by decide) ?_
                    exact j_iret (pc := 53) dX0_takeBack_53 rfl rfl (Nat.le_of_ble_eq_true rfl) (Nat.le_of_ble_eq_true rfl) (K8 c4 c5 t6 rfl ht6 c8 c11 c14 c23 c24 c25)
                  · exact absurd c35 (by decide)
              · exact absurd c16 (by decide)
            · show J l G mX0_takeBack _ _ 32 _ [.int 1] h Q
              refine j_if_eq (pc := 32) (tgt := 37) dX0_takeBack_32 (by decide) (fun c36 => ?_) (fun c36 => ?_)
              · exact absurd c36 (by decide)
              · refine j_iconst (pc := 35) (v := -1) dX0_takeBack_35 (by decide) ?_
                exact j_iret (pc := 36) dX0_takeBack_36 rfl rfl (Nat.le_of_ble_eq_true rfl) (Nat.le_of_ble_eq_true rfl) (K9 c4 c5 t6 rfl ht6 c8 c11 c15)
        · show J l G mX0_takeBack _ _ 25 _ [.int 1] h Q
          refine j_if_ne (pc := 25) (tgt := 35) dX0_takeBack_25 (by decide) (fun c37 => ?_) (fun c37 => ?_)
          · refine j_iconst (pc := 35) (v := -1) dX0_takeBack_35 (by decide) ?_
            exact j_iret (pc := 36) dX0_takeBack_36 rfl rfl (Nat.le_of_ble_eq_true rfl) (Nat.le_of_ble_eq_true rfl) (K10 c4 c5 t6 rfl ht6 c8 c12)
          · exact absurd c37 (by decide)

set_option maxRecDepth 20000 in
theorem s_X7_correct {l : Launch} {G : jG} {h : jH} {Q : Option Value → jH → Prop} {ru dq T : Nat} {dr E C nx : Nat} {op n0 d0 : Int32} {eb rws : Nat → Nat} {dyy tkk tnn : Nat → Int32} {eac : Nat → Nat → Int32} {eam : Nat → Nat → Int64} {ea : Nat → Option Nat}  (H0 : h.2 0 = some (jO 7 [.ref 1, .ref 3, .ref 6, .ref 7, .ref 8, .ref 12, .ref ru, .ref dq, .int (nI T)])) (H1 : h.2 12 = some (jO 0 [.ref 13, .int (nI E), .ref dr, .int op, .int (nI C)])) (H2 : h.2 13 = some (jQ 5 60 ea)) (FE : ∀ e, e < E → h.2 (eb e) = some (jO 2 [.ref (eb e + 1), .ref (eb e + 2), .int (nI (rws e)), .int (dyy e), .int (tkk e), .int (tnn e)])) (FA : ∀ e, e < E → h.2 (eb e + 1) = some (jI 8 (eac e))) (FM : ∀ e, e < E → h.2 (eb e + 2) = some (jL 8 (eam e))) (hx : h.1 = nx) (hE : E ≤ 60) (hea : ∀ e, e < E → ea e = some (eb e)) (hr8 : ∀ e, e < E → rws e ≤ 8) (hbE : ∀ e, e < E → 14 ≤ eb e ∧ eb e + 3 ≤ nx) (hnx : 50 ≤ nx) (K1 : n0 < 1 → Q (some (.int (-1))) h) (K2 : ¬ (n0 < 1) → (nI E) < n0 → Q (some (.int (-1))) h) (K3 : ¬ (n0 < 1) → ¬ ((nI E) < n0) → ∀ t6 : Nat, n0 = nI (t6 + 1) → t6 < E → (nI C) ≤ ((dyy t6) / 30) → Q (some (.int (-1))) h) (K4 : ¬ (n0 < 1) → ¬ ((nI E) < n0) → ∀ t10 : Nat, n0 = nI (t10 + 1) → t10 < E → ¬ ((nI C) ≤ ((dyy t10) / 30)) → (tnn t10) = 0 → (tkk t10) = 0 → d0 < 0 → Q (some (.int (-1))) h) (K5 : ¬ (n0 < 1) → ¬ ((nI E) < n0) → ∀ t17 : Nat, n0 = nI (t17 + 1) → t17 < E → ¬ ((nI C) ≤ ((dyy t17) / 30)) → (tnn t17) = 0 → (tkk t17) = 0 → ¬ (d0 < 0) → 3600 ≤ d0 → Q (some (.int (-1))) h) (K6 : ¬ (n0 < 1) → ¬ ((nI E) < n0) → ∀ t25 : Nat, n0 = nI (t25 + 1) → t25 < E → ¬ ((nI C) ≤ ((dyy t25) / 30)) → (tnn t25) = 0 → (tkk t25) = 0 → ¬ (d0 < 0) → ¬ (3600 ≤ d0) → (nI C) ≤ (d0 / 30) → E < 60 → ¬ 60 ≤ E → Q (some (.int (nI (E + 1)))) (j_set (j_set (j_set (j_set (j_set (j_set (j_inc h 3) nx (jO 2 [.ref (nx + 1), .ref (nx + 2), .int (nI (rws t25)), .int d0, .int (nI (t25 + 1)), .int 0])) (nx + 1) (jI 8 (j_f0 (fun _ => 0) (eac t25) (rws t25)))) (nx + 2) (jL 8 (j_f0 (fun _ => 0) (fun k => -((eam t25) k)) (rws t25)))) 13 (jQ 5 60 (va_up ea E (some nx)))) 12 (jO 0 [.ref 13, .int (nI (E + 1)), .ref dr, .int op, .int (nI C)])) (eb t25) (jO 2 [.ref (eb t25 + 1), .ref (eb t25 + 2), .int (nI (rws t25)), .int (dyy t25), .int (tkk t25), .int (nI (E + 1))]))) (K7 : ¬ (n0 < 1) → ¬ ((nI E) < n0) → ∀ t36 : Nat, n0 = nI (t36 + 1) → t36 < E → ¬ ((nI C) ≤ ((dyy t36) / 30)) → (tnn t36) = 0 → (tkk t36) = 0 → ¬ (d0 < 0) → ¬ (3600 ≤ d0) → (nI C) ≤ (d0 / 30) → ¬ E < 60 → Q (some (.int (-1))) h) (K8 : ¬ (n0 < 1) → ¬ ((nI E) < n0) → ∀ t46 : Nat, n0 = nI (t46 + 1) → t46 < E → ¬ ((nI C) ≤ ((dyy t46) / 30)) → (tnn t46) = 0 → (tkk t46) = 0 → ¬ (d0 < 0) → ¬ (3600 ≤ d0) → ¬ ((nI C) ≤ (d0 / 30)) → Q (some (.int (-1))) h) (K9 : ¬ (n0 < 1) → ¬ ((nI E) < n0) → ∀ t55 : Nat, n0 = nI (t55 + 1) → t55 < E → ¬ ((nI C) ≤ ((dyy t55) / 30)) → (tnn t55) = 0 → ¬ (tkk t55) = 0 → Q (some (.int (-1))) h) (K10 : ¬ (n0 < 1) → ¬ ((nI E) < n0) → ∀ t61 : Nat, n0 = nI (t61 + 1) → t61 < E → ¬ ((nI C) ≤ ((dyy t61) / 30)) → ¬ (tnn t61) = 0 → Q (some (.int (-1))) h) : J l G mX7_correct 0 0 0 (lv_args 0 [.ref 0, .int n0, .int d0]) [] h Q := by
  refine j_aload_n (pc := 0) dX7_correct_0 rfl ?_
  refine j_getf (pc := 1) dX7_correct_1 jfX7_45 H0 rfl ?_
  refine j_iload_n (pc := 4) dX7_correct_4 rfl ?_
  refine j_iload_n (pc := 5) dX7_correct_5 rfl ?_
  refine j_V2 (rm' := rmX0_takeBack) (pc := 6) dX7_correct_6 jlX7_146 H1 rfl ⟨Nat.le_of_ble_eq_true rfl, Nat.le_of_ble_eq_true rfl, Nat.le_of_ble_eq_true rfl, Nat.le_of_ble_eq_true rfl, Nat.le_of_ble_eq_true rfl, Nat.le_of_ble_eq_true rfl⟩ ?_
  refine s_X0_takeBack (E := E) (C := C) (nx := nx) H1 H2 FE FA FM hx (by assumption) (by assumption) (by assumption) (by assumption) (by assumption) (fun c1 => ?_) (fun c2 c3 => ?_) (fun c4 c5 t6 ec6 ht6 c7 => ?_) (fun c8 c9 t10 ec10 ht10 c11 c12 c13 c14 => ?_) (fun c15 c16 t17 ec17 ht17 c18 c19 c20 c21 c22 => ?_) (fun c23 c24 t25 ec25 ht25 c26 c27 c28 c29 c30 c31 c32 c33 => ?_) (fun c34 c35 t36 ec36 ht36 c37 c38 c39 c40 c41 c42 c43 => ?_) (fun c44 c45 t46 ec46 ht46 c47 c48 c49 c50 c51 c52 => ?_) (fun c53 c54 t55 ec55 ht55 c56 c57 c58 => ?_) (fun c59 c60 t61 ec61 ht61 c62 c63 => ?_)
  · show J l G mX7_correct _ _ 9 _ [.int (-1)] h Q
    exact j_iret (pc := 9) dX7_correct_9 rfl rfl (Nat.le_of_ble_eq_true rfl) (Nat.le_of_ble_eq_true rfl) (K1 c1)
  · show J l G mX7_correct _ _ 9 _ [.int (-1)] h Q
    exact j_iret (pc := 9) dX7_correct_9 rfl rfl (Nat.le_of_ble_eq_true rfl) (Nat.le_of_ble_eq_true rfl) (K2 c2 c3)
  · show J l G mX7_correct _ _ 9 _ [.int (-1)] h Q
    subst ec6
    exact j_iret (pc := 9) dX7_correct_9 rfl rfl (Nat.le_of_ble_eq_true rfl) (Nat.le_of_ble_eq_true rfl) (K3 c4 c5 t6 rfl ht6 c7)
  · show J l G mX7_correct _ _ 9 _ [.int (-1)] h Q
    subst ec10
    exact j_iret (pc := 9) dX7_correct_9 rfl rfl (Nat.le_of_ble_eq_true rfl) (Nat.le_of_ble_eq_true rfl) (K4 c8 c9 t10 rfl ht10 c11 c12 c13 c14)
  · show J l G mX7_correct _ _ 9 _ [.int (-1)] h Q
    subst ec17
    exact j_iret (pc := 9) dX7_correct_9 rfl rfl (Nat.le_of_ble_eq_true rfl) (Nat.le_of_ble_eq_true rfl) (K5 c15 c16 t17 rfl ht17 c18 c19 c20 c21 c22)
  · show J l G mX7_correct _ _ 9 _ [.int (nI (E + 1))] (j_set (j_set (j_set (j_set (j_set (j_set (j_inc h 3) nx (jO 2 [.ref (nx + 1), .ref (nx + 2), .int (nI (rws t25)), .int d0, .int (nI (t25 + 1)), .int 0])) (nx + 1) (jI 8 (j_f0 (fun _ => 0) (eac t25) (rws t25)))) (nx + 2) (jL 8 (j_f0 (fun _ => 0) (fun k => -((eam t25) k)) (rws t25)))) 13 (jQ 5 60 (va_up ea E (some nx)))) 12 (jO 0 [.ref 13, .int (nI (E + 1)), .ref dr, .int op, .int (nI C)])) (eb t25) (jO 2 [.ref (eb t25 + 1), .ref (eb t25 + 2), .int (nI (rws t25)), .int (dyy t25), .int (tkk t25), .int (nI (E + 1))])) Q
    subst ec25
    exact j_iret (pc := 9) dX7_correct_9 rfl rfl (Nat.le_of_ble_eq_true rfl) (Nat.le_of_ble_eq_true rfl) (K6 c23 c24 t25 rfl ht25 c26 c27 c28 c29 c30 c31 c32 c33)
  · show J l G mX7_correct _ _ 9 _ [.int (-1)] h Q
    subst ec36
    exact j_iret (pc := 9) dX7_correct_9 rfl rfl (Nat.le_of_ble_eq_true rfl) (Nat.le_of_ble_eq_true rfl) (K7 c34 c35 t36 rfl ht36 c37 c38 c39 c40 c41 c42 c43)
  · show J l G mX7_correct _ _ 9 _ [.int (-1)] h Q
    subst ec46
    exact j_iret (pc := 9) dX7_correct_9 rfl rfl (Nat.le_of_ble_eq_true rfl) (Nat.le_of_ble_eq_true rfl) (K8 c44 c45 t46 rfl ht46 c47 c48 c49 c50 c51 c52)
  · show J l G mX7_correct _ _ 9 _ [.int (-1)] h Q
    subst ec55
    exact j_iret (pc := 9) dX7_correct_9 rfl rfl (Nat.le_of_ble_eq_true rfl) (Nat.le_of_ble_eq_true rfl) (K9 c53 c54 t55 rfl ht55 c56 c57 c58)
  · show J l G mX7_correct _ _ 9 _ [.int (-1)] h Q
    subst ec61
    exact j_iret (pc := 9) dX7_correct_9 rfl rfl (Nat.le_of_ble_eq_true rfl) (Nat.le_of_ble_eq_true rfl) (K10 c59 c60 t61 rfl ht61 c62 c63)
