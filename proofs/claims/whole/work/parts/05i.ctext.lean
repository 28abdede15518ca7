theorem x_if_P {α : Type} {c : Prop} {A B : α} {P : α → Prop} (h1 : P A) (h2 : P B) : P (x_if c A B) := by
  by_cases q : c
  · rw [x_if_t q]; exact h1
  · rw [x_if_f q]; exact h2
theorem x_ne_ge (tx : Nat → Int32) {L a : Nat} (h : a ≤ L) : a ≤ x_ne tx L a := Nat.le_trans (x_ws_spec tx h).1 (x_we_spec tx (x_ws_spec tx h).2.1).1
theorem x_sen_ok (tx : Nat → Int32) {L f e : Nat} (he : e ≤ L) (w : Int32) (fs : Nat → Int32) : e ≤ (x_sen tx L f e w fs).2.1 ∧ (x_sen tx L f e w fs).2.1 ≤ L ∧ ((x_sen tx L f e w fs).1 = 1 ∨ (x_sen tx L f e w fs).1 = 0) := by
  have a1 := x_ne_ge tx he
  have a2 := x_ne_le tx he
  have b1 := x_ne_ge tx a2
  have b2 := x_ne_le tx a2
  have hp : ∀ p o, e ≤ (x_pc tx L e w fs p o).2.1 ∧ (x_pc tx L e w fs p o).2.1 ≤ L ∧ ((x_pc tx L e w fs p o).1 = 1 ∨ (x_pc tx L e w fs p o).1 = 0) := by
    intro p o
    unfold x_pc
    refine x_if_P (P := fun r : x_T => e ≤ r.2.1 ∧ r.2.1 ≤ L ∧ (r.1 = 1 ∨ r.1 = 0)) ⟨Nat.le_refl _, he, Or.inr rfl⟩ (x_if_P (P := fun r : x_T => e ≤ r.2.1 ∧ r.2.1 ≤ L ∧ (r.1 = 1 ∨ r.1 = 0)) ⟨a1, a2, Or.inl rfl⟩ ⟨a1, a2, Or.inr rfl⟩)
  have hv : ∀ b m, e ≤ (x_vl tx L e w fs b m).2.1 ∧ (x_vl tx L e w fs b m).2.1 ≤ L ∧ ((x_vl tx L e w fs b m).1 = 1 ∨ (x_vl tx L e w fs b m).1 = 0) := by
    intro b m
    unfold x_vl
    refine x_if_P (P := fun r : x_T => e ≤ r.2.1 ∧ r.2.1 ≤ L ∧ (r.1 = 1 ∨ r.1 = 0)) (x_if_P (P := fun r : x_T => e ≤ r.2.1 ∧ r.2.1 ≤ L ∧ (r.1 = 1 ∨ r.1 = 0)) ⟨Nat.le_trans a1 b1, b2, Or.inl rfl⟩ ⟨Nat.le_trans a1 b1, b2, Or.inr rfl⟩) ⟨a1, a2, Or.inr rfl⟩
  unfold x_sen
  exact x_if_P (P := fun r : x_T => e ≤ r.2.1 ∧ r.2.1 ≤ L ∧ (r.1 = 1 ∨ r.1 = 0)) (hp 0 1) (x_if_P (P := fun r : x_T => e ≤ r.2.1 ∧ r.2.1 ≤ L ∧ (r.1 = 1 ∨ r.1 = 0)) (hp 1 0) (x_if_P (P := fun r : x_T => e ≤ r.2.1 ∧ r.2.1 ≤ L ∧ (r.1 = 1 ∨ r.1 = 0)) (hv 2 2) (x_if_P (P := fun r : x_T => e ≤ r.2.1 ∧ r.2.1 ≤ L ∧ (r.1 = 1 ∨ r.1 = 0)) (hv 12 1000) (x_if_P (P := fun r : x_T => e ≤ r.2.1 ∧ r.2.1 ≤ L ∧ (r.1 = 1 ∨ r.1 = 0)) (hv 22 999999) ⟨Nat.le_refl _, he, Or.inr rfl⟩))))
/-- a whole text: right or not, sentences, words, what is said -/
noncomputable def x_rd (tx : Nat → Int32) (L : Nat) : Nat → Nat → Int32 → Nat → (Nat → Int32) → x_T
  | 0, _, w, n, fs => (1, n, w, fs)
  | k + 1, a, w, n, fs => x_if (x_ne tx L a ≤ x_ws tx L a) (1, n, w, fs) (x_if ((x_sen tx L (x_ws tx L a) (x_ne tx L a) w fs).1 = 1) (x_rd tx L k (x_sen tx L (x_ws tx L a) (x_ne tx L a) w fs).2.1 (x_sen tx L (x_ws tx L a) (x_ne tx L a) w fs).2.2.1 (n + 1) (x_sen tx L (x_ws tx L a) (x_ne tx L a) w fs).2.2.2) (0, n, (x_sen tx L (x_ws tx L a) (x_ne tx L a) w fs).2.2.1, fs))
theorem x_rd_e {tx : Nat → Int32} {L k a n : Nat} {w : Int32} {fs : Nat → Int32} (h : x_ne tx L a ≤ x_ws tx L a) : x_rd tx L (k + 1) a w n fs = (1, n, w, fs) := by
  rw [x_rd, x_if_t h]
theorem x_rd_s {tx : Nat → Int32} {L k a n : Nat} {w : Int32} {fs : Nat → Int32} (h : ¬ x_ne tx L a ≤ x_ws tx L a) (h2 : (x_sen tx L (x_ws tx L a) (x_ne tx L a) w fs).1 = 1) : x_rd tx L (k + 1) a w n fs = x_rd tx L k (x_sen tx L (x_ws tx L a) (x_ne tx L a) w fs).2.1 (x_sen tx L (x_ws tx L a) (x_ne tx L a) w fs).2.2.1 (n + 1) (x_sen tx L (x_ws tx L a) (x_ne tx L a) w fs).2.2.2 := by
  rw [x_rd, x_if_f h, x_if_t h2]
theorem x_rd_n {tx : Nat → Int32} {L k a n : Nat} {w : Int32} {fs : Nat → Int32} (h : ¬ x_ne tx L a ≤ x_ws tx L a) (h2 : ¬ (x_sen tx L (x_ws tx L a) (x_ne tx L a) w fs).1 = 1) : x_rd tx L (k + 1) a w n fs = (0, n, (x_sen tx L (x_ws tx L a) (x_ne tx L a) w fs).2.2.1, fs) := by
  rw [x_rd, x_if_f h, x_if_f h2]
/-- the text's object and a draft's rows -/
def j_tx (h : jH) (dq L : Nat) (ws we wn : Int32) (f1 f2 f3 f4 : Nat → Int32) : jH := j_set (j_set (j_set (j_set (j_set h 1 (jO 5 [.ref 2, .int (nI L), .int ws, .int we, .int wn])) (dq + 1) (jI 2 f1)) (dq + 2) (jI 10 f2)) (dq + 3) (jI 10 f3)) (dq + 4) (jI 10 f4)
theorem j_tx_1 {h : jH} {dq L : Nat} {ws we wn ws' we' wn' : Int32} {f1 f2 f3 f4 : Nat → Int32} (hdq : 17 ≤ dq) : j_set (j_tx h dq L ws we wn f1 f2 f3 f4) 1 (jO 5 [.ref 2, .int (nI L), .int ws', .int we', .int wn']) = j_tx h dq L ws' we' wn' f1 f2 f3 f4 := by
  unfold j_tx
  rw [j_ss4 (by omega) (by omega) (by omega) (by omega)]
theorem j_tx_tx {h : jH} {dq L : Nat} {ws we wn ws' we' wn' : Int32} {f1 f2 f3 f4 g1 g2 g3 g4 : Nat → Int32} (hdq : 17 ≤ dq) : j_tx (j_tx h dq L ws we wn f1 f2 f3 f4) dq L ws' we' wn' g1 g2 g3 g4 = j_tx h dq L ws' we' wn' g1 g2 g3 g4 := by
  rw [j_tx, j_tx_1 hdq]
  unfold j_tx
  rw [j_ss3 (a := dq + 1) (by omega) (by omega) (by omega), j_ss2 (a := dq + 2) (by omega) (by omega), j_ss1 (a := dq + 3) (by omega), j_ss0 (a := dq + 4)]
theorem j_tx_h1 {h : jH} {dq L : Nat} {ws we wn : Int32} {f1 f2 f3 f4 : Nat → Int32} (hdq : 17 ≤ dq) : (j_tx h dq L ws we wn f1 f2 f3 f4).2 1 = some (jO 5 [.ref 2, .int (nI L), .int ws, .int we, .int wn]) := j_hn (by omega) (j_hn (by omega) (j_hn (by omega) (j_hn (by omega) j_hs)))
theorem j_tx_ho {h : jH} {dq L q : Nat} {ws we wn : Int32} {f1 f2 f3 f4 : Nat → Int32} {e : jE} (h1 : q ≠ 1) (h2 : q ≤ dq ∨ dq + 4 < q) (hq : h.2 q = some e) : (j_tx h dq L ws we wn f1 f2 f3 f4).2 q = some e := j_hn (by omega) (j_hn (by omega) (j_hn (by omega) (j_hn (by omega) (j_hn h1 hq))))
theorem j_tx_r1 {h : jH} {dq L : Nat} {ws we wn : Int32} {f1 f2 f3 f4 : Nat → Int32} : (j_tx h dq L ws we wn f1 f2 f3 f4).2 (dq + 1) = some (jI 2 f1) := j_hn (by omega) (j_hn (by omega) (j_hn (by omega) j_hs))
theorem j_tx_r2 {h : jH} {dq L : Nat} {ws we wn : Int32} {f1 f2 f3 f4 : Nat → Int32} : (j_tx h dq L ws we wn f1 f2 f3 f4).2 (dq + 2) = some (jI 10 f2) := j_hn (by omega) (j_hn (by omega) j_hs)
theorem j_tx_r3 {h : jH} {dq L : Nat} {ws we wn : Int32} {f1 f2 f3 f4 : Nat → Int32} : (j_tx h dq L ws we wn f1 f2 f3 f4).2 (dq + 3) = some (jI 10 f3) := j_hn (by omega) j_hs
theorem j_tx_r4 {h : jH} {dq L : Nat} {ws we wn : Int32} {f1 f2 f3 f4 : Nat → Int32} : (j_tx h dq L ws we wn f1 f2 f3 f4).2 (dq + 4) = some (jI 10 f4) := j_hs
set_option maxRecDepth 20000 in
theorem l_takeText {l : Launch} {G : jG} {h0 : jH} {Q : Option Value → jH → Prop} {dq L : Nat} {by_ : Nat → Int32} (H0 : h0.2 dq = some (jO 4 [.ref (dq + 1), .ref (dq + 2), .ref (dq + 3), .ref (dq + 4)])) (H6 : h0.2 2 = some (jC 600 by_)) (hgok : j_gok G) (hL : L ≤ 600) (hdq : 17 ≤ dq) : ∀ (k a n : Nat) (ws wn w : Int32) (f1 f2 f3 f4 fs : Nat → Int32), L < a + k → a ≤ L → n ≤ a → xR fs f1 f2 f3 f4 → wn + 1 = w →
    (∀ (ws we wn : Int32) (g1 g2 g3 g4 : Nat → Int32), (x_rd by_ L k a w n fs).1 = 1 → xR (x_rd by_ L k a w n fs).2.2.2 g1 g2 g3 g4 → Q (some (.int (nI (x_rd by_ L k a w n fs).2.1))) (j_tx h0 dq L ws we wn g1 g2 g3 g4)) →
    (∀ (ws we wn : Int32) (g1 g2 g3 g4 : Nat → Int32), ¬ (x_rd by_ L k a w n fs).1 = 1 → Q (some (.int (-1 - (x_rd by_ L k a w n fs).2.2.1))) (j_tx h0 dq L ws we wn g1 g2 g3 g4)) →
    J l G mX4_takeText 0 0 10 [(0, .ref dq), (1, .ref 1), (2, .int (nI n))] [] (j_tx h0 dq L ws (nI a) wn f1 f2 f3 f4) Q
  | 0, a, n, ws, wn, w, f1, f2, f3, f4, fs => fun h1 h2 h3 hx hw K1 K2 => by omega
  | k + 1, a, n, ws, wn, w, f1, f2, f3, f4, fs => fun h1 h2 h3 hx hw K1 K2 => by
    have hs := x_ws_spec by_ h2
    have ht := x_we_spec by_ hs.2.1
    refine j_iload_n (pc := 10) dX4_takeText_10 rfl ?_
    refine j_sipush (pc := 11) (v := 600) dX4_takeText_11 (by decide) ?_
    refine j_icmp_geN (a := n) (b := 600) (pc := 14) (tgt := 45) dX4_takeText_14 (by decide) (by omega) (by omega) (fun c1 => ?_) (fun c1 => ?_)
    · have he : x_ne by_ L a ≤ x_ws by_ L a := by have := x_ne_le by_ h2; omega
      refine j_iload_n (pc := 45) dX4_takeText_45 rfl ?_
      refine j_iret (pc := 46) dX4_takeText_46 rfl rfl (Nat.le_of_ble_eq_true rfl) (Nat.le_of_ble_eq_true rfl) ?_
      have q := K1 ws (nI a) wn f1 f2 f3 f4
      rw [x_rd_e he] at q
      exact q rfl hx
    · refine j_aload_n (pc := 17) dX4_takeText_17 rfl ?_
      refine j_V0 (rm' := rmX5_nextWord) (pc := 18) dX4_takeText_18 jlX4_38 (j_tx_h1 hdq) rfl ⟨Nat.le_of_ble_eq_true rfl, Nat.le_of_ble_eq_true rfl, Nat.le_of_ble_eq_true rfl, Nat.le_of_ble_eq_true rfl, Nat.le_of_ble_eq_true rfl, Nat.le_of_ble_eq_true rfl⟩ ?_
      refine s_X5_nextWord (a := a) (j_tx_h1 hdq) (j_tx_ho (by decide) (Or.inl (by omega)) H6) hL h2 (fun c2 => ?_) (fun c2 => ?_)
      · show J l G mX4_takeText _ _ 21 _ [.int 0] (j_set (j_tx h0 dq L ws (nI a) wn f1 f2 f3 f4) 1 (jO 5 [.ref 2, .int (nI L), .int (nI (x_ws by_ L a)), .int (nI (x_we by_ L (x_ws by_ L a))), .int (wn + 1)])) Q
        rw [j_tx_1 hdq]
        refine j_if_eq (pc := 21) (tgt := 45) dX4_takeText_21 (by decide) (fun c3 => ?_) (fun c3 => absurd rfl c3)
        refine j_iload_n (pc := 45) dX4_takeText_45 rfl ?_
        refine j_iret (pc := 46) dX4_takeText_46 rfl rfl (Nat.le_of_ble_eq_true rfl) (Nat.le_of_ble_eq_true rfl) ?_
        have q := K1 (nI (x_ws by_ L a)) (nI (x_we by_ L (x_ws by_ L a))) (wn + 1) f1 f2 f3 f4
        rw [x_rd_e (show x_ne by_ L a ≤ x_ws by_ L a from c2)] at q
        exact q rfl hx
      · have hne : ¬ x_ne by_ L a ≤ x_ws by_ L a := c2
        have he : x_ne by_ L a ≤ L := x_ne_le by_ h2
        show J l G mX4_takeText _ _ 21 _ [.int 1] (j_set (j_tx h0 dq L ws (nI a) wn f1 f2 f3 f4) 1 (jO 5 [.ref 2, .int (nI L), .int (nI (x_ws by_ L a)), .int (nI (x_ne by_ L a)), .int (wn + 1)])) Q
        rw [j_tx_1 hdq, hw]
        refine j_if_eq (pc := 21) (tgt := 45) dX4_takeText_21 (by decide) (fun c3 => absurd c3 (by decide)) (fun c3 => ?_)
        refine j_aload_n (pc := 24) dX4_takeText_24 rfl ?_
        refine j_aload_n (pc := 25) dX4_takeText_25 rfl ?_
        refine j_V1 (rm' := rmX4_takeSentence) (pc := 26) dX4_takeText_26 jlX4_42 (j_tx_ho (by omega) (Or.inl (Nat.le_refl _)) H0) rfl ⟨Nat.le_of_ble_eq_true rfl, Nat.le_of_ble_eq_true rfl, Nat.le_of_ble_eq_true rfl, Nat.le_of_ble_eq_true rfl, Nat.le_of_ble_eq_true rfl, Nat.le_of_ble_eq_true rfl⟩ ?_
        have so := x_sen_ok by_ (f := x_ws by_ L a) he w fs
        refine s_X4_sen (e := x_ne by_ L a) (f := x_ws by_ L a) (wn := w) (fs := fs) (j_tx_ho (by omega) (Or.inl (Nat.le_refl _)) H0) j_tx_r1 j_tx_r2 j_tx_r3 j_tx_r4 (j_tx_h1 hdq) (j_tx_ho (by decide) (Or.inl (by omega)) H6) hgok hL (by omega) he hdq hx ?_
        intro ws' wn' g1 g2 g3 g4 hy hn
        show J l G mX4_takeText _ _ 29 _ [.int (x_sen by_ L (x_ws by_ L a) (x_ne by_ L a) w fs).1] (j_tx (j_tx h0 dq L (nI (x_ws by_ L a)) (nI (x_ne by_ L a)) w f1 f2 f3 f4) dq L ws' (nI (x_sen by_ L (x_ws by_ L a) (x_ne by_ L a) w fs).2.1) wn' g1 g2 g3 g4) Q
        rw [j_tx_tx hdq]
        refine j_if_ne (pc := 29) (tgt := 39) dX4_takeText_29 (by decide) (fun c4 => ?_) (fun c4 => ?_)
        · have e1 : (x_sen by_ L (x_ws by_ L a) (x_ne by_ L a) w fs).1 = 1 := so.2.2.resolve_right c4
          refine j_iincN (a := n) (d := 1) (pc := 39) dX4_takeText_39 rfl (by decide) ?_
          refine j_goto (pc := 42) (tgt := 10) dX4_takeText_42 (by decide) ?_
          rw [x_rd_s hne e1] at K1 K2
          exact j_sub rfl (l_takeText H0 H6 hgok hL hdq k _ (n + 1) ws' wn' _ g1 g2 g3 g4 _ (by omega) so.2.1 (by omega) (hy e1).1 (hy e1).2 K1 K2)
        · have e1 : ¬ (x_sen by_ L (x_ws by_ L a) (x_ne by_ L a) w fs).1 = 1 := by rw [c4]; decide
          refine j_iconst (pc := 32) (v := -1) dX4_takeText_32 (by decide) ?_
          refine j_aload_n (pc := 33) dX4_takeText_33 rfl ?_
          refine j_getf (pc := 34) dX4_takeText_34 jfX4_46 (j_tx_h1 hdq) rfl ?_
          refine j_isub (pc := 37) dX4_takeText_37 ?_
          refine j_iret (pc := 38) dX4_takeText_38 rfl rfl (Nat.le_of_ble_eq_true rfl) (Nat.le_of_ble_eq_true rfl) ?_
          rw [hn e1]
          have q := K2 ws' (nI (x_sen by_ L (x_ws by_ L a) (x_ne by_ L a) w fs).2.1) wn' g1 g2 g3 g4
          rw [x_rd_n hne e1] at q
          rw [hn e1] at q
          exact q (show ¬ (0 : Int32) = 1 by decide)
