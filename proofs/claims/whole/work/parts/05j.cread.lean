theorem j_comm {h : jH} {a b : Nat} {A B : jE} (hab : a ≠ b) : j_set (j_set h a A) b B = j_set (j_set h b B) a A := by
  refine Prod.ext rfl (funext fun j => ?_)
  show (if j = b then some B else if j = a then some A else h.2 j) = (if j = a then some A else if j = b then some B else h.2 j)
  by_cases q : j = a
  · rw [if_pos q, if_neg (by omega), if_pos q]
  · rw [if_neg q, if_neg q]
theorem x_sen_w (tx : Nat → Int32) (L f e m : Nat) (fs : Nat → Int32) : ∃ m', (x_sen tx L f e (nI m) fs).2.2.1 = nI m' ∧ m' ≤ m + 3 := by
  have e1 : nI m + 1 = nI (m + 1) := (nI_succ m).symm
  have e2 : nI m + 1 + 1 = nI (m + 2) := by rw [e1]; exact (nI_succ (m + 1)).symm
  have e3 : nI m + 1 + 1 + 1 = nI (m + 3) := by rw [e2]; exact (nI_succ (m + 2)).symm
  have hp : ∀ p o, ∃ m', (x_pc tx L e (nI m) fs p o).2.2.1 = nI m' ∧ m' ≤ m + 3 := by
    intro p o
    unfold x_pc
    exact x_if_P (P := fun r : x_T => ∃ m', r.2.2.1 = nI m' ∧ m' ≤ m + 3) ⟨m, rfl, by omega⟩ (x_if_P (P := fun r : x_T => ∃ m', r.2.2.1 = nI m' ∧ m' ≤ m + 3) ⟨m + 2, e2, by omega⟩ ⟨m + 1, e1, by omega⟩)
  have hv : ∀ b c, ∃ m', (x_vl tx L e (nI m) fs b c).2.2.1 = nI m' ∧ m' ≤ m + 3 := by
    intro b c
    unfold x_vl
    exact x_if_P (P := fun r : x_T => ∃ m', r.2.2.1 = nI m' ∧ m' ≤ m + 3) (x_if_P (P := fun r : x_T => ∃ m', r.2.2.1 = nI m' ∧ m' ≤ m + 3) ⟨m + 3, e3, by omega⟩ ⟨m + 2, e2, by omega⟩) ⟨m + 1, e1, by omega⟩
  unfold x_sen
  exact x_if_P (P := fun r : x_T => ∃ m', r.2.2.1 = nI m' ∧ m' ≤ m + 3) (hp 0 1) (x_if_P (P := fun r : x_T => ∃ m', r.2.2.1 = nI m' ∧ m' ≤ m + 3) (hp 1 0) (x_if_P (P := fun r : x_T => ∃ m', r.2.2.1 = nI m' ∧ m' ≤ m + 3) (hv 2 2) (x_if_P (P := fun r : x_T => ∃ m', r.2.2.1 = nI m' ∧ m' ≤ m + 3) (hv 12 1000) (x_if_P (P := fun r : x_T => ∃ m', r.2.2.1 = nI m' ∧ m' ≤ m + 3) (hv 22 999999) ⟨m, rfl, by omega⟩))))
theorem x_rd_ok (tx : Nat → Int32) {L : Nat} : ∀ (k a m n : Nat) (fs : Nat → Int32), a ≤ L → n ≤ a → (x_rd tx L k a (nI m) n fs).2.1 ≤ L ∧ ((x_rd tx L k a (nI m) n fs).1 = 1 ∨ (x_rd tx L k a (nI m) n fs).1 = 0) ∧ ∃ m', (x_rd tx L k a (nI m) n fs).2.2.1 = nI m' ∧ m' ≤ m + 3 * k
  | 0, a, m, n, fs, h1, h2 => ⟨Nat.le_trans h2 h1, Or.inl rfl, m, rfl, by omega⟩
  | k + 1, a, m, n, fs, h1, h2 => by
    by_cases c : x_ne tx L a ≤ x_ws tx L a
    · rw [x_rd_e c]
      exact ⟨Nat.le_trans h2 h1, Or.inl rfl, m, rfl, by omega⟩
    · obtain ⟨m', e', hm⟩ := x_sen_w tx L (x_ws tx L a) (x_ne tx L a) m fs
      have so := x_sen_ok tx (f := x_ws tx L a) (x_ne_le tx h1) (nI m) fs
      have hs := x_ws_spec tx h1
      by_cases d : (x_sen tx L (x_ws tx L a) (x_ne tx L a) (nI m) fs).1 = 1
      · rw [x_rd_s c d]
        rw [e']
        obtain ⟨q1, q2, m2, q3, q4⟩ := x_rd_ok tx k (x_sen tx L (x_ws tx L a) (x_ne tx L a) (nI m) fs).2.1 m' (n + 1) (x_sen tx L (x_ws tx L a) (x_ne tx L a) (nI m) fs).2.2.2 so.2.1 (by omega)
        exact ⟨q1, q2, m2, q3, by omega⟩
      · rw [x_rd_n c d]
        exact ⟨Nat.le_trans h2 h1, Or.inr rfl, m', e', by omega⟩
theorem x_neg {m : Nat} (h : m < 1000000) : (-1 : Int32) - nI m < 0 := by
  rw [Int32.lt_iff_toInt_lt, Int32.toInt_sub, nI_toInt (by omega)]
  have e1 : (-1 : Int32).toInt = -1 := by decide
  have e0 : (0 : Int32).toInt = 0 := by decide
  rw [e1, e0, Int.bmod_eq_of_le (by omega) (by omega)]
  omega
/-- what a text says that says nothing -/
def x_f0 (fs : Nat → Int32) : Prop := ∀ k, k < 34 → fs k = if 12 ≤ k ∧ k < 22 then 1 else 0
theorem x_f0_R {fs f1 f2 f3 f4 : Nat → Int32} (h : x_f0 fs) : xR fs (j_f0 f1 (fun _ => (-1)) 2) (j_f0 f2 (fun _ => 0) 10) (j_f0 f3 (fun _ => 1) 10) (j_f0 f4 (fun _ => 0) 10) := by
  refine ⟨fun p hp => Or.inr ⟨?_, ?_, ?_⟩, fun k hk => ?_, fun k hk => ?_, fun k hk => ?_⟩
  · rw [h (32 + p) (by omega), if_neg (by omega)]
  · rw [j_f0_at, if_pos hp]
  · rw [h p (by omega), if_neg (by omega)]
  · rw [j_f0_at, if_pos hk, h (2 + k) (by omega), if_neg (by omega)]
  · rw [j_f0_at, if_pos hk, h (12 + k) (by omega), if_pos (by omega)]
  · rw [j_f0_at, if_pos hk, h (22 + k) (by omega), if_neg (by omega)]
set_option maxRecDepth 20000 in
theorem s_takeText {l : Launch} {G : jG} {h : jH} {Q : Option Value → jH → Prop} {dq L : Nat} {ws we wn : Int32} {f1 f2 f3 f4 by_ fs : Nat → Int32} (H0 : h.2 dq = some (jO 4 [.ref (dq + 1), .ref (dq + 2), .ref (dq + 3), .ref (dq + 4)])) (H1 : h.2 (dq + 1) = some (jI 2 f1)) (H2 : h.2 (dq + 2) = some (jI 10 f2)) (H3 : h.2 (dq + 3) = some (jI 10 f3)) (H4 : h.2 (dq + 4) = some (jI 10 f4)) (H5 : h.2 1 = some (jO 5 [.ref 2, .int (nI L), .int ws, .int we, .int wn])) (H6 : h.2 2 = some (jC 600 by_)) (hgok : j_gok G) (hL : L ≤ 600) (hdq : 17 ≤ dq) (hfs : x_f0 fs)
    (K1 : ∀ (ws we wn : Int32) (g1 g2 g3 g4 : Nat → Int32), (x_rd by_ L 601 0 (nI 0) 0 fs).1 = 1 → xR (x_rd by_ L 601 0 (nI 0) 0 fs).2.2.2 g1 g2 g3 g4 → Q (some (.int (nI (x_rd by_ L 601 0 (nI 0) 0 fs).2.1))) (j_tx h dq L ws we wn g1 g2 g3 g4))
    (K2 : ∀ (ws we wn : Int32) (g1 g2 g3 g4 : Nat → Int32), ¬ (x_rd by_ L 601 0 (nI 0) 0 fs).1 = 1 → Q (some (.int (-1 - (x_rd by_ L 601 0 (nI 0) 0 fs).2.2.1))) (j_tx h dq L ws we wn g1 g2 g3 g4)) : J l G mX4_takeText 0 0 0 (lv_args 0 [.ref dq, .ref 1]) [] h Q := by
  refine j_aload_n (pc := 0) dX4_takeText_0 rfl ?_
  refine j_V0 (rm' := rmX4_forget) (pc := 1) dX4_takeText_1 jlX4_24 H0 rfl ⟨Nat.le_of_ble_eq_true rfl, Nat.le_of_ble_eq_true rfl, Nat.le_of_ble_eq_true rfl, Nat.le_of_ble_eq_true rfl, Nat.le_of_ble_eq_true rfl, Nat.le_of_ble_eq_true rfl⟩ ?_
  refine s_X4_forget H0 H1 H2 H3 H4 ?_
  show J l G mX4_takeText _ _ 4 _ [] (j_set (j_set (j_set (j_set h (dq + 1) (jI 2 (j_f0 f1 (fun _ => (-1)) 2))) (dq + 2) (jI 10 (j_f0 f2 (fun _ => 0) 10))) (dq + 3) (jI 10 (j_f0 f3 (fun _ => 1) 10))) (dq + 4) (jI 10 (j_f0 f4 (fun _ => 0) 10))) Q
  have h5 : (j_set (j_set (j_set (j_set h (dq + 1) (jI 2 (j_f0 f1 (fun _ => (-1)) 2))) (dq + 2) (jI 10 (j_f0 f2 (fun _ => 0) 10))) (dq + 3) (jI 10 (j_f0 f3 (fun _ => 1) 10))) (dq + 4) (jI 10 (j_f0 f4 (fun _ => 0) 10))).2 1 = some (jO 5 [.ref 2, .int (nI L), .int ws, .int we, .int wn]) := j_hn (by omega) (j_hn (by omega) (j_hn (by omega) (j_hn (by omega) H5)))
  refine j_aload_n (pc := 4) dX4_takeText_4 rfl ?_
  refine j_V0 (rm' := rmX5_rewind) (pc := 5) dX4_takeText_5 jlX4_33 h5 rfl ⟨Nat.le_of_ble_eq_true rfl, Nat.le_of_ble_eq_true rfl, Nat.le_of_ble_eq_true rfl, Nat.le_of_ble_eq_true rfl, Nat.le_of_ble_eq_true rfl, Nat.le_of_ble_eq_true rfl⟩ ?_
  refine s_X5_rewind h5 ?_
  show J l G mX4_takeText _ _ 8 _ [] (j_set (j_set (j_set (j_set (j_set h (dq + 1) (jI 2 (j_f0 f1 (fun _ => (-1)) 2))) (dq + 2) (jI 10 (j_f0 f2 (fun _ => 0) 10))) (dq + 3) (jI 10 (j_f0 f3 (fun _ => 1) 10))) (dq + 4) (jI 10 (j_f0 f4 (fun _ => 0) 10))) 1 (jO 5 [.ref 2, .int (nI L), .int ws, .int (nI 0), .int (-1)])) Q
  rw [j_comm (a := dq + 4) (b := 1) (by omega), j_comm (a := dq + 3) (b := 1) (by omega), j_comm (a := dq + 2) (b := 1) (by omega), j_comm (a := dq + 1) (b := 1) (by omega)]
  refine j_iconst (pc := 8) (v := 0) dX4_takeText_8 (by decide) ?_
  refine j_istore_n (pc := 9) dX4_takeText_9 (by decide) ?_
  exact j_sub rfl (l_takeText (l := l) (G := G) (h0 := h) H0 H6 hgok hL hdq 601 0 0 ws (-1) (nI 0) _ _ _ _ fs (by omega) (Nat.zero_le _) (Nat.le_refl _) (x_f0_R hfs) (by decide) K1 K2)
/-- read: what is said becomes the rules, if it is right -/
def j_rx (h : jH) (dq : Nat) (ws we wn : Int32) (f1 f2 f3 f4 : Nat → Int32) : jH := j_tx h dq 0 ws we wn f1 f2 f3 f4
theorem j_tx_0 {h : jH} {dq L : Nat} {ws we wn : Int32} {f1 f2 f3 f4 : Nat → Int32} (hdq : 17 ≤ dq) : j_set (j_tx h dq L ws we wn f1 f2 f3 f4) 1 (jO 5 [.ref 2, .int 0, .int ws, .int we, .int wn]) = j_tx h dq 0 ws we wn f1 f2 f3 f4 := by
  unfold j_tx
  rw [j_ss4 (by omega) (by omega) (by omega) (by omega)]
  rfl
set_option maxRecDepth 20000 in
theorem s_X7_read {l : Launch} {G : jG} {h : jH} {Q : Option Value → jH → Prop} {ru dq T L : Nat} {ws we wn : Int32} {f1 f2 f3 f4 by_ fs : Nat → Int32} (HX : h.2 0 = some (jO 7 [.ref 1, .ref 3, .ref 6, .ref 7, .ref 8, .ref 12, .ref ru, .ref dq, .int (nI T)])) (H0 : h.2 dq = some (jO 4 [.ref (dq + 1), .ref (dq + 2), .ref (dq + 3), .ref (dq + 4)])) (H1 : h.2 (dq + 1) = some (jI 2 f1)) (H2 : h.2 (dq + 2) = some (jI 10 f2)) (H3 : h.2 (dq + 3) = some (jI 10 f3)) (H4 : h.2 (dq + 4) = some (jI 10 f4)) (H5 : h.2 1 = some (jO 5 [.ref 2, .int (nI L), .int ws, .int we, .int wn])) (H6 : h.2 2 = some (jC 600 by_)) (hgok : j_gok G) (hL : L ≤ 600) (hdq : 17 ≤ dq) (hfs : x_f0 fs)
    (K1 : ∀ (ws we wn : Int32) (g1 g2 g3 g4 : Nat → Int32), (x_rd by_ L 601 0 (nI 0) 0 fs).1 = 1 → xR (x_rd by_ L 601 0 (nI 0) 0 fs).2.2.2 g1 g2 g3 g4 → Q (some (.int (nI (x_rd by_ L 601 0 (nI 0) 0 fs).2.1))) (j_set (j_tx h dq 0 ws we wn g1 g2 g3 g4) 0 (jO 7 [.ref 1, .ref 3, .ref 6, .ref 7, .ref 8, .ref 12, .ref dq, .ref ru, .int (nI T)])))
    (K2 : ∀ (ws we wn : Int32) (g1 g2 g3 g4 : Nat → Int32), ¬ (x_rd by_ L 601 0 (nI 0) 0 fs).1 = 1 → Q (some (.int (-1 - (x_rd by_ L 601 0 (nI 0) 0 fs).2.2.1))) (j_tx h dq 0 ws we wn g1 g2 g3 g4)) : J l G mX7_read 0 0 0 (lv_args 0 [.ref 0]) [] h Q := by
  obtain ⟨q1, q2, m', q3, q4⟩ := x_rd_ok by_ (L := L) 601 0 0 0 fs (Nat.zero_le _) (Nat.le_refl _)
  refine j_aload_n (pc := 0) dX7_read_0 rfl ?_
  refine j_getf (pc := 1) dX7_read_1 jfX7_56 HX rfl ?_
  refine j_aload_n (pc := 4) dX7_read_4 rfl ?_
  refine j_getf (pc := 5) dX7_read_5 jfX7_12 HX rfl ?_
  refine j_V1 (rm' := rmX4_takeText) (pc := 8) dX7_read_8 jlX7_63 H0 rfl ⟨Nat.le_of_ble_eq_true rfl, Nat.le_of_ble_eq_true rfl, Nat.le_of_ble_eq_true rfl, Nat.le_of_ble_eq_true rfl, Nat.le_of_ble_eq_true rfl, Nat.le_of_ble_eq_true rfl⟩ ?_
  refine s_takeText (fs := fs) H0 H1 H2 H3 H4 H5 H6 hgok hL hdq hfs ?_ ?_
  · intro ws we wn g1 g2 g3 g4 hr hx
    show J l G mX7_read _ _ 11 _ [.int (nI (x_rd by_ L 601 0 (nI 0) 0 fs).2.1)] (j_tx h dq L ws we wn g1 g2 g3 g4) Q
    have hx0 := j_tx_ho (dq := dq) (L := L) (ws := ws) (we := we) (wn := wn) (f1 := g1) (f2 := g2) (f3 := g3) (f4 := g4) (by decide) (Or.inl (by omega)) HX
    have hy0 := j_tx_ho (dq := dq) (L := 0) (ws := ws) (we := we) (wn := wn) (f1 := g1) (f2 := g2) (f3 := g3) (f4 := g4) (by decide) (Or.inl (by omega)) HX
    refine j_istore_n (pc := 11) dX7_read_11 (by decide) ?_
    refine j_aload_n (pc := 12) dX7_read_12 rfl ?_
    refine j_getf (pc := 13) dX7_read_13 jfX7_12 hx0 rfl ?_
    refine j_V0 (rm' := rmX5_empty) (pc := 16) dX7_read_16 jlX7_67 (j_tx_h1 hdq) rfl ⟨Nat.le_of_ble_eq_true rfl, Nat.le_of_ble_eq_true rfl, Nat.le_of_ble_eq_true rfl, Nat.le_of_ble_eq_true rfl, Nat.le_of_ble_eq_true rfl, Nat.le_of_ble_eq_true rfl⟩ ?_
    refine s_X5_empty (j_tx_h1 hdq) ?_
    show J l G mX7_read _ _ 19 _ [] (j_set (j_tx h dq L ws we wn g1 g2 g3 g4) 1 (jO 5 [.ref 2, .int 0, .int ws, .int we, .int wn])) Q
    rw [j_tx_0 hdq]
    refine j_iload_n (pc := 19) dX7_read_19 rfl ?_
    refine j_if_ltN (a := (x_rd by_ L 601 0 (nI 0) 0 fs).2.1) (pc := 20) (tgt := 41) dX7_read_20 (by decide) (by omega) (fun c1 => absurd c1 (Nat.not_lt_zero _)) (fun c1 => ?_)
    refine j_aload_n (pc := 23) dX7_read_23 rfl ?_
    refine j_getf (pc := 24) dX7_read_24 jfX7_52 hy0 rfl ?_
    refine j_astore_n (pc := 27) dX7_read_27 (by decide) ?_
    refine j_aload_n (pc := 28) dX7_read_28 rfl ?_
    refine j_aload_n (pc := 29) dX7_read_29 rfl ?_
    refine j_getf (pc := 30) dX7_read_30 jfX7_56 hy0 rfl ?_
    refine j_putf (pc := 33) dX7_read_33 jfX7_52 hy0 rfl rfl (Nat.le_of_ble_eq_true rfl) ?_
    refine j_aload_n (pc := 36) dX7_read_36 rfl ?_
    refine j_aload_n (pc := 37) dX7_read_37 rfl ?_
    refine j_putf (pc := 38) dX7_read_38 jfX7_56 j_hs rfl rfl (Nat.le_of_ble_eq_true rfl) ?_
    rw [j_ss0]
    refine j_iload_n (pc := 41) dX7_read_41 rfl ?_
    exact j_iret (pc := 42) dX7_read_42 rfl rfl (Nat.le_of_ble_eq_true rfl) (Nat.le_of_ble_eq_true rfl) (K1 ws we wn g1 g2 g3 g4 hr hx)
  · intro ws we wn g1 g2 g3 g4 hr
    show J l G mX7_read _ _ 11 _ [.int (-1 - (x_rd by_ L 601 0 (nI 0) 0 fs).2.2.1)] (j_tx h dq L ws we wn g1 g2 g3 g4) Q
    have hx0 := j_tx_ho (dq := dq) (L := L) (ws := ws) (we := we) (wn := wn) (f1 := g1) (f2 := g2) (f3 := g3) (f4 := g4) (by decide) (Or.inl (by omega)) HX
    refine j_istore_n (pc := 11) dX7_read_11 (by decide) ?_
    refine j_aload_n (pc := 12) dX7_read_12 rfl ?_
    refine j_getf (pc := 13) dX7_read_13 jfX7_12 hx0 rfl ?_
    refine j_V0 (rm' := rmX5_empty) (pc := 16) dX7_read_16 jlX7_67 (j_tx_h1 hdq) rfl ⟨Nat.le_of_ble_eq_true rfl, Nat.le_of_ble_eq_true rfl, Nat.le_of_ble_eq_true rfl, Nat.le_of_ble_eq_true rfl, Nat.le_of_ble_eq_true rfl, Nat.le_of_ble_eq_true rfl⟩ ?_
    refine s_X5_empty (j_tx_h1 hdq) ?_
    show J l G mX7_read _ _ 19 _ [] (j_set (j_tx h dq L ws we wn g1 g2 g3 g4) 1 (jO 5 [.ref 2, .int 0, .int ws, .int we, .int wn])) Q
    rw [j_tx_0 hdq]
    refine j_iload_n (pc := 19) dX7_read_19 rfl ?_
    refine j_if_lt (pc := 20) (tgt := 41) dX7_read_20 (by decide) (fun c1 => ?_) (fun c1 => absurd (show (-1 : Int32) - (x_rd by_ L 601 0 (nI 0) 0 fs).2.2.1 < 0 by rw [q3]; exact x_neg (by omega)) c1)
    refine j_iload_n (pc := 41) dX7_read_41 rfl ?_
    exact j_iret (pc := 42) dX7_read_42 rfl rfl (Nat.le_of_ble_eq_true rfl) (Nat.le_of_ble_eq_true rfl) (K2 ws we wn g1 g2 g3 g4 hr)
