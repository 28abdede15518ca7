set_option maxRecDepth 20000 in
theorem s_X2_init {l : Launch} {G : jG} {h : jH} {Q : Option Value → jH → Prop} {a : Nat} (H0 : h.2 a = some (jO 2 [.null, .null, .int 0, .int 0, .int 0, .int 0])) (hx : h.1 = a + 1)  (K1 : Q none (j_set (j_set (j_set (j_inc h 2) (a + 1) (jI 8 (fun _ => 0))) a (jO 2 [.ref (a + 1), .ref (a + 2), .int 0, .int 0, .int 0, .int 0])) (a + 2) (jL 8 (fun _ => 0)))) : J l G mX2_init 0 0 0 (lv_args 0 [.ref a]) [] h Q := by
  refine j_aload_n (pc := 0) dX2_init_0 rfl ?_
  refine j_objInit (pc := 1) dX2_init_1 joX2_3 job1 job2 (Nat.le_of_ble_eq_true rfl) (Nat.le_of_ble_eq_true rfl) ?_
  refine j_aload_n (pc := 4) dX2_init_4 rfl ?_
  refine j_bipush (pc := 5) (v := 8) dX2_init_5 (by decide) ?_
  refine j_newIA (pc := 7) (N := 8) hx dX2_init_7 (by decide) (by decide) (by decide) (Nat.le_of_ble_eq_true rfl) (Nat.le_of_ble_eq_true rfl) ?_
  show J l G mX2_init _ _ 9 _ _ (j_set (j_inc h 1) (a + 1) (jI 8 (fun _ => 0))) Q
  refine j_putF (pc := 9) dX2_init_9 jfX2_11 rfl rfl jgX2_11 (j_hn (by omega) H0) rfl rfl (Nat.le_of_ble_eq_true rfl) ?_
  show J l G mX2_init _ _ 12 _ _ (j_set (j_set (j_inc h 1) (a + 1) (jI 8 (fun _ => 0))) a (jO 2 [.ref (a + 1), .null, .int 0, .int 0, .int 0, .int 0])) Q
  refine j_aload_n (pc := 12) dX2_init_12 rfl ?_
  refine j_bipush (pc := 13) (v := 8) dX2_init_13 (by decide) ?_
  refine j_newLA (pc := 15) (N := 8) (by show h.1 + 1 = a + 2; omega) dX2_init_15 (by decide) (by decide) (by decide) (Nat.le_of_ble_eq_true rfl) (Nat.le_of_ble_eq_true rfl) ?_
  show J l G mX2_init _ _ 17 _ _ (j_set (j_set (j_set (j_inc h 2) (a + 1) (jI 8 (fun _ => 0))) a (jO 2 [.ref (a + 1), .null, .int 0, .int 0, .int 0, .int 0])) (a + 2) (jL 8 (fun _ => 0))) Q
  refine j_putF (pc := 17) dX2_init_17 jfX2_15 rfl rfl jgX2_15 (j_hn (by omega) j_hs) rfl rfl (Nat.le_of_ble_eq_true rfl) ?_
  show J l G mX2_init _ _ 20 _ _ (j_set (j_set (j_set (j_set (j_inc h 2) (a + 1) (jI 8 (fun _ => 0))) a (jO 2 [.ref (a + 1), .null, .int 0, .int 0, .int 0, .int 0])) (a + 2) (jL 8 (fun _ => 0))) a (jO 2 [.ref (a + 1), .ref (a + 2), .int 0, .int 0, .int 0, .int 0])) Q
  rw [j_ss1 (a := a) (b0 := a + 2) (by omega)]
  exact j_vret (pc := 20) dX2_init_20 rfl (Nat.le_of_ble_eq_true rfl) (Nat.le_of_ble_eq_true rfl) (K1)

set_option maxRecDepth 20000 in
theorem s_X5_init {l : Launch} {G : jG} {h : jH} {Q : Option Value → jH → Prop} {a : Nat} (H0 : h.2 a = some (jO 5 [.null, .int 0, .int 0, .int 0, .int 0])) (hx : h.1 = a + 1)  (K1 : Q none (j_set (j_set (j_inc h 1) (a + 1) (jC 600 (fun _ => 0))) a (jO 5 [.ref (a + 1), .int 0, .int 0, .int 0, .int 0]))) : J l G mX5_init 0 0 0 (lv_args 0 [.ref a]) [] h Q := by
  refine j_aload_n (pc := 0) dX5_init_0 rfl ?_
  refine j_objInit (pc := 1) dX5_init_1 joX5_3 job1 job2 (Nat.le_of_ble_eq_true rfl) (Nat.le_of_ble_eq_true rfl) ?_
  refine j_aload_n (pc := 4) dX5_init_4 rfl ?_
  refine j_sipush (pc := 5) (v := 600) dX5_init_5 (by decide) ?_
  refine j_newCA (pc := 8) (N := 600) hx dX5_init_8 (by decide) (by decide) (by decide) (Nat.le_of_ble_eq_true rfl) (Nat.le_of_ble_eq_true rfl) ?_
  show J l G mX5_init _ _ 10 _ _ (j_set (j_inc h 1) (a + 1) (jC 600 (fun _ => 0))) Q
  refine j_putF (pc := 10) dX5_init_10 jfX5_11 rfl rfl jgX5_11 (j_hn (by omega) H0) rfl rfl (Nat.le_of_ble_eq_true rfl) ?_
  show J l G mX5_init _ _ 13 _ _ (j_set (j_set (j_inc h 1) (a + 1) (jC 600 (fun _ => 0))) a (jO 5 [.ref (a + 1), .int 0, .int 0, .int 0, .int 0])) Q
  exact j_vret (pc := 13) dX5_init_13 rfl (Nat.le_of_ble_eq_true rfl) (Nat.le_of_ble_eq_true rfl) (K1)

set_option maxRecDepth 20000 in
theorem s_X1_init {l : Launch} {G : jG} {h : jH} {Q : Option Value → jH → Prop} {a : Nat} (H0 : h.2 a = some (jO 1 [.null, .null, .int 0])) (hx : h.1 = a + 1)  (K1 : Q none (j_set (j_set (j_set (j_inc h 2) (a + 1) (jI 12 (fun _ => 0))) a (jO 1 [.ref (a + 1), .ref (a + 2), .int 0])) (a + 2) (jL 12 (fun _ => 0)))) : J l G mX1_init 0 0 0 (lv_args 0 [.ref a]) [] h Q := by
  refine j_aload_n (pc := 0) dX1_init_0 rfl ?_
  refine j_objInit (pc := 1) dX1_init_1 joX1_3 job1 job2 (Nat.le_of_ble_eq_true rfl) (Nat.le_of_ble_eq_true rfl) ?_
  refine j_aload_n (pc := 4) dX1_init_4 rfl ?_
  refine j_bipush (pc := 5) (v := 12) dX1_init_5 (by decide) ?_
  refine j_newIA (pc := 7) (N := 12) hx dX1_init_7 (by decide) (by decide) (by decide) (Nat.le_of_ble_eq_true rfl) (Nat.le_of_ble_eq_true rfl) ?_
  show J l G mX1_init _ _ 9 _ _ (j_set (j_inc h 1) (a + 1) (jI 12 (fun _ => 0))) Q
  refine j_putF (pc := 9) dX1_init_9 jfX1_9 rfl rfl jgX1_9 (j_hn (by omega) H0) rfl rfl (Nat.le_of_ble_eq_true rfl) ?_
  show J l G mX1_init _ _ 12 _ _ (j_set (j_set (j_inc h 1) (a + 1) (jI 12 (fun _ => 0))) a (jO 1 [.ref (a + 1), .null, .int 0])) Q
  refine j_aload_n (pc := 12) dX1_init_12 rfl ?_
  refine j_bipush (pc := 13) (v := 12) dX1_init_13 (by decide) ?_
  refine j_newLA (pc := 15) (N := 12) (by show h.1 + 1 = a + 2; omega) dX1_init_15 (by decide) (by decide) (by decide) (Nat.le_of_ble_eq_true rfl) (Nat.le_of_ble_eq_true rfl) ?_
  show J l G mX1_init _ _ 17 _ _ (j_set (j_set (j_set (j_inc h 2) (a + 1) (jI 12 (fun _ => 0))) a (jO 1 [.ref (a + 1), .null, .int 0])) (a + 2) (jL 12 (fun _ => 0))) Q
  refine j_putF (pc := 17) dX1_init_17 jfX1_15 rfl rfl jgX1_15 (j_hn (by omega) j_hs) rfl rfl (Nat.le_of_ble_eq_true rfl) ?_
  show J l G mX1_init _ _ 20 _ _ (j_set (j_set (j_set (j_set (j_inc h 2) (a + 1) (jI 12 (fun _ => 0))) a (jO 1 [.ref (a + 1), .null, .int 0])) (a + 2) (jL 12 (fun _ => 0))) a (jO 1 [.ref (a + 1), .ref (a + 2), .int 0])) Q
  rw [j_ss1 (a := a) (b0 := a + 2) (by omega)]
  exact j_vret (pc := 20) dX1_init_20 rfl (Nat.le_of_ble_eq_true rfl) (Nat.le_of_ble_eq_true rfl) (K1)

set_option maxRecDepth 20000 in
theorem s_X3_init {l : Launch} {G : jG} {h : jH} {Q : Option Value → jH → Prop} {a : Nat} (H0 : h.2 a = some (jO 3 [.null, .null, .null, .int 0])) (hx : h.1 = a + 1)  (K1 : Q none (j_set (j_set (j_set (j_set (j_inc h 3) (a + 1) (jL 12 (fun _ => 0))) a (jO 3 [.ref (a + 1), .ref (a + 2), .ref (a + 3), .int 0])) (a + 2) (jL 12 (fun _ => 0))) (a + 3) (jL 12 (fun _ => 0)))) : J l G mX3_init 0 0 0 (lv_args 0 [.ref a]) [] h Q := by
  refine j_aload_n (pc := 0) dX3_init_0 rfl ?_
  refine j_objInit (pc := 1) dX3_init_1 joX3_3 job1 job2 (Nat.le_of_ble_eq_true rfl) (Nat.le_of_ble_eq_true rfl) ?_
  refine j_aload_n (pc := 4) dX3_init_4 rfl ?_
  refine j_bipush (pc := 5) (v := 12) dX3_init_5 (by decide) ?_
  refine j_newLA (pc := 7) (N := 12) hx dX3_init_7 (by decide) (by decide) (by decide) (Nat.le_of_ble_eq_true rfl) (Nat.le_of_ble_eq_true rfl) ?_
  show J l G mX3_init _ _ 9 _ _ (j_set (j_inc h 1) (a + 1) (jL 12 (fun _ => 0))) Q
  refine j_putF (pc := 9) dX3_init_9 jfX3_9 rfl rfl jgX3_9 (j_hn (by omega) H0) rfl rfl (Nat.le_of_ble_eq_true rfl) ?_
  show J l G mX3_init _ _ 12 _ _ (j_set (j_set (j_inc h 1) (a + 1) (jL 12 (fun _ => 0))) a (jO 3 [.ref (a + 1), .null, .null, .int 0])) Q
  refine j_aload_n (pc := 12) dX3_init_12 rfl ?_
  refine j_bipush (pc := 13) (v := 12) dX3_init_13 (by decide) ?_
  refine j_newLA (pc := 15) (N := 12) (by show h.1 + 1 = a + 2; omega) dX3_init_15 (by decide) (by decide) (by decide) (Nat.le_of_ble_eq_true rfl) (Nat.le_of_ble_eq_true rfl) ?_
  show J l G mX3_init _ _ 17 _ _ (j_set (j_set (j_set (j_inc h 2) (a + 1) (jL 12 (fun _ => 0))) a (jO 3 [.ref (a + 1), .null, .null, .int 0])) (a + 2) (jL 12 (fun _ => 0))) Q
  refine j_putF (pc := 17) dX3_init_17 jfX3_15 rfl rfl jgX3_15 (j_hn (by omega) j_hs) rfl rfl (Nat.le_of_ble_eq_true rfl) ?_
  show J l G mX3_init _ _ 20 _ _ (j_set (j_set (j_set (j_set (j_inc h 2) (a + 1) (jL 12 (fun _ => 0))) a (jO 3 [.ref (a + 1), .null, .null, .int 0])) (a + 2) (jL 12 (fun _ => 0))) a (jO 3 [.ref (a + 1), .ref (a + 2), .null, .int 0])) Q
  rw [j_ss1 (a := a) (b0 := a + 2) (by omega)]
  refine j_aload_n (pc := 20) dX3_init_20 rfl ?_
  refine j_bipush (pc := 21) (v := 12) dX3_init_21 (by decide) ?_
  refine j_newLA (pc := 23) (N := 12) (by show h.1 + 2 = a + 3; omega) dX3_init_23 (by decide) (by decide) (by decide) (Nat.le_of_ble_eq_true rfl) (Nat.le_of_ble_eq_true rfl) ?_
  show J l G mX3_init _ _ 25 _ _ (j_set (j_set (j_set (j_set (j_inc h 3) (a + 1) (jL 12 (fun _ => 0))) a (jO 3 [.ref (a + 1), .ref (a + 2), .null, .int 0])) (a + 2) (jL 12 (fun _ => 0))) (a + 3) (jL 12 (fun _ => 0))) Q
  refine j_putF (pc := 25) dX3_init_25 jfX3_18 rfl rfl jgX3_18 (j_hn (by omega) (j_hn (by omega) j_hs)) rfl rfl (Nat.le_of_ble_eq_true rfl) ?_
  show J l G mX3_init _ _ 28 _ _ (j_set (j_set (j_set (j_set (j_set (j_inc h 3) (a + 1) (jL 12 (fun _ => 0))) a (jO 3 [.ref (a + 1), .ref (a + 2), .null, .int 0])) (a + 2) (jL 12 (fun _ => 0))) (a + 3) (jL 12 (fun _ => 0))) a (jO 3 [.ref (a + 1), .ref (a + 2), .ref (a + 3), .int 0])) Q
  rw [j_ss2 (a := a) (b0 := a + 2) (b1 := a + 3) (by omega) (by omega)]
  exact j_vret (pc := 28) dX3_init_28 rfl (Nat.le_of_ble_eq_true rfl) (Nat.le_of_ble_eq_true rfl) (K1)

set_option maxRecDepth 20000 in
theorem s_X4_forget {l : Launch} {G : jG} {h : jH} {Q : Option Value → jH → Prop} {a : Nat} {f1 f2 f3 f4 : Nat → Int32} (H0 : h.2 a = some (jO 4 [.ref (a + 1), .ref (a + 2), .ref (a + 3), .ref (a + 4)])) (H1 : h.2 (a + 1) = some (jI 2 f1)) (H2 : h.2 (a + 2) = some (jI 10 f2)) (H3 : h.2 (a + 3) = some (jI 10 f3)) (H4 : h.2 (a + 4) = some (jI 10 f4))  (K1 : Q none (j_set (j_set (j_set (j_set h (a + 1) (jI 2 (j_f0 f1 (fun _ => (-1)) 2))) (a + 2) (jI 10 (j_f0 f2 (fun _ => 0) 10))) (a + 3) (jI 10 (j_f0 f3 (fun _ => 1) 10))) (a + 4) (jI 10 (j_f0 f4 (fun _ => 0) 10)))) : J l G mX4_forget 0 0 0 (lv_args 0 [.ref a]) [] h Q := by
  refine j_aload_n (pc := 0) dX4_forget_0 rfl ?_
  refine j_getf (pc := 1) dX4_forget_1 jfX4_9 H0 rfl ?_
  refine j_iconst (pc := 4) (v := -1) dX4_forget_4 (by decide) ?_
  refine j_S2 (rm' := rmJ7_fill_53178) (pc := 5) dX4_forget_5 jlX4_27 ⟨Nat.le_of_ble_eq_true rfl, Nat.le_of_ble_eq_true rfl, Nat.le_of_ble_eq_true rfl, Nat.le_of_ble_eq_true rfl, Nat.le_of_ble_eq_true rfl, Nat.le_of_ble_eq_true rfl⟩ ?_
  refine s_J7_fill_53178 H1 (by decide) ?_
  show J l G mX4_forget _ _ 8 _ [] (j_set h (a + 1) (jI 2 (j_f0 f1 (fun _ => (-1)) 2))) Q
  refine j_aload_n (pc := 8) dX4_forget_8 rfl ?_
  refine j_getf (pc := 9) dX4_forget_9 jfX4_15 (j_hn (by omega) H0) rfl ?_
  refine j_iconst (pc := 12) (v := 0) dX4_forget_12 (by decide) ?_
  refine j_S2 (rm' := rmJ7_fill_53178) (pc := 13) dX4_forget_13 jlX4_27 ⟨Nat.le_of_ble_eq_true rfl, Nat.le_of_ble_eq_true rfl, Nat.le_of_ble_eq_true rfl, Nat.le_of_ble_eq_true rfl, Nat.le_of_ble_eq_true rfl, Nat.le_of_ble_eq_true rfl⟩ ?_
  refine s_J7_fill_53178 (j_hn (by omega) H2) (by decide) ?_
  show J l G mX4_forget _ _ 16 _ [] (j_set (j_set h (a + 1) (jI 2 (j_f0 f1 (fun _ => (-1)) 2))) (a + 2) (jI 10 (j_f0 f2 (fun _ => 0) 10))) Q
  refine j_aload_n (pc := 16) dX4_forget_16 rfl ?_
  refine j_getf (pc := 17) dX4_forget_17 jfX4_18 (j_hn (by omega) (j_hn (by omega) H0)) rfl ?_
  refine j_iconst (pc := 20) (v := 1) dX4_forget_20 (by decide) ?_
  refine j_S2 (rm' := rmJ7_fill_53178) (pc := 21) dX4_forget_21 jlX4_27 ⟨Nat.le_of_ble_eq_true rfl, Nat.le_of_ble_eq_true rfl, Nat.le_of_ble_eq_true rfl, Nat.le_of_ble_eq_true rfl, Nat.le_of_ble_eq_true rfl, Nat.le_of_ble_eq_true rfl⟩ ?_
  refine s_J7_fill_53178 (j_hn (by omega) (j_hn (by omega) H3)) (by decide) ?_
  show J l G mX4_forget _ _ 24 _ [] (j_set (j_set (j_set h (a + 1) (jI 2 (j_f0 f1 (fun _ => (-1)) 2))) (a + 2) (jI 10 (j_f0 f2 (fun _ => 0) 10))) (a + 3) (jI 10 (j_f0 f3 (fun _ => 1) 10))) Q
  refine j_aload_n (pc := 24) dX4_forget_24 rfl ?_
  refine j_getf (pc := 25) dX4_forget_25 jfX4_21 (j_hn (by omega) (j_hn (by omega) (j_hn (by omega) H0))) rfl ?_
  refine j_iconst (pc := 28) (v := 0) dX4_forget_28 (by decide) ?_
  refine j_S2 (rm' := rmJ7_fill_53178) (pc := 29) dX4_forget_29 jlX4_27 ⟨Nat.le_of_ble_eq_true rfl, Nat.le_of_ble_eq_true rfl, Nat.le_of_ble_eq_true rfl, Nat.le_of_ble_eq_true rfl, Nat.le_of_ble_eq_true rfl, Nat.le_of_ble_eq_true rfl⟩ ?_
  refine s_J7_fill_53178 (j_hn (by omega) (j_hn (by omega) (j_hn (by omega) H4))) (by decide) ?_
  show J l G mX4_forget _ _ 32 _ [] (j_set (j_set (j_set (j_set h (a + 1) (jI 2 (j_f0 f1 (fun _ => (-1)) 2))) (a + 2) (jI 10 (j_f0 f2 (fun _ => 0) 10))) (a + 3) (jI 10 (j_f0 f3 (fun _ => 1) 10))) (a + 4) (jI 10 (j_f0 f4 (fun _ => 0) 10))) Q
  exact j_vret (pc := 32) dX4_forget_32 rfl (Nat.le_of_ble_eq_true rfl) (Nat.le_of_ble_eq_true rfl) (K1)

set_option maxRecDepth 20000 in
theorem s_X4_init {l : Launch} {G : jG} {h : jH} {Q : Option Value → jH → Prop} {a : Nat} (H0 : h.2 a = some (jO 4 [.null, .null, .null, .null])) (hx : h.1 = a + 1)  (K1 : Q none (j_set (j_set (j_set (j_set (j_set (j_inc h 4) (a + 1) (jI 2 (j_f0 (fun _ => 0) (fun _ => (-1)) 2))) a (jO 4 [.ref (a + 1), .ref (a + 2), .ref (a + 3), .ref (a + 4)])) (a + 2) (jI 10 (j_f0 (fun _ => 0) (fun _ => 0) 10))) (a + 3) (jI 10 (j_f0 (fun _ => 0) (fun _ => 1) 10))) (a + 4) (jI 10 (j_f0 (fun _ => 0) (fun _ => 0) 10)))) : J l G mX4_init 0 0 0 (lv_args 0 [.ref a]) [] h Q := by
  refine j_aload_n (pc := 0) dX4_init_0 rfl ?_
  refine j_objInit (pc := 1) dX4_init_1 joX4_3 job1 job2 (Nat.le_of_ble_eq_true rfl) (Nat.le_of_ble_eq_true rfl) ?_
  refine j_aload_n (pc := 4) dX4_init_4 rfl ?_
  refine j_iconst (pc := 5) (v := 2) dX4_init_5 (by decide) ?_
  refine j_newIA (pc := 6) (N := 2) hx dX4_init_6 (by decide) (by decide) (by decide) (Nat.le_of_ble_eq_true rfl) (Nat.le_of_ble_eq_true rfl) ?_
  show J l G mX4_init _ _ 8 _ _ (j_set (j_inc h 1) (a + 1) (jI 2 (fun _ => 0))) Q
  refine j_putF (pc := 8) dX4_init_8 jfX4_9 rfl rfl jgX4_9 (j_hn (by omega) H0) rfl rfl (Nat.le_of_ble_eq_true rfl) ?_
  show J l G mX4_init _ _ 11 _ _ (j_set (j_set (j_inc h 1) (a + 1) (jI 2 (fun _ => 0))) a (jO 4 [.ref (a + 1), .null, .null, .null])) Q
  refine j_aload_n (pc := 11) dX4_init_11 rfl ?_
  refine j_bipush (pc := 12) (v := 10) dX4_init_12 (by decide) ?_
  refine j_newIA (pc := 14) (N := 10) (by show h.1 + 1 = a + 2; omega) dX4_init_14 (by decide) (by decide) (by decide) (Nat.le_of_ble_eq_true rfl) (Nat.le_of_ble_eq_true rfl) ?_
  show J l G mX4_init _ _ 16 _ _ (j_set (j_set (j_set (j_inc h 2) (a + 1) (jI 2 (fun _ => 0))) a (jO 4 [.ref (a + 1), .null, .null, .null])) (a + 2) (jI 10 (fun _ => 0))) Q
  refine j_putF (pc := 16) dX4_init_16 jfX4_15 rfl rfl jgX4_15 (j_hn (by omega) j_hs) rfl rfl (Nat.le_of_ble_eq_true rfl) ?_
  show J l G mX4_init _ _ 19 _ _ (j_set (j_set (j_set (j_set (j_inc h 2) (a + 1) (jI 2 (fun _ => 0))) a (jO 4 [.ref (a + 1), .null, .null, .null])) (a + 2) (jI 10 (fun _ => 0))) a (jO 4 [.ref (a + 1), .ref (a + 2), .null, .null])) Q
  rw [j_ss1 (a := a) (b0 := a + 2) (by omega)]
  refine j_aload_n (pc := 19) dX4_init_19 rfl ?_
  refine j_bipush (pc := 20) (v := 10) dX4_init_20 (by decide) ?_
  refine j_newIA (pc := 22) (N := 10) (by show h.1 + 2 = a + 3; omega) dX4_init_22 (by decide) (by decide) (by decide) (Nat.le_of_ble_eq_true rfl) (Nat.le_of_ble_eq_true rfl) ?_
  show J l G mX4_init _ _ 24 _ _ (j_set (j_set (j_set (j_set (j_inc h 3) (a + 1) (jI 2 (fun _ => 0))) a (jO 4 [.ref (a + 1), .ref (a + 2), .null, .null])) (a + 2) (jI 10 (fun _ => 0))) (a + 3) (jI 10 (fun _ => 0))) Q
  refine j_putF (pc := 24) dX4_init_24 jfX4_18 rfl rfl jgX4_18 (j_hn (by omega) (j_hn (by omega) j_hs)) rfl rfl (Nat.le_of_ble_eq_true rfl) ?_
  show J l G mX4_init _ _ 27 _ _ (j_set (j_set (j_set (j_set (j_set (j_inc h 3) (a + 1) (jI 2 (fun _ => 0))) a (jO 4 [.ref (a + 1), .ref (a + 2), .null, .null])) (a + 2) (jI 10 (fun _ => 0))) (a + 3) (jI 10 (fun _ => 0))) a (jO 4 [.ref (a + 1), .ref (a + 2), .ref (a + 3), .null])) Q
  rw [j_ss2 (a := a) (b0 := a + 2) (b1 := a + 3) (by omega) (by omega)]
  refine j_aload_n (pc := 27) dX4_init_27 rfl ?_
  refine j_bipush (pc := 28) (v := 10) dX4_init_28 (by decide) ?_
  refine j_newIA (pc := 30) (N := 10) (by show h.1 + 3 = a + 4; omega) dX4_init_30 (by decide) (by decide) (by decide) (Nat.le_of_ble_eq_true rfl) (Nat.le_of_ble_eq_true rfl) ?_
  show J l G mX4_init _ _ 32 _ _ (j_set (j_set (j_set (j_set (j_set (j_inc h 4) (a + 1) (jI 2 (fun _ => 0))) a (jO 4 [.ref (a + 1), .ref (a + 2), .ref (a + 3), .null])) (a + 2) (jI 10 (fun _ => 0))) (a + 3) (jI 10 (fun _ => 0))) (a + 4) (jI 10 (fun _ => 0))) Q
  refine j_putF (pc := 32) dX4_init_32 jfX4_21 rfl rfl jgX4_21 (j_hn (by omega) (j_hn (by omega) (j_hn (by omega) j_hs))) rfl rfl (Nat.le_of_ble_eq_true rfl) ?_
  show J l G mX4_init _ _ 35 _ _ (j_set (j_set (j_set (j_set (j_set (j_set (j_inc h 4) (a + 1) (jI 2 (fun _ => 0))) a (jO 4 [.ref (a + 1), .ref (a + 2), .ref (a + 3), .null])) (a + 2) (jI 10 (fun _ => 0))) (a + 3) (jI 10 (fun _ => 0))) (a + 4) (jI 10 (fun _ => 0))) a (jO 4 [.ref (a + 1), .ref (a + 2), .ref (a + 3), .ref (a + 4)])) Q
  rw [j_ss3 (a := a) (b0 := a + 2) (b1 := a + 3) (b2 := a + 4) (by omega) (by omega) (by omega)]
  refine j_aload_n (pc := 35) dX4_init_35 rfl ?_
  refine j_V0 (rm' := rmX4_forget) (pc := 36) dX4_init_36 jlX4_24 (j_hn (by omega) (j_hn (by omega) (j_hn (by omega) j_hs))) rfl ⟨Nat.le_of_ble_eq_true rfl, Nat.le_of_ble_eq_true rfl, Nat.le_of_ble_eq_true rfl, Nat.le_of_ble_eq_true rfl, Nat.le_of_ble_eq_true rfl, Nat.le_of_ble_eq_true rfl⟩ ?_
  refine s_X4_forget (j_hn (by omega) (j_hn (by omega) (j_hn (by omega) j_hs))) (j_hn (by omega) (j_hn (by omega) (j_hn (by omega) (j_hn (by omega) j_hs)))) (j_hn (by omega) (j_hn (by omega) j_hs)) (j_hn (by omega) j_hs) j_hs ?_
  show J l G mX4_init _ _ 39 _ [] (j_set (j_set (j_set (j_set (j_set (j_set (j_set (j_set (j_set (j_inc h 4) (a + 1) (jI 2 (fun _ => 0))) a (jO 4 [.ref (a + 1), .ref (a + 2), .ref (a + 3), .ref (a + 4)])) (a + 2) (jI 10 (fun _ => 0))) (a + 3) (jI 10 (fun _ => 0))) (a + 4) (jI 10 (fun _ => 0))) (a + 1) (jI 2 (j_f0 (fun _ => 0) (fun _ => (-1)) 2))) (a + 2) (jI 10 (j_f0 (fun _ => 0) (fun _ => 0) 10))) (a + 3) (jI 10 (j_f0 (fun _ => 0) (fun _ => 1) 10))) (a + 4) (jI 10 (j_f0 (fun _ => 0) (fun _ => 0) 10))) Q
  rw [show (j_set (j_set (j_set (j_set (j_set (j_set (j_set (j_set (j_set (j_inc h 4) (a + 1) (jI 2 (fun _ => 0))) a (jO 4 [.ref (a + 1), .ref (a + 2), .ref (a + 3), .ref (a + 4)])) (a + 2) (jI 10 (fun _ => 0))) (a + 3) (jI 10 (fun _ => 0))) (a + 4) (jI 10 (fun _ => 0))) (a + 1) (jI 2 (j_f0 (fun _ => 0) (fun _ => (-1)) 2))) (a + 2) (jI 10 (j_f0 (fun _ => 0) (fun _ => 0) 10))) (a + 3) (jI 10 (j_f0 (fun _ => 0) (fun _ => 1) 10))) (a + 4) (jI 10 (j_f0 (fun _ => 0) (fun _ => 0) 10))) = (j_set (j_set (j_set (j_set (j_set (j_inc h 4) (a + 1) (jI 2 (j_f0 (fun _ => 0) (fun _ => (-1)) 2))) a (jO 4 [.ref (a + 1), .ref (a + 2), .ref (a + 3), .ref (a + 4)])) (a + 2) (jI 10 (j_f0 (fun _ => 0) (fun _ => 0) 10))) (a + 3) (jI 10 (j_f0 (fun _ => 0) (fun _ => 1) 10))) (a + 4) (jI 10 (j_f0 (fun _ => 0) (fun _ => 0) 10))) from by rw [j_ss4 (a := a + 1) (b0 := a) (b1 := a + 2) (b2 := a + 3) (b3 := a + 4) (by omega) (by omega) (by omega) (by omega), j_ss2 (a := a + 2) (b0 := a + 3) (b1 := a + 4) (by omega) (by omega), j_ss1 (a := a + 3) (b0 := a + 4) (by omega), j_ss0 (a := a + 4)]]
  exact j_vret (pc := 39) dX4_init_39 rfl (Nat.le_of_ble_eq_true rfl) (Nat.le_of_ble_eq_true rfl) (K1)

set_option maxRecDepth 20000 in
theorem s_X0_init {l : Launch} {G : jG} {h : jH} {Q : Option Value → jH → Prop} {a : Nat} (H0 : h.2 a = some (jO 0 [.null, .int 0, .null, .int 0, .int 0])) (hx : h.1 = a + 1)  (K1 : Q none (j_set (j_set (j_set (j_set (j_set (j_inc h 4) (a + 1) (jQ 5 60 (fun _ => none))) a (jO 0 [.ref (a + 1), .int 0, .ref (a + 2), .int 0, .int 0])) (a + 2) (jO 2 [.ref (a + 3), .ref (a + 4), .int 0, .int 0, .int 0, .int 0])) (a + 3) (jI 8 (fun _ => 0))) (a + 4) (jL 8 (fun _ => 0)))) : J l G mX0_init 0 0 0 (lv_args 0 [.ref a]) [] h Q := by
  refine j_aload_n (pc := 0) dX0_init_0 rfl ?_
  refine j_objInit (pc := 1) dX0_init_1 joX0_3 job1 job2 (Nat.le_of_ble_eq_true rfl) (Nat.le_of_ble_eq_true rfl) ?_
  refine j_aload_n (pc := 4) dX0_init_4 rfl ?_
  refine j_bipush (pc := 5) (v := 60) dX0_init_5 (by decide) ?_
  refine j_newqA 5 (pc := 7) (N := 60) hx dX0_init_7 rfl jkX0_11 j_ao2 (by decide) (by decide) (by decide) (Nat.le_of_ble_eq_true rfl) (Nat.le_of_ble_eq_true rfl) ?_
  show J l G mX0_init _ _ 10 _ _ (j_set (j_inc h 1) (a + 1) (jQ 5 60 (fun _ => none))) Q
  refine j_putF (pc := 10) dX0_init_10 jfX0_13 rfl rfl jgX0_13 (j_hn (by omega) H0) rfl rfl (Nat.le_of_ble_eq_true rfl) ?_
  show J l G mX0_init _ _ 13 _ _ (j_set (j_set (j_inc h 1) (a + 1) (jQ 5 60 (fun _ => none))) a (jO 0 [.ref (a + 1), .int 0, .null, .int 0, .int 0])) Q
  refine j_aload_n (pc := 13) dX0_init_13 rfl ?_
  refine j_newcA (pc := 14) (by show h.1 + 1 = a + 2; omega) dX0_init_14 (ci := 2) rfl jinX2 tyX2_ok jkX0_11 jiiX2 jitX2 (dfX2 G) (Nat.le_of_ble_eq_true rfl) (Nat.le_of_ble_eq_true rfl) ?_
  show J l G mX0_init _ _ 17 _ _ (j_set (j_set (j_set (j_inc h 2) (a + 1) (jQ 5 60 (fun _ => none))) a (jO 0 [.ref (a + 1), .int 0, .null, .int 0, .int 0])) (a + 2) (jO 2 [.null, .null, .int 0, .int 0, .int 0, .int 0])) Q
  refine j_dup (pc := 17) dX0_init_17 rfl ?_
  refine j_I0 (rm' := rmX2_init) (pc := 18) dX0_init_18 jlX0_17 ⟨Nat.le_of_ble_eq_true rfl, Nat.le_of_ble_eq_true rfl, Nat.le_of_ble_eq_true rfl, Nat.le_of_ble_eq_true rfl, Nat.le_of_ble_eq_true rfl, Nat.le_of_ble_eq_true rfl⟩ ?_
  refine s_X2_init j_hs (by show h.1 + 2 = a + 3; omega) ?_
  show J l G mX0_init _ _ 21 _ [.ref (a + 2), .ref a] (j_set (j_set (j_set (j_set (j_set (j_set (j_inc h 4) (a + 1) (jQ 5 60 (fun _ => none))) a (jO 0 [.ref (a + 1), .int 0, .null, .int 0, .int 0])) (a + 2) (jO 2 [.null, .null, .int 0, .int 0, .int 0, .int 0])) (a + 3) (jI 8 (fun _ => 0))) (a + 2) (jO 2 [.ref (a + 3), .ref (a + 4), .int 0, .int 0, .int 0, .int 0])) (a + 4) (jL 8 (fun _ => 0))) Q
  rw [j_ss1 (a := a + 2) (b0 := a + 3) (by omega)]
  refine j_putf (pc := 21) dX0_init_21 jfX0_18 (j_hn (by omega) (j_hn (by omega) (j_hn (by omega) j_hs))) rfl rfl (Nat.le_of_ble_eq_true rfl) ?_
  show J l G mX0_init _ _ 24 _ _ (j_set (j_set (j_set (j_set (j_set (j_set (j_inc h 4) (a + 1) (jQ 5 60 (fun _ => none))) a (jO 0 [.ref (a + 1), .int 0, .null, .int 0, .int 0])) (a + 2) (jO 2 [.ref (a + 3), .ref (a + 4), .int 0, .int 0, .int 0, .int 0])) (a + 3) (jI 8 (fun _ => 0))) (a + 4) (jL 8 (fun _ => 0))) a (jO 0 [.ref (a + 1), .int 0, .ref (a + 2), .int 0, .int 0])) Q
  rw [j_ss3 (a := a) (b0 := a + 2) (b1 := a + 3) (b2 := a + 4) (by omega) (by omega) (by omega)]
  exact j_vret (pc := 24) dX0_init_24 rfl (Nat.le_of_ble_eq_true rfl) (Nat.le_of_ble_eq_true rfl) (K1)

set_option maxRecDepth 20000 in
theorem s_X0_putIn {l : Launch} {G : jG} {h : jH} {Q : Option Value → jH → Prop} {dr E C x xa xb : Nat} {op sz dy tk tn : Int32} {ea : Nat → Option Nat} (H0 : h.2 12 = some (jO 0 [.ref 13, .int (nI E), .ref dr, .int op, .int (nI C)])) (H1 : h.2 13 = some (jQ 5 60 ea)) (H2 : h.2 x = some (jO 2 [.ref xa, .ref xb, .int sz, .int dy, .int tk, .int tn])) (hE : E ≤ 60) (hx13 : 13 < x) (K1 : 60 ≤ E → Q (some (.int (nI E))) h) (K2 : ¬ 60 ≤ E → Q (some (.int (nI (E + 1)))) (j_set (j_set h 13 (jQ 5 60 (va_up ea E (some x)))) 12 (jO 0 [.ref 13, .int (nI (E + 1)), .ref dr, .int op, .int (nI C)]))) : J l G mX0_putIn 0 0 0 (lv_args 0 [.ref 12, .ref x]) [] h Q := by
  refine j_aload_n (pc := 0) dX0_putIn_0 rfl ?_
  refine j_getf (pc := 1) dX0_putIn_1 jfX0_106 H0 rfl ?_
  refine j_bipush (pc := 4) (v := 60) dX0_putIn_4 (by decide) ?_
  refine j_icmp_geN (a := E) (b := 60) (pc := 6) (tgt := 29) dX0_putIn_6 (by decide) (by omega) (by omega) (fun c1 => ?_) (fun c1 => ?_)
  · refine j_aload_n (pc := 29) dX0_putIn_29 rfl ?_
    refine j_getf (pc := 30) dX0_putIn_30 jfX0_106 H0 rfl ?_
    exact j_iret (pc := 33) dX0_putIn_33 rfl rfl (Nat.le_of_ble_eq_true rfl) (Nat.le_of_ble_eq_true rfl) (K1 c1)
  · refine j_aload_n (pc := 9) dX0_putIn_9 rfl ?_
    refine j_getf (pc := 10) dX0_putIn_10 jfX0_13 H0 rfl ?_
    refine j_aload_n (pc := 13) dX0_putIn_13 rfl ?_
    refine j_getf (pc := 14) dX0_putIn_14 jfX0_106 H0 rfl ?_
    refine j_aload_n (pc := 17) dX0_putIn_17 rfl ?_
    refine j_aast (pc := 18) dX0_putIn_18 (t := 5) rfl rfl H1 H2 (jix_nI (by omega) (by decide)) ?_
    refine j_aload_n (pc := 19) dX0_putIn_19 rfl ?_
    refine j_dup (pc := 20) dX0_putIn_20 rfl ?_
    refine j_getf (pc := 21) dX0_putIn_21 jfX0_106 (j_hn (by decide) H0) rfl ?_
    refine j_iconst (pc := 24) (v := 1) dX0_putIn_24 (by decide) ?_
    refine j_iaddN (a := E) (b := 1) (pc := 25) dX0_putIn_25 ?_
    refine j_putf (pc := 26) dX0_putIn_26 jfX0_106 (j_hn (by decide) H0) rfl rfl (Nat.le_of_ble_eq_true rfl) ?_
    show J l G mX0_putIn _ _ 29 _ _ (j_set (j_set h 13 (jQ 5 60 (va_up ea E (some x)))) 12 (jO 0 [.ref 13, .int (nI (E + 1)), .ref dr, .int op, .int (nI C)])) Q
    refine j_aload_n (pc := 29) dX0_putIn_29 rfl ?_
    refine j_getf (pc := 30) dX0_putIn_30 jfX0_106 j_hs rfl ?_
    exact j_iret (pc := 33) dX0_putIn_33 rfl rfl (Nat.le_of_ble_eq_true rfl) (Nat.le_of_ble_eq_true rfl) (K2 c1)

set_option maxRecDepth 20000 in
theorem s_X0_takeIn {l : Launch} {G : jG} {h : jH} {Q : Option Value → jH → Prop} {dr E C R : Nat} {op dd dk dn : Int32} {nx : Nat} {dm : Nat → Int64} {ea : Nat → Option Nat} (H0 : h.2 12 = some (jO 0 [.ref 13, .int (nI E), .ref dr, .int op, .int (nI C)])) (H1 : h.2 13 = some (jQ 5 60 ea)) (H2 : h.2 dr = some (jO 2 [.ref (dr + 1), .ref (dr + 2), .int (nI R), .int dd, .int dk, .int dn])) (H3 : h.2 (dr + 2) = some (jL 8 dm)) (hx : h.1 = nx) (hE : E ≤ 60) (hdr : 14 ≤ dr) (hR : R ≤ 8) (hnd : dr < nx) (K1 : ¬ op = 0 → R = 0 → Q (some (.int 0)) h) (K2 : ¬ op = 0 → ¬ R = 0 → ¬ (j_sm dm R) = 0 → Q (some (.int 0)) h) (K3 : ¬ op = 0 → ¬ R = 0 → (j_sm dm R) = 0 → E < 60 → 60 ≤ E → Q (some (.int (nI E))) (j_set (j_set (j_set (j_set (j_inc h 3) nx (jO 2 [.ref (nx + 1), .ref (nx + 2), .int 0, .int 0, .int 0, .int 0])) (nx + 1) (jI 8 (fun _ => 0))) (nx + 2) (jL 8 (fun _ => 0))) 12 (jO 0 [.ref 13, .int (nI E), .ref nx, .int 0, .int (nI C)]))) (K4 : ¬ op = 0 → ¬ R = 0 → (j_sm dm R) = 0 → E < 60 → ¬ 60 ≤ E → Q (some (.int (nI (E + 1)))) (j_set (j_set (j_set (j_set (j_set (j_inc h 3) 13 (jQ 5 60 (va_up ea E (some dr)))) 12 (jO 0 [.ref 13, .int (nI (E + 1)), .ref nx, .int 0, .int (nI C)])) nx (jO 2 [.ref (nx + 1), .ref (nx + 2), .int 0, .int 0, .int 0, .int 0])) (nx + 1) (jI 8 (fun _ => 0))) (nx + 2) (jL 8 (fun _ => 0)))) (K5 : ¬ op = 0 → ¬ R = 0 → (j_sm dm R) = 0 → ¬ E < 60 → Q (some (.int 0)) h) (K6 : op = 0 → Q (some (.int (-1))) h) : J l G mX0_takeIn 0 0 0 (lv_args 0 [.ref 12]) [] h Q := by
  refine j_aload_n (pc := 0) dX0_takeIn_0 rfl ?_
  refine j_getf (pc := 1) dX0_takeIn_1 jfX0_22 H0 rfl ?_
  refine j_if_ne (pc := 4) (tgt := 9) dX0_takeIn_4 (by decide) (fun c1 => ?_) (fun c1 => ?_)
  · refine j_aload_n (pc := 9) dX0_takeIn_9 rfl ?_
    refine j_getf (pc := 10) dX0_takeIn_10 jfX0_18 H0 rfl ?_
    refine j_getf (pc := 13) dX0_takeIn_13 jfX0_50 H2 rfl ?_
    refine j_if_eqN (a := R) (pc := 16) (tgt := 38) dX0_takeIn_16 (by decide) (by omega) (fun c2 => ?_) (fun c2 => ?_)
    · refine j_iconst (pc := 38) (v := 0) dX0_takeIn_38 (by decide) ?_
      exact j_iret (pc := 39) dX0_takeIn_39 rfl rfl (Nat.le_of_ble_eq_true rfl) (Nat.le_of_ble_eq_true rfl) (K1 c1 c2)
    · refine j_aload_n (pc := 19) dX0_takeIn_19 rfl ?_
      refine j_getf (pc := 20) dX0_takeIn_20 jfX0_18 H0 rfl ?_
      refine j_V0 (rm' := rmX2_total) (pc := 23) dX0_takeIn_23 jlX0_54 H2 rfl ⟨Nat.le_of_ble_eq_true rfl, Nat.le_of_ble_eq_true rfl, Nat.le_of_ble_eq_true rfl, Nat.le_of_ble_eq_true rfl, Nat.le_of_ble_eq_true rfl, Nat.le_of_ble_eq_true rfl⟩ ?_
      refine s_X2_total (n := R) H2 H3 hR ?_
      show J l G mX0_takeIn _ _ 26 _ [.long (j_sm dm R)] h Q
      refine j_lconst (pc := 26) (v := 0) dX0_takeIn_26 (by decide) ?_
      refine j_lc_ne (pc := 27) (tgt := 38) dX0_takeIn_27 dX0_takeIn_28 (by decide) (fun c3 => ?_) (fun c3 => ?_)
      · refine j_iconst (pc := 38) (v := 0) dX0_takeIn_38 (by decide) ?_
        exact j_iret (pc := 39) dX0_takeIn_39 rfl rfl (Nat.le_of_ble_eq_true rfl) (Nat.le_of_ble_eq_true rfl) (K2 c1 c2 c3)
      · refine j_aload_n (pc := 31) dX0_takeIn_31 rfl ?_
        refine j_V0 (rm' := rmX0_isFull) (pc := 32) dX0_takeIn_32 jlX0_30 H0 rfl ⟨Nat.le_of_ble_eq_true rfl, Nat.le_of_ble_eq_true rfl, Nat.le_of_ble_eq_true rfl, Nat.le_of_ble_eq_true rfl, Nat.le_of_ble_eq_true rfl, Nat.le_of_ble_eq_true rfl⟩ ?_
        refine s_X0_isFull H0 (fun c4 => ?_) (fun c5 => ?_)
        · show J l G mX0_takeIn _ _ 35 _ [.int 0] h Q
          have c4 : E < 60 := (nI_ltI (a := E) (b := 60) (by omega) (by omega)).mp c4
          refine j_if_eq (pc := 35) (tgt := 40) dX0_takeIn_35 (by decide) (fun c6 => ?_) (fun c6 => ?_)
          · refine j_aload_n (pc := 40) dX0_takeIn_40 rfl ?_
            refine j_aload_n (pc := 41) dX0_takeIn_41 rfl ?_
            refine j_getf (pc := 42) dX0_takeIn_42 jfX0_18 H0 rfl ?_
            refine j_V1 (rm' := rmX0_putIn) (pc := 45) dX0_takeIn_45 jlX0_58 H0 rfl ⟨Nat.le_of_ble_eq_true rfl, Nat.le_of_ble_eq_true rfl, Nat.le_of_ble_eq_true rfl, Nat.le_of_ble_eq_true rfl, Nat.le_of_ble_eq_true rfl, Nat.le_of_ble_eq_true rfl⟩ ?_
            refine s_X0_putIn (E := E) (C := C) H0 H1 H2 hE (by omega) (fun c7 => ?_) (fun c8 => ?_)
            · show J l G mX0_takeIn _ _ 48 _ [.int (nI E)] h Q
              refine j_istore_n (pc := 48) dX0_takeIn_48 (by decide) ?_
              refine j_aload_n (pc := 49) dX0_takeIn_49 rfl ?_
              refine j_newcA (pc := 50) hx dX0_takeIn_50 (ci := 2) rfl jinX2 tyX2_ok jkX0_11 jiiX2 jitX2 (dfX2 G) (Nat.le_of_ble_eq_true rfl) (Nat.le_of_ble_eq_true rfl) ?_
              show J l G mX0_takeIn _ _ 53 _ _ (j_set (j_inc h 1) nx (jO 2 [.null, .null, .int 0, .int 0, .int 0, .int 0])) Q
              refine j_dup (pc := 53) dX0_takeIn_53 rfl ?_
              refine j_I0 (rm' := rmX2_init) (pc := 54) dX0_takeIn_54 jlX0_17 ⟨Nat.le_of_ble_eq_true rfl, Nat.le_of_ble_eq_true rfl, Nat.le_of_ble_eq_true rfl, Nat.le_of_ble_eq_true rfl, Nat.le_of_ble_eq_true rfl, Nat.le_of_ble_eq_true rfl⟩ ?_
              refine s_X2_init j_hs (by show h.1 + 1 = nx + 1; omega) ?_
              show J l G mX0_takeIn _ _ 57 _ [.ref nx, .ref 12] (j_set (j_set (j_set (j_set (j_inc h 3) nx (jO 2 [.null, .null, .int 0, .int 0, .int 0, .int 0])) (nx + 1) (jI 8 (fun _ => 0))) nx (jO 2 [.ref (nx + 1), .ref (nx + 2), .int 0, .int 0, .int 0, .int 0])) (nx + 2) (jL 8 (fun _ => 0))) Q
              rw [j_ss1 (a := nx) (b0 := nx + 1) (by omega)]
              refine j_putf (pc := 57) dX0_takeIn_57 jfX0_18 (j_hn (by omega) (j_hn (by omega) (j_hn (by omega) H0))) rfl rfl (Nat.le_of_ble_eq_true rfl) ?_
              show J l G mX0_takeIn _ _ 60 _ _ (j_set (j_set (j_set (j_set (j_inc h 3) nx (jO 2 [.ref (nx + 1), .ref (nx + 2), .int 0, .int 0, .int 0, .int 0])) (nx + 1) (jI 8 (fun _ => 0))) (nx + 2) (jL 8 (fun _ => 0))) 12 (jO 0 [.ref 13, .int (nI E), .ref nx, .int op, .int (nI C)])) Q
              refine j_aload_n (pc := 60) dX0_takeIn_60 rfl ?_
              refine j_iconst (pc := 61) (v := 0) dX0_takeIn_61 (by decide) ?_
              refine j_putf (pc := 62) dX0_takeIn_62 jfX0_22 j_hs rfl rfl (Nat.le_of_ble_eq_true rfl) ?_
              show J l G mX0_takeIn _ _ 65 _ _ (j_set (j_set (j_set (j_set (j_set (j_inc h 3) nx (jO 2 [.ref (nx + 1), .ref (nx + 2), .int 0, .int 0, .int 0, .int 0])) (nx + 1) (jI 8 (fun _ => 0))) (nx + 2) (jL 8 (fun _ => 0))) 12 (jO 0 [.ref 13, .int (nI E), .ref nx, .int op, .int (nI C)])) 12 (jO 0 [.ref 13, .int (nI E), .ref nx, .int 0, .int (nI C)])) Q
              rw [j_ss0 (a := 12)]
              refine j_iload_n (pc := 65) dX0_takeIn_65 rfl ?_
              exact j_iret (pc := 66) dX0_takeIn_66 rfl rfl (Nat.le_of_ble_eq_true rfl) (Nat.le_of_ble_eq_true rfl) (K3 c1 c2 c3 c4 c7)
            · show J l G mX0_takeIn _ _ 48 _ [.int (nI (E + 1))] (j_set (j_set h 13 (jQ 5 60 (va_up ea E (some dr)))) 12 (jO 0 [.ref 13, .int (nI (E + 1)), .ref dr, .int op, .int (nI C)])) Q
              refine j_istore_n (pc := 48) dX0_takeIn_48 (by decide) ?_
              refine j_aload_n (pc := 49) dX0_takeIn_49 rfl ?_
              refine j_newcA (pc := 50) hx dX0_takeIn_50 (ci := 2) rfl jinX2 tyX2_ok jkX0_11 jiiX2 jitX2 (dfX2 G) (Nat.le_of_ble_eq_true rfl) (Nat.le_of_ble_eq_true rfl) ?_
              show J l G mX0_takeIn _ _ 53 _ _ (j_set (j_set (j_set (j_inc h 1) 13 (jQ 5 60 (va_up ea E (some dr)))) 12 (jO 0 [.ref 13, .int (nI (E + 1)), .ref dr, .int op, .int (nI C)])) nx (jO 2 [.null, .null, .int 0, .int 0, .int 0, .int 0])) Q
              refine j_dup (pc := 53) dX0_takeIn_53 rfl ?_
              refine j_I0 (rm' := rmX2_init) (pc := 54) dX0_takeIn_54 jlX0_17 ⟨Nat.le_of_ble_eq_true rfl, Nat.le_of_ble_eq_true rfl, Nat.le_of_ble_eq_true rfl, Nat.le_of_ble_eq_true rfl, Nat.le_of_ble_eq_true rfl, Nat.le_of_ble_eq_true rfl⟩ ?_
              refine s_X2_init j_hs (by show h.1 + 1 = nx + 1; omega) ?_
              show J l G mX0_takeIn _ _ 57 _ [.ref nx, .ref 12] (j_set (j_set (j_set (j_set (j_set (j_set (j_inc h 3) 13 (jQ 5 60 (va_up ea E (some dr)))) 12 (jO 0 [.ref 13, .int (nI (E + 1)), .ref dr, .int op, .int (nI C)])) nx (jO 2 [.null, .null, .int 0, .int 0, .int 0, .int 0])) (nx + 1) (jI 8 (fun _ => 0))) nx (jO 2 [.ref (nx + 1), .ref (nx + 2), .int 0, .int 0, .int 0, .int 0])) (nx + 2) (jL 8 (fun _ => 0))) Q
              rw [j_ss1 (a := nx) (b0 := nx + 1) (by omega)]
              refine j_putf (pc := 57) dX0_takeIn_57 jfX0_18 (j_hn (by omega) (j_hn (by omega) (j_hn (by omega) j_hs))) rfl rfl (Nat.le_of_ble_eq_true rfl) ?_
              show J l G mX0_takeIn _ _ 60 _ _ (j_set (j_set (j_set (j_set (j_set (j_set (j_inc h 3) 13 (jQ 5 60 (va_up ea E (some dr)))) 12 (jO 0 [.ref 13, .int (nI (E + 1)), .ref dr, .int op, .int (nI C)])) nx (jO 2 [.ref (nx + 1), .ref (nx + 2), .int 0, .int 0, .int 0, .int 0])) (nx + 1) (jI 8 (fun _ => 0))) (nx + 2) (jL 8 (fun _ => 0))) 12 (jO 0 [.ref 13, .int (nI (E + 1)), .ref nx, .int op, .int (nI C)])) Q
              rw [j_ss3 (a := 12) (b0 := nx) (b1 := nx + 1) (b2 := nx + 2) (by omega) (by omega) (by omega)]
              refine j_aload_n (pc := 60) dX0_takeIn_60 rfl ?_
              refine j_iconst (pc := 61) (v := 0) dX0_takeIn_61 (by decide) ?_
              refine j_putf (pc := 62) dX0_takeIn_62 jfX0_22 (j_hn (by omega) (j_hn (by omega) (j_hn (by omega) j_hs))) rfl rfl (Nat.le_of_ble_eq_true rfl) ?_
              show J l G mX0_takeIn _ _ 65 _ _ (j_set (j_set (j_set (j_set (j_set (j_set (j_inc h 3) 13 (jQ 5 60 (va_up ea E (some dr)))) 12 (jO 0 [.ref 13, .int (nI (E + 1)), .ref nx, .int op, .int (nI C)])) nx (jO 2 [.ref (nx + 1), .ref (nx + 2), .int 0, .int 0, .int 0, .int 0])) (nx + 1) (jI 8 (fun _ => 0))) (nx + 2) (jL 8 (fun _ => 0))) 12 (jO 0 [.ref 13, .int (nI (E + 1)), .ref nx, .int 0, .int (nI C)])) Q
              rw [j_ss3 (a := 12) (b0 := nx) (b1 := nx + 1) (b2 := nx + 2) (by omega) (by omega) (by omega)]
              refine j_iload_n (pc := 65) dX0_takeIn_65 rfl ?_
              exact j_iret (pc := 66) dX0_takeIn_66 rfl rfl (Nat.le_of_ble_eq_true rfl) (Nat.le_of_ble_eq_true rfl) (K4 c1 c2 c3 c4 c8)
          · exact absurd c6 (by decide)
        · show J l G mX0_takeIn _ _ 35 _ [.int 1] h Q
          have c5 : ¬ E < 60 := fun z => c5 ((nI_ltI (a := E) (b := 60) (by omega) (by omega)).mpr z)
          refine j_if_eq (pc := 35) (tgt := 40) dX0_takeIn_35 (by decide) (fun c9 => ?_) (fun c9 => ?_)
          · exact absurd c9 (by decide)
          · refine j_iconst (pc := 38) (v := 0) dX0_takeIn_38 (by decide) ?_
            exact j_iret (pc := 39) dX0_takeIn_39 rfl rfl (Nat.le_of_ble_eq_true rfl) (Nat.le_of_ble_eq_true rfl) (K5 c1 c2 c3 c5)
  · refine j_iconst (pc := 7) (v := -1) dX0_takeIn_7 (by decide) ?_
    exact j_iret (pc := 8) dX0_takeIn_8 rfl rfl (Nat.le_of_ble_eq_true rfl) (Nat.le_of_ble_eq_true rfl) (K6 c1)
