theorem jkX6_22 : Cond.classLink RX6 22 "[[J" ∈ jWS := jWS_of (List.mem_of_getElem? (i := 344) (by decide +kernel)) rfl

set_option maxRecDepth 20000 in
theorem s_X6_init {l : Launch} {G : jG} {h : jH} {Q : Option Value → jH → Prop} {a : Nat} {sp : Int32} {sal : Int64} (H0 : h.2 a = some (jO 6 [.int 0, .long 0, .null, .null, .null, .null, .int 0])) (hx : h.1 = a + 1)  (K1 : Q none (j_set (j_set (j_set (j_set (j_set (j_set (j_set (j_set (j_set (j_inc h 8) (a + 1) (jL 10 (fun _ => 0))) a (jO 6 [.int sp, .long sal, .ref (a + 1), .ref (a + 2), .ref (a + 3), .ref (a + 4), .int 0])) (a + 2) (jI 12 (fun _ => 0))) (a + 3) (jL 6 (fun _ => 0))) (a + 4) (jQ 6 4 (j_rows (a + 5)))) (a + 5) (jL 12 (fun _ => 0))) (a + 6) (jL 12 (fun _ => 0))) (a + 7) (jL 12 (fun _ => 0))) (a + 8) (jL 12 (fun _ => 0)))) : J l G mX6_init 0 0 0 (lv_args 0 [.ref a, .int sp, .long sal]) [] h Q := by
  refine j_aload_n (pc := 0) dX6_init_0 rfl ?_
  refine j_objInit (pc := 1) dX6_init_1 joX6_3 job1 job2 (Nat.le_of_ble_eq_true rfl) (Nat.le_of_ble_eq_true rfl) ?_
  refine j_aload_n (pc := 4) dX6_init_4 rfl ?_
  refine j_bipush (pc := 5) (v := 10) dX6_init_5 (by decide) ?_
  refine j_newLA (pc := 7) (N := 10) hx dX6_init_7 (by decide) (by decide) (by decide) (Nat.le_of_ble_eq_true rfl) (Nat.le_of_ble_eq_true rfl) ?_
  show J l G mX6_init _ _ 9 _ _ (j_set (j_inc h 1) (a + 1) (jL 10 (fun _ => 0))) Q
  refine j_putF (pc := 9) dX6_init_9 jfX6_9 rfl rfl jgX6_9 (j_hn (by omega) H0) rfl rfl (Nat.le_of_ble_eq_true rfl) ?_
  show J l G mX6_init _ _ 12 _ _ (j_set (j_set (j_inc h 1) (a + 1) (jL 10 (fun _ => 0))) a (jO 6 [.int 0, .long 0, .ref (a + 1), .null, .null, .null, .int 0])) Q
  refine j_aload_n (pc := 12) dX6_init_12 rfl ?_
  refine j_bipush (pc := 13) (v := 12) dX6_init_13 (by decide) ?_
  refine j_newIA (pc := 15) (N := 12) (by show h.1 + 1 = a + 2; omega) dX6_init_15 (by decide) (by decide) (by decide) (Nat.le_of_ble_eq_true rfl) (Nat.le_of_ble_eq_true rfl) ?_
  show J l G mX6_init _ _ 17 _ _ (j_set (j_set (j_set (j_inc h 2) (a + 1) (jL 10 (fun _ => 0))) a (jO 6 [.int 0, .long 0, .ref (a + 1), .null, .null, .null, .int 0])) (a + 2) (jI 12 (fun _ => 0))) Q
  refine j_putF (pc := 17) dX6_init_17 jfX6_15 rfl rfl jgX6_15 (j_hn (by omega) j_hs) rfl rfl (Nat.le_of_ble_eq_true rfl) ?_
  show J l G mX6_init _ _ 20 _ _ (j_set (j_set (j_set (j_set (j_inc h 2) (a + 1) (jL 10 (fun _ => 0))) a (jO 6 [.int 0, .long 0, .ref (a + 1), .null, .null, .null, .int 0])) (a + 2) (jI 12 (fun _ => 0))) a (jO 6 [.int 0, .long 0, .ref (a + 1), .ref (a + 2), .null, .null, .int 0])) Q
  rw [j_ss1 (a := a) (b0 := a + 2) (by omega)]
  refine j_aload_n (pc := 20) dX6_init_20 rfl ?_
  refine j_bipush (pc := 21) (v := 6) dX6_init_21 (by decide) ?_
  refine j_newLA (pc := 23) (N := 6) (by show h.1 + 2 = a + 3; omega) dX6_init_23 (by decide) (by decide) (by decide) (Nat.le_of_ble_eq_true rfl) (Nat.le_of_ble_eq_true rfl) ?_
  show J l G mX6_init _ _ 25 _ _ (j_set (j_set (j_set (j_set (j_inc h 3) (a + 1) (jL 10 (fun _ => 0))) a (jO 6 [.int 0, .long 0, .ref (a + 1), .ref (a + 2), .null, .null, .int 0])) (a + 2) (jI 12 (fun _ => 0))) (a + 3) (jL 6 (fun _ => 0))) Q
  refine j_putF (pc := 25) dX6_init_25 jfX6_19 rfl rfl jgX6_19 (j_hn (by omega) (j_hn (by omega) j_hs)) rfl rfl (Nat.le_of_ble_eq_true rfl) ?_
  show J l G mX6_init _ _ 28 _ _ (j_set (j_set (j_set (j_set (j_set (j_inc h 3) (a + 1) (jL 10 (fun _ => 0))) a (jO 6 [.int 0, .long 0, .ref (a + 1), .ref (a + 2), .null, .null, .int 0])) (a + 2) (jI 12 (fun _ => 0))) (a + 3) (jL 6 (fun _ => 0))) a (jO 6 [.int 0, .long 0, .ref (a + 1), .ref (a + 2), .ref (a + 3), .null, .int 0])) Q
  rw [j_ss2 (a := a) (b0 := a + 2) (b1 := a + 3) (by omega) (by omega)]
  refine j_aload_n (pc := 28) dX6_init_28 rfl ?_
  refine j_iconst (pc := 29) (v := 4) dX6_init_29 (by decide) ?_
  refine j_bipush (pc := 30) (v := 12) dX6_init_30 (by decide) ?_
  refine j_mna (pc := 32) (by show h.1 + 3 = a + 4; omega) dX6_init_32 jkX6_22 (Nat.le_of_ble_eq_true rfl) (Nat.le_of_ble_eq_true rfl) ?_
  show J l G mX6_init _ _ 36 _ _ (j_set (j_set (j_set (j_set (j_set (j_set (j_set (j_set (j_set (j_inc h 8) (a + 1) (jL 10 (fun _ => 0))) a (jO 6 [.int 0, .long 0, .ref (a + 1), .ref (a + 2), .ref (a + 3), .null, .int 0])) (a + 2) (jI 12 (fun _ => 0))) (a + 3) (jL 6 (fun _ => 0))) (a + 4) (jQ 6 4 (j_rows (a + 5)))) (a + 5) (jL 12 (fun _ => 0))) (a + 6) (jL 12 (fun _ => 0))) (a + 7) (jL 12 (fun _ => 0))) (a + 8) (jL 12 (fun _ => 0))) Q
  refine j_putF (pc := 36) dX6_init_36 jfX6_24 rfl rfl jgX6_24 (j_hn (by omega) (j_hn (by omega) (j_hn (by omega) (j_hn (by omega) (j_hn (by omega) (j_hn (by omega) (j_hn (by omega) j_hs))))))) rfl rfl (Nat.le_of_ble_eq_true rfl) ?_
  show J l G mX6_init _ _ 39 _ _ (j_set (j_set (j_set (j_set (j_set (j_set (j_set (j_set (j_set (j_set (j_inc h 8) (a + 1) (jL 10 (fun _ => 0))) a (jO 6 [.int 0, .long 0, .ref (a + 1), .ref (a + 2), .ref (a + 3), .null, .int 0])) (a + 2) (jI 12 (fun _ => 0))) (a + 3) (jL 6 (fun _ => 0))) (a + 4) (jQ 6 4 (j_rows (a + 5)))) (a + 5) (jL 12 (fun _ => 0))) (a + 6) (jL 12 (fun _ => 0))) (a + 7) (jL 12 (fun _ => 0))) (a + 8) (jL 12 (fun _ => 0))) a (jO 6 [.int 0, .long 0, .ref (a + 1), .ref (a + 2), .ref (a + 3), .ref (a + 4), .int 0])) Q
  rw [j_ss7 (a := a) (b0 := a + 2) (b1 := a + 3) (b2 := a + 4) (b3 := a + 5) (b4 := a + 6) (b5 := a + 7) (b6 := a + 8) (by omega) (by omega) (by omega) (by omega) (by omega) (by omega) (by omega)]
  refine j_aload_n (pc := 39) dX6_init_39 rfl ?_
  refine j_iload_n (pc := 40) dX6_init_40 rfl ?_
  refine j_putF (pc := 41) dX6_init_41 jfX6_27 rfl rfl jgX6_27 (j_hn (by omega) (j_hn (by omega) (j_hn (by omega) (j_hn (by omega) (j_hn (by omega) (j_hn (by omega) (j_hn (by omega) j_hs))))))) rfl rfl (Nat.le_of_ble_eq_true rfl) ?_
  show J l G mX6_init _ _ 44 _ _ (j_set (j_set (j_set (j_set (j_set (j_set (j_set (j_set (j_set (j_set (j_inc h 8) (a + 1) (jL 10 (fun _ => 0))) a (jO 6 [.int 0, .long 0, .ref (a + 1), .ref (a + 2), .ref (a + 3), .ref (a + 4), .int 0])) (a + 2) (jI 12 (fun _ => 0))) (a + 3) (jL 6 (fun _ => 0))) (a + 4) (jQ 6 4 (j_rows (a + 5)))) (a + 5) (jL 12 (fun _ => 0))) (a + 6) (jL 12 (fun _ => 0))) (a + 7) (jL 12 (fun _ => 0))) (a + 8) (jL 12 (fun _ => 0))) a (jO 6 [.int sp, .long 0, .ref (a + 1), .ref (a + 2), .ref (a + 3), .ref (a + 4), .int 0])) Q
  rw [j_ss7 (a := a) (b0 := a + 2) (b1 := a + 3) (b2 := a + 4) (b3 := a + 5) (b4 := a + 6) (b5 := a + 7) (b6 := a + 8) (by omega) (by omega) (by omega) (by omega) (by omega) (by omega) (by omega)]
  refine j_aload_n (pc := 44) dX6_init_44 rfl ?_
  refine j_lload_n (pc := 45) dX6_init_45 rfl ?_
  refine j_putF (pc := 46) dX6_init_46 jfX6_31 rfl rfl jgX6_31 (j_hn (by omega) (j_hn (by omega) (j_hn (by omega) (j_hn (by omega) (j_hn (by omega) (j_hn (by omega) (j_hn (by omega) j_hs))))))) rfl rfl (Nat.le_of_ble_eq_true rfl) ?_
  show J l G mX6_init _ _ 49 _ _ (j_set (j_set (j_set (j_set (j_set (j_set (j_set (j_set (j_set (j_set (j_inc h 8) (a + 1) (jL 10 (fun _ => 0))) a (jO 6 [.int sp, .long 0, .ref (a + 1), .ref (a + 2), .ref (a + 3), .ref (a + 4), .int 0])) (a + 2) (jI 12 (fun _ => 0))) (a + 3) (jL 6 (fun _ => 0))) (a + 4) (jQ 6 4 (j_rows (a + 5)))) (a + 5) (jL 12 (fun _ => 0))) (a + 6) (jL 12 (fun _ => 0))) (a + 7) (jL 12 (fun _ => 0))) (a + 8) (jL 12 (fun _ => 0))) a (jO 6 [.int sp, .long sal, .ref (a + 1), .ref (a + 2), .ref (a + 3), .ref (a + 4), .int 0])) Q
  rw [j_ss7 (a := a) (b0 := a + 2) (b1 := a + 3) (b2 := a + 4) (b3 := a + 5) (b4 := a + 6) (b5 := a + 7) (b6 := a + 8) (by omega) (by omega) (by omega) (by omega) (by omega) (by omega) (by omega)]
  exact j_vret (pc := 49) dX6_init_49 rfl (Nat.le_of_ble_eq_true rfl) (Nat.le_of_ble_eq_true rfl) (K1)

set_option maxRecDepth 20000 in
theorem s_X7_trip {l : Launch} {G : jG} {h : jH} {Q : Option Value → jH → Prop} {ru dq T : Nat} {nx : Nat} {s0 : Int32} {v : Int64} {ta : Nat → Option Nat} (H0 : h.2 0 = some (jO 7 [.ref 1, .ref 3, .ref 6, .ref 7, .ref 8, .ref 12, .ref ru, .ref dq, .int (nI T)])) (H1 : h.2 7 = some (jQ 4 20 ta)) (hx : h.1 = nx) (hT : T ≤ 20) (hnx : 50 ≤ nx) (K1 : s0 < 0 → Q (some (.int (-1))) h) (K2 : ¬ (s0 < 0) → 4 ≤ s0 → Q (some (.int (-1))) h) (K3 : ¬ (s0 < 0) → ¬ (4 ≤ s0) → ∀ sp : Nat, s0 = nI sp → sp < 4 → v < 0 → Q (some (.int (-1))) h) (K4 : ¬ (s0 < 0) → ¬ (4 ≤ s0) → ∀ sp : Nat, s0 = nI sp → sp < 4 → ¬ (v < 0) → 1000000000000 < v → Q (some (.int (-1))) h) (K5 : ¬ (s0 < 0) → ¬ (4 ≤ s0) → ∀ sp : Nat, s0 = nI sp → sp < 4 → ¬ (v < 0) → ¬ (1000000000000 < v) → T < 20 → Q (some (.int (nI ((T + 1) - 1)))) (j_set (j_set (j_set (j_set (j_set (j_set (j_set (j_set (j_set (j_set (j_set (j_inc h 9) nx (jO 6 [.int (nI sp), .long v, .ref (nx + 1), .ref (nx + 2), .ref (nx + 3), .ref (nx + 4), .int 0])) (nx + 1) (jL 10 (fun _ => 0))) (nx + 2) (jI 12 (fun _ => 0))) (nx + 3) (jL 6 (fun _ => 0))) (nx + 4) (jQ 6 4 (j_rows (nx + 5)))) (nx + 5) (jL 12 (fun _ => 0))) (nx + 6) (jL 12 (fun _ => 0))) (nx + 7) (jL 12 (fun _ => 0))) (nx + 8) (jL 12 (fun _ => 0))) 7 (jQ 4 20 (va_up ta T (some nx)))) 0 (jO 7 [.ref 1, .ref 3, .ref 6, .ref 7, .ref 8, .ref 12, .ref ru, .ref dq, .int (nI (T + 1))]))) (K6 : ¬ (s0 < 0) → ¬ (4 ≤ s0) → ∀ sp : Nat, s0 = nI sp → sp < 4 → ¬ (v < 0) → ¬ (1000000000000 < v) → ¬ T < 20 → Q (some (.int (-1))) h) : J l G mX7_trip 0 0 0 (lv_args 0 [.ref 0, .int s0, .long v]) [] h Q := by
  refine j_iload_n (pc := 0) dX7_trip_0 rfl ?_
  refine j_if_lt (pc := 1) (tgt := 32) dX7_trip_1 (by decide) (fun c1 => ?_) (fun c1 => ?_)
  · refine j_iconst (pc := 32) (v := -1) dX7_trip_32 (by decide) ?_
    exact j_iret (pc := 33) dX7_trip_33 rfl rfl (Nat.le_of_ble_eq_true rfl) (Nat.le_of_ble_eq_true rfl) (K1 c1)
  · refine j_iload_n (pc := 4) dX7_trip_4 rfl ?_
    refine j_iconst (pc := 5) (v := 4) dX7_trip_5 (by decide) ?_
    refine j_icmp_ge (pc := 6) (tgt := 32) dX7_trip_6 (by decide) (fun c2 => ?_) (fun c2 => ?_)
    · refine j_iconst (pc := 32) (v := -1) dX7_trip_32 (by decide) ?_
      exact j_iret (pc := 33) dX7_trip_33 rfl rfl (Nat.le_of_ble_eq_true rfl) (Nat.le_of_ble_eq_true rfl) (K2 c1 c2)
    · obtain ⟨sp, hsp, rfl⟩ : ∃ sp : Nat, sp < 4 ∧ s0 = nI sp := jn_ge (N := 4) c1 c2 (by decide)
      refine j_lload_n (pc := 9) dX7_trip_9 rfl ?_
      refine j_lconst (pc := 10) (v := 0) dX7_trip_10 (by decide) ?_
      refine j_lc_lt (pc := 11) (tgt := 32) dX7_trip_11 dX7_trip_12 (by decide) (fun c3 => ?_) (fun c3 => ?_)
      · refine j_iconst (pc := 32) (v := -1) dX7_trip_32 (by decide) ?_
        exact j_iret (pc := 33) dX7_trip_33 rfl rfl (Nat.le_of_ble_eq_true rfl) (Nat.le_of_ble_eq_true rfl) (K3 c1 c2 sp rfl hsp c3)
      · refine j_lload_n (pc := 15) dX7_trip_15 rfl ?_
        refine j_ldc2 (pc := 16) dX7_trip_16 jnX7_84 ?_
        refine j_lc_gt (pc := 19) (tgt := 32) dX7_trip_19 dX7_trip_20 (by decide) (fun c4 => ?_) (fun c4 => ?_)
        · refine j_iconst (pc := 32) (v := -1) dX7_trip_32 (by decide) ?_
          exact j_iret (pc := 33) dX7_trip_33 rfl rfl (Nat.le_of_ble_eq_true rfl) (Nat.le_of_ble_eq_true rfl) (K4 c1 c2 sp rfl hsp c3 c4)
        · refine j_aload_n (pc := 23) dX7_trip_23 rfl ?_
          refine j_getf (pc := 24) dX7_trip_24 jfX7_86 H0 rfl ?_
          refine j_bipush (pc := 27) (v := 20) dX7_trip_27 (by decide) ?_
          refine j_icmp_ltN (a := T) (b := 20) (pc := 29) (tgt := 34) dX7_trip_29 (by decide) (by omega) (by omega) (fun c5 => ?_) (fun c5 => ?_)
          · refine j_aload_n (pc := 34) dX7_trip_34 rfl ?_
            refine j_getf (pc := 35) dX7_trip_35 jfX7_31 H0 rfl ?_
            refine j_aload_n (pc := 38) dX7_trip_38 rfl ?_
            refine j_getf (pc := 39) dX7_trip_39 jfX7_86 H0 rfl ?_
            refine j_newcA (pc := 42) hx dX7_trip_42 (ci := 6) rfl jinX6 tyX6_ok jkX7_29 jiiX6 jitX6 (dfX6 G) (Nat.le_of_ble_eq_true rfl) (Nat.le_of_ble_eq_true rfl) ?_
            show J l G mX7_trip _ _ 45 _ _ (j_set (j_inc h 1) nx (jO 6 [.int 0, .long 0, .null, .null, .null, .null, .int 0])) Q
            refine j_dup (pc := 45) dX7_trip_45 rfl ?_
            refine j_iload_n (pc := 46) dX7_trip_46 rfl ?_
            refine j_lload_n (pc := 47) dX7_trip_47 rfl ?_
            refine j_I2 (rm' := rmX6_init) (pc := 48) dX7_trip_48 jlX7_90 ⟨Nat.le_of_ble_eq_true rfl, Nat.le_of_ble_eq_true rfl, Nat.le_of_ble_eq_true rfl, Nat.le_of_ble_eq_true rfl, Nat.le_of_ble_eq_true rfl, Nat.le_of_ble_eq_true rfl⟩ ?_
            refine s_X6_init j_hs (by show h.1 + 1 = nx + 1; omega) ?_
            show J l G mX7_trip _ _ 51 _ [.ref nx, .int (nI T), .ref 7] (j_set (j_set (j_set (j_set (j_set (j_set (j_set (j_set (j_set (j_set (j_inc h 9) nx (jO 6 [.int 0, .long 0, .null, .null, .null, .null, .int 0])) (nx + 1) (jL 10 (fun _ => 0))) nx (jO 6 [.int (nI sp), .long v, .ref (nx + 1), .ref (nx + 2), .ref (nx + 3), .ref (nx + 4), .int 0])) (nx + 2) (jI 12 (fun _ => 0))) (nx + 3) (jL 6 (fun _ => 0))) (nx + 4) (jQ 6 4 (j_rows (nx + 5)))) (nx + 5) (jL 12 (fun _ => 0))) (nx + 6) (jL 12 (fun _ => 0))) (nx + 7) (jL 12 (fun _ => 0))) (nx + 8) (jL 12 (fun _ => 0))) Q
            rw [j_ss1 (a := nx) (b0 := nx + 1) (by omega)]
            refine j_aast (pc := 51) dX7_trip_51 (t := 4) rfl rfl (j_hn (by omega) (j_hn (by omega) (j_hn (by omega) (j_hn (by omega) (j_hn (by omega) (j_hn (by omega) (j_hn (by omega) (j_hn (by omega) (j_hn (by omega) H1))))))))) (j_hn (by omega) (j_hn (by omega) (j_hn (by omega) (j_hn (by omega) (j_hn (by omega) (j_hn (by omega) (j_hn (by omega) (j_hn (by omega) j_hs)))))))) (jix_nI (by omega) (by decide)) ?_
            refine j_aload_n (pc := 52) dX7_trip_52 rfl ?_
            refine j_dup (pc := 53) dX7_trip_53 rfl ?_
            refine j_getf (pc := 54) dX7_trip_54 jfX7_86 (j_hn (by decide) (j_hn (by omega) (j_hn (by omega) (j_hn (by omega) (j_hn (by omega) (j_hn (by omega) (j_hn (by omega) (j_hn (by omega) (j_hn (by omega) (j_hn (by omega) H0)))))))))) rfl ?_
            refine j_iconst (pc := 57) (v := 1) dX7_trip_57 (by decide) ?_
            refine j_iaddN (a := T) (b := 1) (pc := 58) dX7_trip_58 ?_
            refine j_putf (pc := 59) dX7_trip_59 jfX7_86 (j_hn (by decide) (j_hn (by omega) (j_hn (by omega) (j_hn (by omega) (j_hn (by omega) (j_hn (by omega) (j_hn (by omega) (j_hn (by omega) (j_hn (by omega) (j_hn (by omega) H0)))))))))) rfl rfl (Nat.le_of_ble_eq_true rfl) ?_
            show J l G mX7_trip _ _ 62 _ _ (j_set (j_set (j_set (j_set (j_set (j_set (j_set (j_set (j_set (j_set (j_set (j_inc h 9) nx (jO 6 [.int (nI sp), .long v, .ref (nx + 1), .ref (nx + 2), .ref (nx + 3), .ref (nx + 4), .int 0])) (nx + 1) (jL 10 (fun _ => 0))) (nx + 2) (jI 12 (fun _ => 0))) (nx + 3) (jL 6 (fun _ => 0))) (nx + 4) (jQ 6 4 (j_rows (nx + 5)))) (nx + 5) (jL 12 (fun _ => 0))) (nx + 6) (jL 12 (fun _ => 0))) (nx + 7) (jL 12 (fun _ => 0))) (nx + 8) (jL 12 (fun _ => 0))) 7 (jQ 4 20 (va_up ta T (some nx)))) 0 (jO 7 [.ref 1, .ref 3, .ref 6, .ref 7, .ref 8, .ref 12, .ref ru, .ref dq, .int (nI (T + 1))])) Q
            refine j_aload_n (pc := 62) dX7_trip_62 rfl ?_
            refine j_getf (pc := 63) dX7_trip_63 jfX7_86 j_hs rfl ?_
            refine j_iconst (pc := 66) (v := 1) dX7_trip_66 (by decide) ?_
            refine j_isubN (a := T + 1) (b := 1) (pc := 67) dX7_trip_67 (by omega) ?_
            exact j_iret (pc := 68) dX7_trip_68 rfl rfl (Nat.le_of_ble_eq_true rfl) (Nat.le_of_ble_eq_true rfl) (K5 c1 c2 sp rfl hsp c3 c4 c5)
          · refine j_iconst (pc := 32) (v := -1) dX7_trip_32 (by decide) ?_
            exact j_iret (pc := 33) dX7_trip_33 rfl rfl (Nat.le_of_ble_eq_true rfl) (Nat.le_of_ble_eq_true rfl) (K6 c1 c2 sp rfl hsp c3 c4 c5)
