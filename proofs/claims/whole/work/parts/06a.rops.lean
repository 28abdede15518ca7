set_option maxRecDepth 20000 in
theorem r_cost {l : Launch} {G : jG} {h : jH} {Q : Option Value → jH → Prop} {c : Nat} {t0 : Int32} {k0 : Int32} {v : Int64} (hc : c < 512) (hG : j_gok G) (hI : iV c h) (K : ∀ (vv : Int32) (h1 : jH), (∃ fs, h1.2 27 = some (jO 8 fs)) → (∀ Q2 : Option Value → jH → Prop, (∀ h2, iV (c + 1) h2 → Q2 (some (.int vv)) h2) → J l G mX8_cost 0 0 0 (lv_args 0 [.ref 27, .int t0, .int k0, .long v]) [] h1 Q2) → Q (some (.int vv)) h1) : J l G mX7_cost 0 0 0 (lv_args 0 [.ref 0, .int t0, .int k0, .long v]) [] h Q := by
  have hI0 := hI
  refine hI _ ?_
  clear hI
  intro L P T E C R R0 n ru dq dr op at_ fr wd ws we wn dd tx rs fs ro sh dy se ey er tk tn ac f1 f2 f3 f4 g1 g2 g3 g4 da lo ad sa co pa ss w1 w2 w3 am pw ps cu dm ta ea shp tb eb rr rn cst prt eam dys eac shs hM hX hW hY hT hE hD hN hU hS hB
  obtain ⟨M27, M28, M29, M30, M31, M32, M33, M34, M35, M36, M37, M38, M39, M40, M41, M42, M43, M44, M45, M46, M47, M48, M49⟩ := id hM
  obtain ⟨X0, X1, X2, X3, X4, X5, X6, X7, X8, X9, X10, X11, X12, X13⟩ := id hX
  obtain ⟨W0, W1, W2⟩ := id hW
  obtain ⟨Y0, Y1, Y2, Y3, Y4, Y5, Y6, Y7, Y8, Y9⟩ := id hY
  obtain ⟨hL, hP, hT20, hE60, hC, hR, hR0, hn, hrd, hop⟩ := id hN
  refine s_X7_cost X0 X7 (fun t ht => (hT t ht).1) (fun t ht => (hT t ht).2.1) hT20 (fun t ht => (hS.1 t ht).1) ?_ ?_ ?_ ?_ ?_ ?_ ?_ ?_
  · intro c0
    refine K _ _ ⟨_, M27⟩ (fun Q2 K2 => ?_)
    refine s_X8_cost M27 M38 M36 hT20 ?_ ?_ ?_ ?_ ?_ ?_ ?_ ?_
    · intro b0
      exact K2 _ (iV_up hI0)
    · intro b0 b1
      exfalso
      clear hI0 hM hX hW hY hT hE hD hU hS hB hG K M27 M28 M29 M30 M31 M32 M33 M34 M35 M36 M37 M38 M39 M40 M41 M42 M43 M44 M45 M46 M47 M48 M49 X0 X1 X2 X3 X4 X5 X6 X7 X8 X9 X10 X11 X12 X13 W0 W1 W2 Y0 Y1 Y2 Y3 Y4 Y5 Y6 Y7 Y8 Y9 K2
      (try simp only [Int32.lt_iff_toInt_lt, Int32.le_iff_toInt_le, Int64.lt_iff_toInt_lt, Int64.le_iff_toInt_le, Int32.toInt_toInt64, ← Int32.toInt_inj, ← Int64.toInt_inj, n32_0, n32_1, n32_2, n32_3, n32_4, n32_6, n32_8, n32_9, n32_10, n32_20, n32_100, n32_120, n32_255, n32_400, n32_3600, n32_m1, n64_0, n64_1, n64_2, n64_3, n64_4, n64_5, n64_9, n64_19, n64_119, n64_255, n64_400, n64_3599, n64_1000000000, n64_1000000000000, n64_m1000000000000] at c0 b0 b1)
      first | contradiction | omega
    · intro b0 b1 bt2 be2 bh2 b3
      exfalso
      clear hI0 hM hX hW hY hT hE hD hU hS hB hG K M27 M28 M29 M30 M31 M32 M33 M34 M35 M36 M37 M38 M39 M40 M41 M42 M43 M44 M45 M46 M47 M48 M49 X0 X1 X2 X3 X4 X5 X6 X7 X8 X9 X10 X11 X12 X13 W0 W1 W2 Y0 Y1 Y2 Y3 Y4 Y5 Y6 Y7 Y8 Y9 K2
      (try simp only [Int32.lt_iff_toInt_lt, Int32.le_iff_toInt_le, Int64.lt_iff_toInt_lt, Int64.le_iff_toInt_le, Int32.toInt_toInt64, ← Int32.toInt_inj, ← Int64.toInt_inj, n32_0, n32_1, n32_2, n32_3, n32_4, n32_6, n32_8, n32_9, n32_10, n32_20, n32_100, n32_120, n32_255, n32_400, n32_3600, n32_m1, n64_0, n64_1, n64_2, n64_3, n64_4, n64_5, n64_9, n64_19, n64_119, n64_255, n64_400, n64_3599, n64_1000000000, n64_1000000000000, n64_m1000000000000] at c0 b0 b1 b3)
      first | contradiction | omega
    · intro b0 b1 bt2 be2 bh2 b3 b4
      exfalso
      clear hI0 hM hX hW hY hT hE hD hU hS hB hG K M27 M28 M29 M30 M31 M32 M33 M34 M35 M36 M37 M38 M39 M40 M41 M42 M43 M44 M45 M46 M47 M48 M49 X0 X1 X2 X3 X4 X5 X6 X7 X8 X9 X10 X11 X12 X13 W0 W1 W2 Y0 Y1 Y2 Y3 Y4 Y5 Y6 Y7 Y8 Y9 K2
      (try simp only [Int32.lt_iff_toInt_lt, Int32.le_iff_toInt_le, Int64.lt_iff_toInt_lt, Int64.le_iff_toInt_le, Int32.toInt_toInt64, ← Int32.toInt_inj, ← Int64.toInt_inj, n32_0, n32_1, n32_2, n32_3, n32_4, n32_6, n32_8, n32_9, n32_10, n32_20, n32_100, n32_120, n32_255, n32_400, n32_3600, n32_m1, n64_0, n64_1, n64_2, n64_3, n64_4, n64_5, n64_9, n64_19, n64_119, n64_255, n64_400, n64_3599, n64_1000000000, n64_1000000000000, n64_m1000000000000] at c0 b0 b1 b3 b4)
      first | contradiction | omega
    · intro b0 b1 bt2 be2 bh2 b3 b4 b5
      exfalso
      clear hI0 hM hX hW hY hT hE hD hU hS hB hG K M27 M28 M29 M30 M31 M32 M33 M34 M35 M36 M37 M38 M39 M40 M41 M42 M43 M44 M45 M46 M47 M48 M49 X0 X1 X2 X3 X4 X5 X6 X7 X8 X9 X10 X11 X12 X13 W0 W1 W2 Y0 Y1 Y2 Y3 Y4 Y5 Y6 Y7 Y8 Y9 K2
      (try simp only [Int32.lt_iff_toInt_lt, Int32.le_iff_toInt_le, Int64.lt_iff_toInt_lt, Int64.le_iff_toInt_le, Int32.toInt_toInt64, ← Int32.toInt_inj, ← Int64.toInt_inj, n32_0, n32_1, n32_2, n32_3, n32_4, n32_6, n32_8, n32_9, n32_10, n32_20, n32_100, n32_120, n32_255, n32_400, n32_3600, n32_m1, n64_0, n64_1, n64_2, n64_3, n64_4, n64_5, n64_9, n64_19, n64_119, n64_255, n64_400, n64_3599, n64_1000000000, n64_1000000000000, n64_m1000000000000] at c0 b0 b1 b3 b4 b5)
      first | contradiction | omega
    · intro b0 b1 bt2 be2 bh2 b3 b4 b5 b6
      exfalso
      clear hI0 hM hX hW hY hT hE hD hU hS hB hG K M27 M28 M29 M30 M31 M32 M33 M34 M35 M36 M37 M38 M39 M40 M41 M42 M43 M44 M45 M46 M47 M48 M49 X0 X1 X2 X3 X4 X5 X6 X7 X8 X9 X10 X11 X12 X13 W0 W1 W2 Y0 Y1 Y2 Y3 Y4 Y5 Y6 Y7 Y8 Y9 K2
      (try simp only [Int32.lt_iff_toInt_lt, Int32.le_iff_toInt_le, Int64.lt_iff_toInt_lt, Int64.le_iff_toInt_le, Int32.toInt_toInt64, ← Int32.toInt_inj, ← Int64.toInt_inj, n32_0, n32_1, n32_2, n32_3, n32_4, n32_6, n32_8, n32_9, n32_10, n32_20, n32_100, n32_120, n32_255, n32_400, n32_3600, n32_m1, n64_0, n64_1, n64_2, n64_3, n64_4, n64_5, n64_9, n64_19, n64_119, n64_255, n64_400, n64_3599, n64_1000000000, n64_1000000000000, n64_m1000000000000] at c0 b0 b1 b3 b4 b5 b6)
      first | contradiction | omega
    · intro b0 b1 bt2 be2 bh2 b3 b4 b5 b6 b7
      exfalso
      clear hI0 hM hX hW hY hT hE hD hU hS hB hG K M27 M28 M29 M30 M31 M32 M33 M34 M35 M36 M37 M38 M39 M40 M41 M42 M43 M44 M45 M46 M47 M48 M49 X0 X1 X2 X3 X4 X5 X6 X7 X8 X9 X10 X11 X12 X13 W0 W1 W2 Y0 Y1 Y2 Y3 Y4 Y5 Y6 Y7 Y8 Y9 K2
      (try simp only [Int32.lt_iff_toInt_lt, Int32.le_iff_toInt_le, Int64.lt_iff_toInt_lt, Int64.le_iff_toInt_le, Int32.toInt_toInt64, ← Int32.toInt_inj, ← Int64.toInt_inj, n32_0, n32_1, n32_2, n32_3, n32_4, n32_6, n32_8, n32_9, n32_10, n32_20, n32_100, n32_120, n32_255, n32_400, n32_3600, n32_m1, n64_0, n64_1, n64_2, n64_3, n64_4, n64_5, n64_9, n64_19, n64_119, n64_255, n64_400, n64_3599, n64_1000000000, n64_1000000000000, n64_m1000000000000] at c0 b0 b1 b3 b4 b5 b6 b7)
      first | contradiction | omega
    · intro b0 b1 bt2 be2 bh2 b3 b4 b5 b6 b7 bt8 be8 bh8
      exfalso
      clear hI0 hM hX hW hY hT hE hD hU hS hB hG K M27 M28 M29 M30 M31 M32 M33 M34 M35 M36 M37 M38 M39 M40 M41 M42 M43 M44 M45 M46 M47 M48 M49 X0 X1 X2 X3 X4 X5 X6 X7 X8 X9 X10 X11 X12 X13 W0 W1 W2 Y0 Y1 Y2 Y3 Y4 Y5 Y6 Y7 Y8 Y9 K2
      (try simp only [Int32.lt_iff_toInt_lt, Int32.le_iff_toInt_le, Int64.lt_iff_toInt_lt, Int64.le_iff_toInt_le, Int32.toInt_toInt64, ← Int32.toInt_inj, ← Int64.toInt_inj, n32_0, n32_1, n32_2, n32_3, n32_4, n32_6, n32_8, n32_9, n32_10, n32_20, n32_100, n32_120, n32_255, n32_400, n32_3600, n32_m1, n64_0, n64_1, n64_2, n64_3, n64_4, n64_5, n64_9, n64_19, n64_119, n64_255, n64_400, n64_3599, n64_1000000000, n64_1000000000000, n64_m1000000000000] at c0 b0 b1 b3 b4 b5 b6 b7)
      first | contradiction | omega
  · intro c0 c1
    refine K _ _ ⟨_, M27⟩ (fun Q2 K2 => ?_)
    refine s_X8_cost M27 M38 M36 hT20 ?_ ?_ ?_ ?_ ?_ ?_ ?_ ?_
    · intro b0
      exfalso
      clear hI0 hM hX hW hY hT hE hD hU hS hB hG K M27 M28 M29 M30 M31 M32 M33 M34 M35 M36 M37 M38 M39 M40 M41 M42 M43 M44 M45 M46 M47 M48 M49 X0 X1 X2 X3 X4 X5 X6 X7 X8 X9 X10 X11 X12 X13 W0 W1 W2 Y0 Y1 Y2 Y3 Y4 Y5 Y6 Y7 Y8 Y9 K2
      (try simp only [Int32.lt_iff_toInt_lt, Int32.le_iff_toInt_le, Int64.lt_iff_toInt_lt, Int64.le_iff_toInt_le, Int32.toInt_toInt64, ← Int32.toInt_inj, ← Int64.toInt_inj, n32_0, n32_1, n32_2, n32_3, n32_4, n32_6, n32_8, n32_9, n32_10, n32_20, n32_100, n32_120, n32_255, n32_400, n32_3600, n32_m1, n64_0, n64_1, n64_2, n64_3, n64_4, n64_5, n64_9, n64_19, n64_119, n64_255, n64_400, n64_3599, n64_1000000000, n64_1000000000000, n64_m1000000000000] at c0 c1 b0)
      first | contradiction | omega
    · intro b0 b1
      exact K2 _ (iV_up hI0)
    · intro b0 b1 bt2 be2 bh2 b3
      exfalso
      clear hI0 hM hX hW hY hT hE hD hU hS hB hG K M27 M28 M29 M30 M31 M32 M33 M34 M35 M36 M37 M38 M39 M40 M41 M42 M43 M44 M45 M46 M47 M48 M49 X0 X1 X2 X3 X4 X5 X6 X7 X8 X9 X10 X11 X12 X13 W0 W1 W2 Y0 Y1 Y2 Y3 Y4 Y5 Y6 Y7 Y8 Y9 K2
      (try simp only [Int32.lt_iff_toInt_lt, Int32.le_iff_toInt_le, Int64.lt_iff_toInt_lt, Int64.le_iff_toInt_le, Int32.toInt_toInt64, ← Int32.toInt_inj, ← Int64.toInt_inj, n32_0, n32_1, n32_2, n32_3, n32_4, n32_6, n32_8, n32_9, n32_10, n32_20, n32_100, n32_120, n32_255, n32_400, n32_3600, n32_m1, n64_0, n64_1, n64_2, n64_3, n64_4, n64_5, n64_9, n64_19, n64_119, n64_255, n64_400, n64_3599, n64_1000000000, n64_1000000000000, n64_m1000000000000] at c0 c1 b0 b1 b3)
      first | contradiction | omega
    · intro b0 b1 bt2 be2 bh2 b3 b4
      exfalso
      clear hI0 hM hX hW hY hT hE hD hU hS hB hG K M27 M28 M29 M30 M31 M32 M33 M34 M35 M36 M37 M38 M39 M40 M41 M42 M43 M44 M45 M46 M47 M48 M49 X0 X1 X2 X3 X4 X5 X6 X7 X8 X9 X10 X11 X12 X13 W0 W1 W2 Y0 Y1 Y2 Y3 Y4 Y5 Y6 Y7 Y8 Y9 K2
      (try simp only [Int32.lt_iff_toInt_lt, Int32.le_iff_toInt_le, Int64.lt_iff_toInt_lt, Int64.le_iff_toInt_le, Int32.toInt_toInt64, ← Int32.toInt_inj, ← Int64.toInt_inj, n32_0, n32_1, n32_2, n32_3, n32_4, n32_6, n32_8, n32_9, n32_10, n32_20, n32_100, n32_120, n32_255, n32_400, n32_3600, n32_m1, n64_0, n64_1, n64_2, n64_3, n64_4, n64_5, n64_9, n64_19, n64_119, n64_255, n64_400, n64_3599, n64_1000000000, n64_1000000000000, n64_m1000000000000] at c0 c1 b0 b1 b3 b4)
      first | contradiction | omega
    · intro b0 b1 bt2 be2 bh2 b3 b4 b5
      exfalso
      clear hI0 hM hX hW hY hT hE hD hU hS hB hG K M27 M28 M29 M30 M31 M32 M33 M34 M35 M36 M37 M38 M39 M40 M41 M42 M43 M44 M45 M46 M47 M48 M49 X0 X1 X2 X3 X4 X5 X6 X7 X8 X9 X10 X11 X12 X13 W0 W1 W2 Y0 Y1 Y2 Y3 Y4 Y5 Y6 Y7 Y8 Y9 K2
      (try simp only [Int32.lt_iff_toInt_lt, Int32.le_iff_toInt_le, Int64.lt_iff_toInt_lt, Int64.le_iff_toInt_le, Int32.toInt_toInt64, ← Int32.toInt_inj, ← Int64.toInt_inj, n32_0, n32_1, n32_2, n32_3, n32_4, n32_6, n32_8, n32_9, n32_10, n32_20, n32_100, n32_120, n32_255, n32_400, n32_3600, n32_m1, n64_0, n64_1, n64_2, n64_3, n64_4, n64_5, n64_9, n64_19, n64_119, n64_255, n64_400, n64_3599, n64_1000000000, n64_1000000000000, n64_m1000000000000] at c0 c1 b0 b1 b3 b4 b5)
      first | contradiction | omega
    · intro b0 b1 bt2 be2 bh2 b3 b4 b5 b6
      exfalso
      clear hI0 hM hX hW hY hT hE hD hU hS hB hG K M27 M28 M29 M30 M31 M32 M33 M34 M35 M36 M37 M38 M39 M40 M41 M42 M43 M44 M45 M46 M47 M48 M49 X0 X1 X2 X3 X4 X5 X6 X7 X8 X9 X10 X11 X12 X13 W0 W1 W2 Y0 Y1 Y2 Y3 Y4 Y5 Y6 Y7 Y8 Y9 K2
      (try simp only [Int32.lt_iff_toInt_lt, Int32.le_iff_toInt_le, Int64.lt_iff_toInt_lt, Int64.le_iff_toInt_le, Int32.toInt_toInt64, ← Int32.toInt_inj, ← Int64.toInt_inj, n32_0, n32_1, n32_2, n32_3, n32_4, n32_6, n32_8, n32_9, n32_10, n32_20, n32_100, n32_120, n32_255, n32_400, n32_3600, n32_m1, n64_0, n64_1, n64_2, n64_3, n64_4, n64_5, n64_9, n64_19, n64_119, n64_255, n64_400, n64_3599, n64_1000000000, n64_1000000000000, n64_m1000000000000] at c0 c1 b0 b1 b3 b4 b5 b6)
      first | contradiction | omega
    · intro b0 b1 bt2 be2 bh2 b3 b4 b5 b6 b7
      exfalso
      clear hI0 hM hX hW hY hT hE hD hU hS hB hG K M27 M28 M29 M30 M31 M32 M33 M34 M35 M36 M37 M38 M39 M40 M41 M42 M43 M44 M45 M46 M47 M48 M49 X0 X1 X2 X3 X4 X5 X6 X7 X8 X9 X10 X11 X12 X13 W0 W1 W2 Y0 Y1 Y2 Y3 Y4 Y5 Y6 Y7 Y8 Y9 K2
      (try simp only [Int32.lt_iff_toInt_lt, Int32.le_iff_toInt_le, Int64.lt_iff_toInt_lt, Int64.le_iff_toInt_le, Int32.toInt_toInt64, ← Int32.toInt_inj, ← Int64.toInt_inj, n32_0, n32_1, n32_2, n32_3, n32_4, n32_6, n32_8, n32_9, n32_10, n32_20, n32_100, n32_120, n32_255, n32_400, n32_3600, n32_m1, n64_0, n64_1, n64_2, n64_3, n64_4, n64_5, n64_9, n64_19, n64_119, n64_255, n64_400, n64_3599, n64_1000000000, n64_1000000000000, n64_m1000000000000] at c0 c1 b0 b1 b3 b4 b5 b6 b7)
      first | contradiction | omega
    · intro b0 b1 bt2 be2 bh2 b3 b4 b5 b6 b7 bt8 be8 bh8
      exfalso
      clear hI0 hM hX hW hY hT hE hD hU hS hB hG K M27 M28 M29 M30 M31 M32 M33 M34 M35 M36 M37 M38 M39 M40 M41 M42 M43 M44 M45 M46 M47 M48 M49 X0 X1 X2 X3 X4 X5 X6 X7 X8 X9 X10 X11 X12 X13 W0 W1 W2 Y0 Y1 Y2 Y3 Y4 Y5 Y6 Y7 Y8 Y9 K2
      (try simp only [Int32.lt_iff_toInt_lt, Int32.le_iff_toInt_le, Int64.lt_iff_toInt_lt, Int64.le_iff_toInt_le, Int32.toInt_toInt64, ← Int32.toInt_inj, ← Int64.toInt_inj, n32_0, n32_1, n32_2, n32_3, n32_4, n32_6, n32_8, n32_9, n32_10, n32_20, n32_100, n32_120, n32_255, n32_400, n32_3600, n32_m1, n64_0, n64_1, n64_2, n64_3, n64_4, n64_5, n64_9, n64_19, n64_119, n64_255, n64_400, n64_3599, n64_1000000000, n64_1000000000000, n64_m1000000000000] at c0 c1 b0 b1 b3 b4 b5 b6 b7)
      first | contradiction | omega
  · intro c0 c1 ct2 ce2 ch2 c3
    subst ce2
    refine K _ _ ⟨_, M27⟩ (fun Q2 K2 => ?_)
    refine s_X8_cost M27 M38 M36 hT20 ?_ ?_ ?_ ?_ ?_ ?_ ?_ ?_
    · intro b0
      exfalso
      clear hI0 hM hX hW hY hT hE hD hU hS hB hG K M27 M28 M29 M30 M31 M32 M33 M34 M35 M36 M37 M38 M39 M40 M41 M42 M43 M44 M45 M46 M47 M48 M49 X0 X1 X2 X3 X4 X5 X6 X7 X8 X9 X10 X11 X12 X13 W0 W1 W2 Y0 Y1 Y2 Y3 Y4 Y5 Y6 Y7 Y8 Y9 K2
      (try simp only [Int32.lt_iff_toInt_lt, Int32.le_iff_toInt_le, Int64.lt_iff_toInt_lt, Int64.le_iff_toInt_le, Int32.toInt_toInt64, ← Int32.toInt_inj, ← Int64.toInt_inj, n32_0, n32_1, n32_2, n32_3, n32_4, n32_6, n32_8, n32_9, n32_10, n32_20, n32_100, n32_120, n32_255, n32_400, n32_3600, n32_m1, n64_0, n64_1, n64_2, n64_3, n64_4, n64_5, n64_9, n64_19, n64_119, n64_255, n64_400, n64_3599, n64_1000000000, n64_1000000000000, n64_m1000000000000] at c0 c1 c3 b0)
      first | contradiction | omega
    · intro b0 b1
      exfalso
      clear hI0 hM hX hW hY hT hE hD hU hS hB hG K M27 M28 M29 M30 M31 M32 M33 M34 M35 M36 M37 M38 M39 M40 M41 M42 M43 M44 M45 M46 M47 M48 M49 X0 X1 X2 X3 X4 X5 X6 X7 X8 X9 X10 X11 X12 X13 W0 W1 W2 Y0 Y1 Y2 Y3 Y4 Y5 Y6 Y7 Y8 Y9 K2
      (try simp only [Int32.lt_iff_toInt_lt, Int32.le_iff_toInt_le, Int64.lt_iff_toInt_lt, Int64.le_iff_toInt_le, Int32.toInt_toInt64, ← Int32.toInt_inj, ← Int64.toInt_inj, n32_0, n32_1, n32_2, n32_3, n32_4, n32_6, n32_8, n32_9, n32_10, n32_20, n32_100, n32_120, n32_255, n32_400, n32_3600, n32_m1, n64_0, n64_1, n64_2, n64_3, n64_4, n64_5, n64_9, n64_19, n64_119, n64_255, n64_400, n64_3599, n64_1000000000, n64_1000000000000, n64_m1000000000000] at c0 c1 c3 b0 b1)
      first | contradiction | omega
    · intro b0 b1 bt2 be2 bh2 b3
      obtain rfl : ct2 = bt2 := by have z := nI_inj2 be2 (by omega) (by omega); omega
      exact K2 _ (iV_up hI0)
    · intro b0 b1 bt2 be2 bh2 b3 b4
      obtain rfl : ct2 = bt2 := by have z := nI_inj2 be2 (by omega) (by omega); omega
      exfalso
      clear hI0 hM hX hW hY hT hE hD hU hS hB hG K M27 M28 M29 M30 M31 M32 M33 M34 M35 M36 M37 M38 M39 M40 M41 M42 M43 M44 M45 M46 M47 M48 M49 X0 X1 X2 X3 X4 X5 X6 X7 X8 X9 X10 X11 X12 X13 W0 W1 W2 Y0 Y1 Y2 Y3 Y4 Y5 Y6 Y7 Y8 Y9 K2
      (try simp only [Int32.lt_iff_toInt_lt, Int32.le_iff_toInt_le, Int64.lt_iff_toInt_lt, Int64.le_iff_toInt_le, Int32.toInt_toInt64, ← Int32.toInt_inj, ← Int64.toInt_inj, n32_0, n32_1, n32_2, n32_3, n32_4, n32_6, n32_8, n32_9, n32_10, n32_20, n32_100, n32_120, n32_255, n32_400, n32_3600, n32_m1, n64_0, n64_1, n64_2, n64_3, n64_4, n64_5, n64_9, n64_19, n64_119, n64_255, n64_400, n64_3599, n64_1000000000, n64_1000000000000, n64_m1000000000000] at c0 c1 c3 b0 b1 b3 b4)
      first | contradiction | omega
    · intro b0 b1 bt2 be2 bh2 b3 b4 b5
      obtain rfl : ct2 = bt2 := by have z := nI_inj2 be2 (by omega) (by omega); omega
      exfalso
      clear hI0 hM hX hW hY hT hE hD hU hS hB hG K M27 M28 M29 M30 M31 M32 M33 M34 M35 M36 M37 M38 M39 M40 M41 M42 M43 M44 M45 M46 M47 M48 M49 X0 X1 X2 X3 X4 X5 X6 X7 X8 X9 X10 X11 X12 X13 W0 W1 W2 Y0 Y1 Y2 Y3 Y4 Y5 Y6 Y7 Y8 Y9 K2
      (try simp only [Int32.lt_iff_toInt_lt, Int32.le_iff_toInt_le, Int64.lt_iff_toInt_lt, Int64.le_iff_toInt_le, Int32.toInt_toInt64, ← Int32.toInt_inj, ← Int64.toInt_inj, n32_0, n32_1, n32_2, n32_3, n32_4, n32_6, n32_8, n32_9, n32_10, n32_20, n32_100, n32_120, n32_255, n32_400, n32_3600, n32_m1, n64_0, n64_1, n64_2, n64_3, n64_4, n64_5, n64_9, n64_19, n64_119, n64_255, n64_400, n64_3599, n64_1000000000, n64_1000000000000, n64_m1000000000000] at c0 c1 c3 b0 b1 b3 b4 b5)
      first | contradiction | omega
    · intro b0 b1 bt2 be2 bh2 b3 b4 b5 b6
      obtain rfl : ct2 = bt2 := by have z := nI_inj2 be2 (by omega) (by omega); omega
      exfalso
      clear hI0 hM hX hW hY hT hE hD hU hS hB hG K M27 M28 M29 M30 M31 M32 M33 M34 M35 M36 M37 M38 M39 M40 M41 M42 M43 M44 M45 M46 M47 M48 M49 X0 X1 X2 X3 X4 X5 X6 X7 X8 X9 X10 X11 X12 X13 W0 W1 W2 Y0 Y1 Y2 Y3 Y4 Y5 Y6 Y7 Y8 Y9 K2
      (try simp only [Int32.lt_iff_toInt_lt, Int32.le_iff_toInt_le, Int64.lt_iff_toInt_lt, Int64.le_iff_toInt_le, Int32.toInt_toInt64, ← Int32.toInt_inj, ← Int64.toInt_inj, n32_0, n32_1, n32_2, n32_3, n32_4, n32_6, n32_8, n32_9, n32_10, n32_20, n32_100, n32_120, n32_255, n32_400, n32_3600, n32_m1, n64_0, n64_1, n64_2, n64_3, n64_4, n64_5, n64_9, n64_19, n64_119, n64_255, n64_400, n64_3599, n64_1000000000, n64_1000000000000, n64_m1000000000000] at c0 c1 c3 b0 b1 b3 b4 b5 b6)
      first | contradiction | omega
    · intro b0 b1 bt2 be2 bh2 b3 b4 b5 b6 b7
      obtain rfl : ct2 = bt2 := by have z := nI_inj2 be2 (by omega) (by omega); omega
      exfalso
      clear hI0 hM hX hW hY hT hE hD hU hS hB hG K M27 M28 M29 M30 M31 M32 M33 M34 M35 M36 M37 M38 M39 M40 M41 M42 M43 M44 M45 M46 M47 M48 M49 X0 X1 X2 X3 X4 X5 X6 X7 X8 X9 X10 X11 X12 X13 W0 W1 W2 Y0 Y1 Y2 Y3 Y4 Y5 Y6 Y7 Y8 Y9 K2
      (try simp only [Int32.lt_iff_toInt_lt, Int32.le_iff_toInt_le, Int64.lt_iff_toInt_lt, Int64.le_iff_toInt_le, Int32.toInt_toInt64, ← Int32.toInt_inj, ← Int64.toInt_inj, n32_0, n32_1, n32_2, n32_3, n32_4, n32_6, n32_8, n32_9, n32_10, n32_20, n32_100, n32_120, n32_255, n32_400, n32_3600, n32_m1, n64_0, n64_1, n64_2, n64_3, n64_4, n64_5, n64_9, n64_19, n64_119, n64_255, n64_400, n64_3599, n64_1000000000, n64_1000000000000, n64_m1000000000000] at c0 c1 c3 b0 b1 b3 b4 b5 b6 b7)
      first | contradiction | omega
    · intro b0 b1 bt2 be2 bh2 b3 b4 b5 b6 b7 bt8 be8 bh8
      obtain rfl : ct2 = bt2 := by have z := nI_inj2 be2 (by omega) (by omega); omega
      exfalso
      clear hI0 hM hX hW hY hT hE hD hU hS hB hG K M27 M28 M29 M30 M31 M32 M33 M34 M35 M36 M37 M38 M39 M40 M41 M42 M43 M44 M45 M46 M47 M48 M49 X0 X1 X2 X3 X4 X5 X6 X7 X8 X9 X10 X11 X12 X13 W0 W1 W2 Y0 Y1 Y2 Y3 Y4 Y5 Y6 Y7 Y8 Y9 K2
      (try simp only [Int32.lt_iff_toInt_lt, Int32.le_iff_toInt_le, Int64.lt_iff_toInt_lt, Int64.le_iff_toInt_le, Int32.toInt_toInt64, ← Int32.toInt_inj, ← Int64.toInt_inj, n32_0, n32_1, n32_2, n32_3, n32_4, n32_6, n32_8, n32_9, n32_10, n32_20, n32_100, n32_120, n32_255, n32_400, n32_3600, n32_m1, n64_0, n64_1, n64_2, n64_3, n64_4, n64_5, n64_9, n64_19, n64_119, n64_255, n64_400, n64_3599, n64_1000000000, n64_1000000000000, n64_m1000000000000] at c0 c1 c3 b0 b1 b3 b4 b5 b6 b7)
      first | contradiction | omega
  · intro c0 c1 ct2 ce2 ch2 c3 c4
    subst ce2
    refine K _ _ ⟨_, M27⟩ (fun Q2 K2 => ?_)
    refine s_X8_cost M27 M38 M36 hT20 ?_ ?_ ?_ ?_ ?_ ?_ ?_ ?_
    · intro b0
      exfalso
      clear hI0 hM hX hW hY hT hE hD hU hS hB hG K M27 M28 M29 M30 M31 M32 M33 M34 M35 M36 M37 M38 M39 M40 M41 M42 M43 M44 M45 M46 M47 M48 M49 X0 X1 X2 X3 X4 X5 X6 X7 X8 X9 X10 X11 X12 X13 W0 W1 W2 Y0 Y1 Y2 Y3 Y4 Y5 Y6 Y7 Y8 Y9 K2
      (try simp only [Int32.lt_iff_toInt_lt, Int32.le_iff_toInt_le, Int64.lt_iff_toInt_lt, Int64.le_iff_toInt_le, Int32.toInt_toInt64, ← Int32.toInt_inj, ← Int64.toInt_inj, n32_0, n32_1, n32_2, n32_3, n32_4, n32_6, n32_8, n32_9, n32_10, n32_20, n32_100, n32_120, n32_255, n32_400, n32_3600, n32_m1, n64_0, n64_1, n64_2, n64_3, n64_4, n64_5, n64_9, n64_19, n64_119, n64_255, n64_400, n64_3599, n64_1000000000, n64_1000000000000, n64_m1000000000000] at c0 c1 c3 c4 b0)
      first | contradiction | omega
    · intro b0 b1
      exfalso
      clear hI0 hM hX hW hY hT hE hD hU hS hB hG K M27 M28 M29 M30 M31 M32 M33 M34 M35 M36 M37 M38 M39 M40 M41 M42 M43 M44 M45 M46 M47 M48 M49 X0 X1 X2 X3 X4 X5 X6 X7 X8 X9 X10 X11 X12 X13 W0 W1 W2 Y0 Y1 Y2 Y3 Y4 Y5 Y6 Y7 Y8 Y9 K2
      (try simp only [Int32.lt_iff_toInt_lt, Int32.le_iff_toInt_le, Int64.lt_iff_toInt_lt, Int64.le_iff_toInt_le, Int32.toInt_toInt64, ← Int32.toInt_inj, ← Int64.toInt_inj, n32_0, n32_1, n32_2, n32_3, n32_4, n32_6, n32_8, n32_9, n32_10, n32_20, n32_100, n32_120, n32_255, n32_400, n32_3600, n32_m1, n64_0, n64_1, n64_2, n64_3, n64_4, n64_5, n64_9, n64_19, n64_119, n64_255, n64_400, n64_3599, n64_1000000000, n64_1000000000000, n64_m1000000000000] at c0 c1 c3 c4 b0 b1)
      first | contradiction | omega
    · intro b0 b1 bt2 be2 bh2 b3
      obtain rfl : ct2 = bt2 := by have z := nI_inj2 be2 (by omega) (by omega); omega
      exfalso
      clear hI0 hM hX hW hY hT hE hD hU hS hB hG K M27 M28 M29 M30 M31 M32 M33 M34 M35 M36 M37 M38 M39 M40 M41 M42 M43 M44 M45 M46 M47 M48 M49 X0 X1 X2 X3 X4 X5 X6 X7 X8 X9 X10 X11 X12 X13 W0 W1 W2 Y0 Y1 Y2 Y3 Y4 Y5 Y6 Y7 Y8 Y9 K2
      (try simp only [Int32.lt_iff_toInt_lt, Int32.le_iff_toInt_le, Int64.lt_iff_toInt_lt, Int64.le_iff_toInt_le, Int32.toInt_toInt64, ← Int32.toInt_inj, ← Int64.toInt_inj, n32_0, n32_1, n32_2, n32_3, n32_4, n32_6, n32_8, n32_9, n32_10, n32_20, n32_100, n32_120, n32_255, n32_400, n32_3600, n32_m1, n64_0, n64_1, n64_2, n64_3, n64_4, n64_5, n64_9, n64_19, n64_119, n64_255, n64_400, n64_3599, n64_1000000000, n64_1000000000000, n64_m1000000000000] at c0 c1 c3 c4 b0 b1 b3)
      first | contradiction | omega
    · intro b0 b1 bt2 be2 bh2 b3 b4
      obtain rfl : ct2 = bt2 := by have z := nI_inj2 be2 (by omega) (by omega); omega
      exact K2 _ (iV_up hI0)
    · intro b0 b1 bt2 be2 bh2 b3 b4 b5
      obtain rfl : ct2 = bt2 := by have z := nI_inj2 be2 (by omega) (by omega); omega
      exfalso
      clear hI0 hM hX hW hY hT hE hD hU hS hB hG K M27 M28 M29 M30 M31 M32 M33 M34 M35 M36 M37 M38 M39 M40 M41 M42 M43 M44 M45 M46 M47 M48 M49 X0 X1 X2 X3 X4 X5 X6 X7 X8 X9 X10 X11 X12 X13 W0 W1 W2 Y0 Y1 Y2 Y3 Y4 Y5 Y6 Y7 Y8 Y9 K2
      (try simp only [Int32.lt_iff_toInt_lt, Int32.le_iff_toInt_le, Int64.lt_iff_toInt_lt, Int64.le_iff_toInt_le, Int32.toInt_toInt64, ← Int32.toInt_inj, ← Int64.toInt_inj, n32_0, n32_1, n32_2, n32_3, n32_4, n32_6, n32_8, n32_9, n32_10, n32_20, n32_100, n32_120, n32_255, n32_400, n32_3600, n32_m1, n64_0, n64_1, n64_2, n64_3, n64_4, n64_5, n64_9, n64_19, n64_119, n64_255, n64_400, n64_3599, n64_1000000000, n64_1000000000000, n64_m1000000000000] at c0 c1 c3 c4 b0 b1 b3 b4 b5)
      first | contradiction | omega
    · intro b0 b1 bt2 be2 bh2 b3 b4 b5 b6
      obtain rfl : ct2 = bt2 := by have z := nI_inj2 be2 (by omega) (by omega); omega
      exfalso
      clear hI0 hM hX hW hY hT hE hD hU hS hB hG K M27 M28 M29 M30 M31 M32 M33 M34 M35 M36 M37 M38 M39 M40 M41 M42 M43 M44 M45 M46 M47 M48 M49 X0 X1 X2 X3 X4 X5 X6 X7 X8 X9 X10 X11 X12 X13 W0 W1 W2 Y0 Y1 Y2 Y3 Y4 Y5 Y6 Y7 Y8 Y9 K2
      (try simp only [Int32.lt_iff_toInt_lt, Int32.le_iff_toInt_le, Int64.lt_iff_toInt_lt, Int64.le_iff_toInt_le, Int32.toInt_toInt64, ← Int32.toInt_inj, ← Int64.toInt_inj, n32_0, n32_1, n32_2, n32_3, n32_4, n32_6, n32_8, n32_9, n32_10, n32_20, n32_100, n32_120, n32_255, n32_400, n32_3600, n32_m1, n64_0, n64_1, n64_2, n64_3, n64_4, n64_5, n64_9, n64_19, n64_119, n64_255, n64_400, n64_3599, n64_1000000000, n64_1000000000000, n64_m1000000000000] at c0 c1 c3 c4 b0 b1 b3 b4 b5 b6)
      first | contradiction | omega
    · intro b0 b1 bt2 be2 bh2 b3 b4 b5 b6 b7
      obtain rfl : ct2 = bt2 := by have z := nI_inj2 be2 (by omega) (by omega); omega
      exfalso
      clear hI0 hM hX hW hY hT hE hD hU hS hB hG K M27 M28 M29 M30 M31 M32 M33 M34 M35 M36 M37 M38 M39 M40 M41 M42 M43 M44 M45 M46 M47 M48 M49 X0 X1 X2 X3 X4 X5 X6 X7 X8 X9 X10 X11 X12 X13 W0 W1 W2 Y0 Y1 Y2 Y3 Y4 Y5 Y6 Y7 Y8 Y9 K2
      (try simp only [Int32.lt_iff_toInt_lt, Int32.le_iff_toInt_le, Int64.lt_iff_toInt_lt, Int64.le_iff_toInt_le, Int32.toInt_toInt64, ← Int32.toInt_inj, ← Int64.toInt_inj, n32_0, n32_1, n32_2, n32_3, n32_4, n32_6, n32_8, n32_9, n32_10, n32_20, n32_100, n32_120, n32_255, n32_400, n32_3600, n32_m1, n64_0, n64_1, n64_2, n64_3, n64_4, n64_5, n64_9, n64_19, n64_119, n64_255, n64_400, n64_3599, n64_1000000000, n64_1000000000000, n64_m1000000000000] at c0 c1 c3 c4 b0 b1 b3 b4 b5 b6 b7)
      first | contradiction | omega
    · intro b0 b1 bt2 be2 bh2 b3 b4 b5 b6 b7 bt8 be8 bh8
      obtain rfl : ct2 = bt2 := by have z := nI_inj2 be2 (by omega) (by omega); omega
      exfalso
      clear hI0 hM hX hW hY hT hE hD hU hS hB hG K M27 M28 M29 M30 M31 M32 M33 M34 M35 M36 M37 M38 M39 M40 M41 M42 M43 M44 M45 M46 M47 M48 M49 X0 X1 X2 X3 X4 X5 X6 X7 X8 X9 X10 X11 X12 X13 W0 W1 W2 Y0 Y1 Y2 Y3 Y4 Y5 Y6 Y7 Y8 Y9 K2
      (try simp only [Int32.lt_iff_toInt_lt, Int32.le_iff_toInt_le, Int64.lt_iff_toInt_lt, Int64.le_iff_toInt_le, Int32.toInt_toInt64, ← Int32.toInt_inj, ← Int64.toInt_inj, n32_0, n32_1, n32_2, n32_3, n32_4, n32_6, n32_8, n32_9, n32_10, n32_20, n32_100, n32_120, n32_255, n32_400, n32_3600, n32_m1, n64_0, n64_1, n64_2, n64_3, n64_4, n64_5, n64_9, n64_19, n64_119, n64_255, n64_400, n64_3599, n64_1000000000, n64_1000000000000, n64_m1000000000000] at c0 c1 c3 c4 b0 b1 b3 b4 b5 b6 b7)
      first | contradiction | omega
  · intro c0 c1 ct2 ce2 ch2 c3 c4 c5
    subst ce2
    refine K _ _ ⟨_, M27⟩ (fun Q2 K2 => ?_)
    refine s_X8_cost M27 M38 M36 hT20 ?_ ?_ ?_ ?_ ?_ ?_ ?_ ?_
    · intro b0
      exfalso
      clear hI0 hM hX hW hY hT hE hD hU hS hB hG K M27 M28 M29 M30 M31 M32 M33 M34 M35 M36 M37 M38 M39 M40 M41 M42 M43 M44 M45 M46 M47 M48 M49 X0 X1 X2 X3 X4 X5 X6 X7 X8 X9 X10 X11 X12 X13 W0 W1 W2 Y0 Y1 Y2 Y3 Y4 Y5 Y6 Y7 Y8 Y9 K2
      (try simp only [Int32.lt_iff_toInt_lt, Int32.le_iff_toInt_le, Int64.lt_iff_toInt_lt, Int64.le_iff_toInt_le, Int32.toInt_toInt64, ← Int32.toInt_inj, ← Int64.toInt_inj, n32_0, n32_1, n32_2, n32_3, n32_4, n32_6, n32_8, n32_9, n32_10, n32_20, n32_100, n32_120, n32_255, n32_400, n32_3600, n32_m1, n64_0, n64_1, n64_2, n64_3, n64_4, n64_5, n64_9, n64_19, n64_119, n64_255, n64_400, n64_3599, n64_1000000000, n64_1000000000000, n64_m1000000000000] at c0 c1 c3 c4 c5 b0)
      first | contradiction | omega
    · intro b0 b1
      exfalso
      clear hI0 hM hX hW hY hT hE hD hU hS hB hG K M27 M28 M29 M30 M31 M32 M33 M34 M35 M36 M37 M38 M39 M40 M41 M42 M43 M44 M45 M46 M47 M48 M49 X0 X1 X2 X3 X4 X5 X6 X7 X8 X9 X10 X11 X12 X13 W0 W1 W2 Y0 Y1 Y2 Y3 Y4 Y5 Y6 Y7 Y8 Y9 K2
      (try simp only [Int32.lt_iff_toInt_lt, Int32.le_iff_toInt_le, Int64.lt_iff_toInt_lt, Int64.le_iff_toInt_le, Int32.toInt_toInt64, ← Int32.toInt_inj, ← Int64.toInt_inj, n32_0, n32_1, n32_2, n32_3, n32_4, n32_6, n32_8, n32_9, n32_10, n32_20, n32_100, n32_120, n32_255, n32_400, n32_3600, n32_m1, n64_0, n64_1, n64_2, n64_3, n64_4, n64_5, n64_9, n64_19, n64_119, n64_255, n64_400, n64_3599, n64_1000000000, n64_1000000000000, n64_m1000000000000] at c0 c1 c3 c4 c5 b0 b1)
      first | contradiction | omega
    · intro b0 b1 bt2 be2 bh2 b3
      obtain rfl : ct2 = bt2 := by have z := nI_inj2 be2 (by omega) (by omega); omega
      exfalso
      clear hI0 hM hX hW hY hT hE hD hU hS hB hG K M27 M28 M29 M30 M31 M32 M33 M34 M35 M36 M37 M38 M39 M40 M41 M42 M43 M44 M45 M46 M47 M48 M49 X0 X1 X2 X3 X4 X5 X6 X7 X8 X9 X10 X11 X12 X13 W0 W1 W2 Y0 Y1 Y2 Y3 Y4 Y5 Y6 Y7 Y8 Y9 K2
      (try simp only [Int32.lt_iff_toInt_lt, Int32.le_iff_toInt_le, Int64.lt_iff_toInt_lt, Int64.le_iff_toInt_le, Int32.toInt_toInt64, ← Int32.toInt_inj, ← Int64.toInt_inj, n32_0, n32_1, n32_2, n32_3, n32_4, n32_6, n32_8, n32_9, n32_10, n32_20, n32_100, n32_120, n32_255, n32_400, n32_3600, n32_m1, n64_0, n64_1, n64_2, n64_3, n64_4, n64_5, n64_9, n64_19, n64_119, n64_255, n64_400, n64_3599, n64_1000000000, n64_1000000000000, n64_m1000000000000] at c0 c1 c3 c4 c5 b0 b1 b3)
      first | contradiction | omega
    · intro b0 b1 bt2 be2 bh2 b3 b4
      obtain rfl : ct2 = bt2 := by have z := nI_inj2 be2 (by omega) (by omega); omega
      exfalso
      clear hI0 hM hX hW hY hT hE hD hU hS hB hG K M27 M28 M29 M30 M31 M32 M33 M34 M35 M36 M37 M38 M39 M40 M41 M42 M43 M44 M45 M46 M47 M48 M49 X0 X1 X2 X3 X4 X5 X6 X7 X8 X9 X10 X11 X12 X13 W0 W1 W2 Y0 Y1 Y2 Y3 Y4 Y5 Y6 Y7 Y8 Y9 K2
      (try simp only [Int32.lt_iff_toInt_lt, Int32.le_iff_toInt_le, Int64.lt_iff_toInt_lt, Int64.le_iff_toInt_le, Int32.toInt_toInt64, ← Int32.toInt_inj, ← Int64.toInt_inj, n32_0, n32_1, n32_2, n32_3, n32_4, n32_6, n32_8, n32_9, n32_10, n32_20, n32_100, n32_120, n32_255, n32_400, n32_3600, n32_m1, n64_0, n64_1, n64_2, n64_3, n64_4, n64_5, n64_9, n64_19, n64_119, n64_255, n64_400, n64_3599, n64_1000000000, n64_1000000000000, n64_m1000000000000] at c0 c1 c3 c4 c5 b0 b1 b3 b4)
      first | contradiction | omega
    · intro b0 b1 bt2 be2 bh2 b3 b4 b5
      obtain rfl : ct2 = bt2 := by have z := nI_inj2 be2 (by omega) (by omega); omega
      exact K2 _ (iV_up hI0)
    · intro b0 b1 bt2 be2 bh2 b3 b4 b5 b6
      obtain rfl : ct2 = bt2 := by have z := nI_inj2 be2 (by omega) (by omega); omega
      exfalso
      clear hI0 hM hX hW hY hT hE hD hU hS hB hG K M27 M28 M29 M30 M31 M32 M33 M34 M35 M36 M37 M38 M39 M40 M41 M42 M43 M44 M45 M46 M47 M48 M49 X0 X1 X2 X3 X4 X5 X6 X7 X8 X9 X10 X11 X12 X13 W0 W1 W2 Y0 Y1 Y2 Y3 Y4 Y5 Y6 Y7 Y8 Y9 K2
      (try simp only [Int32.lt_iff_toInt_lt, Int32.le_iff_toInt_le, Int64.lt_iff_toInt_lt, Int64.le_iff_toInt_le, Int32.toInt_toInt64, ← Int32.toInt_inj, ← Int64.toInt_inj, n32_0, n32_1, n32_2, n32_3, n32_4, n32_6, n32_8, n32_9, n32_10, n32_20, n32_100, n32_120, n32_255, n32_400, n32_3600, n32_m1, n64_0, n64_1, n64_2, n64_3, n64_4, n64_5, n64_9, n64_19, n64_119, n64_255, n64_400, n64_3599, n64_1000000000, n64_1000000000000, n64_m1000000000000] at c0 c1 c3 c4 c5 b0 b1 b3 b4 b5 b6)
      first | contradiction | omega
    · intro b0 b1 bt2 be2 bh2 b3 b4 b5 b6 b7
      obtain rfl : ct2 = bt2 := by have z := nI_inj2 be2 (by omega) (by omega); omega
      exfalso
      clear hI0 hM hX hW hY hT hE hD hU hS hB hG K M27 M28 M29 M30 M31 M32 M33 M34 M35 M36 M37 M38 M39 M40 M41 M42 M43 M44 M45 M46 M47 M48 M49 X0 X1 X2 X3 X4 X5 X6 X7 X8 X9 X10 X11 X12 X13 W0 W1 W2 Y0 Y1 Y2 Y3 Y4 Y5 Y6 Y7 Y8 Y9 K2
      (try simp only [Int32.lt_iff_toInt_lt, Int32.le_iff_toInt_le, Int64.lt_iff_toInt_lt, Int64.le_iff_toInt_le, Int32.toInt_toInt64, ← Int32.toInt_inj, ← Int64.toInt_inj, n32_0, n32_1, n32_2, n32_3, n32_4, n32_6, n32_8, n32_9, n32_10, n32_20, n32_100, n32_120, n32_255, n32_400, n32_3600, n32_m1, n64_0, n64_1, n64_2, n64_3, n64_4, n64_5, n64_9, n64_19, n64_119, n64_255, n64_400, n64_3599, n64_1000000000, n64_1000000000000, n64_m1000000000000] at c0 c1 c3 c4 c5 b0 b1 b3 b4 b5 b6 b7)
      first | contradiction | omega
    · intro b0 b1 bt2 be2 bh2 b3 b4 b5 b6 b7 bt8 be8 bh8
      obtain rfl : ct2 = bt2 := by have z := nI_inj2 be2 (by omega) (by omega); omega
      exfalso
      clear hI0 hM hX hW hY hT hE hD hU hS hB hG K M27 M28 M29 M30 M31 M32 M33 M34 M35 M36 M37 M38 M39 M40 M41 M42 M43 M44 M45 M46 M47 M48 M49 X0 X1 X2 X3 X4 X5 X6 X7 X8 X9 X10 X11 X12 X13 W0 W1 W2 Y0 Y1 Y2 Y3 Y4 Y5 Y6 Y7 Y8 Y9 K2
      (try simp only [Int32.lt_iff_toInt_lt, Int32.le_iff_toInt_le, Int64.lt_iff_toInt_lt, Int64.le_iff_toInt_le, Int32.toInt_toInt64, ← Int32.toInt_inj, ← Int64.toInt_inj, n32_0, n32_1, n32_2, n32_3, n32_4, n32_6, n32_8, n32_9, n32_10, n32_20, n32_100, n32_120, n32_255, n32_400, n32_3600, n32_m1, n64_0, n64_1, n64_2, n64_3, n64_4, n64_5, n64_9, n64_19, n64_119, n64_255, n64_400, n64_3599, n64_1000000000, n64_1000000000000, n64_m1000000000000] at c0 c1 c3 c4 c5 b0 b1 b3 b4 b5 b6 b7)
      first | contradiction | omega
  · intro c0 c1 ct2 ce2 ch2 c3 c4 c5 c6
    subst ce2
    refine K _ _ ⟨_, M27⟩ (fun Q2 K2 => ?_)
    refine s_X8_cost M27 M38 M36 hT20 ?_ ?_ ?_ ?_ ?_ ?_ ?_ ?_
    · intro b0
      exfalso
      clear hI0 hM hX hW hY hT hE hD hU hS hB hG K M27 M28 M29 M30 M31 M32 M33 M34 M35 M36 M37 M38 M39 M40 M41 M42 M43 M44 M45 M46 M47 M48 M49 X0 X1 X2 X3 X4 X5 X6 X7 X8 X9 X10 X11 X12 X13 W0 W1 W2 Y0 Y1 Y2 Y3 Y4 Y5 Y6 Y7 Y8 Y9 K2
      (try simp only [Int32.lt_iff_toInt_lt, Int32.le_iff_toInt_le, Int64.lt_iff_toInt_lt, Int64.le_iff_toInt_le, Int32.toInt_toInt64, ← Int32.toInt_inj, ← Int64.toInt_inj, n32_0, n32_1, n32_2, n32_3, n32_4, n32_6, n32_8, n32_9, n32_10, n32_20, n32_100, n32_120, n32_255, n32_400, n32_3600, n32_m1, n64_0, n64_1, n64_2, n64_3, n64_4, n64_5, n64_9, n64_19, n64_119, n64_255, n64_400, n64_3599, n64_1000000000, n64_1000000000000, n64_m1000000000000] at c0 c1 c3 c4 c5 c6 b0)
      first | contradiction | omega
    · intro b0 b1
      exfalso
      clear hI0 hM hX hW hY hT hE hD hU hS hB hG K M27 M28 M29 M30 M31 M32 M33 M34 M35 M36 M37 M38 M39 M40 M41 M42 M43 M44 M45 M46 M47 M48 M49 X0 X1 X2 X3 X4 X5 X6 X7 X8 X9 X10 X11 X12 X13 W0 W1 W2 Y0 Y1 Y2 Y3 Y4 Y5 Y6 Y7 Y8 Y9 K2
      (try simp only [Int32.lt_iff_toInt_lt, Int32.le_iff_toInt_le, Int64.lt_iff_toInt_lt, Int64.le_iff_toInt_le, Int32.toInt_toInt64, ← Int32.toInt_inj, ← Int64.toInt_inj, n32_0, n32_1, n32_2, n32_3, n32_4, n32_6, n32_8, n32_9, n32_10, n32_20, n32_100, n32_120, n32_255, n32_400, n32_3600, n32_m1, n64_0, n64_1, n64_2, n64_3, n64_4, n64_5, n64_9, n64_19, n64_119, n64_255, n64_400, n64_3599, n64_1000000000, n64_1000000000000, n64_m1000000000000] at c0 c1 c3 c4 c5 c6 b0 b1)
      first | contradiction | omega
    · intro b0 b1 bt2 be2 bh2 b3
      obtain rfl : ct2 = bt2 := by have z := nI_inj2 be2 (by omega) (by omega); omega
      exfalso
      clear hI0 hM hX hW hY hT hE hD hU hS hB hG K M27 M28 M29 M30 M31 M32 M33 M34 M35 M36 M37 M38 M39 M40 M41 M42 M43 M44 M45 M46 M47 M48 M49 X0 X1 X2 X3 X4 X5 X6 X7 X8 X9 X10 X11 X12 X13 W0 W1 W2 Y0 Y1 Y2 Y3 Y4 Y5 Y6 Y7 Y8 Y9 K2
      (try simp only [Int32.lt_iff_toInt_lt, Int32.le_iff_toInt_le, Int64.lt_iff_toInt_lt, Int64.le_iff_toInt_le, Int32.toInt_toInt64, ← Int32.toInt_inj, ← Int64.toInt_inj, n32_0, n32_1, n32_2, n32_3, n32_4, n32_6, n32_8, n32_9, n32_10, n32_20, n32_100, n32_120, n32_255, n32_400, n32_3600, n32_m1, n64_0, n64_1, n64_2, n64_3, n64_4, n64_5, n64_9, n64_19, n64_119, n64_255, n64_400, n64_3599, n64_1000000000, n64_1000000000000, n64_m1000000000000] at c0 c1 c3 c4 c5 c6 b0 b1 b3)
      first | contradiction | omega
    · intro b0 b1 bt2 be2 bh2 b3 b4
      obtain rfl : ct2 = bt2 := by have z := nI_inj2 be2 (by omega) (by omega); omega
      exfalso
      clear hI0 hM hX hW hY hT hE hD hU hS hB hG K M27 M28 M29 M30 M31 M32 M33 M34 M35 M36 M37 M38 M39 M40 M41 M42 M43 M44 M45 M46 M47 M48 M49 X0 X1 X2 X3 X4 X5 X6 X7 X8 X9 X10 X11 X12 X13 W0 W1 W2 Y0 Y1 Y2 Y3 Y4 Y5 Y6 Y7 Y8 Y9 K2
      (try simp only [Int32.lt_iff_toInt_lt, Int32.le_iff_toInt_le, Int64.lt_iff_toInt_lt, Int64.le_iff_toInt_le, Int32.toInt_toInt64, ← Int32.toInt_inj, ← Int64.toInt_inj, n32_0, n32_1, n32_2, n32_3, n32_4, n32_6, n32_8, n32_9, n32_10, n32_20, n32_100, n32_120, n32_255, n32_400, n32_3600, n32_m1, n64_0, n64_1, n64_2, n64_3, n64_4, n64_5, n64_9, n64_19, n64_119, n64_255, n64_400, n64_3599, n64_1000000000, n64_1000000000000, n64_m1000000000000] at c0 c1 c3 c4 c5 c6 b0 b1 b3 b4)
      first | contradiction | omega
    · intro b0 b1 bt2 be2 bh2 b3 b4 b5
      obtain rfl : ct2 = bt2 := by have z := nI_inj2 be2 (by omega) (by omega); omega
      exfalso
      clear hI0 hM hX hW hY hT hE hD hU hS hB hG K M27 M28 M29 M30 M31 M32 M33 M34 M35 M36 M37 M38 M39 M40 M41 M42 M43 M44 M45 M46 M47 M48 M49 X0 X1 X2 X3 X4 X5 X6 X7 X8 X9 X10 X11 X12 X13 W0 W1 W2 Y0 Y1 Y2 Y3 Y4 Y5 Y6 Y7 Y8 Y9 K2
      (try simp only [Int32.lt_iff_toInt_lt, Int32.le_iff_toInt_le, Int64.lt_iff_toInt_lt, Int64.le_iff_toInt_le, Int32.toInt_toInt64, ← Int32.toInt_inj, ← Int64.toInt_inj, n32_0, n32_1, n32_2, n32_3, n32_4, n32_6, n32_8, n32_9, n32_10, n32_20, n32_100, n32_120, n32_255, n32_400, n32_3600, n32_m1, n64_0, n64_1, n64_2, n64_3, n64_4, n64_5, n64_9, n64_19, n64_119, n64_255, n64_400, n64_3599, n64_1000000000, n64_1000000000000, n64_m1000000000000] at c0 c1 c3 c4 c5 c6 b0 b1 b3 b4 b5)
      first | contradiction | omega
    · intro b0 b1 bt2 be2 bh2 b3 b4 b5 b6
      obtain rfl : ct2 = bt2 := by have z := nI_inj2 be2 (by omega) (by omega); omega
      exact K2 _ (iV_up hI0)
    · intro b0 b1 bt2 be2 bh2 b3 b4 b5 b6 b7
      obtain rfl : ct2 = bt2 := by have z := nI_inj2 be2 (by omega) (by omega); omega
      exfalso
      clear hI0 hM hX hW hY hT hE hD hU hS hB hG K M27 M28 M29 M30 M31 M32 M33 M34 M35 M36 M37 M38 M39 M40 M41 M42 M43 M44 M45 M46 M47 M48 M49 X0 X1 X2 X3 X4 X5 X6 X7 X8 X9 X10 X11 X12 X13 W0 W1 W2 Y0 Y1 Y2 Y3 Y4 Y5 Y6 Y7 Y8 Y9 K2
      (try simp only [Int32.lt_iff_toInt_lt, Int32.le_iff_toInt_le, Int64.lt_iff_toInt_lt, Int64.le_iff_toInt_le, Int32.toInt_toInt64, ← Int32.toInt_inj, ← Int64.toInt_inj, n32_0, n32_1, n32_2, n32_3, n32_4, n32_6, n32_8, n32_9, n32_10, n32_20, n32_100, n32_120, n32_255, n32_400, n32_3600, n32_m1, n64_0, n64_1, n64_2, n64_3, n64_4, n64_5, n64_9, n64_19, n64_119, n64_255, n64_400, n64_3599, n64_1000000000, n64_1000000000000, n64_m1000000000000] at c0 c1 c3 c4 c5 c6 b0 b1 b3 b4 b5 b6 b7)
      first | contradiction | omega
    · intro b0 b1 bt2 be2 bh2 b3 b4 b5 b6 b7 bt8 be8 bh8
      obtain rfl : ct2 = bt2 := by have z := nI_inj2 be2 (by omega) (by omega); omega
      exfalso
      clear hI0 hM hX hW hY hT hE hD hU hS hB hG K M27 M28 M29 M30 M31 M32 M33 M34 M35 M36 M37 M38 M39 M40 M41 M42 M43 M44 M45 M46 M47 M48 M49 X0 X1 X2 X3 X4 X5 X6 X7 X8 X9 X10 X11 X12 X13 W0 W1 W2 Y0 Y1 Y2 Y3 Y4 Y5 Y6 Y7 Y8 Y9 K2
      (try simp only [Int32.lt_iff_toInt_lt, Int32.le_iff_toInt_le, Int64.lt_iff_toInt_lt, Int64.le_iff_toInt_le, Int32.toInt_toInt64, ← Int32.toInt_inj, ← Int64.toInt_inj, n32_0, n32_1, n32_2, n32_3, n32_4, n32_6, n32_8, n32_9, n32_10, n32_20, n32_100, n32_120, n32_255, n32_400, n32_3600, n32_m1, n64_0, n64_1, n64_2, n64_3, n64_4, n64_5, n64_9, n64_19, n64_119, n64_255, n64_400, n64_3599, n64_1000000000, n64_1000000000000, n64_m1000000000000] at c0 c1 c3 c4 c5 c6 b0 b1 b3 b4 b5 b6 b7)
      first | contradiction | omega
  · intro c0 c1 ct2 ce2 ch2 c3 c4 c5 c6 c7
    subst ce2
    refine K _ _ ⟨_, M27⟩ (fun Q2 K2 => ?_)
    refine s_X8_cost M27 M38 M36 hT20 ?_ ?_ ?_ ?_ ?_ ?_ ?_ ?_
    · intro b0
      exfalso
      clear hI0 hM hX hW hY hT hE hD hU hS hB hG K M27 M28 M29 M30 M31 M32 M33 M34 M35 M36 M37 M38 M39 M40 M41 M42 M43 M44 M45 M46 M47 M48 M49 X0 X1 X2 X3 X4 X5 X6 X7 X8 X9 X10 X11 X12 X13 W0 W1 W2 Y0 Y1 Y2 Y3 Y4 Y5 Y6 Y7 Y8 Y9 K2
      (try simp only [Int32.lt_iff_toInt_lt, Int32.le_iff_toInt_le, Int64.lt_iff_toInt_lt, Int64.le_iff_toInt_le, Int32.toInt_toInt64, ← Int32.toInt_inj, ← Int64.toInt_inj, n32_0, n32_1, n32_2, n32_3, n32_4, n32_6, n32_8, n32_9, n32_10, n32_20, n32_100, n32_120, n32_255, n32_400, n32_3600, n32_m1, n64_0, n64_1, n64_2, n64_3, n64_4, n64_5, n64_9, n64_19, n64_119, n64_255, n64_400, n64_3599, n64_1000000000, n64_1000000000000, n64_m1000000000000] at c0 c1 c3 c4 c5 c6 c7 b0)
      first | contradiction | omega
    · intro b0 b1
      exfalso
      clear hI0 hM hX hW hY hT hE hD hU hS hB hG K M27 M28 M29 M30 M31 M32 M33 M34 M35 M36 M37 M38 M39 M40 M41 M42 M43 M44 M45 M46 M47 M48 M49 X0 X1 X2 X3 X4 X5 X6 X7 X8 X9 X10 X11 X12 X13 W0 W1 W2 Y0 Y1 Y2 Y3 Y4 Y5 Y6 Y7 Y8 Y9 K2
      (try simp only [Int32.lt_iff_toInt_lt, Int32.le_iff_toInt_le, Int64.lt_iff_toInt_lt, Int64.le_iff_toInt_le, Int32.toInt_toInt64, ← Int32.toInt_inj, ← Int64.toInt_inj, n32_0, n32_1, n32_2, n32_3, n32_4, n32_6, n32_8, n32_9, n32_10, n32_20, n32_100, n32_120, n32_255, n32_400, n32_3600, n32_m1, n64_0, n64_1, n64_2, n64_3, n64_4, n64_5, n64_9, n64_19, n64_119, n64_255, n64_400, n64_3599, n64_1000000000, n64_1000000000000, n64_m1000000000000] at c0 c1 c3 c4 c5 c6 c7 b0 b1)
      first | contradiction | omega
    · intro b0 b1 bt2 be2 bh2 b3
      obtain rfl : ct2 = bt2 := by have z := nI_inj2 be2 (by omega) (by omega); omega
      exfalso
      clear hI0 hM hX hW hY hT hE hD hU hS hB hG K M27 M28 M29 M30 M31 M32 M33 M34 M35 M36 M37 M38 M39 M40 M41 M42 M43 M44 M45 M46 M47 M48 M49 X0 X1 X2 X3 X4 X5 X6 X7 X8 X9 X10 X11 X12 X13 W0 W1 W2 Y0 Y1 Y2 Y3 Y4 Y5 Y6 Y7 Y8 Y9 K2
      (try simp only [Int32.lt_iff_toInt_lt, Int32.le_iff_toInt_le, Int64.lt_iff_toInt_lt, Int64.le_iff_toInt_le, Int32.toInt_toInt64, ← Int32.toInt_inj, ← Int64.toInt_inj, n32_0, n32_1, n32_2, n32_3, n32_4, n32_6, n32_8, n32_9, n32_10, n32_20, n32_100, n32_120, n32_255, n32_400, n32_3600, n32_m1, n64_0, n64_1, n64_2, n64_3, n64_4, n64_5, n64_9, n64_19, n64_119, n64_255, n64_400, n64_3599, n64_1000000000, n64_1000000000000, n64_m1000000000000] at c0 c1 c3 c4 c5 c6 c7 b0 b1 b3)
      first | contradiction | omega
    · intro b0 b1 bt2 be2 bh2 b3 b4
      obtain rfl : ct2 = bt2 := by have z := nI_inj2 be2 (by omega) (by omega); omega
      exfalso
      clear hI0 hM hX hW hY hT hE hD hU hS hB hG K M27 M28 M29 M30 M31 M32 M33 M34 M35 M36 M37 M38 M39 M40 M41 M42 M43 M44 M45 M46 M47 M48 M49 X0 X1 X2 X3 X4 X5 X6 X7 X8 X9 X10 X11 X12 X13 W0 W1 W2 Y0 Y1 Y2 Y3 Y4 Y5 Y6 Y7 Y8 Y9 K2
      (try simp only [Int32.lt_iff_toInt_lt, Int32.le_iff_toInt_le, Int64.lt_iff_toInt_lt, Int64.le_iff_toInt_le, Int32.toInt_toInt64, ← Int32.toInt_inj, ← Int64.toInt_inj, n32_0, n32_1, n32_2, n32_3, n32_4, n32_6, n32_8, n32_9, n32_10, n32_20, n32_100, n32_120, n32_255, n32_400, n32_3600, n32_m1, n64_0, n64_1, n64_2, n64_3, n64_4, n64_5, n64_9, n64_19, n64_119, n64_255, n64_400, n64_3599, n64_1000000000, n64_1000000000000, n64_m1000000000000] at c0 c1 c3 c4 c5 c6 c7 b0 b1 b3 b4)
      first | contradiction | omega
    · intro b0 b1 bt2 be2 bh2 b3 b4 b5
      obtain rfl : ct2 = bt2 := by have z := nI_inj2 be2 (by omega) (by omega); omega
      exfalso
      clear hI0 hM hX hW hY hT hE hD hU hS hB hG K M27 M28 M29 M30 M31 M32 M33 M34 M35 M36 M37 M38 M39 M40 M41 M42 M43 M44 M45 M46 M47 M48 M49 X0 X1 X2 X3 X4 X5 X6 X7 X8 X9 X10 X11 X12 X13 W0 W1 W2 Y0 Y1 Y2 Y3 Y4 Y5 Y6 Y7 Y8 Y9 K2
      (try simp only [Int32.lt_iff_toInt_lt, Int32.le_iff_toInt_le, Int64.lt_iff_toInt_lt, Int64.le_iff_toInt_le, Int32.toInt_toInt64, ← Int32.toInt_inj, ← Int64.toInt_inj, n32_0, n32_1, n32_2, n32_3, n32_4, n32_6, n32_8, n32_9, n32_10, n32_20, n32_100, n32_120, n32_255, n32_400, n32_3600, n32_m1, n64_0, n64_1, n64_2, n64_3, n64_4, n64_5, n64_9, n64_19, n64_119, n64_255, n64_400, n64_3599, n64_1000000000, n64_1000000000000, n64_m1000000000000] at c0 c1 c3 c4 c5 c6 c7 b0 b1 b3 b4 b5)
      first | contradiction | omega
    · intro b0 b1 bt2 be2 bh2 b3 b4 b5 b6
      obtain rfl : ct2 = bt2 := by have z := nI_inj2 be2 (by omega) (by omega); omega
      exfalso
      clear hI0 hM hX hW hY hT hE hD hU hS hB hG K M27 M28 M29 M30 M31 M32 M33 M34 M35 M36 M37 M38 M39 M40 M41 M42 M43 M44 M45 M46 M47 M48 M49 X0 X1 X2 X3 X4 X5 X6 X7 X8 X9 X10 X11 X12 X13 W0 W1 W2 Y0 Y1 Y2 Y3 Y4 Y5 Y6 Y7 Y8 Y9 K2
      (try simp only [Int32.lt_iff_toInt_lt, Int32.le_iff_toInt_le, Int64.lt_iff_toInt_lt, Int64.le_iff_toInt_le, Int32.toInt_toInt64, ← Int32.toInt_inj, ← Int64.toInt_inj, n32_0, n32_1, n32_2, n32_3, n32_4, n32_6, n32_8, n32_9, n32_10, n32_20, n32_100, n32_120, n32_255, n32_400, n32_3600, n32_m1, n64_0, n64_1, n64_2, n64_3, n64_4, n64_5, n64_9, n64_19, n64_119, n64_255, n64_400, n64_3599, n64_1000000000, n64_1000000000000, n64_m1000000000000] at c0 c1 c3 c4 c5 c6 c7 b0 b1 b3 b4 b5 b6)
      first | contradiction | omega
    · intro b0 b1 bt2 be2 bh2 b3 b4 b5 b6 b7
      obtain rfl : ct2 = bt2 := by have z := nI_inj2 be2 (by omega) (by omega); omega
      exact K2 _ (iV_up hI0)
    · intro b0 b1 bt2 be2 bh2 b3 b4 b5 b6 b7 bt8 be8 bh8
      obtain rfl : ct2 = bt2 := by have z := nI_inj2 be2 (by omega) (by omega); omega
      exfalso
      clear hI0 hM hX hW hY hT hE hD hU hS hB hG K M27 M28 M29 M30 M31 M32 M33 M34 M35 M36 M37 M38 M39 M40 M41 M42 M43 M44 M45 M46 M47 M48 M49 X0 X1 X2 X3 X4 X5 X6 X7 X8 X9 X10 X11 X12 X13 W0 W1 W2 Y0 Y1 Y2 Y3 Y4 Y5 Y6 Y7 Y8 Y9 K2
      (try simp only [Int32.lt_iff_toInt_lt, Int32.le_iff_toInt_le, Int64.lt_iff_toInt_lt, Int64.le_iff_toInt_le, Int32.toInt_toInt64, ← Int32.toInt_inj, ← Int64.toInt_inj, n32_0, n32_1, n32_2, n32_3, n32_4, n32_6, n32_8, n32_9, n32_10, n32_20, n32_100, n32_120, n32_255, n32_400, n32_3600, n32_m1, n64_0, n64_1, n64_2, n64_3, n64_4, n64_5, n64_9, n64_19, n64_119, n64_255, n64_400, n64_3599, n64_1000000000, n64_1000000000000, n64_m1000000000000] at c0 c1 c3 c4 c5 c6 c7 b0 b1 b3 b4 b5 b6 b7)
      first | contradiction | omega
  · intro c0 c1 ct2 ce2 ch2 c3 c4 c5 c6 c7 ct8 ce8 ch8
    subst ce2
    subst ce8
    have htb := hD.2.1 ct2 ch2
    have htd := hD.2.2.2.2.2.2.2.2.2 ct2 ch2
    refine K _ _ ⟨_, (j_hn (by omega) M27)⟩ (fun Q2 K2 => ?_)
    refine s_X8_cost (j_hn (by omega) M27) (j_hn (by omega) M38) (j_hn (by omega) M36) hT20 ?_ ?_ ?_ ?_ ?_ ?_ ?_ ?_
    · intro b0
      exfalso
      clear hI0 hM hX hW hY hT hE hD hU hS hB hG K M27 M28 M29 M30 M31 M32 M33 M34 M35 M36 M37 M38 M39 M40 M41 M42 M43 M44 M45 M46 M47 M48 M49 X0 X1 X2 X3 X4 X5 X6 X7 X8 X9 X10 X11 X12 X13 W0 W1 W2 Y0 Y1 Y2 Y3 Y4 Y5 Y6 Y7 Y8 Y9 K2
      (try simp only [Int32.lt_iff_toInt_lt, Int32.le_iff_toInt_le, Int64.lt_iff_toInt_lt, Int64.le_iff_toInt_le, Int32.toInt_toInt64, ← Int32.toInt_inj, ← Int64.toInt_inj, n32_0, n32_1, n32_2, n32_3, n32_4, n32_6, n32_8, n32_9, n32_10, n32_20, n32_100, n32_120, n32_255, n32_400, n32_3600, n32_m1, n64_0, n64_1, n64_2, n64_3, n64_4, n64_5, n64_9, n64_19, n64_119, n64_255, n64_400, n64_3599, n64_1000000000, n64_1000000000000, n64_m1000000000000] at c0 c1 c3 c4 c5 c6 c7 b0)
      first | contradiction | omega
    · intro b0 b1
      exfalso
      clear hI0 hM hX hW hY hT hE hD hU hS hB hG K M27 M28 M29 M30 M31 M32 M33 M34 M35 M36 M37 M38 M39 M40 M41 M42 M43 M44 M45 M46 M47 M48 M49 X0 X1 X2 X3 X4 X5 X6 X7 X8 X9 X10 X11 X12 X13 W0 W1 W2 Y0 Y1 Y2 Y3 Y4 Y5 Y6 Y7 Y8 Y9 K2
      (try simp only [Int32.lt_iff_toInt_lt, Int32.le_iff_toInt_le, Int64.lt_iff_toInt_lt, Int64.le_iff_toInt_le, Int32.toInt_toInt64, ← Int32.toInt_inj, ← Int64.toInt_inj, n32_0, n32_1, n32_2, n32_3, n32_4, n32_6, n32_8, n32_9, n32_10, n32_20, n32_100, n32_120, n32_255, n32_400, n32_3600, n32_m1, n64_0, n64_1, n64_2, n64_3, n64_4, n64_5, n64_9, n64_19, n64_119, n64_255, n64_400, n64_3599, n64_1000000000, n64_1000000000000, n64_m1000000000000] at c0 c1 c3 c4 c5 c6 c7 b0 b1)
      first | contradiction | omega
    · intro b0 b1 bt2 be2 bh2 b3
      obtain rfl : ct2 = bt2 := by have z := nI_inj2 be2 (by omega) (by omega); omega
      exfalso
      clear hI0 hM hX hW hY hT hE hD hU hS hB hG K M27 M28 M29 M30 M31 M32 M33 M34 M35 M36 M37 M38 M39 M40 M41 M42 M43 M44 M45 M46 M47 M48 M49 X0 X1 X2 X3 X4 X5 X6 X7 X8 X9 X10 X11 X12 X13 W0 W1 W2 Y0 Y1 Y2 Y3 Y4 Y5 Y6 Y7 Y8 Y9 K2
      (try simp only [Int32.lt_iff_toInt_lt, Int32.le_iff_toInt_le, Int64.lt_iff_toInt_lt, Int64.le_iff_toInt_le, Int32.toInt_toInt64, ← Int32.toInt_inj, ← Int64.toInt_inj, n32_0, n32_1, n32_2, n32_3, n32_4, n32_6, n32_8, n32_9, n32_10, n32_20, n32_100, n32_120, n32_255, n32_400, n32_3600, n32_m1, n64_0, n64_1, n64_2, n64_3, n64_4, n64_5, n64_9, n64_19, n64_119, n64_255, n64_400, n64_3599, n64_1000000000, n64_1000000000000, n64_m1000000000000] at c0 c1 c3 c4 c5 c6 c7 b0 b1 b3)
      first | contradiction | omega
    · intro b0 b1 bt2 be2 bh2 b3 b4
      obtain rfl : ct2 = bt2 := by have z := nI_inj2 be2 (by omega) (by omega); omega
      exfalso
      clear hI0 hM hX hW hY hT hE hD hU hS hB hG K M27 M28 M29 M30 M31 M32 M33 M34 M35 M36 M37 M38 M39 M40 M41 M42 M43 M44 M45 M46 M47 M48 M49 X0 X1 X2 X3 X4 X5 X6 X7 X8 X9 X10 X11 X12 X13 W0 W1 W2 Y0 Y1 Y2 Y3 Y4 Y5 Y6 Y7 Y8 Y9 K2
      (try simp only [Int32.lt_iff_toInt_lt, Int32.le_iff_toInt_le, Int64.lt_iff_toInt_lt, Int64.le_iff_toInt_le, Int32.toInt_toInt64, ← Int32.toInt_inj, ← Int64.toInt_inj, n32_0, n32_1, n32_2, n32_3, n32_4, n32_6, n32_8, n32_9, n32_10, n32_20, n32_100, n32_120, n32_255, n32_400, n32_3600, n32_m1, n64_0, n64_1, n64_2, n64_3, n64_4, n64_5, n64_9, n64_19, n64_119, n64_255, n64_400, n64_3599, n64_1000000000, n64_1000000000000, n64_m1000000000000] at c0 c1 c3 c4 c5 c6 c7 b0 b1 b3 b4)
      first | contradiction | omega
    · intro b0 b1 bt2 be2 bh2 b3 b4 b5
      obtain rfl : ct2 = bt2 := by have z := nI_inj2 be2 (by omega) (by omega); omega
      exfalso
      clear hI0 hM hX hW hY hT hE hD hU hS hB hG K M27 M28 M29 M30 M31 M32 M33 M34 M35 M36 M37 M38 M39 M40 M41 M42 M43 M44 M45 M46 M47 M48 M49 X0 X1 X2 X3 X4 X5 X6 X7 X8 X9 X10 X11 X12 X13 W0 W1 W2 Y0 Y1 Y2 Y3 Y4 Y5 Y6 Y7 Y8 Y9 K2
      (try simp only [Int32.lt_iff_toInt_lt, Int32.le_iff_toInt_le, Int64.lt_iff_toInt_lt, Int64.le_iff_toInt_le, Int32.toInt_toInt64, ← Int32.toInt_inj, ← Int64.toInt_inj, n32_0, n32_1, n32_2, n32_3, n32_4, n32_6, n32_8, n32_9, n32_10, n32_20, n32_100, n32_120, n32_255, n32_400, n32_3600, n32_m1, n64_0, n64_1, n64_2, n64_3, n64_4, n64_5, n64_9, n64_19, n64_119, n64_255, n64_400, n64_3599, n64_1000000000, n64_1000000000000, n64_m1000000000000] at c0 c1 c3 c4 c5 c6 c7 b0 b1 b3 b4 b5)
      first | contradiction | omega
    · intro b0 b1 bt2 be2 bh2 b3 b4 b5 b6
      obtain rfl : ct2 = bt2 := by have z := nI_inj2 be2 (by omega) (by omega); omega
      exfalso
      clear hI0 hM hX hW hY hT hE hD hU hS hB hG K M27 M28 M29 M30 M31 M32 M33 M34 M35 M36 M37 M38 M39 M40 M41 M42 M43 M44 M45 M46 M47 M48 M49 X0 X1 X2 X3 X4 X5 X6 X7 X8 X9 X10 X11 X12 X13 W0 W1 W2 Y0 Y1 Y2 Y3 Y4 Y5 Y6 Y7 Y8 Y9 K2
      (try simp only [Int32.lt_iff_toInt_lt, Int32.le_iff_toInt_le, Int64.lt_iff_toInt_lt, Int64.le_iff_toInt_le, Int32.toInt_toInt64, ← Int32.toInt_inj, ← Int64.toInt_inj, n32_0, n32_1, n32_2, n32_3, n32_4, n32_6, n32_8, n32_9, n32_10, n32_20, n32_100, n32_120, n32_255, n32_400, n32_3600, n32_m1, n64_0, n64_1, n64_2, n64_3, n64_4, n64_5, n64_9, n64_19, n64_119, n64_255, n64_400, n64_3599, n64_1000000000, n64_1000000000000, n64_m1000000000000] at c0 c1 c3 c4 c5 c6 c7 b0 b1 b3 b4 b5 b6)
      first | contradiction | omega
    · intro b0 b1 bt2 be2 bh2 b3 b4 b5 b6 b7
      obtain rfl : ct2 = bt2 := by have z := nI_inj2 be2 (by omega) (by omega); omega
      exfalso
      clear hI0 hM hX hW hY hT hE hD hU hS hB hG K M27 M28 M29 M30 M31 M32 M33 M34 M35 M36 M37 M38 M39 M40 M41 M42 M43 M44 M45 M46 M47 M48 M49 X0 X1 X2 X3 X4 X5 X6 X7 X8 X9 X10 X11 X12 X13 W0 W1 W2 Y0 Y1 Y2 Y3 Y4 Y5 Y6 Y7 Y8 Y9 K2
      (try simp only [Int32.lt_iff_toInt_lt, Int32.le_iff_toInt_le, Int64.lt_iff_toInt_lt, Int64.le_iff_toInt_le, Int32.toInt_toInt64, ← Int32.toInt_inj, ← Int64.toInt_inj, n32_0, n32_1, n32_2, n32_3, n32_4, n32_6, n32_8, n32_9, n32_10, n32_20, n32_100, n32_120, n32_255, n32_400, n32_3600, n32_m1, n64_0, n64_1, n64_2, n64_3, n64_4, n64_5, n64_9, n64_19, n64_119, n64_255, n64_400, n64_3599, n64_1000000000, n64_1000000000000, n64_m1000000000000] at c0 c1 c3 c4 c5 c6 c7 b0 b1 b3 b4 b5 b6 b7)
      first | contradiction | omega
    · intro b0 b1 bt2 be2 bh2 b3 b4 b5 b6 b7 bt8 be8 bh8
      obtain rfl : ct2 = bt2 := by have z := nI_inj2 be2 (by omega) (by omega); omega
      obtain rfl : ct8 = bt8 := by have z := nI_inj2 be8 (by omega) (by omega); omega
      refine K2 _ (fun X k => ?_)
      exact k L P T E C R R0 n ru dq dr op at_ fr wd ws we wn dd tx rs fs ro sh dy se ey er tk tn ac f1 f2 f3 f4 g1 g2 g3 g4 da lo ad sa (va_up co (10 * ct2 + ct8) (co (10 * ct2 + ct8) + v)) pa ss w1 w2 w3 am pw ps cu dm ta ea shp tb eb rr rn (va_up cst ct2 (va_up (cst ct2) ct8 (cst ct2 ct8 + v))) prt eam dys eac shs (⟨(j_hn (by decide) (j_hn (by omega) M27)), (j_hn (by decide) (j_hn (by omega) M28)), (j_hn (by decide) (j_hn (by omega) M29)), (j_hn (by decide) (j_hn (by omega) M30)), (j_hn (by decide) (j_hn (by omega) M31)), (j_hn (by decide) (j_hn (by omega) M32)), (j_hn (by decide) (j_hn (by omega) M33)), (j_hn (by decide) (j_hn (by omega) M34)), (j_hn (by decide) (j_hn (by omega) M35)), j_hs, (j_hn (by decide) (j_hn (by omega) M37)), (j_hn (by decide) (j_hn (by omega) M38)), (j_hn (by decide) (j_hn (by omega) M39)), (j_hn (by decide) (j_hn (by omega) M40)), (j_hn (by decide) (j_hn (by omega) M41)), (j_hn (by decide) (j_hn (by omega) M42)), (j_hn (by decide) (j_hn (by omega) M43)), (j_hn (by decide) (j_hn (by omega) M44)), (j_hn (by decide) (j_hn (by omega) M45)), (j_hn (by decide) (j_hn (by omega) M46)), (j_hn (by decide) (j_hn (by omega) M47)), (j_hn (by decide) (j_hn (by omega) M48)), (j_hn (by decide) (j_hn (by omega) M49))⟩) (⟨(j_hn (by decide) (j_hn (by omega) X0)), (j_hn (by decide) (j_hn (by omega) X1)), (j_hn (by decide) (j_hn (by omega) X2)), (j_hn (by decide) (j_hn (by omega) X3)), (j_hn (by decide) (j_hn (by omega) X4)), (j_hn (by decide) (j_hn (by omega) X5)), (j_hn (by decide) (j_hn (by omega) X6)), (j_hn (by decide) (j_hn (by omega) X7)), (j_hn (by decide) (j_hn (by omega) X8)), (j_hn (by decide) (j_hn (by omega) X9)), (j_hn (by decide) (j_hn (by omega) X10)), (j_hn (by decide) (j_hn (by omega) X11)), (j_hn (by decide) (j_hn (by omega) X12)), (j_hn (by decide) (j_hn (by omega) X13))⟩) ((iW_lo hD (by decide) (iW_set hW (by omega)))) ((iY_set (iY_set hY hrd (by omega)) hrd (by decide))) ((iT_lo hD (by decide) (iT_upC hD ch2 hT))) ((iE_lo hD (by decide) (iE_set hE (fun e he => by have q := hD.2.2.2.2.2.1 e ct2 he ch2; omega)))) (hD) (⟨hL, hP, hT20, hE60, hC, hR, hR0, hn, hrd, hop⟩) (hU) (iS_cost hc hS ch2 ch8 (by simp only [Int32.lt_iff_toInt_lt, Int32.le_iff_toInt_le, Int64.lt_iff_toInt_lt, Int64.le_iff_toInt_le, Int32.toInt_toInt64, ← Int32.toInt_inj, ← Int64.toInt_inj, n32_0, n32_1, n32_2, n32_3, n32_4, n32_6, n32_8, n32_9, n32_10, n32_20, n32_100, n32_120, n32_255, n32_400, n32_3600, n32_m1, n64_0, n64_1, n64_2, n64_3, n64_4, n64_5, n64_9, n64_19, n64_119, n64_255, n64_400, n64_3599, n64_1000000000, n64_1000000000000, n64_m1000000000000] at c6; omega) (by simp only [Int32.lt_iff_toInt_lt, Int32.le_iff_toInt_le, Int64.lt_iff_toInt_lt, Int64.le_iff_toInt_le, Int32.toInt_toInt64, ← Int32.toInt_inj, ← Int64.toInt_inj, n32_0, n32_1, n32_2, n32_3, n32_4, n32_6, n32_8, n32_9, n32_10, n32_20, n32_100, n32_120, n32_255, n32_400, n32_3600, n32_m1, n64_0, n64_1, n64_2, n64_3, n64_4, n64_5, n64_9, n64_19, n64_119, n64_255, n64_400, n64_3599, n64_1000000000, n64_1000000000000, n64_m1000000000000] at c7; omega)) (hB)

set_option maxRecDepth 20000 in
theorem r_days {l : Launch} {G : jG} {h : jH} {Q : Option Value → jH → Prop} {c : Nat} {t0 : Int32} {p0 : Int32} {n0 : Int32} (hc : c < 512) (hG : j_gok G) (hI : iV c h) (K : ∀ (vv : Int32) (h1 : jH), (∃ fs, h1.2 27 = some (jO 8 fs)) → (∀ Q2 : Option Value → jH → Prop, (∀ h2, iV (c + 1) h2 → Q2 (some (.int vv)) h2) → J l G mX8_days 0 0 0 (lv_args 0 [.ref 27, .int t0, .int p0, .int n0]) [] h1 Q2) → Q (some (.int vv)) h1) : J l G mX7_days 0 0 0 (lv_args 0 [.ref 0, .int t0, .int p0, .int n0]) [] h Q := by
  have hI0 := hI
  refine hI _ ?_
  clear hI
  intro L P T E C R R0 n ru dq dr op at_ fr wd ws we wn dd tx rs fs ro sh dy se ey er tk tn ac f1 f2 f3 f4 g1 g2 g3 g4 da lo ad sa co pa ss w1 w2 w3 am pw ps cu dm ta ea shp tb eb rr rn cst prt eam dys eac shs hM hX hW hY hT hE hD hN hU hS hB
  obtain ⟨M27, M28, M29, M30, M31, M32, M33, M34, M35, M36, M37, M38, M39, M40, M41, M42, M43, M44, M45, M46, M47, M48, M49⟩ := id hM
  obtain ⟨X0, X1, X2, X3, X4, X5, X6, X7, X8, X9, X10, X11, X12, X13⟩ := id hX
  obtain ⟨W0, W1, W2⟩ := id hW
  obtain ⟨Y0, Y1, Y2, Y3, Y4, Y5, Y6, Y7, Y8, Y9⟩ := id hY
  obtain ⟨hL, hP, hT20, hE60, hC, hR, hR0, hn, hrd, hop⟩ := id hN
  refine s_X7_days X0 X7 X3 (fun t ht => (hT t ht).1) (fun t ht => (hT t ht).2.2.1) hT20 (fun t ht => (hS.1 t ht).1) hP ?_ ?_ ?_ ?_ ?_ ?_ ?_ ?_
  · intro c0
    refine K _ _ ⟨_, M27⟩ (fun Q2 K2 => ?_)
    refine s_X8_days M27 M38 M37 hT20 hP ?_ ?_ ?_ ?_ ?_ ?_ ?_ ?_
    · intro b0
      exact K2 _ (iV_up hI0)
    · intro b0 b1
      exfalso
      clear hI0 hM hX hW hY hT hE hD hU hS hB hG K M27 M28 M29 M30 M31 M32 M33 M34 M35 M36 M37 M38 M39 M40 M41 M42 M43 M44 M45 M46 M47 M48 M49 X0 X1 X2 X3 X4 X5 X6 X7 X8 X9 X10 X11 X12 X13 W0 W1 W2 Y0 Y1 Y2 Y3 Y4 Y5 Y6 Y7 Y8 Y9 K2
      (try simp only [Int32.lt_iff_toInt_lt, Int32.le_iff_toInt_le, Int64.lt_iff_toInt_lt, Int64.le_iff_toInt_le, Int32.toInt_toInt64, ← Int32.toInt_inj, ← Int64.toInt_inj, n32_0, n32_1, n32_2, n32_3, n32_4, n32_6, n32_8, n32_9, n32_10, n32_20, n32_100, n32_120, n32_255, n32_400, n32_3600, n32_m1, n64_0, n64_1, n64_2, n64_3, n64_4, n64_5, n64_9, n64_19, n64_119, n64_255, n64_400, n64_3599, n64_1000000000, n64_1000000000000, n64_m1000000000000] at c0 b0 b1)
      first | contradiction | omega
    · intro b0 b1 bt2 be2 bh2 b3
      exfalso
      clear hI0 hM hX hW hY hT hE hD hU hS hB hG K M27 M28 M29 M30 M31 M32 M33 M34 M35 M36 M37 M38 M39 M40 M41 M42 M43 M44 M45 M46 M47 M48 M49 X0 X1 X2 X3 X4 X5 X6 X7 X8 X9 X10 X11 X12 X13 W0 W1 W2 Y0 Y1 Y2 Y3 Y4 Y5 Y6 Y7 Y8 Y9 K2
      (try simp only [Int32.lt_iff_toInt_lt, Int32.le_iff_toInt_le, Int64.lt_iff_toInt_lt, Int64.le_iff_toInt_le, Int32.toInt_toInt64, ← Int32.toInt_inj, ← Int64.toInt_inj, n32_0, n32_1, n32_2, n32_3, n32_4, n32_6, n32_8, n32_9, n32_10, n32_20, n32_100, n32_120, n32_255, n32_400, n32_3600, n32_m1, n64_0, n64_1, n64_2, n64_3, n64_4, n64_5, n64_9, n64_19, n64_119, n64_255, n64_400, n64_3599, n64_1000000000, n64_1000000000000, n64_m1000000000000] at c0 b0 b1 b3)
      first | contradiction | omega
    · intro b0 b1 bt2 be2 bh2 b3 b4
      exfalso
      clear hI0 hM hX hW hY hT hE hD hU hS hB hG K M27 M28 M29 M30 M31 M32 M33 M34 M35 M36 M37 M38 M39 M40 M41 M42 M43 M44 M45 M46 M47 M48 M49 X0 X1 X2 X3 X4 X5 X6 X7 X8 X9 X10 X11 X12 X13 W0 W1 W2 Y0 Y1 Y2 Y3 Y4 Y5 Y6 Y7 Y8 Y9 K2
      (try simp only [Int32.lt_iff_toInt_lt, Int32.le_iff_toInt_le, Int64.lt_iff_toInt_lt, Int64.le_iff_toInt_le, Int32.toInt_toInt64, ← Int32.toInt_inj, ← Int64.toInt_inj, n32_0, n32_1, n32_2, n32_3, n32_4, n32_6, n32_8, n32_9, n32_10, n32_20, n32_100, n32_120, n32_255, n32_400, n32_3600, n32_m1, n64_0, n64_1, n64_2, n64_3, n64_4, n64_5, n64_9, n64_19, n64_119, n64_255, n64_400, n64_3599, n64_1000000000, n64_1000000000000, n64_m1000000000000] at c0 b0 b1 b3 b4)
      first | contradiction | omega
    · intro b0 b1 bt2 be2 bh2 b3 b4 bt5 be5 bh5 b6
      exfalso
      clear hI0 hM hX hW hY hT hE hD hU hS hB hG K M27 M28 M29 M30 M31 M32 M33 M34 M35 M36 M37 M38 M39 M40 M41 M42 M43 M44 M45 M46 M47 M48 M49 X0 X1 X2 X3 X4 X5 X6 X7 X8 X9 X10 X11 X12 X13 W0 W1 W2 Y0 Y1 Y2 Y3 Y4 Y5 Y6 Y7 Y8 Y9 K2
      (try simp only [Int32.lt_iff_toInt_lt, Int32.le_iff_toInt_le, Int64.lt_iff_toInt_lt, Int64.le_iff_toInt_le, Int32.toInt_toInt64, ← Int32.toInt_inj, ← Int64.toInt_inj, n32_0, n32_1, n32_2, n32_3, n32_4, n32_6, n32_8, n32_9, n32_10, n32_20, n32_100, n32_120, n32_255, n32_400, n32_3600, n32_m1, n64_0, n64_1, n64_2, n64_3, n64_4, n64_5, n64_9, n64_19, n64_119, n64_255, n64_400, n64_3599, n64_1000000000, n64_1000000000000, n64_m1000000000000] at c0 b0 b1 b3 b4 b6)
      first | contradiction | omega
    · intro b0 b1 bt2 be2 bh2 b3 b4 bt5 be5 bh5 b6 b7
      exfalso
      clear hI0 hM hX hW hY hT hE hD hU hS hB hG K M27 M28 M29 M30 M31 M32 M33 M34 M35 M36 M37 M38 M39 M40 M41 M42 M43 M44 M45 M46 M47 M48 M49 X0 X1 X2 X3 X4 X5 X6 X7 X8 X9 X10 X11 X12 X13 W0 W1 W2 Y0 Y1 Y2 Y3 Y4 Y5 Y6 Y7 Y8 Y9 K2
      (try simp only [Int32.lt_iff_toInt_lt, Int32.le_iff_toInt_le, Int64.lt_iff_toInt_lt, Int64.le_iff_toInt_le, Int32.toInt_toInt64, ← Int32.toInt_inj, ← Int64.toInt_inj, n32_0, n32_1, n32_2, n32_3, n32_4, n32_6, n32_8, n32_9, n32_10, n32_20, n32_100, n32_120, n32_255, n32_400, n32_3600, n32_m1, n64_0, n64_1, n64_2, n64_3, n64_4, n64_5, n64_9, n64_19, n64_119, n64_255, n64_400, n64_3599, n64_1000000000, n64_1000000000000, n64_m1000000000000] at c0 b0 b1 b3 b4 b6 b7)
      first | contradiction | omega
    · intro b0 b1 bt2 be2 bh2 b3 b4 bt5 be5 bh5 b6 b7 b8
      exfalso
      clear hI0 hM hX hW hY hT hE hD hU hS hB hG K M27 M28 M29 M30 M31 M32 M33 M34 M35 M36 M37 M38 M39 M40 M41 M42 M43 M44 M45 M46 M47 M48 M49 X0 X1 X2 X3 X4 X5 X6 X7 X8 X9 X10 X11 X12 X13 W0 W1 W2 Y0 Y1 Y2 Y3 Y4 Y5 Y6 Y7 Y8 Y9 K2
      (try simp only [Int32.lt_iff_toInt_lt, Int32.le_iff_toInt_le, Int64.lt_iff_toInt_lt, Int64.le_iff_toInt_le, Int32.toInt_toInt64, ← Int32.toInt_inj, ← Int64.toInt_inj, n32_0, n32_1, n32_2, n32_3, n32_4, n32_6, n32_8, n32_9, n32_10, n32_20, n32_100, n32_120, n32_255, n32_400, n32_3600, n32_m1, n64_0, n64_1, n64_2, n64_3, n64_4, n64_5, n64_9, n64_19, n64_119, n64_255, n64_400, n64_3599, n64_1000000000, n64_1000000000000, n64_m1000000000000] at c0 b0 b1 b3 b4 b6 b7 b8)
      first | contradiction | omega
    · intro b0 b1 bt2 be2 bh2 b3 b4 bt5 be5 bh5 b6 b7 b8
      exfalso
      clear hI0 hM hX hW hY hT hE hD hU hS hB hG K M27 M28 M29 M30 M31 M32 M33 M34 M35 M36 M37 M38 M39 M40 M41 M42 M43 M44 M45 M46 M47 M48 M49 X0 X1 X2 X3 X4 X5 X6 X7 X8 X9 X10 X11 X12 X13 W0 W1 W2 Y0 Y1 Y2 Y3 Y4 Y5 Y6 Y7 Y8 Y9 K2
      (try simp only [Int32.lt_iff_toInt_lt, Int32.le_iff_toInt_le, Int64.lt_iff_toInt_lt, Int64.le_iff_toInt_le, Int32.toInt_toInt64, ← Int32.toInt_inj, ← Int64.toInt_inj, n32_0, n32_1, n32_2, n32_3, n32_4, n32_6, n32_8, n32_9, n32_10, n32_20, n32_100, n32_120, n32_255, n32_400, n32_3600, n32_m1, n64_0, n64_1, n64_2, n64_3, n64_4, n64_5, n64_9, n64_19, n64_119, n64_255, n64_400, n64_3599, n64_1000000000, n64_1000000000000, n64_m1000000000000] at c0 b0 b1 b3 b4 b6 b7 b8)
      first | contradiction | omega
  · intro c0 c1
    refine K _ _ ⟨_, M27⟩ (fun Q2 K2 => ?_)
    refine s_X8_days M27 M38 M37 hT20 hP ?_ ?_ ?_ ?_ ?_ ?_ ?_ ?_
    · intro b0
      exfalso
      clear hI0 hM hX hW hY hT hE hD hU hS hB hG K M27 M28 M29 M30 M31 M32 M33 M34 M35 M36 M37 M38 M39 M40 M41 M42 M43 M44 M45 M46 M47 M48 M49 X0 X1 X2 X3 X4 X5 X6 X7 X8 X9 X10 X11 X12 X13 W0 W1 W2 Y0 Y1 Y2 Y3 Y4 Y5 Y6 Y7 Y8 Y9 K2
      (try simp only [Int32.lt_iff_toInt_lt, Int32.le_iff_toInt_le, Int64.lt_iff_toInt_lt, Int64.le_iff_toInt_le, Int32.toInt_toInt64, ← Int32.toInt_inj, ← Int64.toInt_inj, n32_0, n32_1, n32_2, n32_3, n32_4, n32_6, n32_8, n32_9, n32_10, n32_20, n32_100, n32_120, n32_255, n32_400, n32_3600, n32_m1, n64_0, n64_1, n64_2, n64_3, n64_4, n64_5, n64_9, n64_19, n64_119, n64_255, n64_400, n64_3599, n64_1000000000, n64_1000000000000, n64_m1000000000000] at c0 c1 b0)
      first | contradiction | omega
    · intro b0 b1
      exact K2 _ (iV_up hI0)
    · intro b0 b1 bt2 be2 bh2 b3
      exfalso
      clear hI0 hM hX hW hY hT hE hD hU hS hB hG K M27 M28 M29 M30 M31 M32 M33 M34 M35 M36 M37 M38 M39 M40 M41 M42 M43 M44 M45 M46 M47 M48 M49 X0 X1 X2 X3 X4 X5 X6 X7 X8 X9 X10 X11 X12 X13 W0 W1 W2 Y0 Y1 Y2 Y3 Y4 Y5 Y6 Y7 Y8 Y9 K2
      (try simp only [Int32.lt_iff_toInt_lt, Int32.le_iff_toInt_le, Int64.lt_iff_toInt_lt, Int64.le_iff_toInt_le, Int32.toInt_toInt64, ← Int32.toInt_inj, ← Int64.toInt_inj, n32_0, n32_1, n32_2, n32_3, n32_4, n32_6, n32_8, n32_9, n32_10, n32_20, n32_100, n32_120, n32_255, n32_400, n32_3600, n32_m1, n64_0, n64_1, n64_2, n64_3, n64_4, n64_5, n64_9, n64_19, n64_119, n64_255, n64_400, n64_3599, n64_1000000000, n64_1000000000000, n64_m1000000000000] at c0 c1 b0 b1 b3)
      first | contradiction | omega
    · intro b0 b1 bt2 be2 bh2 b3 b4
      exfalso
      clear hI0 hM hX hW hY hT hE hD hU hS hB hG K M27 M28 M29 M30 M31 M32 M33 M34 M35 M36 M37 M38 M39 M40 M41 M42 M43 M44 M45 M46 M47 M48 M49 X0 X1 X2 X3 X4 X5 X6 X7 X8 X9 X10 X11 X12 X13 W0 W1 W2 Y0 Y1 Y2 Y3 Y4 Y5 Y6 Y7 Y8 Y9 K2
      (try simp only [Int32.lt_iff_toInt_lt, Int32.le_iff_toInt_le, Int64.lt_iff_toInt_lt, Int64.le_iff_toInt_le, Int32.toInt_toInt64, ← Int32.toInt_inj, ← Int64.toInt_inj, n32_0, n32_1, n32_2, n32_3, n32_4, n32_6, n32_8, n32_9, n32_10, n32_20, n32_100, n32_120, n32_255, n32_400, n32_3600, n32_m1, n64_0, n64_1, n64_2, n64_3, n64_4, n64_5, n64_9, n64_19, n64_119, n64_255, n64_400, n64_3599, n64_1000000000, n64_1000000000000, n64_m1000000000000] at c0 c1 b0 b1 b3 b4)
      first | contradiction | omega
    · intro b0 b1 bt2 be2 bh2 b3 b4 bt5 be5 bh5 b6
      exfalso
      clear hI0 hM hX hW hY hT hE hD hU hS hB hG K M27 M28 M29 M30 M31 M32 M33 M34 M35 M36 M37 M38 M39 M40 M41 M42 M43 M44 M45 M46 M47 M48 M49 X0 X1 X2 X3 X4 X5 X6 X7 X8 X9 X10 X11 X12 X13 W0 W1 W2 Y0 Y1 Y2 Y3 Y4 Y5 Y6 Y7 Y8 Y9 K2
      (try simp only [Int32.lt_iff_toInt_lt, Int32.le_iff_toInt_le, Int64.lt_iff_toInt_lt, Int64.le_iff_toInt_le, Int32.toInt_toInt64, ← Int32.toInt_inj, ← Int64.toInt_inj, n32_0, n32_1, n32_2, n32_3, n32_4, n32_6, n32_8, n32_9, n32_10, n32_20, n32_100, n32_120, n32_255, n32_400, n32_3600, n32_m1, n64_0, n64_1, n64_2, n64_3, n64_4, n64_5, n64_9, n64_19, n64_119, n64_255, n64_400, n64_3599, n64_1000000000, n64_1000000000000, n64_m1000000000000] at c0 c1 b0 b1 b3 b4 b6)
      first | contradiction | omega
    · intro b0 b1 bt2 be2 bh2 b3 b4 bt5 be5 bh5 b6 b7
      exfalso
      clear hI0 hM hX hW hY hT hE hD hU hS hB hG K M27 M28 M29 M30 M31 M32 M33 M34 M35 M36 M37 M38 M39 M40 M41 M42 M43 M44 M45 M46 M47 M48 M49 X0 X1 X2 X3 X4 X5 X6 X7 X8 X9 X10 X11 X12 X13 W0 W1 W2 Y0 Y1 Y2 Y3 Y4 Y5 Y6 Y7 Y8 Y9 K2
      (try simp only [Int32.lt_iff_toInt_lt, Int32.le_iff_toInt_le, Int64.lt_iff_toInt_lt, Int64.le_iff_toInt_le, Int32.toInt_toInt64, ← Int32.toInt_inj, ← Int64.toInt_inj, n32_0, n32_1, n32_2, n32_3, n32_4, n32_6, n32_8, n32_9, n32_10, n32_20, n32_100, n32_120, n32_255, n32_400, n32_3600, n32_m1, n64_0, n64_1, n64_2, n64_3, n64_4, n64_5, n64_9, n64_19, n64_119, n64_255, n64_400, n64_3599, n64_1000000000, n64_1000000000000, n64_m1000000000000] at c0 c1 b0 b1 b3 b4 b6 b7)
      first | contradiction | omega
    · intro b0 b1 bt2 be2 bh2 b3 b4 bt5 be5 bh5 b6 b7 b8
      exfalso
      clear hI0 hM hX hW hY hT hE hD hU hS hB hG K M27 M28 M29 M30 M31 M32 M33 M34 M35 M36 M37 M38 M39 M40 M41 M42 M43 M44 M45 M46 M47 M48 M49 X0 X1 X2 X3 X4 X5 X6 X7 X8 X9 X10 X11 X12 X13 W0 W1 W2 Y0 Y1 Y2 Y3 Y4 Y5 Y6 Y7 Y8 Y9 K2
      (try simp only [Int32.lt_iff_toInt_lt, Int32.le_iff_toInt_le, Int64.lt_iff_toInt_lt, Int64.le_iff_toInt_le, Int32.toInt_toInt64, ← Int32.toInt_inj, ← Int64.toInt_inj, n32_0, n32_1, n32_2, n32_3, n32_4, n32_6, n32_8, n32_9, n32_10, n32_20, n32_100, n32_120, n32_255, n32_400, n32_3600, n32_m1, n64_0, n64_1, n64_2, n64_3, n64_4, n64_5, n64_9, n64_19, n64_119, n64_255, n64_400, n64_3599, n64_1000000000, n64_1000000000000, n64_m1000000000000] at c0 c1 b0 b1 b3 b4 b6 b7 b8)
      first | contradiction | omega
    · intro b0 b1 bt2 be2 bh2 b3 b4 bt5 be5 bh5 b6 b7 b8
      exfalso
      clear hI0 hM hX hW hY hT hE hD hU hS hB hG K M27 M28 M29 M30 M31 M32 M33 M34 M35 M36 M37 M38 M39 M40 M41 M42 M43 M44 M45 M46 M47 M48 M49 X0 X1 X2 X3 X4 X5 X6 X7 X8 X9 X10 X11 X12 X13 W0 W1 W2 Y0 Y1 Y2 Y3 Y4 Y5 Y6 Y7 Y8 Y9 K2
      (try simp only [Int32.lt_iff_toInt_lt, Int32.le_iff_toInt_le, Int64.lt_iff_toInt_lt, Int64.le_iff_toInt_le, Int32.toInt_toInt64, ← Int32.toInt_inj, ← Int64.toInt_inj, n32_0, n32_1, n32_2, n32_3, n32_4, n32_6, n32_8, n32_9, n32_10, n32_20, n32_100, n32_120, n32_255, n32_400, n32_3600, n32_m1, n64_0, n64_1, n64_2, n64_3, n64_4, n64_5, n64_9, n64_19, n64_119, n64_255, n64_400, n64_3599, n64_1000000000, n64_1000000000000, n64_m1000000000000] at c0 c1 b0 b1 b3 b4 b6 b7 b8)
      first | contradiction | omega
  · intro c0 c1 ct2 ce2 ch2 c3
    subst ce2
    refine K _ _ ⟨_, M27⟩ (fun Q2 K2 => ?_)
    refine s_X8_days M27 M38 M37 hT20 hP ?_ ?_ ?_ ?_ ?_ ?_ ?_ ?_
    · intro b0
      exfalso
      clear hI0 hM hX hW hY hT hE hD hU hS hB hG K M27 M28 M29 M30 M31 M32 M33 M34 M35 M36 M37 M38 M39 M40 M41 M42 M43 M44 M45 M46 M47 M48 M49 X0 X1 X2 X3 X4 X5 X6 X7 X8 X9 X10 X11 X12 X13 W0 W1 W2 Y0 Y1 Y2 Y3 Y4 Y5 Y6 Y7 Y8 Y9 K2
      (try simp only [Int32.lt_iff_toInt_lt, Int32.le_iff_toInt_le, Int64.lt_iff_toInt_lt, Int64.le_iff_toInt_le, Int32.toInt_toInt64, ← Int32.toInt_inj, ← Int64.toInt_inj, n32_0, n32_1, n32_2, n32_3, n32_4, n32_6, n32_8, n32_9, n32_10, n32_20, n32_100, n32_120, n32_255, n32_400, n32_3600, n32_m1, n64_0, n64_1, n64_2, n64_3, n64_4, n64_5, n64_9, n64_19, n64_119, n64_255, n64_400, n64_3599, n64_1000000000, n64_1000000000000, n64_m1000000000000] at c0 c1 c3 b0)
      first | contradiction | omega
    · intro b0 b1
      exfalso
      clear hI0 hM hX hW hY hT hE hD hU hS hB hG K M27 M28 M29 M30 M31 M32 M33 M34 M35 M36 M37 M38 M39 M40 M41 M42 M43 M44 M45 M46 M47 M48 M49 X0 X1 X2 X3 X4 X5 X6 X7 X8 X9 X10 X11 X12 X13 W0 W1 W2 Y0 Y1 Y2 Y3 Y4 Y5 Y6 Y7 Y8 Y9 K2
      (try simp only [Int32.lt_iff_toInt_lt, Int32.le_iff_toInt_le, Int64.lt_iff_toInt_lt, Int64.le_iff_toInt_le, Int32.toInt_toInt64, ← Int32.toInt_inj, ← Int64.toInt_inj, n32_0, n32_1, n32_2, n32_3, n32_4, n32_6, n32_8, n32_9, n32_10, n32_20, n32_100, n32_120, n32_255, n32_400, n32_3600, n32_m1, n64_0, n64_1, n64_2, n64_3, n64_4, n64_5, n64_9, n64_19, n64_119, n64_255, n64_400, n64_3599, n64_1000000000, n64_1000000000000, n64_m1000000000000] at c0 c1 c3 b0 b1)
      first | contradiction | omega
    · intro b0 b1 bt2 be2 bh2 b3
      obtain rfl : ct2 = bt2 := by have z := nI_inj2 be2 (by omega) (by omega); omega
      exact K2 _ (iV_up hI0)
    · intro b0 b1 bt2 be2 bh2 b3 b4
      obtain rfl : ct2 = bt2 := by have z := nI_inj2 be2 (by omega) (by omega); omega
      exact K2 _ (iV_up hI0)
    · intro b0 b1 bt2 be2 bh2 b3 b4 bt5 be5 bh5 b6
      obtain rfl : ct2 = bt2 := by have z := nI_inj2 be2 (by omega) (by omega); omega
      exact K2 _ (iV_up hI0)
    · intro b0 b1 bt2 be2 bh2 b3 b4 bt5 be5 bh5 b6 b7
      obtain rfl : ct2 = bt2 := by have z := nI_inj2 be2 (by omega) (by omega); omega
      exfalso
      clear hI0 hM hX hW hY hT hE hD hU hS hB hG K M27 M28 M29 M30 M31 M32 M33 M34 M35 M36 M37 M38 M39 M40 M41 M42 M43 M44 M45 M46 M47 M48 M49 X0 X1 X2 X3 X4 X5 X6 X7 X8 X9 X10 X11 X12 X13 W0 W1 W2 Y0 Y1 Y2 Y3 Y4 Y5 Y6 Y7 Y8 Y9 K2
      (try simp only [Int32.lt_iff_toInt_lt, Int32.le_iff_toInt_le, Int64.lt_iff_toInt_lt, Int64.le_iff_toInt_le, Int32.toInt_toInt64, ← Int32.toInt_inj, ← Int64.toInt_inj, n32_0, n32_1, n32_2, n32_3, n32_4, n32_6, n32_8, n32_9, n32_10, n32_20, n32_100, n32_120, n32_255, n32_400, n32_3600, n32_m1, n64_0, n64_1, n64_2, n64_3, n64_4, n64_5, n64_9, n64_19, n64_119, n64_255, n64_400, n64_3599, n64_1000000000, n64_1000000000000, n64_m1000000000000] at c0 c1 c3 b0 b1 b3 b4 b6 b7)
      first | contradiction | omega
    · intro b0 b1 bt2 be2 bh2 b3 b4 bt5 be5 bh5 b6 b7 b8
      obtain rfl : ct2 = bt2 := by have z := nI_inj2 be2 (by omega) (by omega); omega
      exfalso
      clear hI0 hM hX hW hY hT hE hD hU hS hB hG K M27 M28 M29 M30 M31 M32 M33 M34 M35 M36 M37 M38 M39 M40 M41 M42 M43 M44 M45 M46 M47 M48 M49 X0 X1 X2 X3 X4 X5 X6 X7 X8 X9 X10 X11 X12 X13 W0 W1 W2 Y0 Y1 Y2 Y3 Y4 Y5 Y6 Y7 Y8 Y9 K2
      (try simp only [Int32.lt_iff_toInt_lt, Int32.le_iff_toInt_le, Int64.lt_iff_toInt_lt, Int64.le_iff_toInt_le, Int32.toInt_toInt64, ← Int32.toInt_inj, ← Int64.toInt_inj, n32_0, n32_1, n32_2, n32_3, n32_4, n32_6, n32_8, n32_9, n32_10, n32_20, n32_100, n32_120, n32_255, n32_400, n32_3600, n32_m1, n64_0, n64_1, n64_2, n64_3, n64_4, n64_5, n64_9, n64_19, n64_119, n64_255, n64_400, n64_3599, n64_1000000000, n64_1000000000000, n64_m1000000000000] at c0 c1 c3 b0 b1 b3 b4 b6 b7 b8)
      first | contradiction | omega
    · intro b0 b1 bt2 be2 bh2 b3 b4 bt5 be5 bh5 b6 b7 b8
      obtain rfl : ct2 = bt2 := by have z := nI_inj2 be2 (by omega) (by omega); omega
      exfalso
      clear hI0 hM hX hW hY hT hE hD hU hS hB hG K M27 M28 M29 M30 M31 M32 M33 M34 M35 M36 M37 M38 M39 M40 M41 M42 M43 M44 M45 M46 M47 M48 M49 X0 X1 X2 X3 X4 X5 X6 X7 X8 X9 X10 X11 X12 X13 W0 W1 W2 Y0 Y1 Y2 Y3 Y4 Y5 Y6 Y7 Y8 Y9 K2
      (try simp only [Int32.lt_iff_toInt_lt, Int32.le_iff_toInt_le, Int64.lt_iff_toInt_lt, Int64.le_iff_toInt_le, Int32.toInt_toInt64, ← Int32.toInt_inj, ← Int64.toInt_inj, n32_0, n32_1, n32_2, n32_3, n32_4, n32_6, n32_8, n32_9, n32_10, n32_20, n32_100, n32_120, n32_255, n32_400, n32_3600, n32_m1, n64_0, n64_1, n64_2, n64_3, n64_4, n64_5, n64_9, n64_19, n64_119, n64_255, n64_400, n64_3599, n64_1000000000, n64_1000000000000, n64_m1000000000000] at c0 c1 c3 b0 b1 b3 b4 b6 b7 b8)
      first | contradiction | omega
  · intro c0 c1 ct2 ce2 ch2 c3 c4
    subst ce2
    refine K _ _ ⟨_, M27⟩ (fun Q2 K2 => ?_)
    refine s_X8_days M27 M38 M37 hT20 hP ?_ ?_ ?_ ?_ ?_ ?_ ?_ ?_
    · intro b0
      exfalso
      clear hI0 hM hX hW hY hT hE hD hU hS hB hG K M27 M28 M29 M30 M31 M32 M33 M34 M35 M36 M37 M38 M39 M40 M41 M42 M43 M44 M45 M46 M47 M48 M49 X0 X1 X2 X3 X4 X5 X6 X7 X8 X9 X10 X11 X12 X13 W0 W1 W2 Y0 Y1 Y2 Y3 Y4 Y5 Y6 Y7 Y8 Y9 K2
      (try simp only [Int32.lt_iff_toInt_lt, Int32.le_iff_toInt_le, Int64.lt_iff_toInt_lt, Int64.le_iff_toInt_le, Int32.toInt_toInt64, ← Int32.toInt_inj, ← Int64.toInt_inj, n32_0, n32_1, n32_2, n32_3, n32_4, n32_6, n32_8, n32_9, n32_10, n32_20, n32_100, n32_120, n32_255, n32_400, n32_3600, n32_m1, n64_0, n64_1, n64_2, n64_3, n64_4, n64_5, n64_9, n64_19, n64_119, n64_255, n64_400, n64_3599, n64_1000000000, n64_1000000000000, n64_m1000000000000] at c0 c1 c3 c4 b0)
      first | contradiction | omega
    · intro b0 b1
      exfalso
      clear hI0 hM hX hW hY hT hE hD hU hS hB hG K M27 M28 M29 M30 M31 M32 M33 M34 M35 M36 M37 M38 M39 M40 M41 M42 M43 M44 M45 M46 M47 M48 M49 X0 X1 X2 X3 X4 X5 X6 X7 X8 X9 X10 X11 X12 X13 W0 W1 W2 Y0 Y1 Y2 Y3 Y4 Y5 Y6 Y7 Y8 Y9 K2
      (try simp only [Int32.lt_iff_toInt_lt, Int32.le_iff_toInt_le, Int64.lt_iff_toInt_lt, Int64.le_iff_toInt_le, Int32.toInt_toInt64, ← Int32.toInt_inj, ← Int64.toInt_inj, n32_0, n32_1, n32_2, n32_3, n32_4, n32_6, n32_8, n32_9, n32_10, n32_20, n32_100, n32_120, n32_255, n32_400, n32_3600, n32_m1, n64_0, n64_1, n64_2, n64_3, n64_4, n64_5, n64_9, n64_19, n64_119, n64_255, n64_400, n64_3599, n64_1000000000, n64_1000000000000, n64_m1000000000000] at c0 c1 c3 c4 b0 b1)
      first | contradiction | omega
    · intro b0 b1 bt2 be2 bh2 b3
      obtain rfl : ct2 = bt2 := by have z := nI_inj2 be2 (by omega) (by omega); omega
      exact K2 _ (iV_up hI0)
    · intro b0 b1 bt2 be2 bh2 b3 b4
      obtain rfl : ct2 = bt2 := by have z := nI_inj2 be2 (by omega) (by omega); omega
      exfalso
      clear hI0 hM hX hW hY hT hE hD hU hS hB hG K M27 M28 M29 M30 M31 M32 M33 M34 M35 M36 M37 M38 M39 M40 M41 M42 M43 M44 M45 M46 M47 M48 M49 X0 X1 X2 X3 X4 X5 X6 X7 X8 X9 X10 X11 X12 X13 W0 W1 W2 Y0 Y1 Y2 Y3 Y4 Y5 Y6 Y7 Y8 Y9 K2
      (try simp only [Int32.lt_iff_toInt_lt, Int32.le_iff_toInt_le, Int64.lt_iff_toInt_lt, Int64.le_iff_toInt_le, Int32.toInt_toInt64, ← Int32.toInt_inj, ← Int64.toInt_inj, n32_0, n32_1, n32_2, n32_3, n32_4, n32_6, n32_8, n32_9, n32_10, n32_20, n32_100, n32_120, n32_255, n32_400, n32_3600, n32_m1, n64_0, n64_1, n64_2, n64_3, n64_4, n64_5, n64_9, n64_19, n64_119, n64_255, n64_400, n64_3599, n64_1000000000, n64_1000000000000, n64_m1000000000000] at c0 c1 c3 c4 b0 b1 b3 b4)
      first | contradiction | omega
    · intro b0 b1 bt2 be2 bh2 b3 b4 bt5 be5 bh5 b6
      obtain rfl : ct2 = bt2 := by have z := nI_inj2 be2 (by omega) (by omega); omega
      exfalso
      clear hI0 hM hX hW hY hT hE hD hU hS hB hG K M27 M28 M29 M30 M31 M32 M33 M34 M35 M36 M37 M38 M39 M40 M41 M42 M43 M44 M45 M46 M47 M48 M49 X0 X1 X2 X3 X4 X5 X6 X7 X8 X9 X10 X11 X12 X13 W0 W1 W2 Y0 Y1 Y2 Y3 Y4 Y5 Y6 Y7 Y8 Y9 K2
      (try simp only [Int32.lt_iff_toInt_lt, Int32.le_iff_toInt_le, Int64.lt_iff_toInt_lt, Int64.le_iff_toInt_le, Int32.toInt_toInt64, ← Int32.toInt_inj, ← Int64.toInt_inj, n32_0, n32_1, n32_2, n32_3, n32_4, n32_6, n32_8, n32_9, n32_10, n32_20, n32_100, n32_120, n32_255, n32_400, n32_3600, n32_m1, n64_0, n64_1, n64_2, n64_3, n64_4, n64_5, n64_9, n64_19, n64_119, n64_255, n64_400, n64_3599, n64_1000000000, n64_1000000000000, n64_m1000000000000] at c0 c1 c3 c4 b0 b1 b3 b4 b6)
      first | contradiction | omega
    · intro b0 b1 bt2 be2 bh2 b3 b4 bt5 be5 bh5 b6 b7
      obtain rfl : ct2 = bt2 := by have z := nI_inj2 be2 (by omega) (by omega); omega
      exfalso
      clear hI0 hM hX hW hY hT hE hD hU hS hB hG K M27 M28 M29 M30 M31 M32 M33 M34 M35 M36 M37 M38 M39 M40 M41 M42 M43 M44 M45 M46 M47 M48 M49 X0 X1 X2 X3 X4 X5 X6 X7 X8 X9 X10 X11 X12 X13 W0 W1 W2 Y0 Y1 Y2 Y3 Y4 Y5 Y6 Y7 Y8 Y9 K2
      (try simp only [Int32.lt_iff_toInt_lt, Int32.le_iff_toInt_le, Int64.lt_iff_toInt_lt, Int64.le_iff_toInt_le, Int32.toInt_toInt64, ← Int32.toInt_inj, ← Int64.toInt_inj, n32_0, n32_1, n32_2, n32_3, n32_4, n32_6, n32_8, n32_9, n32_10, n32_20, n32_100, n32_120, n32_255, n32_400, n32_3600, n32_m1, n64_0, n64_1, n64_2, n64_3, n64_4, n64_5, n64_9, n64_19, n64_119, n64_255, n64_400, n64_3599, n64_1000000000, n64_1000000000000, n64_m1000000000000] at c0 c1 c3 c4 b0 b1 b3 b4 b6 b7)
      first | contradiction | omega
    · intro b0 b1 bt2 be2 bh2 b3 b4 bt5 be5 bh5 b6 b7 b8
      obtain rfl : ct2 = bt2 := by have z := nI_inj2 be2 (by omega) (by omega); omega
      exfalso
      clear hI0 hM hX hW hY hT hE hD hU hS hB hG K M27 M28 M29 M30 M31 M32 M33 M34 M35 M36 M37 M38 M39 M40 M41 M42 M43 M44 M45 M46 M47 M48 M49 X0 X1 X2 X3 X4 X5 X6 X7 X8 X9 X10 X11 X12 X13 W0 W1 W2 Y0 Y1 Y2 Y3 Y4 Y5 Y6 Y7 Y8 Y9 K2
      (try simp only [Int32.lt_iff_toInt_lt, Int32.le_iff_toInt_le, Int64.lt_iff_toInt_lt, Int64.le_iff_toInt_le, Int32.toInt_toInt64, ← Int32.toInt_inj, ← Int64.toInt_inj, n32_0, n32_1, n32_2, n32_3, n32_4, n32_6, n32_8, n32_9, n32_10, n32_20, n32_100, n32_120, n32_255, n32_400, n32_3600, n32_m1, n64_0, n64_1, n64_2, n64_3, n64_4, n64_5, n64_9, n64_19, n64_119, n64_255, n64_400, n64_3599, n64_1000000000, n64_1000000000000, n64_m1000000000000] at c0 c1 c3 c4 b0 b1 b3 b4 b6 b7 b8)
      first | contradiction | omega
    · intro b0 b1 bt2 be2 bh2 b3 b4 bt5 be5 bh5 b6 b7 b8
      obtain rfl : ct2 = bt2 := by have z := nI_inj2 be2 (by omega) (by omega); omega
      exfalso
      clear hI0 hM hX hW hY hT hE hD hU hS hB hG K M27 M28 M29 M30 M31 M32 M33 M34 M35 M36 M37 M38 M39 M40 M41 M42 M43 M44 M45 M46 M47 M48 M49 X0 X1 X2 X3 X4 X5 X6 X7 X8 X9 X10 X11 X12 X13 W0 W1 W2 Y0 Y1 Y2 Y3 Y4 Y5 Y6 Y7 Y8 Y9 K2
      (try simp only [Int32.lt_iff_toInt_lt, Int32.le_iff_toInt_le, Int64.lt_iff_toInt_lt, Int64.le_iff_toInt_le, Int32.toInt_toInt64, ← Int32.toInt_inj, ← Int64.toInt_inj, n32_0, n32_1, n32_2, n32_3, n32_4, n32_6, n32_8, n32_9, n32_10, n32_20, n32_100, n32_120, n32_255, n32_400, n32_3600, n32_m1, n64_0, n64_1, n64_2, n64_3, n64_4, n64_5, n64_9, n64_19, n64_119, n64_255, n64_400, n64_3599, n64_1000000000, n64_1000000000000, n64_m1000000000000] at c0 c1 c3 c4 b0 b1 b3 b4 b6 b7 b8)
      first | contradiction | omega
  · intro c0 c1 ct2 ce2 ch2 c3 c4 c5
    subst ce2
    refine K _ _ ⟨_, M27⟩ (fun Q2 K2 => ?_)
    refine s_X8_days M27 M38 M37 hT20 hP ?_ ?_ ?_ ?_ ?_ ?_ ?_ ?_
    · intro b0
      exfalso
      clear hI0 hM hX hW hY hT hE hD hU hS hB hG K M27 M28 M29 M30 M31 M32 M33 M34 M35 M36 M37 M38 M39 M40 M41 M42 M43 M44 M45 M46 M47 M48 M49 X0 X1 X2 X3 X4 X5 X6 X7 X8 X9 X10 X11 X12 X13 W0 W1 W2 Y0 Y1 Y2 Y3 Y4 Y5 Y6 Y7 Y8 Y9 K2
      (try simp only [Int32.lt_iff_toInt_lt, Int32.le_iff_toInt_le, Int64.lt_iff_toInt_lt, Int64.le_iff_toInt_le, Int32.toInt_toInt64, ← Int32.toInt_inj, ← Int64.toInt_inj, n32_0, n32_1, n32_2, n32_3, n32_4, n32_6, n32_8, n32_9, n32_10, n32_20, n32_100, n32_120, n32_255, n32_400, n32_3600, n32_m1, n64_0, n64_1, n64_2, n64_3, n64_4, n64_5, n64_9, n64_19, n64_119, n64_255, n64_400, n64_3599, n64_1000000000, n64_1000000000000, n64_m1000000000000] at c0 c1 c3 c4 c5 b0)
      first | contradiction | omega
    · intro b0 b1
      exfalso
      clear hI0 hM hX hW hY hT hE hD hU hS hB hG K M27 M28 M29 M30 M31 M32 M33 M34 M35 M36 M37 M38 M39 M40 M41 M42 M43 M44 M45 M46 M47 M48 M49 X0 X1 X2 X3 X4 X5 X6 X7 X8 X9 X10 X11 X12 X13 W0 W1 W2 Y0 Y1 Y2 Y3 Y4 Y5 Y6 Y7 Y8 Y9 K2
      (try simp only [Int32.lt_iff_toInt_lt, Int32.le_iff_toInt_le, Int64.lt_iff_toInt_lt, Int64.le_iff_toInt_le, Int32.toInt_toInt64, ← Int32.toInt_inj, ← Int64.toInt_inj, n32_0, n32_1, n32_2, n32_3, n32_4, n32_6, n32_8, n32_9, n32_10, n32_20, n32_100, n32_120, n32_255, n32_400, n32_3600, n32_m1, n64_0, n64_1, n64_2, n64_3, n64_4, n64_5, n64_9, n64_19, n64_119, n64_255, n64_400, n64_3599, n64_1000000000, n64_1000000000000, n64_m1000000000000] at c0 c1 c3 c4 c5 b0 b1)
      first | contradiction | omega
    · intro b0 b1 bt2 be2 bh2 b3
      obtain rfl : ct2 = bt2 := by have z := nI_inj2 be2 (by omega) (by omega); omega
      exfalso
      clear hI0 hM hX hW hY hT hE hD hU hS hB hG K M27 M28 M29 M30 M31 M32 M33 M34 M35 M36 M37 M38 M39 M40 M41 M42 M43 M44 M45 M46 M47 M48 M49 X0 X1 X2 X3 X4 X5 X6 X7 X8 X9 X10 X11 X12 X13 W0 W1 W2 Y0 Y1 Y2 Y3 Y4 Y5 Y6 Y7 Y8 Y9 K2
      (try simp only [Int32.lt_iff_toInt_lt, Int32.le_iff_toInt_le, Int64.lt_iff_toInt_lt, Int64.le_iff_toInt_le, Int32.toInt_toInt64, ← Int32.toInt_inj, ← Int64.toInt_inj, n32_0, n32_1, n32_2, n32_3, n32_4, n32_6, n32_8, n32_9, n32_10, n32_20, n32_100, n32_120, n32_255, n32_400, n32_3600, n32_m1, n64_0, n64_1, n64_2, n64_3, n64_4, n64_5, n64_9, n64_19, n64_119, n64_255, n64_400, n64_3599, n64_1000000000, n64_1000000000000, n64_m1000000000000] at c0 c1 c3 c4 c5 b0 b1 b3)
      first | contradiction | omega
    · intro b0 b1 bt2 be2 bh2 b3 b4
      obtain rfl : ct2 = bt2 := by have z := nI_inj2 be2 (by omega) (by omega); omega
      exact K2 _ (iV_up hI0)
    · intro b0 b1 bt2 be2 bh2 b3 b4 bt5 be5 bh5 b6
      obtain rfl : ct2 = bt2 := by have z := nI_inj2 be2 (by omega) (by omega); omega
      exfalso
      clear hI0 hM hX hW hY hT hE hD hU hS hB hG K M27 M28 M29 M30 M31 M32 M33 M34 M35 M36 M37 M38 M39 M40 M41 M42 M43 M44 M45 M46 M47 M48 M49 X0 X1 X2 X3 X4 X5 X6 X7 X8 X9 X10 X11 X12 X13 W0 W1 W2 Y0 Y1 Y2 Y3 Y4 Y5 Y6 Y7 Y8 Y9 K2
      (try simp only [Int32.lt_iff_toInt_lt, Int32.le_iff_toInt_le, Int64.lt_iff_toInt_lt, Int64.le_iff_toInt_le, Int32.toInt_toInt64, ← Int32.toInt_inj, ← Int64.toInt_inj, n32_0, n32_1, n32_2, n32_3, n32_4, n32_6, n32_8, n32_9, n32_10, n32_20, n32_100, n32_120, n32_255, n32_400, n32_3600, n32_m1, n64_0, n64_1, n64_2, n64_3, n64_4, n64_5, n64_9, n64_19, n64_119, n64_255, n64_400, n64_3599, n64_1000000000, n64_1000000000000, n64_m1000000000000] at c0 c1 c3 c4 c5 b0 b1 b3 b4 b6)
      first | contradiction | omega
    · intro b0 b1 bt2 be2 bh2 b3 b4 bt5 be5 bh5 b6 b7
      obtain rfl : ct2 = bt2 := by have z := nI_inj2 be2 (by omega) (by omega); omega
      exfalso
      clear hI0 hM hX hW hY hT hE hD hU hS hB hG K M27 M28 M29 M30 M31 M32 M33 M34 M35 M36 M37 M38 M39 M40 M41 M42 M43 M44 M45 M46 M47 M48 M49 X0 X1 X2 X3 X4 X5 X6 X7 X8 X9 X10 X11 X12 X13 W0 W1 W2 Y0 Y1 Y2 Y3 Y4 Y5 Y6 Y7 Y8 Y9 K2
      (try simp only [Int32.lt_iff_toInt_lt, Int32.le_iff_toInt_le, Int64.lt_iff_toInt_lt, Int64.le_iff_toInt_le, Int32.toInt_toInt64, ← Int32.toInt_inj, ← Int64.toInt_inj, n32_0, n32_1, n32_2, n32_3, n32_4, n32_6, n32_8, n32_9, n32_10, n32_20, n32_100, n32_120, n32_255, n32_400, n32_3600, n32_m1, n64_0, n64_1, n64_2, n64_3, n64_4, n64_5, n64_9, n64_19, n64_119, n64_255, n64_400, n64_3599, n64_1000000000, n64_1000000000000, n64_m1000000000000] at c0 c1 c3 c4 c5 b0 b1 b3 b4 b6 b7)
      first | contradiction | omega
    · intro b0 b1 bt2 be2 bh2 b3 b4 bt5 be5 bh5 b6 b7 b8
      obtain rfl : ct2 = bt2 := by have z := nI_inj2 be2 (by omega) (by omega); omega
      exfalso
      clear hI0 hM hX hW hY hT hE hD hU hS hB hG K M27 M28 M29 M30 M31 M32 M33 M34 M35 M36 M37 M38 M39 M40 M41 M42 M43 M44 M45 M46 M47 M48 M49 X0 X1 X2 X3 X4 X5 X6 X7 X8 X9 X10 X11 X12 X13 W0 W1 W2 Y0 Y1 Y2 Y3 Y4 Y5 Y6 Y7 Y8 Y9 K2
      (try simp only [Int32.lt_iff_toInt_lt, Int32.le_iff_toInt_le, Int64.lt_iff_toInt_lt, Int64.le_iff_toInt_le, Int32.toInt_toInt64, ← Int32.toInt_inj, ← Int64.toInt_inj, n32_0, n32_1, n32_2, n32_3, n32_4, n32_6, n32_8, n32_9, n32_10, n32_20, n32_100, n32_120, n32_255, n32_400, n32_3600, n32_m1, n64_0, n64_1, n64_2, n64_3, n64_4, n64_5, n64_9, n64_19, n64_119, n64_255, n64_400, n64_3599, n64_1000000000, n64_1000000000000, n64_m1000000000000] at c0 c1 c3 c4 c5 b0 b1 b3 b4 b6 b7 b8)
      first | contradiction | omega
    · intro b0 b1 bt2 be2 bh2 b3 b4 bt5 be5 bh5 b6 b7 b8
      obtain rfl : ct2 = bt2 := by have z := nI_inj2 be2 (by omega) (by omega); omega
      exfalso
      clear hI0 hM hX hW hY hT hE hD hU hS hB hG K M27 M28 M29 M30 M31 M32 M33 M34 M35 M36 M37 M38 M39 M40 M41 M42 M43 M44 M45 M46 M47 M48 M49 X0 X1 X2 X3 X4 X5 X6 X7 X8 X9 X10 X11 X12 X13 W0 W1 W2 Y0 Y1 Y2 Y3 Y4 Y5 Y6 Y7 Y8 Y9 K2
      (try simp only [Int32.lt_iff_toInt_lt, Int32.le_iff_toInt_le, Int64.lt_iff_toInt_lt, Int64.le_iff_toInt_le, Int32.toInt_toInt64, ← Int32.toInt_inj, ← Int64.toInt_inj, n32_0, n32_1, n32_2, n32_3, n32_4, n32_6, n32_8, n32_9, n32_10, n32_20, n32_100, n32_120, n32_255, n32_400, n32_3600, n32_m1, n64_0, n64_1, n64_2, n64_3, n64_4, n64_5, n64_9, n64_19, n64_119, n64_255, n64_400, n64_3599, n64_1000000000, n64_1000000000000, n64_m1000000000000] at c0 c1 c3 c4 c5 b0 b1 b3 b4 b6 b7 b8)
      first | contradiction | omega
  · intro c0 c1 ct2 ce2 ch2 c3 c4 c5 c6
    subst ce2
    refine K _ _ ⟨_, M27⟩ (fun Q2 K2 => ?_)
    refine s_X8_days M27 M38 M37 hT20 hP ?_ ?_ ?_ ?_ ?_ ?_ ?_ ?_
    · intro b0
      exfalso
      clear hI0 hM hX hW hY hT hE hD hU hS hB hG K M27 M28 M29 M30 M31 M32 M33 M34 M35 M36 M37 M38 M39 M40 M41 M42 M43 M44 M45 M46 M47 M48 M49 X0 X1 X2 X3 X4 X5 X6 X7 X8 X9 X10 X11 X12 X13 W0 W1 W2 Y0 Y1 Y2 Y3 Y4 Y5 Y6 Y7 Y8 Y9 K2
      (try simp only [Int32.lt_iff_toInt_lt, Int32.le_iff_toInt_le, Int64.lt_iff_toInt_lt, Int64.le_iff_toInt_le, Int32.toInt_toInt64, ← Int32.toInt_inj, ← Int64.toInt_inj, n32_0, n32_1, n32_2, n32_3, n32_4, n32_6, n32_8, n32_9, n32_10, n32_20, n32_100, n32_120, n32_255, n32_400, n32_3600, n32_m1, n64_0, n64_1, n64_2, n64_3, n64_4, n64_5, n64_9, n64_19, n64_119, n64_255, n64_400, n64_3599, n64_1000000000, n64_1000000000000, n64_m1000000000000] at c0 c1 c3 c4 c5 c6 b0)
      first | contradiction | omega
    · intro b0 b1
      exfalso
      clear hI0 hM hX hW hY hT hE hD hU hS hB hG K M27 M28 M29 M30 M31 M32 M33 M34 M35 M36 M37 M38 M39 M40 M41 M42 M43 M44 M45 M46 M47 M48 M49 X0 X1 X2 X3 X4 X5 X6 X7 X8 X9 X10 X11 X12 X13 W0 W1 W2 Y0 Y1 Y2 Y3 Y4 Y5 Y6 Y7 Y8 Y9 K2
      (try simp only [Int32.lt_iff_toInt_lt, Int32.le_iff_toInt_le, Int64.lt_iff_toInt_lt, Int64.le_iff_toInt_le, Int32.toInt_toInt64, ← Int32.toInt_inj, ← Int64.toInt_inj, n32_0, n32_1, n32_2, n32_3, n32_4, n32_6, n32_8, n32_9, n32_10, n32_20, n32_100, n32_120, n32_255, n32_400, n32_3600, n32_m1, n64_0, n64_1, n64_2, n64_3, n64_4, n64_5, n64_9, n64_19, n64_119, n64_255, n64_400, n64_3599, n64_1000000000, n64_1000000000000, n64_m1000000000000] at c0 c1 c3 c4 c5 c6 b0 b1)
      first | contradiction | omega
    · intro b0 b1 bt2 be2 bh2 b3
      obtain rfl : ct2 = bt2 := by have z := nI_inj2 be2 (by omega) (by omega); omega
      exfalso
      clear hI0 hM hX hW hY hT hE hD hU hS hB hG K M27 M28 M29 M30 M31 M32 M33 M34 M35 M36 M37 M38 M39 M40 M41 M42 M43 M44 M45 M46 M47 M48 M49 X0 X1 X2 X3 X4 X5 X6 X7 X8 X9 X10 X11 X12 X13 W0 W1 W2 Y0 Y1 Y2 Y3 Y4 Y5 Y6 Y7 Y8 Y9 K2
      (try simp only [Int32.lt_iff_toInt_lt, Int32.le_iff_toInt_le, Int64.lt_iff_toInt_lt, Int64.le_iff_toInt_le, Int32.toInt_toInt64, ← Int32.toInt_inj, ← Int64.toInt_inj, n32_0, n32_1, n32_2, n32_3, n32_4, n32_6, n32_8, n32_9, n32_10, n32_20, n32_100, n32_120, n32_255, n32_400, n32_3600, n32_m1, n64_0, n64_1, n64_2, n64_3, n64_4, n64_5, n64_9, n64_19, n64_119, n64_255, n64_400, n64_3599, n64_1000000000, n64_1000000000000, n64_m1000000000000] at c0 c1 c3 c4 c5 c6 b0 b1 b3)
      first | contradiction | omega
    · intro b0 b1 bt2 be2 bh2 b3 b4
      obtain rfl : ct2 = bt2 := by have z := nI_inj2 be2 (by omega) (by omega); omega
      exfalso
      clear hI0 hM hX hW hY hT hE hD hU hS hB hG K M27 M28 M29 M30 M31 M32 M33 M34 M35 M36 M37 M38 M39 M40 M41 M42 M43 M44 M45 M46 M47 M48 M49 X0 X1 X2 X3 X4 X5 X6 X7 X8 X9 X10 X11 X12 X13 W0 W1 W2 Y0 Y1 Y2 Y3 Y4 Y5 Y6 Y7 Y8 Y9 K2
      (try simp only [Int32.lt_iff_toInt_lt, Int32.le_iff_toInt_le, Int64.lt_iff_toInt_lt, Int64.le_iff_toInt_le, Int32.toInt_toInt64, ← Int32.toInt_inj, ← Int64.toInt_inj, n32_0, n32_1, n32_2, n32_3, n32_4, n32_6, n32_8, n32_9, n32_10, n32_20, n32_100, n32_120, n32_255, n32_400, n32_3600, n32_m1, n64_0, n64_1, n64_2, n64_3, n64_4, n64_5, n64_9, n64_19, n64_119, n64_255, n64_400, n64_3599, n64_1000000000, n64_1000000000000, n64_m1000000000000] at c0 c1 c3 c4 c5 c6 b0 b1 b3 b4)
      first | contradiction | omega
    · intro b0 b1 bt2 be2 bh2 b3 b4 bt5 be5 bh5 b6
      obtain rfl : ct2 = bt2 := by have z := nI_inj2 be2 (by omega) (by omega); omega
      exfalso
      clear hI0 hM hX hW hY hT hE hD hU hS hB hG K M27 M28 M29 M30 M31 M32 M33 M34 M35 M36 M37 M38 M39 M40 M41 M42 M43 M44 M45 M46 M47 M48 M49 X0 X1 X2 X3 X4 X5 X6 X7 X8 X9 X10 X11 X12 X13 W0 W1 W2 Y0 Y1 Y2 Y3 Y4 Y5 Y6 Y7 Y8 Y9 K2
      (try simp only [Int32.lt_iff_toInt_lt, Int32.le_iff_toInt_le, Int64.lt_iff_toInt_lt, Int64.le_iff_toInt_le, Int32.toInt_toInt64, ← Int32.toInt_inj, ← Int64.toInt_inj, n32_0, n32_1, n32_2, n32_3, n32_4, n32_6, n32_8, n32_9, n32_10, n32_20, n32_100, n32_120, n32_255, n32_400, n32_3600, n32_m1, n64_0, n64_1, n64_2, n64_3, n64_4, n64_5, n64_9, n64_19, n64_119, n64_255, n64_400, n64_3599, n64_1000000000, n64_1000000000000, n64_m1000000000000] at c0 c1 c3 c4 c5 c6 b0 b1 b3 b4 b6)
      first | contradiction | omega
    · intro b0 b1 bt2 be2 bh2 b3 b4 bt5 be5 bh5 b6 b7
      obtain rfl : ct2 = bt2 := by have z := nI_inj2 be2 (by omega) (by omega); omega
      exact K2 _ (iV_up hI0)
    · intro b0 b1 bt2 be2 bh2 b3 b4 bt5 be5 bh5 b6 b7 b8
      obtain rfl : ct2 = bt2 := by have z := nI_inj2 be2 (by omega) (by omega); omega
      exfalso
      clear hI0 hM hX hW hY hT hE hD hU hS hB hG K M27 M28 M29 M30 M31 M32 M33 M34 M35 M36 M37 M38 M39 M40 M41 M42 M43 M44 M45 M46 M47 M48 M49 X0 X1 X2 X3 X4 X5 X6 X7 X8 X9 X10 X11 X12 X13 W0 W1 W2 Y0 Y1 Y2 Y3 Y4 Y5 Y6 Y7 Y8 Y9 K2
      (try simp only [Int32.lt_iff_toInt_lt, Int32.le_iff_toInt_le, Int64.lt_iff_toInt_lt, Int64.le_iff_toInt_le, Int32.toInt_toInt64, ← Int32.toInt_inj, ← Int64.toInt_inj, n32_0, n32_1, n32_2, n32_3, n32_4, n32_6, n32_8, n32_9, n32_10, n32_20, n32_100, n32_120, n32_255, n32_400, n32_3600, n32_m1, n64_0, n64_1, n64_2, n64_3, n64_4, n64_5, n64_9, n64_19, n64_119, n64_255, n64_400, n64_3599, n64_1000000000, n64_1000000000000, n64_m1000000000000] at c0 c1 c3 c4 c5 c6 b0 b1 b3 b4 b6 b7 b8)
      first | contradiction | omega
    · intro b0 b1 bt2 be2 bh2 b3 b4 bt5 be5 bh5 b6 b7 b8
      obtain rfl : ct2 = bt2 := by have z := nI_inj2 be2 (by omega) (by omega); omega
      exfalso
      clear hI0 hM hX hW hY hT hE hD hU hS hB hG K M27 M28 M29 M30 M31 M32 M33 M34 M35 M36 M37 M38 M39 M40 M41 M42 M43 M44 M45 M46 M47 M48 M49 X0 X1 X2 X3 X4 X5 X6 X7 X8 X9 X10 X11 X12 X13 W0 W1 W2 Y0 Y1 Y2 Y3 Y4 Y5 Y6 Y7 Y8 Y9 K2
      (try simp only [Int32.lt_iff_toInt_lt, Int32.le_iff_toInt_le, Int64.lt_iff_toInt_lt, Int64.le_iff_toInt_le, Int32.toInt_toInt64, ← Int32.toInt_inj, ← Int64.toInt_inj, n32_0, n32_1, n32_2, n32_3, n32_4, n32_6, n32_8, n32_9, n32_10, n32_20, n32_100, n32_120, n32_255, n32_400, n32_3600, n32_m1, n64_0, n64_1, n64_2, n64_3, n64_4, n64_5, n64_9, n64_19, n64_119, n64_255, n64_400, n64_3599, n64_1000000000, n64_1000000000000, n64_m1000000000000] at c0 c1 c3 c4 c5 c6 b0 b1 b3 b4 b6 b7 b8)
      first | contradiction | omega
  · intro c0 c1 ct2 ce2 ch2 c3 c4 c5 c6 c7 ct8 ce8 ch8
    subst ce2
    subst ce8
    have htb := hD.2.1 ct2 ch2
    have htd := hD.2.2.2.2.2.2.2.2.2 ct2 ch2
    obtain ⟨d, hd, hu⟩ : ∃ d : Nat, d < 401 ∧ n0 = nI d := n_nat (by simp only [Int32.lt_iff_toInt_lt, Int32.le_iff_toInt_le, Int64.lt_iff_toInt_lt, Int64.le_iff_toInt_le, Int32.toInt_toInt64, ← Int32.toInt_inj, ← Int64.toInt_inj, n32_0, n32_1, n32_2, n32_3, n32_4, n32_6, n32_8, n32_9, n32_10, n32_20, n32_100, n32_120, n32_255, n32_400, n32_3600, n32_m1, n64_0, n64_1, n64_2, n64_3, n64_4, n64_5, n64_9, n64_19, n64_119, n64_255, n64_400, n64_3599, n64_1000000000, n64_1000000000000, n64_m1000000000000] at c6; omega) (by simp only [Int32.lt_iff_toInt_lt, Int32.le_iff_toInt_le, Int64.lt_iff_toInt_lt, Int64.le_iff_toInt_le, Int32.toInt_toInt64, ← Int32.toInt_inj, ← Int64.toInt_inj, n32_0, n32_1, n32_2, n32_3, n32_4, n32_6, n32_8, n32_9, n32_10, n32_20, n32_100, n32_120, n32_255, n32_400, n32_3600, n32_m1, n64_0, n64_1, n64_2, n64_3, n64_4, n64_5, n64_9, n64_19, n64_119, n64_255, n64_400, n64_3599, n64_1000000000, n64_1000000000000, n64_m1000000000000] at c7; omega)
    refine K _ _ ⟨_, (j_hn (by omega) M27)⟩ (fun Q2 K2 => ?_)
    refine s_X8_days (j_hn (by omega) M27) (j_hn (by omega) M38) (j_hn (by omega) M37) hT20 hP ?_ ?_ ?_ ?_ ?_ ?_ ?_ ?_
    · intro b0
      exfalso
      clear hI0 hM hX hW hY hT hE hD hU hS hB hG K M27 M28 M29 M30 M31 M32 M33 M34 M35 M36 M37 M38 M39 M40 M41 M42 M43 M44 M45 M46 M47 M48 M49 X0 X1 X2 X3 X4 X5 X6 X7 X8 X9 X10 X11 X12 X13 W0 W1 W2 Y0 Y1 Y2 Y3 Y4 Y5 Y6 Y7 Y8 Y9 K2
      (try simp only [Int32.lt_iff_toInt_lt, Int32.le_iff_toInt_le, Int64.lt_iff_toInt_lt, Int64.le_iff_toInt_le, Int32.toInt_toInt64, ← Int32.toInt_inj, ← Int64.toInt_inj, n32_0, n32_1, n32_2, n32_3, n32_4, n32_6, n32_8, n32_9, n32_10, n32_20, n32_100, n32_120, n32_255, n32_400, n32_3600, n32_m1, n64_0, n64_1, n64_2, n64_3, n64_4, n64_5, n64_9, n64_19, n64_119, n64_255, n64_400, n64_3599, n64_1000000000, n64_1000000000000, n64_m1000000000000] at c0 c1 c3 c4 c5 c6 c7 b0)
      first | contradiction | omega
    · intro b0 b1
      exfalso
      clear hI0 hM hX hW hY hT hE hD hU hS hB hG K M27 M28 M29 M30 M31 M32 M33 M34 M35 M36 M37 M38 M39 M40 M41 M42 M43 M44 M45 M46 M47 M48 M49 X0 X1 X2 X3 X4 X5 X6 X7 X8 X9 X10 X11 X12 X13 W0 W1 W2 Y0 Y1 Y2 Y3 Y4 Y5 Y6 Y7 Y8 Y9 K2
      (try simp only [Int32.lt_iff_toInt_lt, Int32.le_iff_toInt_le, Int64.lt_iff_toInt_lt, Int64.le_iff_toInt_le, Int32.toInt_toInt64, ← Int32.toInt_inj, ← Int64.toInt_inj, n32_0, n32_1, n32_2, n32_3, n32_4, n32_6, n32_8, n32_9, n32_10, n32_20, n32_100, n32_120, n32_255, n32_400, n32_3600, n32_m1, n64_0, n64_1, n64_2, n64_3, n64_4, n64_5, n64_9, n64_19, n64_119, n64_255, n64_400, n64_3599, n64_1000000000, n64_1000000000000, n64_m1000000000000] at c0 c1 c3 c4 c5 c6 c7 b0 b1)
      first | contradiction | omega
    · intro b0 b1 bt2 be2 bh2 b3
      obtain rfl : ct2 = bt2 := by have z := nI_inj2 be2 (by omega) (by omega); omega
      exfalso
      clear hI0 hM hX hW hY hT hE hD hU hS hB hG K M27 M28 M29 M30 M31 M32 M33 M34 M35 M36 M37 M38 M39 M40 M41 M42 M43 M44 M45 M46 M47 M48 M49 X0 X1 X2 X3 X4 X5 X6 X7 X8 X9 X10 X11 X12 X13 W0 W1 W2 Y0 Y1 Y2 Y3 Y4 Y5 Y6 Y7 Y8 Y9 K2
      (try simp only [Int32.lt_iff_toInt_lt, Int32.le_iff_toInt_le, Int64.lt_iff_toInt_lt, Int64.le_iff_toInt_le, Int32.toInt_toInt64, ← Int32.toInt_inj, ← Int64.toInt_inj, n32_0, n32_1, n32_2, n32_3, n32_4, n32_6, n32_8, n32_9, n32_10, n32_20, n32_100, n32_120, n32_255, n32_400, n32_3600, n32_m1, n64_0, n64_1, n64_2, n64_3, n64_4, n64_5, n64_9, n64_19, n64_119, n64_255, n64_400, n64_3599, n64_1000000000, n64_1000000000000, n64_m1000000000000] at c0 c1 c3 c4 c5 c6 c7 b0 b1 b3)
      first | contradiction | omega
    · intro b0 b1 bt2 be2 bh2 b3 b4
      obtain rfl : ct2 = bt2 := by have z := nI_inj2 be2 (by omega) (by omega); omega
      exfalso
      clear hI0 hM hX hW hY hT hE hD hU hS hB hG K M27 M28 M29 M30 M31 M32 M33 M34 M35 M36 M37 M38 M39 M40 M41 M42 M43 M44 M45 M46 M47 M48 M49 X0 X1 X2 X3 X4 X5 X6 X7 X8 X9 X10 X11 X12 X13 W0 W1 W2 Y0 Y1 Y2 Y3 Y4 Y5 Y6 Y7 Y8 Y9 K2
      (try simp only [Int32.lt_iff_toInt_lt, Int32.le_iff_toInt_le, Int64.lt_iff_toInt_lt, Int64.le_iff_toInt_le, Int32.toInt_toInt64, ← Int32.toInt_inj, ← Int64.toInt_inj, n32_0, n32_1, n32_2, n32_3, n32_4, n32_6, n32_8, n32_9, n32_10, n32_20, n32_100, n32_120, n32_255, n32_400, n32_3600, n32_m1, n64_0, n64_1, n64_2, n64_3, n64_4, n64_5, n64_9, n64_19, n64_119, n64_255, n64_400, n64_3599, n64_1000000000, n64_1000000000000, n64_m1000000000000] at c0 c1 c3 c4 c5 c6 c7 b0 b1 b3 b4)
      first | contradiction | omega
    · intro b0 b1 bt2 be2 bh2 b3 b4 bt5 be5 bh5 b6
      obtain rfl : ct2 = bt2 := by have z := nI_inj2 be2 (by omega) (by omega); omega
      obtain rfl : ct8 = bt5 := by have z := nI_inj2 be5 (by omega) (by omega); omega
      exfalso
      clear hI0 hM hX hW hY hT hE hD hU hS hB hG K M27 M28 M29 M30 M31 M32 M33 M34 M35 M36 M37 M38 M39 M40 M41 M42 M43 M44 M45 M46 M47 M48 M49 X0 X1 X2 X3 X4 X5 X6 X7 X8 X9 X10 X11 X12 X13 W0 W1 W2 Y0 Y1 Y2 Y3 Y4 Y5 Y6 Y7 Y8 Y9 K2
      (try simp only [Int32.lt_iff_toInt_lt, Int32.le_iff_toInt_le, Int64.lt_iff_toInt_lt, Int64.le_iff_toInt_le, Int32.toInt_toInt64, ← Int32.toInt_inj, ← Int64.toInt_inj, n32_0, n32_1, n32_2, n32_3, n32_4, n32_6, n32_8, n32_9, n32_10, n32_20, n32_100, n32_120, n32_255, n32_400, n32_3600, n32_m1, n64_0, n64_1, n64_2, n64_3, n64_4, n64_5, n64_9, n64_19, n64_119, n64_255, n64_400, n64_3599, n64_1000000000, n64_1000000000000, n64_m1000000000000] at c0 c1 c3 c4 c5 c6 c7 b0 b1 b3 b4 b6)
      first | contradiction | omega
    · intro b0 b1 bt2 be2 bh2 b3 b4 bt5 be5 bh5 b6 b7
      obtain rfl : ct2 = bt2 := by have z := nI_inj2 be2 (by omega) (by omega); omega
      obtain rfl : ct8 = bt5 := by have z := nI_inj2 be5 (by omega) (by omega); omega
      exfalso
      clear hI0 hM hX hW hY hT hE hD hU hS hB hG K M27 M28 M29 M30 M31 M32 M33 M34 M35 M36 M37 M38 M39 M40 M41 M42 M43 M44 M45 M46 M47 M48 M49 X0 X1 X2 X3 X4 X5 X6 X7 X8 X9 X10 X11 X12 X13 W0 W1 W2 Y0 Y1 Y2 Y3 Y4 Y5 Y6 Y7 Y8 Y9 K2
      (try simp only [Int32.lt_iff_toInt_lt, Int32.le_iff_toInt_le, Int64.lt_iff_toInt_lt, Int64.le_iff_toInt_le, Int32.toInt_toInt64, ← Int32.toInt_inj, ← Int64.toInt_inj, n32_0, n32_1, n32_2, n32_3, n32_4, n32_6, n32_8, n32_9, n32_10, n32_20, n32_100, n32_120, n32_255, n32_400, n32_3600, n32_m1, n64_0, n64_1, n64_2, n64_3, n64_4, n64_5, n64_9, n64_19, n64_119, n64_255, n64_400, n64_3599, n64_1000000000, n64_1000000000000, n64_m1000000000000] at c0 c1 c3 c4 c5 c6 c7 b0 b1 b3 b4 b6 b7)
      first | contradiction | omega
    · intro b0 b1 bt2 be2 bh2 b3 b4 bt5 be5 bh5 b6 b7 b8
      obtain rfl : ct2 = bt2 := by have z := nI_inj2 be2 (by omega) (by omega); omega
      obtain rfl : ct8 = bt5 := by have z := nI_inj2 be5 (by omega) (by omega); omega
      exfalso
      clear hI0 hM hX hW hY hT hE hD hU hS hB hG K M27 M28 M29 M30 M31 M32 M33 M34 M35 M36 M37 M38 M39 M40 M41 M42 M43 M44 M45 M46 M47 M48 M49 X0 X1 X2 X3 X4 X5 X6 X7 X8 X9 X10 X11 X12 X13 W0 W1 W2 Y0 Y1 Y2 Y3 Y4 Y5 Y6 Y7 Y8 Y9 K2
      (try simp only [Int32.lt_iff_toInt_lt, Int32.le_iff_toInt_le, Int64.lt_iff_toInt_lt, Int64.le_iff_toInt_le, Int32.toInt_toInt64, ← Int32.toInt_inj, ← Int64.toInt_inj, n32_0, n32_1, n32_2, n32_3, n32_4, n32_6, n32_8, n32_9, n32_10, n32_20, n32_100, n32_120, n32_255, n32_400, n32_3600, n32_m1, n64_0, n64_1, n64_2, n64_3, n64_4, n64_5, n64_9, n64_19, n64_119, n64_255, n64_400, n64_3599, n64_1000000000, n64_1000000000000, n64_m1000000000000] at c0 c1 c3 c4 c5 c6 c7 b0 b1 b3 b4 b6 b7 b8)
      first | contradiction | omega
    · intro b0 b1 bt2 be2 bh2 b3 b4 bt5 be5 bh5 b6 b7 b8
      obtain rfl : ct2 = bt2 := by have z := nI_inj2 be2 (by omega) (by omega); omega
      obtain rfl : ct8 = bt5 := by have z := nI_inj2 be5 (by omega) (by omega); omega
      rw [← ((hS.1 ct2 ch2).2.2.2.2.2.2.2.1 ct8 (by omega)).1]
      refine K2 _ (fun X k => ?_)
      exact k L P T E C R R0 n ru dq dr op at_ fr wd ws we wn dd tx rs fs ro sh (va_up dy (12 * ct2 + ct8) n0) se ey er tk tn ac f1 f2 f3 f4 g1 g2 g3 g4 da lo ad sa co pa ss w1 w2 w3 am pw ps cu dm ta ea shp tb eb rr rn cst prt eam (va_up dys ct2 (va_up (dys ct2) ct8 n0)) eac shs (⟨(j_hn (by decide) (j_hn (by omega) M27)), (j_hn (by decide) (j_hn (by omega) M28)), (j_hn (by decide) (j_hn (by omega) M29)), (j_hn (by decide) (j_hn (by omega) M30)), (j_hn (by decide) (j_hn (by omega) M31)), (j_hn (by decide) (j_hn (by omega) M32)), (j_hn (by decide) (j_hn (by omega) M33)), (j_hn (by decide) (j_hn (by omega) M34)), (j_hn (by decide) (j_hn (by omega) M35)), (j_hn (by decide) (j_hn (by omega) M36)), j_hs, (j_hn (by decide) (j_hn (by omega) M38)), (j_hn (by decide) (j_hn (by omega) M39)), (j_hn (by decide) (j_hn (by omega) M40)), (j_hn (by decide) (j_hn (by omega) M41)), (j_hn (by decide) (j_hn (by omega) M42)), (j_hn (by decide) (j_hn (by omega) M43)), (j_hn (by decide) (j_hn (by omega) M44)), (j_hn (by decide) (j_hn (by omega) M45)), (j_hn (by decide) (j_hn (by omega) M46)), (j_hn (by decide) (j_hn (by omega) M47)), (j_hn (by decide) (j_hn (by omega) M48)), (j_hn (by decide) (j_hn (by omega) M49))⟩) (⟨(j_hn (by decide) (j_hn (by omega) X0)), (j_hn (by decide) (j_hn (by omega) X1)), (j_hn (by decide) (j_hn (by omega) X2)), (j_hn (by decide) (j_hn (by omega) X3)), (j_hn (by decide) (j_hn (by omega) X4)), (j_hn (by decide) (j_hn (by omega) X5)), (j_hn (by decide) (j_hn (by omega) X6)), (j_hn (by decide) (j_hn (by omega) X7)), (j_hn (by decide) (j_hn (by omega) X8)), (j_hn (by decide) (j_hn (by omega) X9)), (j_hn (by decide) (j_hn (by omega) X10)), (j_hn (by decide) (j_hn (by omega) X11)), (j_hn (by decide) (j_hn (by omega) X12)), (j_hn (by decide) (j_hn (by omega) X13))⟩) ((iW_lo hD (by decide) (iW_set hW (by omega)))) ((iY_set (iY_set hY hrd (by omega)) hrd (by decide))) ((iT_lo hD (by decide) (iT_upD hD ch2 hT))) ((iE_lo hD (by decide) (iE_set hE (fun e he => by have q := hD.2.2.2.2.2.1 e ct2 he ch2; omega)))) (hD) (⟨hL, hP, hT20, hE60, hC, hR, hR0, hn, hrd, hop⟩) (hU) (iS_days hS ch2 ch8 hP (by omega) hu) (hB)
  · intro c0 c1 ct2 ce2 ch2 c3 c4 c5 c6 c7
    subst ce2
    refine K _ _ ⟨_, M27⟩ (fun Q2 K2 => ?_)
    refine s_X8_days M27 M38 M37 hT20 hP ?_ ?_ ?_ ?_ ?_ ?_ ?_ ?_
    · intro b0
      exfalso
      clear hI0 hM hX hW hY hT hE hD hU hS hB hG K M27 M28 M29 M30 M31 M32 M33 M34 M35 M36 M37 M38 M39 M40 M41 M42 M43 M44 M45 M46 M47 M48 M49 X0 X1 X2 X3 X4 X5 X6 X7 X8 X9 X10 X11 X12 X13 W0 W1 W2 Y0 Y1 Y2 Y3 Y4 Y5 Y6 Y7 Y8 Y9 K2
      (try simp only [Int32.lt_iff_toInt_lt, Int32.le_iff_toInt_le, Int64.lt_iff_toInt_lt, Int64.le_iff_toInt_le, Int32.toInt_toInt64, ← Int32.toInt_inj, ← Int64.toInt_inj, n32_0, n32_1, n32_2, n32_3, n32_4, n32_6, n32_8, n32_9, n32_10, n32_20, n32_100, n32_120, n32_255, n32_400, n32_3600, n32_m1, n64_0, n64_1, n64_2, n64_3, n64_4, n64_5, n64_9, n64_19, n64_119, n64_255, n64_400, n64_3599, n64_1000000000, n64_1000000000000, n64_m1000000000000] at c0 c1 c3 c4 c5 c6 c7 b0)
      first | contradiction | omega
    · intro b0 b1
      exfalso
      clear hI0 hM hX hW hY hT hE hD hU hS hB hG K M27 M28 M29 M30 M31 M32 M33 M34 M35 M36 M37 M38 M39 M40 M41 M42 M43 M44 M45 M46 M47 M48 M49 X0 X1 X2 X3 X4 X5 X6 X7 X8 X9 X10 X11 X12 X13 W0 W1 W2 Y0 Y1 Y2 Y3 Y4 Y5 Y6 Y7 Y8 Y9 K2
      (try simp only [Int32.lt_iff_toInt_lt, Int32.le_iff_toInt_le, Int64.lt_iff_toInt_lt, Int64.le_iff_toInt_le, Int32.toInt_toInt64, ← Int32.toInt_inj, ← Int64.toInt_inj, n32_0, n32_1, n32_2, n32_3, n32_4, n32_6, n32_8, n32_9, n32_10, n32_20, n32_100, n32_120, n32_255, n32_400, n32_3600, n32_m1, n64_0, n64_1, n64_2, n64_3, n64_4, n64_5, n64_9, n64_19, n64_119, n64_255, n64_400, n64_3599, n64_1000000000, n64_1000000000000, n64_m1000000000000] at c0 c1 c3 c4 c5 c6 c7 b0 b1)
      first | contradiction | omega
    · intro b0 b1 bt2 be2 bh2 b3
      obtain rfl : ct2 = bt2 := by have z := nI_inj2 be2 (by omega) (by omega); omega
      exfalso
      clear hI0 hM hX hW hY hT hE hD hU hS hB hG K M27 M28 M29 M30 M31 M32 M33 M34 M35 M36 M37 M38 M39 M40 M41 M42 M43 M44 M45 M46 M47 M48 M49 X0 X1 X2 X3 X4 X5 X6 X7 X8 X9 X10 X11 X12 X13 W0 W1 W2 Y0 Y1 Y2 Y3 Y4 Y5 Y6 Y7 Y8 Y9 K2
      (try simp only [Int32.lt_iff_toInt_lt, Int32.le_iff_toInt_le, Int64.lt_iff_toInt_lt, Int64.le_iff_toInt_le, Int32.toInt_toInt64, ← Int32.toInt_inj, ← Int64.toInt_inj, n32_0, n32_1, n32_2, n32_3, n32_4, n32_6, n32_8, n32_9, n32_10, n32_20, n32_100, n32_120, n32_255, n32_400, n32_3600, n32_m1, n64_0, n64_1, n64_2, n64_3, n64_4, n64_5, n64_9, n64_19, n64_119, n64_255, n64_400, n64_3599, n64_1000000000, n64_1000000000000, n64_m1000000000000] at c0 c1 c3 c4 c5 c6 c7 b0 b1 b3)
      first | contradiction | omega
    · intro b0 b1 bt2 be2 bh2 b3 b4
      obtain rfl : ct2 = bt2 := by have z := nI_inj2 be2 (by omega) (by omega); omega
      exfalso
      clear hI0 hM hX hW hY hT hE hD hU hS hB hG K M27 M28 M29 M30 M31 M32 M33 M34 M35 M36 M37 M38 M39 M40 M41 M42 M43 M44 M45 M46 M47 M48 M49 X0 X1 X2 X3 X4 X5 X6 X7 X8 X9 X10 X11 X12 X13 W0 W1 W2 Y0 Y1 Y2 Y3 Y4 Y5 Y6 Y7 Y8 Y9 K2
      (try simp only [Int32.lt_iff_toInt_lt, Int32.le_iff_toInt_le, Int64.lt_iff_toInt_lt, Int64.le_iff_toInt_le, Int32.toInt_toInt64, ← Int32.toInt_inj, ← Int64.toInt_inj, n32_0, n32_1, n32_2, n32_3, n32_4, n32_6, n32_8, n32_9, n32_10, n32_20, n32_100, n32_120, n32_255, n32_400, n32_3600, n32_m1, n64_0, n64_1, n64_2, n64_3, n64_4, n64_5, n64_9, n64_19, n64_119, n64_255, n64_400, n64_3599, n64_1000000000, n64_1000000000000, n64_m1000000000000] at c0 c1 c3 c4 c5 c6 c7 b0 b1 b3 b4)
      first | contradiction | omega
    · intro b0 b1 bt2 be2 bh2 b3 b4 bt5 be5 bh5 b6
      obtain rfl : ct2 = bt2 := by have z := nI_inj2 be2 (by omega) (by omega); omega
      exfalso
      clear hI0 hM hX hW hY hT hE hD hU hS hB hG K M27 M28 M29 M30 M31 M32 M33 M34 M35 M36 M37 M38 M39 M40 M41 M42 M43 M44 M45 M46 M47 M48 M49 X0 X1 X2 X3 X4 X5 X6 X7 X8 X9 X10 X11 X12 X13 W0 W1 W2 Y0 Y1 Y2 Y3 Y4 Y5 Y6 Y7 Y8 Y9 K2
      (try simp only [Int32.lt_iff_toInt_lt, Int32.le_iff_toInt_le, Int64.lt_iff_toInt_lt, Int64.le_iff_toInt_le, Int32.toInt_toInt64, ← Int32.toInt_inj, ← Int64.toInt_inj, n32_0, n32_1, n32_2, n32_3, n32_4, n32_6, n32_8, n32_9, n32_10, n32_20, n32_100, n32_120, n32_255, n32_400, n32_3600, n32_m1, n64_0, n64_1, n64_2, n64_3, n64_4, n64_5, n64_9, n64_19, n64_119, n64_255, n64_400, n64_3599, n64_1000000000, n64_1000000000000, n64_m1000000000000] at c0 c1 c3 c4 c5 c6 c7 b0 b1 b3 b4 b6)
      first | contradiction | omega
    · intro b0 b1 bt2 be2 bh2 b3 b4 bt5 be5 bh5 b6 b7
      obtain rfl : ct2 = bt2 := by have z := nI_inj2 be2 (by omega) (by omega); omega
      exfalso
      clear hI0 hM hX hW hY hT hE hD hU hS hB hG K M27 M28 M29 M30 M31 M32 M33 M34 M35 M36 M37 M38 M39 M40 M41 M42 M43 M44 M45 M46 M47 M48 M49 X0 X1 X2 X3 X4 X5 X6 X7 X8 X9 X10 X11 X12 X13 W0 W1 W2 Y0 Y1 Y2 Y3 Y4 Y5 Y6 Y7 Y8 Y9 K2
      (try simp only [Int32.lt_iff_toInt_lt, Int32.le_iff_toInt_le, Int64.lt_iff_toInt_lt, Int64.le_iff_toInt_le, Int32.toInt_toInt64, ← Int32.toInt_inj, ← Int64.toInt_inj, n32_0, n32_1, n32_2, n32_3, n32_4, n32_6, n32_8, n32_9, n32_10, n32_20, n32_100, n32_120, n32_255, n32_400, n32_3600, n32_m1, n64_0, n64_1, n64_2, n64_3, n64_4, n64_5, n64_9, n64_19, n64_119, n64_255, n64_400, n64_3599, n64_1000000000, n64_1000000000000, n64_m1000000000000] at c0 c1 c3 c4 c5 c6 c7 b0 b1 b3 b4 b6 b7)
      first | contradiction | omega
    · intro b0 b1 bt2 be2 bh2 b3 b4 bt5 be5 bh5 b6 b7 b8
      obtain rfl : ct2 = bt2 := by have z := nI_inj2 be2 (by omega) (by omega); omega
      exact K2 _ (iV_up hI0)
    · intro b0 b1 bt2 be2 bh2 b3 b4 bt5 be5 bh5 b6 b7 b8
      obtain rfl : ct2 = bt2 := by have z := nI_inj2 be2 (by omega) (by omega); omega
      exfalso
      clear hI0 hM hX hW hY hT hE hD hU hS hB hG K M27 M28 M29 M30 M31 M32 M33 M34 M35 M36 M37 M38 M39 M40 M41 M42 M43 M44 M45 M46 M47 M48 M49 X0 X1 X2 X3 X4 X5 X6 X7 X8 X9 X10 X11 X12 X13 W0 W1 W2 Y0 Y1 Y2 Y3 Y4 Y5 Y6 Y7 Y8 Y9 K2
      (try simp only [Int32.lt_iff_toInt_lt, Int32.le_iff_toInt_le, Int64.lt_iff_toInt_lt, Int64.le_iff_toInt_le, Int32.toInt_toInt64, ← Int32.toInt_inj, ← Int64.toInt_inj, n32_0, n32_1, n32_2, n32_3, n32_4, n32_6, n32_8, n32_9, n32_10, n32_20, n32_100, n32_120, n32_255, n32_400, n32_3600, n32_m1, n64_0, n64_1, n64_2, n64_3, n64_4, n64_5, n64_9, n64_19, n64_119, n64_255, n64_400, n64_3599, n64_1000000000, n64_1000000000000, n64_m1000000000000] at c0 c1 c3 c4 c5 c6 c7 b0 b1 b3 b4 b6 b7 b8)
      first | contradiction | omega

set_option maxRecDepth 20000 in
theorem r_trip {l : Launch} {G : jG} {h : jH} {Q : Option Value → jH → Prop} {c : Nat} {s0 : Int32} {v : Int64} (hc : c < 512) (hG : j_gok G) (hI : iV c h) (K : ∀ (vv : Int32) (h1 : jH), (∃ fs, h1.2 27 = some (jO 8 fs)) → (∀ Q2 : Option Value → jH → Prop, (∀ h2, iV (c + 1) h2 → Q2 (some (.int vv)) h2) → J l G mX8_trip 0 0 0 (lv_args 0 [.ref 27, .int s0, .long v]) [] h1 Q2) → Q (some (.int vv)) h1) : J l G mX7_trip 0 0 0 (lv_args 0 [.ref 0, .int s0, .long v]) [] h Q := by
  have hI0 := hI
  refine hI _ ?_
  clear hI
  intro L P T E C R R0 n ru dq dr op at_ fr wd ws we wn dd tx rs fs ro sh dy se ey er tk tn ac f1 f2 f3 f4 g1 g2 g3 g4 da lo ad sa co pa ss w1 w2 w3 am pw ps cu dm ta ea shp tb eb rr rn cst prt eam dys eac shs hM hX hW hY hT hE hD hN hU hS hB
  obtain ⟨M27, M28, M29, M30, M31, M32, M33, M34, M35, M36, M37, M38, M39, M40, M41, M42, M43, M44, M45, M46, M47, M48, M49⟩ := id hM
  obtain ⟨X0, X1, X2, X3, X4, X5, X6, X7, X8, X9, X10, X11, X12, X13⟩ := id hX
  obtain ⟨W0, W1, W2⟩ := id hW
  obtain ⟨Y0, Y1, Y2, Y3, Y4, Y5, Y6, Y7, Y8, Y9⟩ := id hY
  obtain ⟨hL, hP, hT20, hE60, hC, hR, hR0, hn, hrd, hop⟩ := id hN
  have hnx : 50 ≤ h.1 := hD.1
  have hdn : dr + 3 ≤ h.1 := hD.2.2.2.2.2.2.2.1
  have hdx : dr = 14 ∨ 50 ≤ dr := hD.2.2.2.2.2.2.1
  refine s_X7_trip X0 X7 rfl hT20 hD.1 ?_ ?_ ?_ ?_ ?_ ?_
  · intro c0
    refine K _ _ ⟨_, M27⟩ (fun Q2 K2 => ?_)
    refine s_X8_trip M27 M34 M35 hT20 ?_ ?_ ?_ ?_ ?_ ?_
    · intro b0
      exact K2 _ (iV_up hI0)
    · intro b0 b1
      exfalso
      clear hI0 hM hX hW hY hT hE hD hU hS hB hG K M27 M28 M29 M30 M31 M32 M33 M34 M35 M36 M37 M38 M39 M40 M41 M42 M43 M44 M45 M46 M47 M48 M49 X0 X1 X2 X3 X4 X5 X6 X7 X8 X9 X10 X11 X12 X13 W0 W1 W2 Y0 Y1 Y2 Y3 Y4 Y5 Y6 Y7 Y8 Y9 K2
      (try simp only [Int32.lt_iff_toInt_lt, Int32.le_iff_toInt_le, Int64.lt_iff_toInt_lt, Int64.le_iff_toInt_le, Int32.toInt_toInt64, ← Int32.toInt_inj, ← Int64.toInt_inj, n32_0, n32_1, n32_2, n32_3, n32_4, n32_6, n32_8, n32_9, n32_10, n32_20, n32_100, n32_120, n32_255, n32_400, n32_3600, n32_m1, n64_0, n64_1, n64_2, n64_3, n64_4, n64_5, n64_9, n64_19, n64_119, n64_255, n64_400, n64_3599, n64_1000000000, n64_1000000000000, n64_m1000000000000] at c0 b0 b1)
      first | contradiction | omega
    · intro b0 b1 b2
      exfalso
      clear hI0 hM hX hW hY hT hE hD hU hS hB hG K M27 M28 M29 M30 M31 M32 M33 M34 M35 M36 M37 M38 M39 M40 M41 M42 M43 M44 M45 M46 M47 M48 M49 X0 X1 X2 X3 X4 X5 X6 X7 X8 X9 X10 X11 X12 X13 W0 W1 W2 Y0 Y1 Y2 Y3 Y4 Y5 Y6 Y7 Y8 Y9 K2
      (try simp only [Int32.lt_iff_toInt_lt, Int32.le_iff_toInt_le, Int64.lt_iff_toInt_lt, Int64.le_iff_toInt_le, Int32.toInt_toInt64, ← Int32.toInt_inj, ← Int64.toInt_inj, n32_0, n32_1, n32_2, n32_3, n32_4, n32_6, n32_8, n32_9, n32_10, n32_20, n32_100, n32_120, n32_255, n32_400, n32_3600, n32_m1, n64_0, n64_1, n64_2, n64_3, n64_4, n64_5, n64_9, n64_19, n64_119, n64_255, n64_400, n64_3599, n64_1000000000, n64_1000000000000, n64_m1000000000000] at c0 b0 b1 b2)
      first | contradiction | omega
    · intro b0 b1 b2 b3
      exfalso
      clear hI0 hM hX hW hY hT hE hD hU hS hB hG K M27 M28 M29 M30 M31 M32 M33 M34 M35 M36 M37 M38 M39 M40 M41 M42 M43 M44 M45 M46 M47 M48 M49 X0 X1 X2 X3 X4 X5 X6 X7 X8 X9 X10 X11 X12 X13 W0 W1 W2 Y0 Y1 Y2 Y3 Y4 Y5 Y6 Y7 Y8 Y9 K2
      (try simp only [Int32.lt_iff_toInt_lt, Int32.le_iff_toInt_le, Int64.lt_iff_toInt_lt, Int64.le_iff_toInt_le, Int32.toInt_toInt64, ← Int32.toInt_inj, ← Int64.toInt_inj, n32_0, n32_1, n32_2, n32_3, n32_4, n32_6, n32_8, n32_9, n32_10, n32_20, n32_100, n32_120, n32_255, n32_400, n32_3600, n32_m1, n64_0, n64_1, n64_2, n64_3, n64_4, n64_5, n64_9, n64_19, n64_119, n64_255, n64_400, n64_3599, n64_1000000000, n64_1000000000000, n64_m1000000000000] at c0 b0 b1 b2 b3)
      first | contradiction | omega
    · intro b0 b1 b2 b3 b4
      exfalso
      clear hI0 hM hX hW hY hT hE hD hU hS hB hG K M27 M28 M29 M30 M31 M32 M33 M34 M35 M36 M37 M38 M39 M40 M41 M42 M43 M44 M45 M46 M47 M48 M49 X0 X1 X2 X3 X4 X5 X6 X7 X8 X9 X10 X11 X12 X13 W0 W1 W2 Y0 Y1 Y2 Y3 Y4 Y5 Y6 Y7 Y8 Y9 K2
      (try simp only [Int32.lt_iff_toInt_lt, Int32.le_iff_toInt_le, Int64.lt_iff_toInt_lt, Int64.le_iff_toInt_le, Int32.toInt_toInt64, ← Int32.toInt_inj, ← Int64.toInt_inj, n32_0, n32_1, n32_2, n32_3, n32_4, n32_6, n32_8, n32_9, n32_10, n32_20, n32_100, n32_120, n32_255, n32_400, n32_3600, n32_m1, n64_0, n64_1, n64_2, n64_3, n64_4, n64_5, n64_9, n64_19, n64_119, n64_255, n64_400, n64_3599, n64_1000000000, n64_1000000000000, n64_m1000000000000] at c0 b0 b1 b2 b3 b4)
      first | contradiction | omega
    · intro b0 b1 b2 b3 b4
      exfalso
      clear hI0 hM hX hW hY hT hE hD hU hS hB hG K M27 M28 M29 M30 M31 M32 M33 M34 M35 M36 M37 M38 M39 M40 M41 M42 M43 M44 M45 M46 M47 M48 M49 X0 X1 X2 X3 X4 X5 X6 X7 X8 X9 X10 X11 X12 X13 W0 W1 W2 Y0 Y1 Y2 Y3 Y4 Y5 Y6 Y7 Y8 Y9 K2
      (try simp only [Int32.lt_iff_toInt_lt, Int32.le_iff_toInt_le, Int64.lt_iff_toInt_lt, Int64.le_iff_toInt_le, Int32.toInt_toInt64, ← Int32.toInt_inj, ← Int64.toInt_inj, n32_0, n32_1, n32_2, n32_3, n32_4, n32_6, n32_8, n32_9, n32_10, n32_20, n32_100, n32_120, n32_255, n32_400, n32_3600, n32_m1, n64_0, n64_1, n64_2, n64_3, n64_4, n64_5, n64_9, n64_19, n64_119, n64_255, n64_400, n64_3599, n64_1000000000, n64_1000000000000, n64_m1000000000000] at c0 b0 b1 b2 b3 b4)
      first | contradiction | omega
  · intro c0 c1
    refine K _ _ ⟨_, M27⟩ (fun Q2 K2 => ?_)
    refine s_X8_trip M27 M34 M35 hT20 ?_ ?_ ?_ ?_ ?_ ?_
    · intro b0
      exfalso
      clear hI0 hM hX hW hY hT hE hD hU hS hB hG K M27 M28 M29 M30 M31 M32 M33 M34 M35 M36 M37 M38 M39 M40 M41 M42 M43 M44 M45 M46 M47 M48 M49 X0 X1 X2 X3 X4 X5 X6 X7 X8 X9 X10 X11 X12 X13 W0 W1 W2 Y0 Y1 Y2 Y3 Y4 Y5 Y6 Y7 Y8 Y9 K2
      (try simp only [Int32.lt_iff_toInt_lt, Int32.le_iff_toInt_le, Int64.lt_iff_toInt_lt, Int64.le_iff_toInt_le, Int32.toInt_toInt64, ← Int32.toInt_inj, ← Int64.toInt_inj, n32_0, n32_1, n32_2, n32_3, n32_4, n32_6, n32_8, n32_9, n32_10, n32_20, n32_100, n32_120, n32_255, n32_400, n32_3600, n32_m1, n64_0, n64_1, n64_2, n64_3, n64_4, n64_5, n64_9, n64_19, n64_119, n64_255, n64_400, n64_3599, n64_1000000000, n64_1000000000000, n64_m1000000000000] at c0 c1 b0)
      first | contradiction | omega
    · intro b0 b1
      exact K2 _ (iV_up hI0)
    · intro b0 b1 b2
      exfalso
      clear hI0 hM hX hW hY hT hE hD hU hS hB hG K M27 M28 M29 M30 M31 M32 M33 M34 M35 M36 M37 M38 M39 M40 M41 M42 M43 M44 M45 M46 M47 M48 M49 X0 X1 X2 X3 X4 X5 X6 X7 X8 X9 X10 X11 X12 X13 W0 W1 W2 Y0 Y1 Y2 Y3 Y4 Y5 Y6 Y7 Y8 Y9 K2
      (try simp only [Int32.lt_iff_toInt_lt, Int32.le_iff_toInt_le, Int64.lt_iff_toInt_lt, Int64.le_iff_toInt_le, Int32.toInt_toInt64, ← Int32.toInt_inj, ← Int64.toInt_inj, n32_0, n32_1, n32_2, n32_3, n32_4, n32_6, n32_8, n32_9, n32_10, n32_20, n32_100, n32_120, n32_255, n32_400, n32_3600, n32_m1, n64_0, n64_1, n64_2, n64_3, n64_4, n64_5, n64_9, n64_19, n64_119, n64_255, n64_400, n64_3599, n64_1000000000, n64_1000000000000, n64_m1000000000000] at c0 c1 b0 b1 b2)
      first | contradiction | omega
    · intro b0 b1 b2 b3
      exfalso
      clear hI0 hM hX hW hY hT hE hD hU hS hB hG K M27 M28 M29 M30 M31 M32 M33 M34 M35 M36 M37 M38 M39 M40 M41 M42 M43 M44 M45 M46 M47 M48 M49 X0 X1 X2 X3 X4 X5 X6 X7 X8 X9 X10 X11 X12 X13 W0 W1 W2 Y0 Y1 Y2 Y3 Y4 Y5 Y6 Y7 Y8 Y9 K2
      (try simp only [Int32.lt_iff_toInt_lt, Int32.le_iff_toInt_le, Int64.lt_iff_toInt_lt, Int64.le_iff_toInt_le, Int32.toInt_toInt64, ← Int32.toInt_inj, ← Int64.toInt_inj, n32_0, n32_1, n32_2, n32_3, n32_4, n32_6, n32_8, n32_9, n32_10, n32_20, n32_100, n32_120, n32_255, n32_400, n32_3600, n32_m1, n64_0, n64_1, n64_2, n64_3, n64_4, n64_5, n64_9, n64_19, n64_119, n64_255, n64_400, n64_3599, n64_1000000000, n64_1000000000000, n64_m1000000000000] at c0 c1 b0 b1 b2 b3)
      first | contradiction | omega
    · intro b0 b1 b2 b3 b4
      exfalso
      clear hI0 hM hX hW hY hT hE hD hU hS hB hG K M27 M28 M29 M30 M31 M32 M33 M34 M35 M36 M37 M38 M39 M40 M41 M42 M43 M44 M45 M46 M47 M48 M49 X0 X1 X2 X3 X4 X5 X6 X7 X8 X9 X10 X11 X12 X13 W0 W1 W2 Y0 Y1 Y2 Y3 Y4 Y5 Y6 Y7 Y8 Y9 K2
      (try simp only [Int32.lt_iff_toInt_lt, Int32.le_iff_toInt_le, Int64.lt_iff_toInt_lt, Int64.le_iff_toInt_le, Int32.toInt_toInt64, ← Int32.toInt_inj, ← Int64.toInt_inj, n32_0, n32_1, n32_2, n32_3, n32_4, n32_6, n32_8, n32_9, n32_10, n32_20, n32_100, n32_120, n32_255, n32_400, n32_3600, n32_m1, n64_0, n64_1, n64_2, n64_3, n64_4, n64_5, n64_9, n64_19, n64_119, n64_255, n64_400, n64_3599, n64_1000000000, n64_1000000000000, n64_m1000000000000] at c0 c1 b0 b1 b2 b3 b4)
      first | contradiction | omega
    · intro b0 b1 b2 b3 b4
      exfalso
      clear hI0 hM hX hW hY hT hE hD hU hS hB hG K M27 M28 M29 M30 M31 M32 M33 M34 M35 M36 M37 M38 M39 M40 M41 M42 M43 M44 M45 M46 M47 M48 M49 X0 X1 X2 X3 X4 X5 X6 X7 X8 X9 X10 X11 X12 X13 W0 W1 W2 Y0 Y1 Y2 Y3 Y4 Y5 Y6 Y7 Y8 Y9 K2
      (try simp only [Int32.lt_iff_toInt_lt, Int32.le_iff_toInt_le, Int64.lt_iff_toInt_lt, Int64.le_iff_toInt_le, Int32.toInt_toInt64, ← Int32.toInt_inj, ← Int64.toInt_inj, n32_0, n32_1, n32_2, n32_3, n32_4, n32_6, n32_8, n32_9, n32_10, n32_20, n32_100, n32_120, n32_255, n32_400, n32_3600, n32_m1, n64_0, n64_1, n64_2, n64_3, n64_4, n64_5, n64_9, n64_19, n64_119, n64_255, n64_400, n64_3599, n64_1000000000, n64_1000000000000, n64_m1000000000000] at c0 c1 b0 b1 b2 b3 b4)
      first | contradiction | omega
  · intro c0 c1 ct2 ce2 ch2 c3
    subst ce2
    refine K _ _ ⟨_, M27⟩ (fun Q2 K2 => ?_)
    refine s_X8_trip M27 M34 M35 hT20 ?_ ?_ ?_ ?_ ?_ ?_
    · intro b0
      exfalso
      clear hI0 hM hX hW hY hT hE hD hU hS hB hG K M27 M28 M29 M30 M31 M32 M33 M34 M35 M36 M37 M38 M39 M40 M41 M42 M43 M44 M45 M46 M47 M48 M49 X0 X1 X2 X3 X4 X5 X6 X7 X8 X9 X10 X11 X12 X13 W0 W1 W2 Y0 Y1 Y2 Y3 Y4 Y5 Y6 Y7 Y8 Y9 K2
      (try simp only [Int32.lt_iff_toInt_lt, Int32.le_iff_toInt_le, Int64.lt_iff_toInt_lt, Int64.le_iff_toInt_le, Int32.toInt_toInt64, ← Int32.toInt_inj, ← Int64.toInt_inj, n32_0, n32_1, n32_2, n32_3, n32_4, n32_6, n32_8, n32_9, n32_10, n32_20, n32_100, n32_120, n32_255, n32_400, n32_3600, n32_m1, n64_0, n64_1, n64_2, n64_3, n64_4, n64_5, n64_9, n64_19, n64_119, n64_255, n64_400, n64_3599, n64_1000000000, n64_1000000000000, n64_m1000000000000] at c0 c1 c3 b0)
      first | contradiction | omega
    · intro b0 b1
      exfalso
      clear hI0 hM hX hW hY hT hE hD hU hS hB hG K M27 M28 M29 M30 M31 M32 M33 M34 M35 M36 M37 M38 M39 M40 M41 M42 M43 M44 M45 M46 M47 M48 M49 X0 X1 X2 X3 X4 X5 X6 X7 X8 X9 X10 X11 X12 X13 W0 W1 W2 Y0 Y1 Y2 Y3 Y4 Y5 Y6 Y7 Y8 Y9 K2
      (try simp only [Int32.lt_iff_toInt_lt, Int32.le_iff_toInt_le, Int64.lt_iff_toInt_lt, Int64.le_iff_toInt_le, Int32.toInt_toInt64, ← Int32.toInt_inj, ← Int64.toInt_inj, n32_0, n32_1, n32_2, n32_3, n32_4, n32_6, n32_8, n32_9, n32_10, n32_20, n32_100, n32_120, n32_255, n32_400, n32_3600, n32_m1, n64_0, n64_1, n64_2, n64_3, n64_4, n64_5, n64_9, n64_19, n64_119, n64_255, n64_400, n64_3599, n64_1000000000, n64_1000000000000, n64_m1000000000000] at c0 c1 c3 b0 b1)
      first | contradiction | omega
    · intro b0 b1 b2
      exact K2 _ (iV_up hI0)
    · intro b0 b1 b2 b3
      exfalso
      clear hI0 hM hX hW hY hT hE hD hU hS hB hG K M27 M28 M29 M30 M31 M32 M33 M34 M35 M36 M37 M38 M39 M40 M41 M42 M43 M44 M45 M46 M47 M48 M49 X0 X1 X2 X3 X4 X5 X6 X7 X8 X9 X10 X11 X12 X13 W0 W1 W2 Y0 Y1 Y2 Y3 Y4 Y5 Y6 Y7 Y8 Y9 K2
      (try simp only [Int32.lt_iff_toInt_lt, Int32.le_iff_toInt_le, Int64.lt_iff_toInt_lt, Int64.le_iff_toInt_le, Int32.toInt_toInt64, ← Int32.toInt_inj, ← Int64.toInt_inj, n32_0, n32_1, n32_2, n32_3, n32_4, n32_6, n32_8, n32_9, n32_10, n32_20, n32_100, n32_120, n32_255, n32_400, n32_3600, n32_m1, n64_0, n64_1, n64_2, n64_3, n64_4, n64_5, n64_9, n64_19, n64_119, n64_255, n64_400, n64_3599, n64_1000000000, n64_1000000000000, n64_m1000000000000] at c0 c1 c3 b0 b1 b2 b3)
      first | contradiction | omega
    · intro b0 b1 b2 b3 b4
      exfalso
      clear hI0 hM hX hW hY hT hE hD hU hS hB hG K M27 M28 M29 M30 M31 M32 M33 M34 M35 M36 M37 M38 M39 M40 M41 M42 M43 M44 M45 M46 M47 M48 M49 X0 X1 X2 X3 X4 X5 X6 X7 X8 X9 X10 X11 X12 X13 W0 W1 W2 Y0 Y1 Y2 Y3 Y4 Y5 Y6 Y7 Y8 Y9 K2
      (try simp only [Int32.lt_iff_toInt_lt, Int32.le_iff_toInt_le, Int64.lt_iff_toInt_lt, Int64.le_iff_toInt_le, Int32.toInt_toInt64, ← Int32.toInt_inj, ← Int64.toInt_inj, n32_0, n32_1, n32_2, n32_3, n32_4, n32_6, n32_8, n32_9, n32_10, n32_20, n32_100, n32_120, n32_255, n32_400, n32_3600, n32_m1, n64_0, n64_1, n64_2, n64_3, n64_4, n64_5, n64_9, n64_19, n64_119, n64_255, n64_400, n64_3599, n64_1000000000, n64_1000000000000, n64_m1000000000000] at c0 c1 c3 b0 b1 b2 b3 b4)
      first | contradiction | omega
    · intro b0 b1 b2 b3 b4
      exfalso
      clear hI0 hM hX hW hY hT hE hD hU hS hB hG K M27 M28 M29 M30 M31 M32 M33 M34 M35 M36 M37 M38 M39 M40 M41 M42 M43 M44 M45 M46 M47 M48 M49 X0 X1 X2 X3 X4 X5 X6 X7 X8 X9 X10 X11 X12 X13 W0 W1 W2 Y0 Y1 Y2 Y3 Y4 Y5 Y6 Y7 Y8 Y9 K2
      (try simp only [Int32.lt_iff_toInt_lt, Int32.le_iff_toInt_le, Int64.lt_iff_toInt_lt, Int64.le_iff_toInt_le, Int32.toInt_toInt64, ← Int32.toInt_inj, ← Int64.toInt_inj, n32_0, n32_1, n32_2, n32_3, n32_4, n32_6, n32_8, n32_9, n32_10, n32_20, n32_100, n32_120, n32_255, n32_400, n32_3600, n32_m1, n64_0, n64_1, n64_2, n64_3, n64_4, n64_5, n64_9, n64_19, n64_119, n64_255, n64_400, n64_3599, n64_1000000000, n64_1000000000000, n64_m1000000000000] at c0 c1 c3 b0 b1 b2 b3 b4)
      first | contradiction | omega
  · intro c0 c1 ct2 ce2 ch2 c3 c4
    subst ce2
    refine K _ _ ⟨_, M27⟩ (fun Q2 K2 => ?_)
    refine s_X8_trip M27 M34 M35 hT20 ?_ ?_ ?_ ?_ ?_ ?_
    · intro b0
      exfalso
      clear hI0 hM hX hW hY hT hE hD hU hS hB hG K M27 M28 M29 M30 M31 M32 M33 M34 M35 M36 M37 M38 M39 M40 M41 M42 M43 M44 M45 M46 M47 M48 M49 X0 X1 X2 X3 X4 X5 X6 X7 X8 X9 X10 X11 X12 X13 W0 W1 W2 Y0 Y1 Y2 Y3 Y4 Y5 Y6 Y7 Y8 Y9 K2
      (try simp only [Int32.lt_iff_toInt_lt, Int32.le_iff_toInt_le, Int64.lt_iff_toInt_lt, Int64.le_iff_toInt_le, Int32.toInt_toInt64, ← Int32.toInt_inj, ← Int64.toInt_inj, n32_0, n32_1, n32_2, n32_3, n32_4, n32_6, n32_8, n32_9, n32_10, n32_20, n32_100, n32_120, n32_255, n32_400, n32_3600, n32_m1, n64_0, n64_1, n64_2, n64_3, n64_4, n64_5, n64_9, n64_19, n64_119, n64_255, n64_400, n64_3599, n64_1000000000, n64_1000000000000, n64_m1000000000000] at c0 c1 c3 c4 b0)
      first | contradiction | omega
    · intro b0 b1
      exfalso
      clear hI0 hM hX hW hY hT hE hD hU hS hB hG K M27 M28 M29 M30 M31 M32 M33 M34 M35 M36 M37 M38 M39 M40 M41 M42 M43 M44 M45 M46 M47 M48 M49 X0 X1 X2 X3 X4 X5 X6 X7 X8 X9 X10 X11 X12 X13 W0 W1 W2 Y0 Y1 Y2 Y3 Y4 Y5 Y6 Y7 Y8 Y9 K2
      (try simp only [Int32.lt_iff_toInt_lt, Int32.le_iff_toInt_le, Int64.lt_iff_toInt_lt, Int64.le_iff_toInt_le, Int32.toInt_toInt64, ← Int32.toInt_inj, ← Int64.toInt_inj, n32_0, n32_1, n32_2, n32_3, n32_4, n32_6, n32_8, n32_9, n32_10, n32_20, n32_100, n32_120, n32_255, n32_400, n32_3600, n32_m1, n64_0, n64_1, n64_2, n64_3, n64_4, n64_5, n64_9, n64_19, n64_119, n64_255, n64_400, n64_3599, n64_1000000000, n64_1000000000000, n64_m1000000000000] at c0 c1 c3 c4 b0 b1)
      first | contradiction | omega
    · intro b0 b1 b2
      exfalso
      clear hI0 hM hX hW hY hT hE hD hU hS hB hG K M27 M28 M29 M30 M31 M32 M33 M34 M35 M36 M37 M38 M39 M40 M41 M42 M43 M44 M45 M46 M47 M48 M49 X0 X1 X2 X3 X4 X5 X6 X7 X8 X9 X10 X11 X12 X13 W0 W1 W2 Y0 Y1 Y2 Y3 Y4 Y5 Y6 Y7 Y8 Y9 K2
      (try simp only [Int32.lt_iff_toInt_lt, Int32.le_iff_toInt_le, Int64.lt_iff_toInt_lt, Int64.le_iff_toInt_le, Int32.toInt_toInt64, ← Int32.toInt_inj, ← Int64.toInt_inj, n32_0, n32_1, n32_2, n32_3, n32_4, n32_6, n32_8, n32_9, n32_10, n32_20, n32_100, n32_120, n32_255, n32_400, n32_3600, n32_m1, n64_0, n64_1, n64_2, n64_3, n64_4, n64_5, n64_9, n64_19, n64_119, n64_255, n64_400, n64_3599, n64_1000000000, n64_1000000000000, n64_m1000000000000] at c0 c1 c3 c4 b0 b1 b2)
      first | contradiction | omega
    · intro b0 b1 b2 b3
      exact K2 _ (iV_up hI0)
    · intro b0 b1 b2 b3 b4
      exfalso
      clear hI0 hM hX hW hY hT hE hD hU hS hB hG K M27 M28 M29 M30 M31 M32 M33 M34 M35 M36 M37 M38 M39 M40 M41 M42 M43 M44 M45 M46 M47 M48 M49 X0 X1 X2 X3 X4 X5 X6 X7 X8 X9 X10 X11 X12 X13 W0 W1 W2 Y0 Y1 Y2 Y3 Y4 Y5 Y6 Y7 Y8 Y9 K2
      (try simp only [Int32.lt_iff_toInt_lt, Int32.le_iff_toInt_le, Int64.lt_iff_toInt_lt, Int64.le_iff_toInt_le, Int32.toInt_toInt64, ← Int32.toInt_inj, ← Int64.toInt_inj, n32_0, n32_1, n32_2, n32_3, n32_4, n32_6, n32_8, n32_9, n32_10, n32_20, n32_100, n32_120, n32_255, n32_400, n32_3600, n32_m1, n64_0, n64_1, n64_2, n64_3, n64_4, n64_5, n64_9, n64_19, n64_119, n64_255, n64_400, n64_3599, n64_1000000000, n64_1000000000000, n64_m1000000000000] at c0 c1 c3 c4 b0 b1 b2 b3 b4)
      first | contradiction | omega
    · intro b0 b1 b2 b3 b4
      exfalso
      clear hI0 hM hX hW hY hT hE hD hU hS hB hG K M27 M28 M29 M30 M31 M32 M33 M34 M35 M36 M37 M38 M39 M40 M41 M42 M43 M44 M45 M46 M47 M48 M49 X0 X1 X2 X3 X4 X5 X6 X7 X8 X9 X10 X11 X12 X13 W0 W1 W2 Y0 Y1 Y2 Y3 Y4 Y5 Y6 Y7 Y8 Y9 K2
      (try simp only [Int32.lt_iff_toInt_lt, Int32.le_iff_toInt_le, Int64.lt_iff_toInt_lt, Int64.le_iff_toInt_le, Int32.toInt_toInt64, ← Int32.toInt_inj, ← Int64.toInt_inj, n32_0, n32_1, n32_2, n32_3, n32_4, n32_6, n32_8, n32_9, n32_10, n32_20, n32_100, n32_120, n32_255, n32_400, n32_3600, n32_m1, n64_0, n64_1, n64_2, n64_3, n64_4, n64_5, n64_9, n64_19, n64_119, n64_255, n64_400, n64_3599, n64_1000000000, n64_1000000000000, n64_m1000000000000] at c0 c1 c3 c4 b0 b1 b2 b3 b4)
      first | contradiction | omega
  · intro c0 c1 ct2 ce2 ch2 c3 c4 c5
    subst ce2
    refine K _ _ ⟨_, (j_hn (by decide) (j_hn (by decide) (j_hn (by omega) (j_hn (by omega) (j_hn (by omega) (j_hn (by omega) (j_hn (by omega) (j_hn (by omega) (j_hn (by omega) (j_hn (by omega) (j_hn (by omega) M27)))))))))))⟩ (fun Q2 K2 => ?_)
    refine s_X8_trip (j_hn (by decide) (j_hn (by decide) (j_hn (by omega) (j_hn (by omega) (j_hn (by omega) (j_hn (by omega) (j_hn (by omega) (j_hn (by omega) (j_hn (by omega) (j_hn (by omega) (j_hn (by omega) M27))))))))))) (j_hn (by decide) (j_hn (by decide) (j_hn (by omega) (j_hn (by omega) (j_hn (by omega) (j_hn (by omega) (j_hn (by omega) (j_hn (by omega) (j_hn (by omega) (j_hn (by omega) (j_hn (by omega) M34))))))))))) (j_hn (by decide) (j_hn (by decide) (j_hn (by omega) (j_hn (by omega) (j_hn (by omega) (j_hn (by omega) (j_hn (by omega) (j_hn (by omega) (j_hn (by omega) (j_hn (by omega) (j_hn (by omega) M35))))))))))) hT20 ?_ ?_ ?_ ?_ ?_ ?_
    · intro b0
      exfalso
      clear hI0 hM hX hW hY hT hE hD hU hS hB hG K M27 M28 M29 M30 M31 M32 M33 M34 M35 M36 M37 M38 M39 M40 M41 M42 M43 M44 M45 M46 M47 M48 M49 X0 X1 X2 X3 X4 X5 X6 X7 X8 X9 X10 X11 X12 X13 W0 W1 W2 Y0 Y1 Y2 Y3 Y4 Y5 Y6 Y7 Y8 Y9 K2
      (try simp only [Int32.lt_iff_toInt_lt, Int32.le_iff_toInt_le, Int64.lt_iff_toInt_lt, Int64.le_iff_toInt_le, Int32.toInt_toInt64, ← Int32.toInt_inj, ← Int64.toInt_inj, n32_0, n32_1, n32_2, n32_3, n32_4, n32_6, n32_8, n32_9, n32_10, n32_20, n32_100, n32_120, n32_255, n32_400, n32_3600, n32_m1, n64_0, n64_1, n64_2, n64_3, n64_4, n64_5, n64_9, n64_19, n64_119, n64_255, n64_400, n64_3599, n64_1000000000, n64_1000000000000, n64_m1000000000000] at c0 c1 c3 c4 c5 b0)
      first | contradiction | omega
    · intro b0 b1
      exfalso
      clear hI0 hM hX hW hY hT hE hD hU hS hB hG K M27 M28 M29 M30 M31 M32 M33 M34 M35 M36 M37 M38 M39 M40 M41 M42 M43 M44 M45 M46 M47 M48 M49 X0 X1 X2 X3 X4 X5 X6 X7 X8 X9 X10 X11 X12 X13 W0 W1 W2 Y0 Y1 Y2 Y3 Y4 Y5 Y6 Y7 Y8 Y9 K2
      (try simp only [Int32.lt_iff_toInt_lt, Int32.le_iff_toInt_le, Int64.lt_iff_toInt_lt, Int64.le_iff_toInt_le, Int32.toInt_toInt64, ← Int32.toInt_inj, ← Int64.toInt_inj, n32_0, n32_1, n32_2, n32_3, n32_4, n32_6, n32_8, n32_9, n32_10, n32_20, n32_100, n32_120, n32_255, n32_400, n32_3600, n32_m1, n64_0, n64_1, n64_2, n64_3, n64_4, n64_5, n64_9, n64_19, n64_119, n64_255, n64_400, n64_3599, n64_1000000000, n64_1000000000000, n64_m1000000000000] at c0 c1 c3 c4 c5 b0 b1)
      first | contradiction | omega
    · intro b0 b1 b2
      exfalso
      clear hI0 hM hX hW hY hT hE hD hU hS hB hG K M27 M28 M29 M30 M31 M32 M33 M34 M35 M36 M37 M38 M39 M40 M41 M42 M43 M44 M45 M46 M47 M48 M49 X0 X1 X2 X3 X4 X5 X6 X7 X8 X9 X10 X11 X12 X13 W0 W1 W2 Y0 Y1 Y2 Y3 Y4 Y5 Y6 Y7 Y8 Y9 K2
      (try simp only [Int32.lt_iff_toInt_lt, Int32.le_iff_toInt_le, Int64.lt_iff_toInt_lt, Int64.le_iff_toInt_le, Int32.toInt_toInt64, ← Int32.toInt_inj, ← Int64.toInt_inj, n32_0, n32_1, n32_2, n32_3, n32_4, n32_6, n32_8, n32_9, n32_10, n32_20, n32_100, n32_120, n32_255, n32_400, n32_3600, n32_m1, n64_0, n64_1, n64_2, n64_3, n64_4, n64_5, n64_9, n64_19, n64_119, n64_255, n64_400, n64_3599, n64_1000000000, n64_1000000000000, n64_m1000000000000] at c0 c1 c3 c4 c5 b0 b1 b2)
      first | contradiction | omega
    · intro b0 b1 b2 b3
      exfalso
      clear hI0 hM hX hW hY hT hE hD hU hS hB hG K M27 M28 M29 M30 M31 M32 M33 M34 M35 M36 M37 M38 M39 M40 M41 M42 M43 M44 M45 M46 M47 M48 M49 X0 X1 X2 X3 X4 X5 X6 X7 X8 X9 X10 X11 X12 X13 W0 W1 W2 Y0 Y1 Y2 Y3 Y4 Y5 Y6 Y7 Y8 Y9 K2
      (try simp only [Int32.lt_iff_toInt_lt, Int32.le_iff_toInt_le, Int64.lt_iff_toInt_lt, Int64.le_iff_toInt_le, Int32.toInt_toInt64, ← Int32.toInt_inj, ← Int64.toInt_inj, n32_0, n32_1, n32_2, n32_3, n32_4, n32_6, n32_8, n32_9, n32_10, n32_20, n32_100, n32_120, n32_255, n32_400, n32_3600, n32_m1, n64_0, n64_1, n64_2, n64_3, n64_4, n64_5, n64_9, n64_19, n64_119, n64_255, n64_400, n64_3599, n64_1000000000, n64_1000000000000, n64_m1000000000000] at c0 c1 c3 c4 c5 b0 b1 b2 b3)
      first | contradiction | omega
    · intro b0 b1 b2 b3 b4
      refine K2 _ (fun X k => ?_)
      exact k L P (T + 1) E C R R0 n ru dq dr op at_ fr wd ws we wn dd tx rs fs ro (va_up sh T (nI ct2)) dy se ey er tk tn ac f1 f2 f3 f4 g1 g2 g3 g4 da lo ad (va_up sa T v) co pa ss w1 w2 w3 am pw ps cu dm (va_up ta T (some h.1)) ea (va_up shp T ct2) (va_up tb T h.1) eb rr rn (va_up cst T (fun _ => 0)) (va_up prt T (fun _ => 0)) eam (va_up dys T (fun _ => 0)) eac (va_up shs T (fun _ _ => 0)) (⟨j_hs, (j_hn (by decide) (j_hn (by decide) (j_hn (by decide) (j_hn (by decide) (j_hn (by decide) (j_hn (by omega) (j_hn (by omega) (j_hn (by omega) (j_hn (by omega) (j_hn (by omega) (j_hn (by omega) (j_hn (by omega) (j_hn (by omega) (j_hn (by omega) M28)))))))))))))), (j_hn (by decide) (j_hn (by decide) (j_hn (by decide) (j_hn (by decide) (j_hn (by decide) (j_hn (by omega) (j_hn (by omega) (j_hn (by omega) (j_hn (by omega) (j_hn (by omega) (j_hn (by omega) (j_hn (by omega) (j_hn (by omega) (j_hn (by omega) M29)))))))))))))), (j_hn (by decide) (j_hn (by decide) (j_hn (by decide) (j_hn (by decide) (j_hn (by decide) (j_hn (by omega) (j_hn (by omega) (j_hn (by omega) (j_hn (by omega) (j_hn (by omega) (j_hn (by omega) (j_hn (by omega) (j_hn (by omega) (j_hn (by omega) M30)))))))))))))), (j_hn (by decide) (j_hn (by decide) (j_hn (by decide) (j_hn (by decide) (j_hn (by decide) (j_hn (by omega) (j_hn (by omega) (j_hn (by omega) (j_hn (by omega) (j_hn (by omega) (j_hn (by omega) (j_hn (by omega) (j_hn (by omega) (j_hn (by omega) M31)))))))))))))), (j_hn (by decide) (j_hn (by decide) (j_hn (by decide) (j_hn (by decide) (j_hn (by decide) (j_hn (by omega) (j_hn (by omega) (j_hn (by omega) (j_hn (by omega) (j_hn (by omega) (j_hn (by omega) (j_hn (by omega) (j_hn (by omega) (j_hn (by omega) M32)))))))))))))), (j_hn (by decide) (j_hn (by decide) (j_hn (by decide) (j_hn (by decide) (j_hn (by decide) (j_hn (by omega) (j_hn (by omega) (j_hn (by omega) (j_hn (by omega) (j_hn (by omega) (j_hn (by omega) (j_hn (by omega) (j_hn (by omega) (j_hn (by omega) M33)))))))))))))), (j_hn (by decide) (j_hn (by decide) j_hs)), (j_hn (by decide) j_hs), (j_hn (by decide) (j_hn (by decide) (j_hn (by decide) (j_hn (by decide) (j_hn (by decide) (j_hn (by omega) (j_hn (by omega) (j_hn (by omega) (j_hn (by omega) (j_hn (by omega) (j_hn (by omega) (j_hn (by omega) (j_hn (by omega) (j_hn (by omega) M36)))))))))))))), (j_hn (by decide) (j_hn (by decide) (j_hn (by decide) (j_hn (by decide) (j_hn (by decide) (j_hn (by omega) (j_hn (by omega) (j_hn (by omega) (j_hn (by omega) (j_hn (by omega) (j_hn (by omega) (j_hn (by omega) (j_hn (by omega) (j_hn (by omega) M37)))))))))))))), (j_hn (by decide) (j_hn (by decide) (j_hn (by decide) (j_hn (by decide) (j_hn (by decide) (j_hn (by omega) (j_hn (by omega) (j_hn (by omega) (j_hn (by omega) (j_hn (by omega) (j_hn (by omega) (j_hn (by omega) (j_hn (by omega) (j_hn (by omega) M38)))))))))))))), (j_hn (by decide) (j_hn (by decide) (j_hn (by decide) (j_hn (by decide) (j_hn (by decide) (j_hn (by omega) (j_hn (by omega) (j_hn (by omega) (j_hn (by omega) (j_hn (by omega) (j_hn (by omega) (j_hn (by omega) (j_hn (by omega) (j_hn (by omega) M39)))))))))))))), (j_hn (by decide) (j_hn (by decide) (j_hn (by decide) (j_hn (by decide) (j_hn (by decide) (j_hn (by omega) (j_hn (by omega) (j_hn (by omega) (j_hn (by omega) (j_hn (by omega) (j_hn (by omega) (j_hn (by omega) (j_hn (by omega) (j_hn (by omega) M40)))))))))))))), (j_hn (by decide) (j_hn (by decide) (j_hn (by decide) (j_hn (by decide) (j_hn (by decide) (j_hn (by omega) (j_hn (by omega) (j_hn (by omega) (j_hn (by omega) (j_hn (by omega) (j_hn (by omega) (j_hn (by omega) (j_hn (by omega) (j_hn (by omega) M41)))))))))))))), (j_hn (by decide) (j_hn (by decide) (j_hn (by decide) (j_hn (by decide) (j_hn (by decide) (j_hn (by omega) (j_hn (by omega) (j_hn (by omega) (j_hn (by omega) (j_hn (by omega) (j_hn (by omega) (j_hn (by omega) (j_hn (by omega) (j_hn (by omega) M42)))))))))))))), (j_hn (by decide) (j_hn (by decide) (j_hn (by decide) (j_hn (by decide) (j_hn (by decide) (j_hn (by omega) (j_hn (by omega) (j_hn (by omega) (j_hn (by omega) (j_hn (by omega) (j_hn (by omega) (j_hn (by omega) (j_hn (by omega) (j_hn (by omega) M43)))))))))))))), (j_hn (by decide) (j_hn (by decide) (j_hn (by decide) (j_hn (by decide) (j_hn (by decide) (j_hn (by omega) (j_hn (by omega) (j_hn (by omega) (j_hn (by omega) (j_hn (by omega) (j_hn (by omega) (j_hn (by omega) (j_hn (by omega) (j_hn (by omega) M44)))))))))))))), (j_hn (by decide) (j_hn (by decide) (j_hn (by decide) (j_hn (by decide) (j_hn (by decide) (j_hn (by omega) (j_hn (by omega) (j_hn (by omega) (j_hn (by omega) (j_hn (by omega) (j_hn (by omega) (j_hn (by omega) (j_hn (by omega) (j_hn (by omega) M45)))))))))))))), (j_hn (by decide) (j_hn (by decide) (j_hn (by decide) (j_hn (by decide) (j_hn (by decide) (j_hn (by omega) (j_hn (by omega) (j_hn (by omega) (j_hn (by omega) (j_hn (by omega) (j_hn (by omega) (j_hn (by omega) (j_hn (by omega) (j_hn (by omega) M46)))))))))))))), (j_hn (by decide) (j_hn (by decide) (j_hn (by decide) (j_hn (by decide) (j_hn (by decide) (j_hn (by omega) (j_hn (by omega) (j_hn (by omega) (j_hn (by omega) (j_hn (by omega) (j_hn (by omega) (j_hn (by omega) (j_hn (by omega) (j_hn (by omega) M47)))))))))))))), (j_hn (by decide) (j_hn (by decide) (j_hn (by decide) (j_hn (by decide) (j_hn (by decide) (j_hn (by omega) (j_hn (by omega) (j_hn (by omega) (j_hn (by omega) (j_hn (by omega) (j_hn (by omega) (j_hn (by omega) (j_hn (by omega) (j_hn (by omega) M48)))))))))))))), (j_hn (by decide) (j_hn (by decide) (j_hn (by decide) (j_hn (by decide) (j_hn (by decide) (j_hn (by omega) (j_hn (by omega) (j_hn (by omega) (j_hn (by omega) (j_hn (by omega) (j_hn (by omega) (j_hn (by omega) (j_hn (by omega) (j_hn (by omega) M49))))))))))))))⟩) (⟨(j_hn (by decide) (j_hn (by decide) (j_hn (by decide) j_hs))), (j_hn (by decide) (j_hn (by decide) (j_hn (by decide) (j_hn (by decide) (j_hn (by decide) (j_hn (by omega) (j_hn (by omega) (j_hn (by omega) (j_hn (by omega) (j_hn (by omega) (j_hn (by omega) (j_hn (by omega) (j_hn (by omega) (j_hn (by omega) X1)))))))))))))), (j_hn (by decide) (j_hn (by decide) (j_hn (by decide) (j_hn (by decide) (j_hn (by decide) (j_hn (by omega) (j_hn (by omega) (j_hn (by omega) (j_hn (by omega) (j_hn (by omega) (j_hn (by omega) (j_hn (by omega) (j_hn (by omega) (j_hn (by omega) X2)))))))))))))), (j_hn (by decide) (j_hn (by decide) (j_hn (by decide) (j_hn (by decide) (j_hn (by decide) (j_hn (by omega) (j_hn (by omega) (j_hn (by omega) (j_hn (by omega) (j_hn (by omega) (j_hn (by omega) (j_hn (by omega) (j_hn (by omega) (j_hn (by omega) X3)))))))))))))), (j_hn (by decide) (j_hn (by decide) (j_hn (by decide) (j_hn (by decide) (j_hn (by decide) (j_hn (by omega) (j_hn (by omega) (j_hn (by omega) (j_hn (by omega) (j_hn (by omega) (j_hn (by omega) (j_hn (by omega) (j_hn (by omega) (j_hn (by omega) X4)))))))))))))), (j_hn (by decide) (j_hn (by decide) (j_hn (by decide) (j_hn (by decide) (j_hn (by decide) (j_hn (by omega) (j_hn (by omega) (j_hn (by omega) (j_hn (by omega) (j_hn (by omega) (j_hn (by omega) (j_hn (by omega) (j_hn (by omega) (j_hn (by omega) X5)))))))))))))), (j_hn (by decide) (j_hn (by decide) (j_hn (by decide) (j_hn (by decide) (j_hn (by decide) (j_hn (by omega) (j_hn (by omega) (j_hn (by omega) (j_hn (by omega) (j_hn (by omega) (j_hn (by omega) (j_hn (by omega) (j_hn (by omega) (j_hn (by omega) X6)))))))))))))), (j_hn (by decide) (j_hn (by decide) (j_hn (by decide) (j_hn (by decide) j_hs)))), (j_hn (by decide) (j_hn (by decide) (j_hn (by decide) (j_hn (by decide) (j_hn (by decide) (j_hn (by omega) (j_hn (by omega) (j_hn (by omega) (j_hn (by omega) (j_hn (by omega) (j_hn (by omega) (j_hn (by omega) (j_hn (by omega) (j_hn (by omega) X8)))))))))))))), (j_hn (by decide) (j_hn (by decide) (j_hn (by decide) (j_hn (by decide) (j_hn (by decide) (j_hn (by omega) (j_hn (by omega) (j_hn (by omega) (j_hn (by omega) (j_hn (by omega) (j_hn (by omega) (j_hn (by omega) (j_hn (by omega) (j_hn (by omega) X9)))))))))))))), (j_hn (by decide) (j_hn (by decide) (j_hn (by decide) (j_hn (by decide) (j_hn (by decide) (j_hn (by omega) (j_hn (by omega) (j_hn (by omega) (j_hn (by omega) (j_hn (by omega) (j_hn (by omega) (j_hn (by omega) (j_hn (by omega) (j_hn (by omega) X10)))))))))))))), (j_hn (by decide) (j_hn (by decide) (j_hn (by decide) (j_hn (by decide) (j_hn (by decide) (j_hn (by omega) (j_hn (by omega) (j_hn (by omega) (j_hn (by omega) (j_hn (by omega) (j_hn (by omega) (j_hn (by omega) (j_hn (by omega) (j_hn (by omega) X11)))))))))))))), (j_hn (by decide) (j_hn (by decide) (j_hn (by decide) (j_hn (by decide) (j_hn (by decide) (j_hn (by omega) (j_hn (by omega) (j_hn (by omega) (j_hn (by omega) (j_hn (by omega) (j_hn (by omega) (j_hn (by omega) (j_hn (by omega) (j_hn (by omega) X12)))))))))))))), (j_hn (by decide) (j_hn (by decide) (j_hn (by decide) (j_hn (by decide) (j_hn (by decide) (j_hn (by omega) (j_hn (by omega) (j_hn (by omega) (j_hn (by omega) (j_hn (by omega) (j_hn (by omega) (j_hn (by omega) (j_hn (by omega) (j_hn (by omega) X13))))))))))))))⟩) ((iW_lo hD (by decide) (iW_lo hD (by decide) (iW_lo hD (by decide) (iW_lo hD (by decide) (iW_lo hD (by decide) (iW_set (iW_set (iW_set (iW_set (iW_set (iW_set (iW_set (iW_set (iW_set hW (by omega)) (by omega)) (by omega)) (by omega)) (by omega)) (by omega)) (by omega)) (by omega)) (by omega)))))))) ((iY_set (iY_set (iY_set (iY_set (iY_set (iY_set (iY_set (iY_set (iY_set (iY_set (iY_set (iY_set (iY_set (iY_set hY hrd (by omega)) hrd (by omega)) hrd (by omega)) hrd (by omega)) hrd (by omega)) hrd (by omega)) hrd (by omega)) hrd (by omega)) hrd (by omega)) hrd (by decide)) hrd (by decide)) hrd (by decide)) hrd (by decide)) hrd (by decide))) (iT_add (iT_lo hD (by decide) (iT_lo hD (by decide) (iT_lo hD (by decide) (iT_lo hD (by decide) (iT_lo hD (by decide) (iT_set (iT_set (iT_set (iT_set (iT_set (iT_set (iT_set (iT_set (iT_set hT (fun t ht => by have q := (hD.2.1 t ht).2; omega)) (fun t ht => by have q := (hD.2.1 t ht).2; omega)) (fun t ht => by have q := (hD.2.1 t ht).2; omega)) (fun t ht => by have q := (hD.2.1 t ht).2; omega)) (fun t ht => by have q := (hD.2.1 t ht).2; omega)) (fun t ht => by have q := (hD.2.1 t ht).2; omega)) (fun t ht => by have q := (hD.2.1 t ht).2; omega)) (fun t ht => by have q := (hD.2.1 t ht).2; omega)) (fun t ht => by have q := (hD.2.1 t ht).2; omega))))))) (hS.2.1 T (Nat.le_refl T) (by omega)).1 (j_hn (by omega) (j_hn (by omega) (j_hn (by omega) (j_hn (by omega) (j_hn (by omega) (j_hn (by omega) (j_hn (by omega) (j_hn (by omega) (j_hn (by omega) (j_hn (by omega) (j_hn (by omega) (j_hn (by omega) (j_hn (by omega) j_hs))))))))))))) (j_hn (by omega) (j_hn (by omega) (j_hn (by omega) (j_hn (by omega) (j_hn (by omega) (j_hn (by omega) (j_hn (by omega) (j_hn (by omega) (j_hn (by omega) (j_hn (by omega) (j_hn (by omega) (j_hn (by omega) j_hs)))))))))))) (j_hn (by omega) (j_hn (by omega) (j_hn (by omega) (j_hn (by omega) (j_hn (by omega) (j_hn (by omega) (j_hn (by omega) (j_hn (by omega) (j_hn (by omega) (j_hn (by omega) (j_hn (by omega) j_hs))))))))))) (j_hn (by omega) (j_hn (by omega) (j_hn (by omega) (j_hn (by omega) (j_hn (by omega) (j_hn (by omega) (j_hn (by omega) (j_hn (by omega) (j_hn (by omega) (j_hn (by omega) j_hs)))))))))) (j_hn (by omega) (j_hn (by omega) (j_hn (by omega) (j_hn (by omega) (j_hn (by omega) (j_hn (by omega) (j_hn (by omega) (j_hn (by omega) (j_hn (by omega) j_hs))))))))) (j_hn (by omega) (j_hn (by omega) (j_hn (by omega) (j_hn (by omega) (j_hn (by omega) (j_hn (by omega) (j_hn (by omega) (j_hn (by omega) j_hs)))))))) (j_hn (by omega) (j_hn (by omega) (j_hn (by omega) (j_hn (by omega) (j_hn (by omega) (j_hn (by omega) (j_hn (by omega) j_hs))))))) (j_hn (by omega) (j_hn (by omega) (j_hn (by omega) (j_hn (by omega) (j_hn (by omega) (j_hn (by omega) j_hs)))))) (j_hn (by omega) (j_hn (by omega) (j_hn (by omega) (j_hn (by omega) (j_hn (by omega) j_hs)))))) ((iE_lo hD (by decide) (iE_lo hD (by decide) (iE_lo hD (by decide) (iE_lo hD (by decide) (iE_lo hD (by decide) (iE_set (iE_set (iE_set (iE_set (iE_set (iE_set (iE_set (iE_set (iE_set hE (fun e he => by have q := (hD.2.2.2.1 e he).2; omega)) (fun e he => by have q := (hD.2.2.2.1 e he).2; omega)) (fun e he => by have q := (hD.2.2.2.1 e he).2; omega)) (fun e he => by have q := (hD.2.2.2.1 e he).2; omega)) (fun e he => by have q := (hD.2.2.2.1 e he).2; omega)) (fun e he => by have q := (hD.2.2.2.1 e he).2; omega)) (fun e he => by have q := (hD.2.2.2.1 e he).2; omega)) (fun e he => by have q := (hD.2.2.2.1 e he).2; omega)) (fun e he => by have q := (hD.2.2.2.1 e he).2; omega)))))))) (iD_trip hD) (⟨hL, hP, (by omega), hE60, hC, hR, hR0, hn, hrd, hop⟩) (hU) (iS_trip hS (by omega) ch2 (by simp only [Int32.lt_iff_toInt_lt, Int32.le_iff_toInt_le, Int64.lt_iff_toInt_lt, Int64.le_iff_toInt_le, Int32.toInt_toInt64, ← Int32.toInt_inj, ← Int64.toInt_inj, n32_0, n32_1, n32_2, n32_3, n32_4, n32_6, n32_8, n32_9, n32_10, n32_20, n32_100, n32_120, n32_255, n32_400, n32_3600, n32_m1, n64_0, n64_1, n64_2, n64_3, n64_4, n64_5, n64_9, n64_19, n64_119, n64_255, n64_400, n64_3599, n64_1000000000, n64_1000000000000, n64_m1000000000000] at c3; omega) (by simp only [Int32.lt_iff_toInt_lt, Int32.le_iff_toInt_le, Int64.lt_iff_toInt_lt, Int64.le_iff_toInt_le, Int32.toInt_toInt64, ← Int32.toInt_inj, ← Int64.toInt_inj, n32_0, n32_1, n32_2, n32_3, n32_4, n32_6, n32_8, n32_9, n32_10, n32_20, n32_100, n32_120, n32_255, n32_400, n32_3600, n32_m1, n64_0, n64_1, n64_2, n64_3, n64_4, n64_5, n64_9, n64_19, n64_119, n64_255, n64_400, n64_3599, n64_1000000000, n64_1000000000000, n64_m1000000000000] at c4; omega)) (hB)
    · intro b0 b1 b2 b3 b4
      exfalso
      clear hI0 hM hX hW hY hT hE hD hU hS hB hG K M27 M28 M29 M30 M31 M32 M33 M34 M35 M36 M37 M38 M39 M40 M41 M42 M43 M44 M45 M46 M47 M48 M49 X0 X1 X2 X3 X4 X5 X6 X7 X8 X9 X10 X11 X12 X13 W0 W1 W2 Y0 Y1 Y2 Y3 Y4 Y5 Y6 Y7 Y8 Y9 K2
      (try simp only [Int32.lt_iff_toInt_lt, Int32.le_iff_toInt_le, Int64.lt_iff_toInt_lt, Int64.le_iff_toInt_le, Int32.toInt_toInt64, ← Int32.toInt_inj, ← Int64.toInt_inj, n32_0, n32_1, n32_2, n32_3, n32_4, n32_6, n32_8, n32_9, n32_10, n32_20, n32_100, n32_120, n32_255, n32_400, n32_3600, n32_m1, n64_0, n64_1, n64_2, n64_3, n64_4, n64_5, n64_9, n64_19, n64_119, n64_255, n64_400, n64_3599, n64_1000000000, n64_1000000000000, n64_m1000000000000] at c0 c1 c3 c4 c5 b0 b1 b2 b3 b4)
      first | contradiction | omega
  · intro c0 c1 ct2 ce2 ch2 c3 c4 c5
    subst ce2
    refine K _ _ ⟨_, M27⟩ (fun Q2 K2 => ?_)
    refine s_X8_trip M27 M34 M35 hT20 ?_ ?_ ?_ ?_ ?_ ?_
    · intro b0
      exfalso
      clear hI0 hM hX hW hY hT hE hD hU hS hB hG K M27 M28 M29 M30 M31 M32 M33 M34 M35 M36 M37 M38 M39 M40 M41 M42 M43 M44 M45 M46 M47 M48 M49 X0 X1 X2 X3 X4 X5 X6 X7 X8 X9 X10 X11 X12 X13 W0 W1 W2 Y0 Y1 Y2 Y3 Y4 Y5 Y6 Y7 Y8 Y9 K2
      (try simp only [Int32.lt_iff_toInt_lt, Int32.le_iff_toInt_le, Int64.lt_iff_toInt_lt, Int64.le_iff_toInt_le, Int32.toInt_toInt64, ← Int32.toInt_inj, ← Int64.toInt_inj, n32_0, n32_1, n32_2, n32_3, n32_4, n32_6, n32_8, n32_9, n32_10, n32_20, n32_100, n32_120, n32_255, n32_400, n32_3600, n32_m1, n64_0, n64_1, n64_2, n64_3, n64_4, n64_5, n64_9, n64_19, n64_119, n64_255, n64_400, n64_3599, n64_1000000000, n64_1000000000000, n64_m1000000000000] at c0 c1 c3 c4 c5 b0)
      first | contradiction | omega
    · intro b0 b1
      exfalso
      clear hI0 hM hX hW hY hT hE hD hU hS hB hG K M27 M28 M29 M30 M31 M32 M33 M34 M35 M36 M37 M38 M39 M40 M41 M42 M43 M44 M45 M46 M47 M48 M49 X0 X1 X2 X3 X4 X5 X6 X7 X8 X9 X10 X11 X12 X13 W0 W1 W2 Y0 Y1 Y2 Y3 Y4 Y5 Y6 Y7 Y8 Y9 K2
      (try simp only [Int32.lt_iff_toInt_lt, Int32.le_iff_toInt_le, Int64.lt_iff_toInt_lt, Int64.le_iff_toInt_le, Int32.toInt_toInt64, ← Int32.toInt_inj, ← Int64.toInt_inj, n32_0, n32_1, n32_2, n32_3, n32_4, n32_6, n32_8, n32_9, n32_10, n32_20, n32_100, n32_120, n32_255, n32_400, n32_3600, n32_m1, n64_0, n64_1, n64_2, n64_3, n64_4, n64_5, n64_9, n64_19, n64_119, n64_255, n64_400, n64_3599, n64_1000000000, n64_1000000000000, n64_m1000000000000] at c0 c1 c3 c4 c5 b0 b1)
      first | contradiction | omega
    · intro b0 b1 b2
      exfalso
      clear hI0 hM hX hW hY hT hE hD hU hS hB hG K M27 M28 M29 M30 M31 M32 M33 M34 M35 M36 M37 M38 M39 M40 M41 M42 M43 M44 M45 M46 M47 M48 M49 X0 X1 X2 X3 X4 X5 X6 X7 X8 X9 X10 X11 X12 X13 W0 W1 W2 Y0 Y1 Y2 Y3 Y4 Y5 Y6 Y7 Y8 Y9 K2
      (try simp only [Int32.lt_iff_toInt_lt, Int32.le_iff_toInt_le, Int64.lt_iff_toInt_lt, Int64.le_iff_toInt_le, Int32.toInt_toInt64, ← Int32.toInt_inj, ← Int64.toInt_inj, n32_0, n32_1, n32_2, n32_3, n32_4, n32_6, n32_8, n32_9, n32_10, n32_20, n32_100, n32_120, n32_255, n32_400, n32_3600, n32_m1, n64_0, n64_1, n64_2, n64_3, n64_4, n64_5, n64_9, n64_19, n64_119, n64_255, n64_400, n64_3599, n64_1000000000, n64_1000000000000, n64_m1000000000000] at c0 c1 c3 c4 c5 b0 b1 b2)
      first | contradiction | omega
    · intro b0 b1 b2 b3
      exfalso
      clear hI0 hM hX hW hY hT hE hD hU hS hB hG K M27 M28 M29 M30 M31 M32 M33 M34 M35 M36 M37 M38 M39 M40 M41 M42 M43 M44 M45 M46 M47 M48 M49 X0 X1 X2 X3 X4 X5 X6 X7 X8 X9 X10 X11 X12 X13 W0 W1 W2 Y0 Y1 Y2 Y3 Y4 Y5 Y6 Y7 Y8 Y9 K2
      (try simp only [Int32.lt_iff_toInt_lt, Int32.le_iff_toInt_le, Int64.lt_iff_toInt_lt, Int64.le_iff_toInt_le, Int32.toInt_toInt64, ← Int32.toInt_inj, ← Int64.toInt_inj, n32_0, n32_1, n32_2, n32_3, n32_4, n32_6, n32_8, n32_9, n32_10, n32_20, n32_100, n32_120, n32_255, n32_400, n32_3600, n32_m1, n64_0, n64_1, n64_2, n64_3, n64_4, n64_5, n64_9, n64_19, n64_119, n64_255, n64_400, n64_3599, n64_1000000000, n64_1000000000000, n64_m1000000000000] at c0 c1 c3 c4 c5 b0 b1 b2 b3)
      first | contradiction | omega
    · intro b0 b1 b2 b3 b4
      exfalso
      clear hI0 hM hX hW hY hT hE hD hU hS hB hG K M27 M28 M29 M30 M31 M32 M33 M34 M35 M36 M37 M38 M39 M40 M41 M42 M43 M44 M45 M46 M47 M48 M49 X0 X1 X2 X3 X4 X5 X6 X7 X8 X9 X10 X11 X12 X13 W0 W1 W2 Y0 Y1 Y2 Y3 Y4 Y5 Y6 Y7 Y8 Y9 K2
      (try simp only [Int32.lt_iff_toInt_lt, Int32.le_iff_toInt_le, Int64.lt_iff_toInt_lt, Int64.le_iff_toInt_le, Int32.toInt_toInt64, ← Int32.toInt_inj, ← Int64.toInt_inj, n32_0, n32_1, n32_2, n32_3, n32_4, n32_6, n32_8, n32_9, n32_10, n32_20, n32_100, n32_120, n32_255, n32_400, n32_3600, n32_m1, n64_0, n64_1, n64_2, n64_3, n64_4, n64_5, n64_9, n64_19, n64_119, n64_255, n64_400, n64_3599, n64_1000000000, n64_1000000000000, n64_m1000000000000] at c0 c1 c3 c4 c5 b0 b1 b2 b3 b4)
      first | contradiction | omega
    · intro b0 b1 b2 b3 b4
      exact K2 _ (iV_up hI0)
