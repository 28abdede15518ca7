set_option maxRecDepth 20000 in
theorem r_drop {l : Launch} {G : jG} {h : jH} {Q : Option Value → jH → Prop} {c : Nat}  (hc : c < 512) (hG : j_gok G) (hI : iV c h) (K : ∀ (vv : Int32) (h1 : jH), (∃ fs, h1.2 27 = some (jO 8 fs)) → (∀ Q2 : Option Value → jH → Prop, (∀ h2, iV (c + 1) h2 → Q2 (some (.int vv)) h2) → J l G mX8_drop 0 0 0 (lv_args 0 [.ref 27]) [] h1 Q2) → Q (some (.int vv)) h1) : J l G mX7_drop 0 0 0 (lv_args 0 [.ref 0]) [] h Q := by
  have hI0 := hI
  refine hI _ ?_
  clear hI
  intro L P T E C R R0 n ru dq dr op at_ fr wd ws we wn dd tx rs fs ro sh dy se ey er tk tn ac f1 f2 f3 f4 g1 g2 g3 g4 da lo ad sa co pa ss w1 w2 w3 am pw ps cu dm ta ea shp tb eb rr rn cst prt eam dys eac shs hM hX hW hY hT hE hD hN hU hS hB
  obtain ⟨M27, M28, M29, M30, M31, M32, M33, M34, M35, M36, M37, M38, M39, M40, M41, M42, M43, M44, M45, M46, M47, M48, M49⟩ := id hM
  obtain ⟨X0, X1, X2, X3, X4, X5, X6, X7, X8, X9, X10, X11, X12, X13⟩ := id hX
  obtain ⟨W0, W1, W2⟩ := id hW
  obtain ⟨Y0, Y1, Y2, Y3, Y4, Y5, Y6, Y7, Y8, Y9⟩ := id hY
  obtain ⟨hL, hP, hT20, hE60, hC, hR, hR0, hn, hrd, hop⟩ := id hN
  refine s_X7_drop (da := da) (dm := dm) (ea := ea) X0 X12 W0 hE60 (by have q := hD.2.2.2.2.2.2.1; omega) ?_ ?_
  · intro c0
    refine K _ _ ⟨_, (j_hn (by decide) M27)⟩ (fun Q2 K2 => ?_)
    refine s_X8_drop (j_hn (by decide) M27) (j_hn (by decide) M45) ?_ ?_
    · intro b0
      rw [hB.2.1, ← (hB.2.2 c0).1]
      refine K2 _ (fun X k => ?_)
      exact k L P T E C R R0 n ru dq dr 0 at_ fr wd ws we wn dd tx rs fs ro sh dy se ey er tk tn ac f1 f2 f3 f4 g1 g2 g3 g4 da lo ad sa co pa ss w1 w2 w3 am pw ps cu dm ta ea shp tb eb rr rn cst prt eam dys eac shs (⟨j_hs, (j_hn (by decide) (j_hn (by decide) M28)), (j_hn (by decide) (j_hn (by decide) M29)), (j_hn (by decide) (j_hn (by decide) M30)), (j_hn (by decide) (j_hn (by decide) M31)), (j_hn (by decide) (j_hn (by decide) M32)), (j_hn (by decide) (j_hn (by decide) M33)), (j_hn (by decide) (j_hn (by decide) M34)), (j_hn (by decide) (j_hn (by decide) M35)), (j_hn (by decide) (j_hn (by decide) M36)), (j_hn (by decide) (j_hn (by decide) M37)), (j_hn (by decide) (j_hn (by decide) M38)), (j_hn (by decide) (j_hn (by decide) M39)), (j_hn (by decide) (j_hn (by decide) M40)), (j_hn (by decide) (j_hn (by decide) M41)), (j_hn (by decide) (j_hn (by decide) M42)), (j_hn (by decide) (j_hn (by decide) M43)), (j_hn (by decide) (j_hn (by decide) M44)), (j_hn (by decide) (j_hn (by decide) M45)), (j_hn (by decide) (j_hn (by decide) M46)), (j_hn (by decide) (j_hn (by decide) M47)), (j_hn (by decide) (j_hn (by decide) M48)), (j_hn (by decide) (j_hn (by decide) M49))⟩) (⟨(j_hn (by decide) (j_hn (by decide) X0)), (j_hn (by decide) (j_hn (by decide) X1)), (j_hn (by decide) (j_hn (by decide) X2)), (j_hn (by decide) (j_hn (by decide) X3)), (j_hn (by decide) (j_hn (by decide) X4)), (j_hn (by decide) (j_hn (by decide) X5)), (j_hn (by decide) (j_hn (by decide) X6)), (j_hn (by decide) (j_hn (by decide) X7)), (j_hn (by decide) (j_hn (by decide) X8)), (j_hn (by decide) (j_hn (by decide) X9)), (j_hn (by decide) (j_hn (by decide) X10)), (j_hn (by decide) (j_hn (by decide) X11)), (j_hn (by decide) j_hs), (j_hn (by decide) (j_hn (by decide) X13))⟩) ((iW_lo hD (by decide) (iW_lo hD (by decide) hW))) ((iY_set (iY_set hY hrd (by decide)) hrd (by decide))) ((iT_lo hD (by decide) (iT_lo hD (by decide) hT))) ((iE_lo hD (by decide) (iE_lo hD (by decide) hE))) (hD) (⟨hL, hP, hT20, hE60, hC, hR, hR0, hn, hrd, Or.inl rfl⟩) (hU) (iS_up hS) (⟨hB.1, hB.2.1, fun z => absurd rfl z⟩)
    · intro b0
      exfalso
      clear hI0 hM hX hW hY hT hE hD hU hS hB hG K M27 M28 M29 M30 M31 M32 M33 M34 M35 M36 M37 M38 M39 M40 M41 M42 M43 M44 M45 M46 M47 M48 M49 X0 X1 X2 X3 X4 X5 X6 X7 X8 X9 X10 X11 X12 X13 W0 W1 W2 Y0 Y1 Y2 Y3 Y4 Y5 Y6 Y7 Y8 Y9 K2
      (try simp only [Int32.lt_iff_toInt_lt, Int32.le_iff_toInt_le, Int64.lt_iff_toInt_lt, Int64.le_iff_toInt_le, Int32.toInt_toInt64, ← Int32.toInt_inj, ← Int64.toInt_inj, n32_0, n32_1, n32_2, n32_3, n32_4, n32_6, n32_8, n32_9, n32_10, n32_20, n32_100, n32_120, n32_255, n32_400, n32_3600, n32_m1, n64_0, n64_1, n64_2, n64_3, n64_4, n64_5, n64_9, n64_19, n64_119, n64_255, n64_400, n64_3599, n64_1000000000, n64_1000000000000, n64_m1000000000000] at c0 b0)
      first | contradiction | omega
  · intro c0
    refine K _ _ ⟨_, M27⟩ (fun Q2 K2 => ?_)
    refine s_X8_drop M27 M45 ?_ ?_
    · intro b0
      exfalso
      clear hI0 hM hX hW hY hT hE hD hU hS hB hG K M27 M28 M29 M30 M31 M32 M33 M34 M35 M36 M37 M38 M39 M40 M41 M42 M43 M44 M45 M46 M47 M48 M49 X0 X1 X2 X3 X4 X5 X6 X7 X8 X9 X10 X11 X12 X13 W0 W1 W2 Y0 Y1 Y2 Y3 Y4 Y5 Y6 Y7 Y8 Y9 K2
      (try simp only [Int32.lt_iff_toInt_lt, Int32.le_iff_toInt_le, Int64.lt_iff_toInt_lt, Int64.le_iff_toInt_le, Int32.toInt_toInt64, ← Int32.toInt_inj, ← Int64.toInt_inj, n32_0, n32_1, n32_2, n32_3, n32_4, n32_6, n32_8, n32_9, n32_10, n32_20, n32_100, n32_120, n32_255, n32_400, n32_3600, n32_m1, n64_0, n64_1, n64_2, n64_3, n64_4, n64_5, n64_9, n64_19, n64_119, n64_255, n64_400, n64_3599, n64_1000000000, n64_1000000000000, n64_m1000000000000] at c0 b0)
      first | contradiction | omega
    · intro b0
      exact K2 _ (iV_up hI0)

set_option maxRecDepth 20000 in
theorem r_closeMonth {l : Launch} {G : jG} {h : jH} {Q : Option Value → jH → Prop} {c : Nat} {m0 : Int32} (hc : c < 512) (hG : j_gok G) (hI : iV c h) (K : ∀ (vv : Int32) (h1 : jH), (∃ fs, h1.2 27 = some (jO 8 fs)) → (∀ Q2 : Option Value → jH → Prop, (∀ h2, iV (c + 1) h2 → Q2 (some (.int vv)) h2) → J l G mX8_closeMonth 0 0 0 (lv_args 0 [.ref 27, .int m0]) [] h1 Q2) → Q (some (.int vv)) h1) : J l G mX7_closeMonth 0 0 0 (lv_args 0 [.ref 0, .int m0]) [] h Q := by
  have hI0 := hI
  refine hI _ ?_
  clear hI
  intro L P T E C R R0 n ru dq dr op at_ fr wd ws we wn dd tx rs fs ro sh dy se ey er tk tn ac f1 f2 f3 f4 g1 g2 g3 g4 da lo ad sa co pa ss w1 w2 w3 am pw ps cu dm ta ea shp tb eb rr rn cst prt eam dys eac shs hM hX hW hY hT hE hD hN hU hS hB
  obtain ⟨M27, M28, M29, M30, M31, M32, M33, M34, M35, M36, M37, M38, M39, M40, M41, M42, M43, M44, M45, M46, M47, M48, M49⟩ := id hM
  obtain ⟨X0, X1, X2, X3, X4, X5, X6, X7, X8, X9, X10, X11, X12, X13⟩ := id hX
  obtain ⟨W0, W1, W2⟩ := id hW
  obtain ⟨Y0, Y1, Y2, Y3, Y4, Y5, Y6, Y7, Y8, Y9⟩ := id hY
  obtain ⟨hL, hP, hT20, hE60, hC, hR, hR0, hn, hrd, hop⟩ := id hN
  refine s_X7_closeMonth (da := da) (dm := dm) (ea := ea) X0 X12 W0 hE60 (by have q := hD.2.2.2.2.2.2.1; omega) ?_ ?_ ?_ ?_ ?_
  · intro c0
    refine K _ _ ⟨_, M27⟩ (fun Q2 K2 => ?_)
    refine s_X8_closeMonth M27 M44 ?_ ?_ ?_ ?_ ?_ ?_ ?_
    · intro b0
      exact K2 _ (iV_up hI0)
    · intro b0 b1
      exfalso
      clear hI0 hM hX hW hY hT hE hD hU hS hB hG K M27 M28 M29 M30 M31 M32 M33 M34 M35 M36 M37 M38 M39 M40 M41 M42 M43 M44 M45 M46 M47 M48 M49 X0 X1 X2 X3 X4 X5 X6 X7 X8 X9 X10 X11 X12 X13 W0 W1 W2 Y0 Y1 Y2 Y3 Y4 Y5 Y6 Y7 Y8 Y9 K2
      (try simp only [Int32.lt_iff_toInt_lt, Int32.le_iff_toInt_le, Int64.lt_iff_toInt_lt, Int64.le_iff_toInt_le, Int32.toInt_toInt64, ← Int32.toInt_inj, ← Int64.toInt_inj, n32_0, n32_1, n32_2, n32_3, n32_4, n32_6, n32_8, n32_9, n32_10, n32_20, n32_100, n32_120, n32_255, n32_400, n32_3600, n32_m1, n64_0, n64_1, n64_2, n64_3, n64_4, n64_5, n64_9, n64_19, n64_119, n64_255, n64_400, n64_3599, n64_1000000000, n64_1000000000000, n64_m1000000000000] at c0 b0 b1)
      first | contradiction | omega
    · intro b0 b1 b2 b3
      exfalso
      clear hI0 hM hX hW hY hT hE hD hU hS hB hG K M27 M28 M29 M30 M31 M32 M33 M34 M35 M36 M37 M38 M39 M40 M41 M42 M43 M44 M45 M46 M47 M48 M49 X0 X1 X2 X3 X4 X5 X6 X7 X8 X9 X10 X11 X12 X13 W0 W1 W2 Y0 Y1 Y2 Y3 Y4 Y5 Y6 Y7 Y8 Y9 K2
      (try simp only [Int32.lt_iff_toInt_lt, Int32.le_iff_toInt_le, Int64.lt_iff_toInt_lt, Int64.le_iff_toInt_le, Int32.toInt_toInt64, ← Int32.toInt_inj, ← Int64.toInt_inj, n32_0, n32_1, n32_2, n32_3, n32_4, n32_6, n32_8, n32_9, n32_10, n32_20, n32_100, n32_120, n32_255, n32_400, n32_3600, n32_m1, n64_0, n64_1, n64_2, n64_3, n64_4, n64_5, n64_9, n64_19, n64_119, n64_255, n64_400, n64_3599, n64_1000000000, n64_1000000000000, n64_m1000000000000] at c0 b0 b1 b2 b3)
      first | contradiction | omega
    · intro b0 b1 b2 b3
      exfalso
      clear hI0 hM hX hW hY hT hE hD hU hS hB hG K M27 M28 M29 M30 M31 M32 M33 M34 M35 M36 M37 M38 M39 M40 M41 M42 M43 M44 M45 M46 M47 M48 M49 X0 X1 X2 X3 X4 X5 X6 X7 X8 X9 X10 X11 X12 X13 W0 W1 W2 Y0 Y1 Y2 Y3 Y4 Y5 Y6 Y7 Y8 Y9 K2
      (try simp only [Int32.lt_iff_toInt_lt, Int32.le_iff_toInt_le, Int64.lt_iff_toInt_lt, Int64.le_iff_toInt_le, Int32.toInt_toInt64, ← Int32.toInt_inj, ← Int64.toInt_inj, n32_0, n32_1, n32_2, n32_3, n32_4, n32_6, n32_8, n32_9, n32_10, n32_20, n32_100, n32_120, n32_255, n32_400, n32_3600, n32_m1, n64_0, n64_1, n64_2, n64_3, n64_4, n64_5, n64_9, n64_19, n64_119, n64_255, n64_400, n64_3599, n64_1000000000, n64_1000000000000, n64_m1000000000000] at c0 b0 b1 b2 b3)
      first | contradiction | omega
    · intro b0 b1 b2 b3 b4
      exfalso
      clear hI0 hM hX hW hY hT hE hD hU hS hB hG K M27 M28 M29 M30 M31 M32 M33 M34 M35 M36 M37 M38 M39 M40 M41 M42 M43 M44 M45 M46 M47 M48 M49 X0 X1 X2 X3 X4 X5 X6 X7 X8 X9 X10 X11 X12 X13 W0 W1 W2 Y0 Y1 Y2 Y3 Y4 Y5 Y6 Y7 Y8 Y9 K2
      (try simp only [Int32.lt_iff_toInt_lt, Int32.le_iff_toInt_le, Int64.lt_iff_toInt_lt, Int64.le_iff_toInt_le, Int32.toInt_toInt64, ← Int32.toInt_inj, ← Int64.toInt_inj, n32_0, n32_1, n32_2, n32_3, n32_4, n32_6, n32_8, n32_9, n32_10, n32_20, n32_100, n32_120, n32_255, n32_400, n32_3600, n32_m1, n64_0, n64_1, n64_2, n64_3, n64_4, n64_5, n64_9, n64_19, n64_119, n64_255, n64_400, n64_3599, n64_1000000000, n64_1000000000000, n64_m1000000000000] at c0 b0 b1 b2 b3 b4)
      first | contradiction | omega
    · intro b0 b1 b2 b3 b4
      exfalso
      clear hI0 hM hX hW hY hT hE hD hU hS hB hG K M27 M28 M29 M30 M31 M32 M33 M34 M35 M36 M37 M38 M39 M40 M41 M42 M43 M44 M45 M46 M47 M48 M49 X0 X1 X2 X3 X4 X5 X6 X7 X8 X9 X10 X11 X12 X13 W0 W1 W2 Y0 Y1 Y2 Y3 Y4 Y5 Y6 Y7 Y8 Y9 K2
      (try simp only [Int32.lt_iff_toInt_lt, Int32.le_iff_toInt_le, Int64.lt_iff_toInt_lt, Int64.le_iff_toInt_le, Int32.toInt_toInt64, ← Int32.toInt_inj, ← Int64.toInt_inj, n32_0, n32_1, n32_2, n32_3, n32_4, n32_6, n32_8, n32_9, n32_10, n32_20, n32_100, n32_120, n32_255, n32_400, n32_3600, n32_m1, n64_0, n64_1, n64_2, n64_3, n64_4, n64_5, n64_9, n64_19, n64_119, n64_255, n64_400, n64_3599, n64_1000000000, n64_1000000000000, n64_m1000000000000] at c0 b0 b1 b2 b3 b4)
      first | contradiction | omega
    · intro b0 b1 b2 b3
      exfalso
      clear hI0 hM hX hW hY hT hE hD hU hS hB hG K M27 M28 M29 M30 M31 M32 M33 M34 M35 M36 M37 M38 M39 M40 M41 M42 M43 M44 M45 M46 M47 M48 M49 X0 X1 X2 X3 X4 X5 X6 X7 X8 X9 X10 X11 X12 X13 W0 W1 W2 Y0 Y1 Y2 Y3 Y4 Y5 Y6 Y7 Y8 Y9 K2
      (try simp only [Int32.lt_iff_toInt_lt, Int32.le_iff_toInt_le, Int64.lt_iff_toInt_lt, Int64.le_iff_toInt_le, Int32.toInt_toInt64, ← Int32.toInt_inj, ← Int64.toInt_inj, n32_0, n32_1, n32_2, n32_3, n32_4, n32_6, n32_8, n32_9, n32_10, n32_20, n32_100, n32_120, n32_255, n32_400, n32_3600, n32_m1, n64_0, n64_1, n64_2, n64_3, n64_4, n64_5, n64_9, n64_19, n64_119, n64_255, n64_400, n64_3599, n64_1000000000, n64_1000000000000, n64_m1000000000000] at c0 b0 b1 b2 b3)
      first | contradiction | omega
  · intro c0 c1
    refine K _ _ ⟨_, M27⟩ (fun Q2 K2 => ?_)
    refine s_X8_closeMonth M27 M44 ?_ ?_ ?_ ?_ ?_ ?_ ?_
    · intro b0
      exfalso
      clear hI0 hM hX hW hY hT hE hD hU hS hB hG K M27 M28 M29 M30 M31 M32 M33 M34 M35 M36 M37 M38 M39 M40 M41 M42 M43 M44 M45 M46 M47 M48 M49 X0 X1 X2 X3 X4 X5 X6 X7 X8 X9 X10 X11 X12 X13 W0 W1 W2 Y0 Y1 Y2 Y3 Y4 Y5 Y6 Y7 Y8 Y9 K2
      (try simp only [Int32.lt_iff_toInt_lt, Int32.le_iff_toInt_le, Int64.lt_iff_toInt_lt, Int64.le_iff_toInt_le, Int32.toInt_toInt64, ← Int32.toInt_inj, ← Int64.toInt_inj, n32_0, n32_1, n32_2, n32_3, n32_4, n32_6, n32_8, n32_9, n32_10, n32_20, n32_100, n32_120, n32_255, n32_400, n32_3600, n32_m1, n64_0, n64_1, n64_2, n64_3, n64_4, n64_5, n64_9, n64_19, n64_119, n64_255, n64_400, n64_3599, n64_1000000000, n64_1000000000000, n64_m1000000000000] at c0 c1 b0)
      first | contradiction | omega
    · intro b0 b1
      exact K2 _ (iV_up hI0)
    · intro b0 b1 b2 b3
      exfalso
      clear hI0 hM hX hW hY hT hE hD hU hS hB hG K M27 M28 M29 M30 M31 M32 M33 M34 M35 M36 M37 M38 M39 M40 M41 M42 M43 M44 M45 M46 M47 M48 M49 X0 X1 X2 X3 X4 X5 X6 X7 X8 X9 X10 X11 X12 X13 W0 W1 W2 Y0 Y1 Y2 Y3 Y4 Y5 Y6 Y7 Y8 Y9 K2
      (try simp only [Int32.lt_iff_toInt_lt, Int32.le_iff_toInt_le, Int64.lt_iff_toInt_lt, Int64.le_iff_toInt_le, Int32.toInt_toInt64, ← Int32.toInt_inj, ← Int64.toInt_inj, n32_0, n32_1, n32_2, n32_3, n32_4, n32_6, n32_8, n32_9, n32_10, n32_20, n32_100, n32_120, n32_255, n32_400, n32_3600, n32_m1, n64_0, n64_1, n64_2, n64_3, n64_4, n64_5, n64_9, n64_19, n64_119, n64_255, n64_400, n64_3599, n64_1000000000, n64_1000000000000, n64_m1000000000000] at c0 c1 b0 b1 b2 b3)
      first | contradiction | omega
    · intro b0 b1 b2 b3
      exfalso
      clear hI0 hM hX hW hY hT hE hD hU hS hB hG K M27 M28 M29 M30 M31 M32 M33 M34 M35 M36 M37 M38 M39 M40 M41 M42 M43 M44 M45 M46 M47 M48 M49 X0 X1 X2 X3 X4 X5 X6 X7 X8 X9 X10 X11 X12 X13 W0 W1 W2 Y0 Y1 Y2 Y3 Y4 Y5 Y6 Y7 Y8 Y9 K2
      (try simp only [Int32.lt_iff_toInt_lt, Int32.le_iff_toInt_le, Int64.lt_iff_toInt_lt, Int64.le_iff_toInt_le, Int32.toInt_toInt64, ← Int32.toInt_inj, ← Int64.toInt_inj, n32_0, n32_1, n32_2, n32_3, n32_4, n32_6, n32_8, n32_9, n32_10, n32_20, n32_100, n32_120, n32_255, n32_400, n32_3600, n32_m1, n64_0, n64_1, n64_2, n64_3, n64_4, n64_5, n64_9, n64_19, n64_119, n64_255, n64_400, n64_3599, n64_1000000000, n64_1000000000000, n64_m1000000000000] at c0 c1 b0 b1 b2 b3)
      first | contradiction | omega
    · intro b0 b1 b2 b3 b4
      exfalso
      clear hI0 hM hX hW hY hT hE hD hU hS hB hG K M27 M28 M29 M30 M31 M32 M33 M34 M35 M36 M37 M38 M39 M40 M41 M42 M43 M44 M45 M46 M47 M48 M49 X0 X1 X2 X3 X4 X5 X6 X7 X8 X9 X10 X11 X12 X13 W0 W1 W2 Y0 Y1 Y2 Y3 Y4 Y5 Y6 Y7 Y8 Y9 K2
      (try simp only [Int32.lt_iff_toInt_lt, Int32.le_iff_toInt_le, Int64.lt_iff_toInt_lt, Int64.le_iff_toInt_le, Int32.toInt_toInt64, ← Int32.toInt_inj, ← Int64.toInt_inj, n32_0, n32_1, n32_2, n32_3, n32_4, n32_6, n32_8, n32_9, n32_10, n32_20, n32_100, n32_120, n32_255, n32_400, n32_3600, n32_m1, n64_0, n64_1, n64_2, n64_3, n64_4, n64_5, n64_9, n64_19, n64_119, n64_255, n64_400, n64_3599, n64_1000000000, n64_1000000000000, n64_m1000000000000] at c0 c1 b0 b1 b2 b3 b4)
      first | contradiction | omega
    · intro b0 b1 b2 b3 b4
      exfalso
      clear hI0 hM hX hW hY hT hE hD hU hS hB hG K M27 M28 M29 M30 M31 M32 M33 M34 M35 M36 M37 M38 M39 M40 M41 M42 M43 M44 M45 M46 M47 M48 M49 X0 X1 X2 X3 X4 X5 X6 X7 X8 X9 X10 X11 X12 X13 W0 W1 W2 Y0 Y1 Y2 Y3 Y4 Y5 Y6 Y7 Y8 Y9 K2
      (try simp only [Int32.lt_iff_toInt_lt, Int32.le_iff_toInt_le, Int64.lt_iff_toInt_lt, Int64.le_iff_toInt_le, Int32.toInt_toInt64, ← Int32.toInt_inj, ← Int64.toInt_inj, n32_0, n32_1, n32_2, n32_3, n32_4, n32_6, n32_8, n32_9, n32_10, n32_20, n32_100, n32_120, n32_255, n32_400, n32_3600, n32_m1, n64_0, n64_1, n64_2, n64_3, n64_4, n64_5, n64_9, n64_19, n64_119, n64_255, n64_400, n64_3599, n64_1000000000, n64_1000000000000, n64_m1000000000000] at c0 c1 b0 b1 b2 b3 b4)
      first | contradiction | omega
    · intro b0 b1 b2 b3
      exfalso
      clear hI0 hM hX hW hY hT hE hD hU hS hB hG K M27 M28 M29 M30 M31 M32 M33 M34 M35 M36 M37 M38 M39 M40 M41 M42 M43 M44 M45 M46 M47 M48 M49 X0 X1 X2 X3 X4 X5 X6 X7 X8 X9 X10 X11 X12 X13 W0 W1 W2 Y0 Y1 Y2 Y3 Y4 Y5 Y6 Y7 Y8 Y9 K2
      (try simp only [Int32.lt_iff_toInt_lt, Int32.le_iff_toInt_le, Int64.lt_iff_toInt_lt, Int64.le_iff_toInt_le, Int32.toInt_toInt64, ← Int32.toInt_inj, ← Int64.toInt_inj, n32_0, n32_1, n32_2, n32_3, n32_4, n32_6, n32_8, n32_9, n32_10, n32_20, n32_100, n32_120, n32_255, n32_400, n32_3600, n32_m1, n64_0, n64_1, n64_2, n64_3, n64_4, n64_5, n64_9, n64_19, n64_119, n64_255, n64_400, n64_3599, n64_1000000000, n64_1000000000000, n64_m1000000000000] at c0 c1 b0 b1 b2 b3)
      first | contradiction | omega
  · intro c0 c1 c2
    obtain ⟨m, hm, rfl⟩ : ∃ m : Nat, m < 120 ∧ m0 = nI m := n_nat (by simp only [Int32.lt_iff_toInt_lt, Int32.le_iff_toInt_le, Int64.lt_iff_toInt_lt, Int64.le_iff_toInt_le, Int32.toInt_toInt64, ← Int32.toInt_inj, ← Int64.toInt_inj, n32_0, n32_1, n32_2, n32_3, n32_4, n32_6, n32_8, n32_9, n32_10, n32_20, n32_100, n32_120, n32_255, n32_400, n32_3600, n32_m1, n64_0, n64_1, n64_2, n64_3, n64_4, n64_5, n64_9, n64_19, n64_119, n64_255, n64_400, n64_3599, n64_1000000000, n64_1000000000000, n64_m1000000000000] at c0; omega) (by simp only [Int32.lt_iff_toInt_lt, Int32.le_iff_toInt_le, Int64.lt_iff_toInt_lt, Int64.le_iff_toInt_le, Int32.toInt_toInt64, ← Int32.toInt_inj, ← Int64.toInt_inj, n32_0, n32_1, n32_2, n32_3, n32_4, n32_6, n32_8, n32_9, n32_10, n32_20, n32_100, n32_120, n32_255, n32_400, n32_3600, n32_m1, n64_0, n64_1, n64_2, n64_3, n64_4, n64_5, n64_9, n64_19, n64_119, n64_255, n64_400, n64_3599, n64_1000000000, n64_1000000000000, n64_m1000000000000] at c1; omega)
    rw [l_cm0 hm hC]
    refine K _ _ ⟨_, (j_hn (by decide) M27)⟩ (fun Q2 K2 => ?_)
    refine s_X8_closeMonth (j_hn (by decide) M27) (j_hn (by decide) M44) ?_ ?_ ?_ ?_ ?_ ?_ ?_
    · intro b0
      exfalso
      clear hI0 hM hX hW hY hT hE hD hU hS hB hG K M27 M28 M29 M30 M31 M32 M33 M34 M35 M36 M37 M38 M39 M40 M41 M42 M43 M44 M45 M46 M47 M48 M49 X0 X1 X2 X3 X4 X5 X6 X7 X8 X9 X10 X11 X12 X13 W0 W1 W2 Y0 Y1 Y2 Y3 Y4 Y5 Y6 Y7 Y8 Y9 K2
      (try simp only [Int32.lt_iff_toInt_lt, Int32.le_iff_toInt_le, Int64.lt_iff_toInt_lt, Int64.le_iff_toInt_le, Int32.toInt_toInt64, ← Int32.toInt_inj, ← Int64.toInt_inj, n32_0, n32_1, n32_2, n32_3, n32_4, n32_6, n32_8, n32_9, n32_10, n32_20, n32_100, n32_120, n32_255, n32_400, n32_3600, n32_m1, n64_0, n64_1, n64_2, n64_3, n64_4, n64_5, n64_9, n64_19, n64_119, n64_255, n64_400, n64_3599, n64_1000000000, n64_1000000000000, n64_m1000000000000] at c0 c1 c2 b0)
      first | contradiction | omega
    · intro b0 b1
      exfalso
      clear hI0 hM hX hW hY hT hE hD hU hS hB hG K M27 M28 M29 M30 M31 M32 M33 M34 M35 M36 M37 M38 M39 M40 M41 M42 M43 M44 M45 M46 M47 M48 M49 X0 X1 X2 X3 X4 X5 X6 X7 X8 X9 X10 X11 X12 X13 W0 W1 W2 Y0 Y1 Y2 Y3 Y4 Y5 Y6 Y7 Y8 Y9 K2
      (try simp only [Int32.lt_iff_toInt_lt, Int32.le_iff_toInt_le, Int64.lt_iff_toInt_lt, Int64.le_iff_toInt_le, Int32.toInt_toInt64, ← Int32.toInt_inj, ← Int64.toInt_inj, n32_0, n32_1, n32_2, n32_3, n32_4, n32_6, n32_8, n32_9, n32_10, n32_20, n32_100, n32_120, n32_255, n32_400, n32_3600, n32_m1, n64_0, n64_1, n64_2, n64_3, n64_4, n64_5, n64_9, n64_19, n64_119, n64_255, n64_400, n64_3599, n64_1000000000, n64_1000000000000, n64_m1000000000000] at c0 c1 c2 b0 b1)
      first | contradiction | omega
    · intro b0 b1 b2 b3
      have z := l_cm1 hm hC b3
      rw [z.2] at K2
      rw [z.1]
      refine K2 _ (fun X k => ?_)
      exact k L P T E (max C (m + 1)) R R0 n ru dq dr op at_ fr wd ws we wn dd tx rs fs ro sh dy se ey er tk tn ac f1 f2 f3 f4 g1 g2 g3 g4 da lo ad sa co pa ss w1 w2 w3 am pw ps cu dm ta ea shp tb eb rr rn cst prt eam dys eac shs (⟨j_hs, (j_hn (by decide) (j_hn (by decide) M28)), (j_hn (by decide) (j_hn (by decide) M29)), (j_hn (by decide) (j_hn (by decide) M30)), (j_hn (by decide) (j_hn (by decide) M31)), (j_hn (by decide) (j_hn (by decide) M32)), (j_hn (by decide) (j_hn (by decide) M33)), (j_hn (by decide) (j_hn (by decide) M34)), (j_hn (by decide) (j_hn (by decide) M35)), (j_hn (by decide) (j_hn (by decide) M36)), (j_hn (by decide) (j_hn (by decide) M37)), (j_hn (by decide) (j_hn (by decide) M38)), (j_hn (by decide) (j_hn (by decide) M39)), (j_hn (by decide) (j_hn (by decide) M40)), (j_hn (by decide) (j_hn (by decide) M41)), (j_hn (by decide) (j_hn (by decide) M42)), (j_hn (by decide) (j_hn (by decide) M43)), (j_hn (by decide) (j_hn (by decide) M44)), (j_hn (by decide) (j_hn (by decide) M45)), (j_hn (by decide) (j_hn (by decide) M46)), (j_hn (by decide) (j_hn (by decide) M47)), (j_hn (by decide) (j_hn (by decide) M48)), (j_hn (by decide) (j_hn (by decide) M49))⟩) (⟨(j_hn (by decide) (j_hn (by decide) X0)), (j_hn (by decide) (j_hn (by decide) X1)), (j_hn (by decide) (j_hn (by decide) X2)), (j_hn (by decide) (j_hn (by decide) X3)), (j_hn (by decide) (j_hn (by decide) X4)), (j_hn (by decide) (j_hn (by decide) X5)), (j_hn (by decide) (j_hn (by decide) X6)), (j_hn (by decide) (j_hn (by decide) X7)), (j_hn (by decide) (j_hn (by decide) X8)), (j_hn (by decide) (j_hn (by decide) X9)), (j_hn (by decide) (j_hn (by decide) X10)), (j_hn (by decide) (j_hn (by decide) X11)), (j_hn (by decide) j_hs), (j_hn (by decide) (j_hn (by decide) X13))⟩) ((iW_lo hD (by decide) (iW_lo hD (by decide) hW))) ((iY_set (iY_set hY hrd (by decide)) hrd (by decide))) ((iT_lo hD (by decide) (iT_lo hD (by decide) hT))) ((iE_lo hD (by decide) (iE_lo hD (by decide) hE))) (hD) (⟨hL, hP, hT20, hE60, (by omega), hR, hR0, hn, hrd, hop⟩) (hU) (iS_up hS) (hB)
    · intro b0 b1 b2 b3
      have z := l_cm2 hm hC b3
      rw [z.2] at K2
      rw [z.1]
      refine K2 _ (fun X k => ?_)
      exact k L P T E (max C (m + 1)) R R0 n ru dq dr op at_ fr wd ws we wn dd tx rs fs ro sh dy se ey er tk tn ac f1 f2 f3 f4 g1 g2 g3 g4 da lo ad sa co pa ss w1 w2 w3 am pw ps cu dm ta ea shp tb eb rr rn cst prt eam dys eac shs (⟨j_hs, (j_hn (by decide) (j_hn (by decide) M28)), (j_hn (by decide) (j_hn (by decide) M29)), (j_hn (by decide) (j_hn (by decide) M30)), (j_hn (by decide) (j_hn (by decide) M31)), (j_hn (by decide) (j_hn (by decide) M32)), (j_hn (by decide) (j_hn (by decide) M33)), (j_hn (by decide) (j_hn (by decide) M34)), (j_hn (by decide) (j_hn (by decide) M35)), (j_hn (by decide) (j_hn (by decide) M36)), (j_hn (by decide) (j_hn (by decide) M37)), (j_hn (by decide) (j_hn (by decide) M38)), (j_hn (by decide) (j_hn (by decide) M39)), (j_hn (by decide) (j_hn (by decide) M40)), (j_hn (by decide) (j_hn (by decide) M41)), (j_hn (by decide) (j_hn (by decide) M42)), (j_hn (by decide) (j_hn (by decide) M43)), (j_hn (by decide) (j_hn (by decide) M44)), (j_hn (by decide) (j_hn (by decide) M45)), (j_hn (by decide) (j_hn (by decide) M46)), (j_hn (by decide) (j_hn (by decide) M47)), (j_hn (by decide) (j_hn (by decide) M48)), (j_hn (by decide) (j_hn (by decide) M49))⟩) (⟨(j_hn (by decide) (j_hn (by decide) X0)), (j_hn (by decide) (j_hn (by decide) X1)), (j_hn (by decide) (j_hn (by decide) X2)), (j_hn (by decide) (j_hn (by decide) X3)), (j_hn (by decide) (j_hn (by decide) X4)), (j_hn (by decide) (j_hn (by decide) X5)), (j_hn (by decide) (j_hn (by decide) X6)), (j_hn (by decide) (j_hn (by decide) X7)), (j_hn (by decide) (j_hn (by decide) X8)), (j_hn (by decide) (j_hn (by decide) X9)), (j_hn (by decide) (j_hn (by decide) X10)), (j_hn (by decide) (j_hn (by decide) X11)), (j_hn (by decide) j_hs), (j_hn (by decide) (j_hn (by decide) X13))⟩) ((iW_lo hD (by decide) (iW_lo hD (by decide) hW))) ((iY_set (iY_set hY hrd (by decide)) hrd (by decide))) ((iT_lo hD (by decide) (iT_lo hD (by decide) hT))) ((iE_lo hD (by decide) (iE_lo hD (by decide) hE))) (hD) (⟨hL, hP, hT20, hE60, (by omega), hR, hR0, hn, hrd, hop⟩) (hU) (iS_up hS) (hB)
    · intro b0 b1 b2 b3 b4
      exfalso
      clear hI0 hM hX hW hY hT hE hD hU hS hB hG K M27 M28 M29 M30 M31 M32 M33 M34 M35 M36 M37 M38 M39 M40 M41 M42 M43 M44 M45 M46 M47 M48 M49 X0 X1 X2 X3 X4 X5 X6 X7 X8 X9 X10 X11 X12 X13 W0 W1 W2 Y0 Y1 Y2 Y3 Y4 Y5 Y6 Y7 Y8 Y9 K2
      (try simp only [Int32.lt_iff_toInt_lt, Int32.le_iff_toInt_le, Int64.lt_iff_toInt_lt, Int64.le_iff_toInt_le, Int32.toInt_toInt64, ← Int32.toInt_inj, ← Int64.toInt_inj, n32_0, n32_1, n32_2, n32_3, n32_4, n32_6, n32_8, n32_9, n32_10, n32_20, n32_100, n32_120, n32_255, n32_400, n32_3600, n32_m1, n64_0, n64_1, n64_2, n64_3, n64_4, n64_5, n64_9, n64_19, n64_119, n64_255, n64_400, n64_3599, n64_1000000000, n64_1000000000000, n64_m1000000000000] at c0 c1 c2 b0 b1 b2 b3 b4)
      first | contradiction | omega
    · intro b0 b1 b2 b3 b4
      exfalso
      clear hI0 hM hX hW hY hT hE hD hU hS hB hG K M27 M28 M29 M30 M31 M32 M33 M34 M35 M36 M37 M38 M39 M40 M41 M42 M43 M44 M45 M46 M47 M48 M49 X0 X1 X2 X3 X4 X5 X6 X7 X8 X9 X10 X11 X12 X13 W0 W1 W2 Y0 Y1 Y2 Y3 Y4 Y5 Y6 Y7 Y8 Y9 K2
      (try simp only [Int32.lt_iff_toInt_lt, Int32.le_iff_toInt_le, Int64.lt_iff_toInt_lt, Int64.le_iff_toInt_le, Int32.toInt_toInt64, ← Int32.toInt_inj, ← Int64.toInt_inj, n32_0, n32_1, n32_2, n32_3, n32_4, n32_6, n32_8, n32_9, n32_10, n32_20, n32_100, n32_120, n32_255, n32_400, n32_3600, n32_m1, n64_0, n64_1, n64_2, n64_3, n64_4, n64_5, n64_9, n64_19, n64_119, n64_255, n64_400, n64_3599, n64_1000000000, n64_1000000000000, n64_m1000000000000] at c0 c1 c2 b0 b1 b2 b3 b4)
      first | contradiction | omega
    · intro b0 b1 b2 b3
      exfalso
      clear hI0 hM hX hW hY hT hE hD hU hS hB hG K M27 M28 M29 M30 M31 M32 M33 M34 M35 M36 M37 M38 M39 M40 M41 M42 M43 M44 M45 M46 M47 M48 M49 X0 X1 X2 X3 X4 X5 X6 X7 X8 X9 X10 X11 X12 X13 W0 W1 W2 Y0 Y1 Y2 Y3 Y4 Y5 Y6 Y7 Y8 Y9 K2
      (try simp only [Int32.lt_iff_toInt_lt, Int32.le_iff_toInt_le, Int64.lt_iff_toInt_lt, Int64.le_iff_toInt_le, Int32.toInt_toInt64, ← Int32.toInt_inj, ← Int64.toInt_inj, n32_0, n32_1, n32_2, n32_3, n32_4, n32_6, n32_8, n32_9, n32_10, n32_20, n32_100, n32_120, n32_255, n32_400, n32_3600, n32_m1, n64_0, n64_1, n64_2, n64_3, n64_4, n64_5, n64_9, n64_19, n64_119, n64_255, n64_400, n64_3599, n64_1000000000, n64_1000000000000, n64_m1000000000000] at c0 c1 c2 b0 b1 b2 b3)
      first | contradiction | omega
  · intro c0 c1 c2 c3
    rw [(hB.2.2 c2).2.1] at c3
    obtain ⟨m, hm, rfl⟩ : ∃ m : Nat, m < 120 ∧ m0 = nI m := n_nat (by simp only [Int32.lt_iff_toInt_lt, Int32.le_iff_toInt_le, Int64.lt_iff_toInt_lt, Int64.le_iff_toInt_le, Int32.toInt_toInt64, ← Int32.toInt_inj, ← Int64.toInt_inj, n32_0, n32_1, n32_2, n32_3, n32_4, n32_6, n32_8, n32_9, n32_10, n32_20, n32_100, n32_120, n32_255, n32_400, n32_3600, n32_m1, n64_0, n64_1, n64_2, n64_3, n64_4, n64_5, n64_9, n64_19, n64_119, n64_255, n64_400, n64_3599, n64_1000000000, n64_1000000000000, n64_m1000000000000] at c0; omega) (by simp only [Int32.lt_iff_toInt_lt, Int32.le_iff_toInt_le, Int64.lt_iff_toInt_lt, Int64.le_iff_toInt_le, Int32.toInt_toInt64, ← Int32.toInt_inj, ← Int64.toInt_inj, n32_0, n32_1, n32_2, n32_3, n32_4, n32_6, n32_8, n32_9, n32_10, n32_20, n32_100, n32_120, n32_255, n32_400, n32_3600, n32_m1, n64_0, n64_1, n64_2, n64_3, n64_4, n64_5, n64_9, n64_19, n64_119, n64_255, n64_400, n64_3599, n64_1000000000, n64_1000000000000, n64_m1000000000000] at c1; omega)
    rw [l_cm0 hm hC]
    refine K _ _ ⟨_, (j_hn (by decide) M27)⟩ (fun Q2 K2 => ?_)
    refine s_X8_closeMonth (j_hn (by decide) M27) (j_hn (by decide) M44) ?_ ?_ ?_ ?_ ?_ ?_ ?_
    · intro b0
      exfalso
      clear hI0 hM hX hW hY hT hE hD hU hS hB hG K M27 M28 M29 M30 M31 M32 M33 M34 M35 M36 M37 M38 M39 M40 M41 M42 M43 M44 M45 M46 M47 M48 M49 X0 X1 X2 X3 X4 X5 X6 X7 X8 X9 X10 X11 X12 X13 W0 W1 W2 Y0 Y1 Y2 Y3 Y4 Y5 Y6 Y7 Y8 Y9 K2
      (try simp only [Int32.lt_iff_toInt_lt, Int32.le_iff_toInt_le, Int64.lt_iff_toInt_lt, Int64.le_iff_toInt_le, Int32.toInt_toInt64, ← Int32.toInt_inj, ← Int64.toInt_inj, n32_0, n32_1, n32_2, n32_3, n32_4, n32_6, n32_8, n32_9, n32_10, n32_20, n32_100, n32_120, n32_255, n32_400, n32_3600, n32_m1, n64_0, n64_1, n64_2, n64_3, n64_4, n64_5, n64_9, n64_19, n64_119, n64_255, n64_400, n64_3599, n64_1000000000, n64_1000000000000, n64_m1000000000000] at c0 c1 c2 c3 b0)
      first | contradiction | omega
    · intro b0 b1
      exfalso
      clear hI0 hM hX hW hY hT hE hD hU hS hB hG K M27 M28 M29 M30 M31 M32 M33 M34 M35 M36 M37 M38 M39 M40 M41 M42 M43 M44 M45 M46 M47 M48 M49 X0 X1 X2 X3 X4 X5 X6 X7 X8 X9 X10 X11 X12 X13 W0 W1 W2 Y0 Y1 Y2 Y3 Y4 Y5 Y6 Y7 Y8 Y9 K2
      (try simp only [Int32.lt_iff_toInt_lt, Int32.le_iff_toInt_le, Int64.lt_iff_toInt_lt, Int64.le_iff_toInt_le, Int32.toInt_toInt64, ← Int32.toInt_inj, ← Int64.toInt_inj, n32_0, n32_1, n32_2, n32_3, n32_4, n32_6, n32_8, n32_9, n32_10, n32_20, n32_100, n32_120, n32_255, n32_400, n32_3600, n32_m1, n64_0, n64_1, n64_2, n64_3, n64_4, n64_5, n64_9, n64_19, n64_119, n64_255, n64_400, n64_3599, n64_1000000000, n64_1000000000000, n64_m1000000000000] at c0 c1 c2 c3 b0 b1)
      first | contradiction | omega
    · intro b0 b1 b2 b3
      exfalso
      clear hI0 hM hX hW hY hT hE hD hU hS hB hG K M27 M28 M29 M30 M31 M32 M33 M34 M35 M36 M37 M38 M39 M40 M41 M42 M43 M44 M45 M46 M47 M48 M49 X0 X1 X2 X3 X4 X5 X6 X7 X8 X9 X10 X11 X12 X13 W0 W1 W2 Y0 Y1 Y2 Y3 Y4 Y5 Y6 Y7 Y8 Y9 K2
      (try simp only [Int32.lt_iff_toInt_lt, Int32.le_iff_toInt_le, Int64.lt_iff_toInt_lt, Int64.le_iff_toInt_le, Int32.toInt_toInt64, ← Int32.toInt_inj, ← Int64.toInt_inj, n32_0, n32_1, n32_2, n32_3, n32_4, n32_6, n32_8, n32_9, n32_10, n32_20, n32_100, n32_120, n32_255, n32_400, n32_3600, n32_m1, n64_0, n64_1, n64_2, n64_3, n64_4, n64_5, n64_9, n64_19, n64_119, n64_255, n64_400, n64_3599, n64_1000000000, n64_1000000000000, n64_m1000000000000] at c0 c1 c2 c3 b0 b1 b2 b3)
      first | contradiction | omega
    · intro b0 b1 b2 b3
      exfalso
      clear hI0 hM hX hW hY hT hE hD hU hS hB hG K M27 M28 M29 M30 M31 M32 M33 M34 M35 M36 M37 M38 M39 M40 M41 M42 M43 M44 M45 M46 M47 M48 M49 X0 X1 X2 X3 X4 X5 X6 X7 X8 X9 X10 X11 X12 X13 W0 W1 W2 Y0 Y1 Y2 Y3 Y4 Y5 Y6 Y7 Y8 Y9 K2
      (try simp only [Int32.lt_iff_toInt_lt, Int32.le_iff_toInt_le, Int64.lt_iff_toInt_lt, Int64.le_iff_toInt_le, Int32.toInt_toInt64, ← Int32.toInt_inj, ← Int64.toInt_inj, n32_0, n32_1, n32_2, n32_3, n32_4, n32_6, n32_8, n32_9, n32_10, n32_20, n32_100, n32_120, n32_255, n32_400, n32_3600, n32_m1, n64_0, n64_1, n64_2, n64_3, n64_4, n64_5, n64_9, n64_19, n64_119, n64_255, n64_400, n64_3599, n64_1000000000, n64_1000000000000, n64_m1000000000000] at c0 c1 c2 c3 b0 b1 b2 b3)
      first | contradiction | omega
    · intro b0 b1 b2 b3 b4
      have z := l_cm1 hm hC b4
      rw [z.2] at K2
      rw [z.1]
      refine K2 _ (fun X k => ?_)
      exact k L P T E (max C (m + 1)) R R0 n ru dq dr op at_ fr wd ws we wn dd tx rs fs ro sh dy se ey er tk tn ac f1 f2 f3 f4 g1 g2 g3 g4 da lo ad sa co pa ss w1 w2 w3 am pw ps cu dm ta ea shp tb eb rr rn cst prt eam dys eac shs (⟨j_hs, (j_hn (by decide) (j_hn (by decide) M28)), (j_hn (by decide) (j_hn (by decide) M29)), (j_hn (by decide) (j_hn (by decide) M30)), (j_hn (by decide) (j_hn (by decide) M31)), (j_hn (by decide) (j_hn (by decide) M32)), (j_hn (by decide) (j_hn (by decide) M33)), (j_hn (by decide) (j_hn (by decide) M34)), (j_hn (by decide) (j_hn (by decide) M35)), (j_hn (by decide) (j_hn (by decide) M36)), (j_hn (by decide) (j_hn (by decide) M37)), (j_hn (by decide) (j_hn (by decide) M38)), (j_hn (by decide) (j_hn (by decide) M39)), (j_hn (by decide) (j_hn (by decide) M40)), (j_hn (by decide) (j_hn (by decide) M41)), (j_hn (by decide) (j_hn (by decide) M42)), (j_hn (by decide) (j_hn (by decide) M43)), (j_hn (by decide) (j_hn (by decide) M44)), (j_hn (by decide) (j_hn (by decide) M45)), (j_hn (by decide) (j_hn (by decide) M46)), (j_hn (by decide) (j_hn (by decide) M47)), (j_hn (by decide) (j_hn (by decide) M48)), (j_hn (by decide) (j_hn (by decide) M49))⟩) (⟨(j_hn (by decide) (j_hn (by decide) X0)), (j_hn (by decide) (j_hn (by decide) X1)), (j_hn (by decide) (j_hn (by decide) X2)), (j_hn (by decide) (j_hn (by decide) X3)), (j_hn (by decide) (j_hn (by decide) X4)), (j_hn (by decide) (j_hn (by decide) X5)), (j_hn (by decide) (j_hn (by decide) X6)), (j_hn (by decide) (j_hn (by decide) X7)), (j_hn (by decide) (j_hn (by decide) X8)), (j_hn (by decide) (j_hn (by decide) X9)), (j_hn (by decide) (j_hn (by decide) X10)), (j_hn (by decide) (j_hn (by decide) X11)), (j_hn (by decide) j_hs), (j_hn (by decide) (j_hn (by decide) X13))⟩) ((iW_lo hD (by decide) (iW_lo hD (by decide) hW))) ((iY_set (iY_set hY hrd (by decide)) hrd (by decide))) ((iT_lo hD (by decide) (iT_lo hD (by decide) hT))) ((iE_lo hD (by decide) (iE_lo hD (by decide) hE))) (hD) (⟨hL, hP, hT20, hE60, (by omega), hR, hR0, hn, hrd, hop⟩) (hU) (iS_up hS) (hB)
    · intro b0 b1 b2 b3 b4
      have z := l_cm2 hm hC b4
      rw [z.2] at K2
      rw [z.1]
      refine K2 _ (fun X k => ?_)
      exact k L P T E (max C (m + 1)) R R0 n ru dq dr op at_ fr wd ws we wn dd tx rs fs ro sh dy se ey er tk tn ac f1 f2 f3 f4 g1 g2 g3 g4 da lo ad sa co pa ss w1 w2 w3 am pw ps cu dm ta ea shp tb eb rr rn cst prt eam dys eac shs (⟨j_hs, (j_hn (by decide) (j_hn (by decide) M28)), (j_hn (by decide) (j_hn (by decide) M29)), (j_hn (by decide) (j_hn (by decide) M30)), (j_hn (by decide) (j_hn (by decide) M31)), (j_hn (by decide) (j_hn (by decide) M32)), (j_hn (by decide) (j_hn (by decide) M33)), (j_hn (by decide) (j_hn (by decide) M34)), (j_hn (by decide) (j_hn (by decide) M35)), (j_hn (by decide) (j_hn (by decide) M36)), (j_hn (by decide) (j_hn (by decide) M37)), (j_hn (by decide) (j_hn (by decide) M38)), (j_hn (by decide) (j_hn (by decide) M39)), (j_hn (by decide) (j_hn (by decide) M40)), (j_hn (by decide) (j_hn (by decide) M41)), (j_hn (by decide) (j_hn (by decide) M42)), (j_hn (by decide) (j_hn (by decide) M43)), (j_hn (by decide) (j_hn (by decide) M44)), (j_hn (by decide) (j_hn (by decide) M45)), (j_hn (by decide) (j_hn (by decide) M46)), (j_hn (by decide) (j_hn (by decide) M47)), (j_hn (by decide) (j_hn (by decide) M48)), (j_hn (by decide) (j_hn (by decide) M49))⟩) (⟨(j_hn (by decide) (j_hn (by decide) X0)), (j_hn (by decide) (j_hn (by decide) X1)), (j_hn (by decide) (j_hn (by decide) X2)), (j_hn (by decide) (j_hn (by decide) X3)), (j_hn (by decide) (j_hn (by decide) X4)), (j_hn (by decide) (j_hn (by decide) X5)), (j_hn (by decide) (j_hn (by decide) X6)), (j_hn (by decide) (j_hn (by decide) X7)), (j_hn (by decide) (j_hn (by decide) X8)), (j_hn (by decide) (j_hn (by decide) X9)), (j_hn (by decide) (j_hn (by decide) X10)), (j_hn (by decide) (j_hn (by decide) X11)), (j_hn (by decide) j_hs), (j_hn (by decide) (j_hn (by decide) X13))⟩) ((iW_lo hD (by decide) (iW_lo hD (by decide) hW))) ((iY_set (iY_set hY hrd (by decide)) hrd (by decide))) ((iT_lo hD (by decide) (iT_lo hD (by decide) hT))) ((iE_lo hD (by decide) (iE_lo hD (by decide) hE))) (hD) (⟨hL, hP, hT20, hE60, (by omega), hR, hR0, hn, hrd, hop⟩) (hU) (iS_up hS) (hB)
    · intro b0 b1 b2 b3
      exfalso
      clear hI0 hM hX hW hY hT hE hD hU hS hB hG K M27 M28 M29 M30 M31 M32 M33 M34 M35 M36 M37 M38 M39 M40 M41 M42 M43 M44 M45 M46 M47 M48 M49 X0 X1 X2 X3 X4 X5 X6 X7 X8 X9 X10 X11 X12 X13 W0 W1 W2 Y0 Y1 Y2 Y3 Y4 Y5 Y6 Y7 Y8 Y9 K2
      (try simp only [Int32.lt_iff_toInt_lt, Int32.le_iff_toInt_le, Int64.lt_iff_toInt_lt, Int64.le_iff_toInt_le, Int32.toInt_toInt64, ← Int32.toInt_inj, ← Int64.toInt_inj, n32_0, n32_1, n32_2, n32_3, n32_4, n32_6, n32_8, n32_9, n32_10, n32_20, n32_100, n32_120, n32_255, n32_400, n32_3600, n32_m1, n64_0, n64_1, n64_2, n64_3, n64_4, n64_5, n64_9, n64_19, n64_119, n64_255, n64_400, n64_3599, n64_1000000000, n64_1000000000000, n64_m1000000000000] at c0 c1 c2 c3 b0 b1 b2 b3)
      first | contradiction | omega
  · intro c0 c1 c2 c3
    rw [(hB.2.2 c2).2.1] at c3
    refine K _ _ ⟨_, M27⟩ (fun Q2 K2 => ?_)
    refine s_X8_closeMonth M27 M44 ?_ ?_ ?_ ?_ ?_ ?_ ?_
    · intro b0
      exfalso
      clear hI0 hM hX hW hY hT hE hD hU hS hB hG K M27 M28 M29 M30 M31 M32 M33 M34 M35 M36 M37 M38 M39 M40 M41 M42 M43 M44 M45 M46 M47 M48 M49 X0 X1 X2 X3 X4 X5 X6 X7 X8 X9 X10 X11 X12 X13 W0 W1 W2 Y0 Y1 Y2 Y3 Y4 Y5 Y6 Y7 Y8 Y9 K2
      (try simp only [Int32.lt_iff_toInt_lt, Int32.le_iff_toInt_le, Int64.lt_iff_toInt_lt, Int64.le_iff_toInt_le, Int32.toInt_toInt64, ← Int32.toInt_inj, ← Int64.toInt_inj, n32_0, n32_1, n32_2, n32_3, n32_4, n32_6, n32_8, n32_9, n32_10, n32_20, n32_100, n32_120, n32_255, n32_400, n32_3600, n32_m1, n64_0, n64_1, n64_2, n64_3, n64_4, n64_5, n64_9, n64_19, n64_119, n64_255, n64_400, n64_3599, n64_1000000000, n64_1000000000000, n64_m1000000000000] at c0 c1 c2 c3 b0)
      first | contradiction | omega
    · intro b0 b1
      exfalso
      clear hI0 hM hX hW hY hT hE hD hU hS hB hG K M27 M28 M29 M30 M31 M32 M33 M34 M35 M36 M37 M38 M39 M40 M41 M42 M43 M44 M45 M46 M47 M48 M49 X0 X1 X2 X3 X4 X5 X6 X7 X8 X9 X10 X11 X12 X13 W0 W1 W2 Y0 Y1 Y2 Y3 Y4 Y5 Y6 Y7 Y8 Y9 K2
      (try simp only [Int32.lt_iff_toInt_lt, Int32.le_iff_toInt_le, Int64.lt_iff_toInt_lt, Int64.le_iff_toInt_le, Int32.toInt_toInt64, ← Int32.toInt_inj, ← Int64.toInt_inj, n32_0, n32_1, n32_2, n32_3, n32_4, n32_6, n32_8, n32_9, n32_10, n32_20, n32_100, n32_120, n32_255, n32_400, n32_3600, n32_m1, n64_0, n64_1, n64_2, n64_3, n64_4, n64_5, n64_9, n64_19, n64_119, n64_255, n64_400, n64_3599, n64_1000000000, n64_1000000000000, n64_m1000000000000] at c0 c1 c2 c3 b0 b1)
      first | contradiction | omega
    · intro b0 b1 b2 b3
      exfalso
      clear hI0 hM hX hW hY hT hE hD hU hS hB hG K M27 M28 M29 M30 M31 M32 M33 M34 M35 M36 M37 M38 M39 M40 M41 M42 M43 M44 M45 M46 M47 M48 M49 X0 X1 X2 X3 X4 X5 X6 X7 X8 X9 X10 X11 X12 X13 W0 W1 W2 Y0 Y1 Y2 Y3 Y4 Y5 Y6 Y7 Y8 Y9 K2
      (try simp only [Int32.lt_iff_toInt_lt, Int32.le_iff_toInt_le, Int64.lt_iff_toInt_lt, Int64.le_iff_toInt_le, Int32.toInt_toInt64, ← Int32.toInt_inj, ← Int64.toInt_inj, n32_0, n32_1, n32_2, n32_3, n32_4, n32_6, n32_8, n32_9, n32_10, n32_20, n32_100, n32_120, n32_255, n32_400, n32_3600, n32_m1, n64_0, n64_1, n64_2, n64_3, n64_4, n64_5, n64_9, n64_19, n64_119, n64_255, n64_400, n64_3599, n64_1000000000, n64_1000000000000, n64_m1000000000000] at c0 c1 c2 c3 b0 b1 b2 b3)
      first | contradiction | omega
    · intro b0 b1 b2 b3
      exfalso
      clear hI0 hM hX hW hY hT hE hD hU hS hB hG K M27 M28 M29 M30 M31 M32 M33 M34 M35 M36 M37 M38 M39 M40 M41 M42 M43 M44 M45 M46 M47 M48 M49 X0 X1 X2 X3 X4 X5 X6 X7 X8 X9 X10 X11 X12 X13 W0 W1 W2 Y0 Y1 Y2 Y3 Y4 Y5 Y6 Y7 Y8 Y9 K2
      (try simp only [Int32.lt_iff_toInt_lt, Int32.le_iff_toInt_le, Int64.lt_iff_toInt_lt, Int64.le_iff_toInt_le, Int32.toInt_toInt64, ← Int32.toInt_inj, ← Int64.toInt_inj, n32_0, n32_1, n32_2, n32_3, n32_4, n32_6, n32_8, n32_9, n32_10, n32_20, n32_100, n32_120, n32_255, n32_400, n32_3600, n32_m1, n64_0, n64_1, n64_2, n64_3, n64_4, n64_5, n64_9, n64_19, n64_119, n64_255, n64_400, n64_3599, n64_1000000000, n64_1000000000000, n64_m1000000000000] at c0 c1 c2 c3 b0 b1 b2 b3)
      first | contradiction | omega
    · intro b0 b1 b2 b3 b4
      exfalso
      clear hI0 hM hX hW hY hT hE hD hU hS hB hG K M27 M28 M29 M30 M31 M32 M33 M34 M35 M36 M37 M38 M39 M40 M41 M42 M43 M44 M45 M46 M47 M48 M49 X0 X1 X2 X3 X4 X5 X6 X7 X8 X9 X10 X11 X12 X13 W0 W1 W2 Y0 Y1 Y2 Y3 Y4 Y5 Y6 Y7 Y8 Y9 K2
      (try simp only [Int32.lt_iff_toInt_lt, Int32.le_iff_toInt_le, Int64.lt_iff_toInt_lt, Int64.le_iff_toInt_le, Int32.toInt_toInt64, ← Int32.toInt_inj, ← Int64.toInt_inj, n32_0, n32_1, n32_2, n32_3, n32_4, n32_6, n32_8, n32_9, n32_10, n32_20, n32_100, n32_120, n32_255, n32_400, n32_3600, n32_m1, n64_0, n64_1, n64_2, n64_3, n64_4, n64_5, n64_9, n64_19, n64_119, n64_255, n64_400, n64_3599, n64_1000000000, n64_1000000000000, n64_m1000000000000] at c0 c1 c2 c3 b0 b1 b2 b3 b4)
      first | contradiction | omega
    · intro b0 b1 b2 b3 b4
      exfalso
      clear hI0 hM hX hW hY hT hE hD hU hS hB hG K M27 M28 M29 M30 M31 M32 M33 M34 M35 M36 M37 M38 M39 M40 M41 M42 M43 M44 M45 M46 M47 M48 M49 X0 X1 X2 X3 X4 X5 X6 X7 X8 X9 X10 X11 X12 X13 W0 W1 W2 Y0 Y1 Y2 Y3 Y4 Y5 Y6 Y7 Y8 Y9 K2
      (try simp only [Int32.lt_iff_toInt_lt, Int32.le_iff_toInt_le, Int64.lt_iff_toInt_lt, Int64.le_iff_toInt_le, Int32.toInt_toInt64, ← Int32.toInt_inj, ← Int64.toInt_inj, n32_0, n32_1, n32_2, n32_3, n32_4, n32_6, n32_8, n32_9, n32_10, n32_20, n32_100, n32_120, n32_255, n32_400, n32_3600, n32_m1, n64_0, n64_1, n64_2, n64_3, n64_4, n64_5, n64_9, n64_19, n64_119, n64_255, n64_400, n64_3599, n64_1000000000, n64_1000000000000, n64_m1000000000000] at c0 c1 c2 c3 b0 b1 b2 b3 b4)
      first | contradiction | omega
    · intro b0 b1 b2 b3
      exact K2 _ (iV_up hI0)

set_option maxRecDepth 20000 in
theorem r_open {l : Launch} {G : jG} {h : jH} {Q : Option Value → jH → Prop} {c : Nat} {d0 : Int32} (hc : c < 512) (hG : j_gok G) (hI : iV c h) (K : ∀ (vv : Int32) (h1 : jH), (∃ fs, h1.2 27 = some (jO 8 fs)) → (∀ Q2 : Option Value → jH → Prop, (∀ h2, iV (c + 1) h2 → Q2 (some (.int vv)) h2) → J l G mX8_open 0 0 0 (lv_args 0 [.ref 27, .int d0]) [] h1 Q2) → Q (some (.int vv)) h1) : J l G mX7_open 0 0 0 (lv_args 0 [.ref 0, .int d0]) [] h Q := by
  have hI0 := hI
  refine hI _ ?_
  clear hI
  intro L P T E C R R0 n ru dq dr op at_ fr wd ws we wn dd tx rs fs ro sh dy se ey er tk tn ac f1 f2 f3 f4 g1 g2 g3 g4 da lo ad sa co pa ss w1 w2 w3 am pw ps cu dm ta ea shp tb eb rr rn cst prt eam dys eac shs hM hX hW hY hT hE hD hN hU hS hB
  obtain ⟨M27, M28, M29, M30, M31, M32, M33, M34, M35, M36, M37, M38, M39, M40, M41, M42, M43, M44, M45, M46, M47, M48, M49⟩ := id hM
  obtain ⟨X0, X1, X2, X3, X4, X5, X6, X7, X8, X9, X10, X11, X12, X13⟩ := id hX
  obtain ⟨W0, W1, W2⟩ := id hW
  obtain ⟨Y0, Y1, Y2, Y3, Y4, Y5, Y6, Y7, Y8, Y9⟩ := id hY
  obtain ⟨hL, hP, hT20, hE60, hC, hR, hR0, hn, hrd, hop⟩ := id hN
  have hdx : dr = 14 ∨ 50 ≤ dr := hD.2.2.2.2.2.2.1
  refine s_X7_open (da := da) (dm := dm) (ea := ea) X0 X12 W0 hE60 (by have q := hD.2.2.2.2.2.2.1; omega) ?_ ?_ ?_ ?_ ?_ ?_
  · intro c0
    refine K _ _ ⟨_, M27⟩ (fun Q2 K2 => ?_)
    refine s_X8_open M27 M44 M45 hE60 ?_ ?_ ?_ ?_ ?_ ?_
    · intro b0
      exact K2 _ (iV_up hI0)
    · intro b0 b1
      exfalso
      clear hI0 hM hX hW hY hT hE hD hU hS hB hG K M27 M28 M29 M30 M31 M32 M33 M34 M35 M36 M37 M38 M39 M40 M41 M42 M43 M44 M45 M46 M47 M48 M49 X0 X1 X2 X3 X4 X5 X6 X7 X8 X9 X10 X11 X12 X13 W0 W1 W2 Y0 Y1 Y2 Y3 Y4 Y5 Y6 Y7 Y8 Y9 K2
      (try simp only [Int32.lt_iff_toInt_lt, Int32.le_iff_toInt_le, Int64.lt_iff_toInt_lt, Int64.le_iff_toInt_le, Int32.toInt_toInt64, ← Int32.toInt_inj, ← Int64.toInt_inj, n32_0, n32_1, n32_2, n32_3, n32_4, n32_6, n32_8, n32_9, n32_10, n32_20, n32_100, n32_120, n32_255, n32_400, n32_3600, n32_m1, n64_0, n64_1, n64_2, n64_3, n64_4, n64_5, n64_9, n64_19, n64_119, n64_255, n64_400, n64_3599, n64_1000000000, n64_1000000000000, n64_m1000000000000] at c0 b0 b1)
      first | contradiction | omega
    · intro b0 b1 b2
      exfalso
      clear hI0 hM hX hW hY hT hE hD hU hS hB hG K M27 M28 M29 M30 M31 M32 M33 M34 M35 M36 M37 M38 M39 M40 M41 M42 M43 M44 M45 M46 M47 M48 M49 X0 X1 X2 X3 X4 X5 X6 X7 X8 X9 X10 X11 X12 X13 W0 W1 W2 Y0 Y1 Y2 Y3 Y4 Y5 Y6 Y7 Y8 Y9 K2
      (try simp only [Int32.lt_iff_toInt_lt, Int32.le_iff_toInt_le, Int64.lt_iff_toInt_lt, Int64.le_iff_toInt_le, Int32.toInt_toInt64, ← Int32.toInt_inj, ← Int64.toInt_inj, n32_0, n32_1, n32_2, n32_3, n32_4, n32_6, n32_8, n32_9, n32_10, n32_20, n32_100, n32_120, n32_255, n32_400, n32_3600, n32_m1, n64_0, n64_1, n64_2, n64_3, n64_4, n64_5, n64_9, n64_19, n64_119, n64_255, n64_400, n64_3599, n64_1000000000, n64_1000000000000, n64_m1000000000000] at c0 b0 b1 b2)
      first | contradiction | omega
    · intro b0 b1 b2 b3
      exfalso
      clear hI0 hM hX hW hY hT hE hD hU hS hB hG K M27 M28 M29 M30 M31 M32 M33 M34 M35 M36 M37 M38 M39 M40 M41 M42 M43 M44 M45 M46 M47 M48 M49 X0 X1 X2 X3 X4 X5 X6 X7 X8 X9 X10 X11 X12 X13 W0 W1 W2 Y0 Y1 Y2 Y3 Y4 Y5 Y6 Y7 Y8 Y9 K2
      (try simp only [Int32.lt_iff_toInt_lt, Int32.le_iff_toInt_le, Int64.lt_iff_toInt_lt, Int64.le_iff_toInt_le, Int32.toInt_toInt64, ← Int32.toInt_inj, ← Int64.toInt_inj, n32_0, n32_1, n32_2, n32_3, n32_4, n32_6, n32_8, n32_9, n32_10, n32_20, n32_100, n32_120, n32_255, n32_400, n32_3600, n32_m1, n64_0, n64_1, n64_2, n64_3, n64_4, n64_5, n64_9, n64_19, n64_119, n64_255, n64_400, n64_3599, n64_1000000000, n64_1000000000000, n64_m1000000000000] at c0 b0 b1 b2 b3)
      first | contradiction | omega
    · intro b0 b1 b2 b3 b4
      exfalso
      clear hI0 hM hX hW hY hT hE hD hU hS hB hG K M27 M28 M29 M30 M31 M32 M33 M34 M35 M36 M37 M38 M39 M40 M41 M42 M43 M44 M45 M46 M47 M48 M49 X0 X1 X2 X3 X4 X5 X6 X7 X8 X9 X10 X11 X12 X13 W0 W1 W2 Y0 Y1 Y2 Y3 Y4 Y5 Y6 Y7 Y8 Y9 K2
      (try simp only [Int32.lt_iff_toInt_lt, Int32.le_iff_toInt_le, Int64.lt_iff_toInt_lt, Int64.le_iff_toInt_le, Int32.toInt_toInt64, ← Int32.toInt_inj, ← Int64.toInt_inj, n32_0, n32_1, n32_2, n32_3, n32_4, n32_6, n32_8, n32_9, n32_10, n32_20, n32_100, n32_120, n32_255, n32_400, n32_3600, n32_m1, n64_0, n64_1, n64_2, n64_3, n64_4, n64_5, n64_9, n64_19, n64_119, n64_255, n64_400, n64_3599, n64_1000000000, n64_1000000000000, n64_m1000000000000] at c0 b0 b1 b2 b3 b4)
      first | contradiction | omega
    · intro b0 b1 b2 b3 b4
      exfalso
      clear hI0 hM hX hW hY hT hE hD hU hS hB hG K M27 M28 M29 M30 M31 M32 M33 M34 M35 M36 M37 M38 M39 M40 M41 M42 M43 M44 M45 M46 M47 M48 M49 X0 X1 X2 X3 X4 X5 X6 X7 X8 X9 X10 X11 X12 X13 W0 W1 W2 Y0 Y1 Y2 Y3 Y4 Y5 Y6 Y7 Y8 Y9 K2
      (try simp only [Int32.lt_iff_toInt_lt, Int32.le_iff_toInt_le, Int64.lt_iff_toInt_lt, Int64.le_iff_toInt_le, Int32.toInt_toInt64, ← Int32.toInt_inj, ← Int64.toInt_inj, n32_0, n32_1, n32_2, n32_3, n32_4, n32_6, n32_8, n32_9, n32_10, n32_20, n32_100, n32_120, n32_255, n32_400, n32_3600, n32_m1, n64_0, n64_1, n64_2, n64_3, n64_4, n64_5, n64_9, n64_19, n64_119, n64_255, n64_400, n64_3599, n64_1000000000, n64_1000000000000, n64_m1000000000000] at c0 b0 b1 b2 b3 b4)
      first | contradiction | omega
  · intro c0 c1
    refine K _ _ ⟨_, M27⟩ (fun Q2 K2 => ?_)
    refine s_X8_open M27 M44 M45 hE60 ?_ ?_ ?_ ?_ ?_ ?_
    · intro b0
      exfalso
      clear hI0 hM hX hW hY hT hE hD hU hS hB hG K M27 M28 M29 M30 M31 M32 M33 M34 M35 M36 M37 M38 M39 M40 M41 M42 M43 M44 M45 M46 M47 M48 M49 X0 X1 X2 X3 X4 X5 X6 X7 X8 X9 X10 X11 X12 X13 W0 W1 W2 Y0 Y1 Y2 Y3 Y4 Y5 Y6 Y7 Y8 Y9 K2
      (try simp only [Int32.lt_iff_toInt_lt, Int32.le_iff_toInt_le, Int64.lt_iff_toInt_lt, Int64.le_iff_toInt_le, Int32.toInt_toInt64, ← Int32.toInt_inj, ← Int64.toInt_inj, n32_0, n32_1, n32_2, n32_3, n32_4, n32_6, n32_8, n32_9, n32_10, n32_20, n32_100, n32_120, n32_255, n32_400, n32_3600, n32_m1, n64_0, n64_1, n64_2, n64_3, n64_4, n64_5, n64_9, n64_19, n64_119, n64_255, n64_400, n64_3599, n64_1000000000, n64_1000000000000, n64_m1000000000000] at c0 c1 b0)
      first | contradiction | omega
    · intro b0 b1
      exact K2 _ (iV_up hI0)
    · intro b0 b1 b2
      exfalso
      clear hI0 hM hX hW hY hT hE hD hU hS hB hG K M27 M28 M29 M30 M31 M32 M33 M34 M35 M36 M37 M38 M39 M40 M41 M42 M43 M44 M45 M46 M47 M48 M49 X0 X1 X2 X3 X4 X5 X6 X7 X8 X9 X10 X11 X12 X13 W0 W1 W2 Y0 Y1 Y2 Y3 Y4 Y5 Y6 Y7 Y8 Y9 K2
      (try simp only [Int32.lt_iff_toInt_lt, Int32.le_iff_toInt_le, Int64.lt_iff_toInt_lt, Int64.le_iff_toInt_le, Int32.toInt_toInt64, ← Int32.toInt_inj, ← Int64.toInt_inj, n32_0, n32_1, n32_2, n32_3, n32_4, n32_6, n32_8, n32_9, n32_10, n32_20, n32_100, n32_120, n32_255, n32_400, n32_3600, n32_m1, n64_0, n64_1, n64_2, n64_3, n64_4, n64_5, n64_9, n64_19, n64_119, n64_255, n64_400, n64_3599, n64_1000000000, n64_1000000000000, n64_m1000000000000] at c0 c1 b0 b1 b2)
      first | contradiction | omega
    · intro b0 b1 b2 b3
      exfalso
      clear hI0 hM hX hW hY hT hE hD hU hS hB hG K M27 M28 M29 M30 M31 M32 M33 M34 M35 M36 M37 M38 M39 M40 M41 M42 M43 M44 M45 M46 M47 M48 M49 X0 X1 X2 X3 X4 X5 X6 X7 X8 X9 X10 X11 X12 X13 W0 W1 W2 Y0 Y1 Y2 Y3 Y4 Y5 Y6 Y7 Y8 Y9 K2
      (try simp only [Int32.lt_iff_toInt_lt, Int32.le_iff_toInt_le, Int64.lt_iff_toInt_lt, Int64.le_iff_toInt_le, Int32.toInt_toInt64, ← Int32.toInt_inj, ← Int64.toInt_inj, n32_0, n32_1, n32_2, n32_3, n32_4, n32_6, n32_8, n32_9, n32_10, n32_20, n32_100, n32_120, n32_255, n32_400, n32_3600, n32_m1, n64_0, n64_1, n64_2, n64_3, n64_4, n64_5, n64_9, n64_19, n64_119, n64_255, n64_400, n64_3599, n64_1000000000, n64_1000000000000, n64_m1000000000000] at c0 c1 b0 b1 b2 b3)
      first | contradiction | omega
    · intro b0 b1 b2 b3 b4
      exfalso
      clear hI0 hM hX hW hY hT hE hD hU hS hB hG K M27 M28 M29 M30 M31 M32 M33 M34 M35 M36 M37 M38 M39 M40 M41 M42 M43 M44 M45 M46 M47 M48 M49 X0 X1 X2 X3 X4 X5 X6 X7 X8 X9 X10 X11 X12 X13 W0 W1 W2 Y0 Y1 Y2 Y3 Y4 Y5 Y6 Y7 Y8 Y9 K2
      (try simp only [Int32.lt_iff_toInt_lt, Int32.le_iff_toInt_le, Int64.lt_iff_toInt_lt, Int64.le_iff_toInt_le, Int32.toInt_toInt64, ← Int32.toInt_inj, ← Int64.toInt_inj, n32_0, n32_1, n32_2, n32_3, n32_4, n32_6, n32_8, n32_9, n32_10, n32_20, n32_100, n32_120, n32_255, n32_400, n32_3600, n32_m1, n64_0, n64_1, n64_2, n64_3, n64_4, n64_5, n64_9, n64_19, n64_119, n64_255, n64_400, n64_3599, n64_1000000000, n64_1000000000000, n64_m1000000000000] at c0 c1 b0 b1 b2 b3 b4)
      first | contradiction | omega
    · intro b0 b1 b2 b3 b4
      exfalso
      clear hI0 hM hX hW hY hT hE hD hU hS hB hG K M27 M28 M29 M30 M31 M32 M33 M34 M35 M36 M37 M38 M39 M40 M41 M42 M43 M44 M45 M46 M47 M48 M49 X0 X1 X2 X3 X4 X5 X6 X7 X8 X9 X10 X11 X12 X13 W0 W1 W2 Y0 Y1 Y2 Y3 Y4 Y5 Y6 Y7 Y8 Y9 K2
      (try simp only [Int32.lt_iff_toInt_lt, Int32.le_iff_toInt_le, Int64.lt_iff_toInt_lt, Int64.le_iff_toInt_le, Int32.toInt_toInt64, ← Int32.toInt_inj, ← Int64.toInt_inj, n32_0, n32_1, n32_2, n32_3, n32_4, n32_6, n32_8, n32_9, n32_10, n32_20, n32_100, n32_120, n32_255, n32_400, n32_3600, n32_m1, n64_0, n64_1, n64_2, n64_3, n64_4, n64_5, n64_9, n64_19, n64_119, n64_255, n64_400, n64_3599, n64_1000000000, n64_1000000000000, n64_m1000000000000] at c0 c1 b0 b1 b2 b3 b4)
      first | contradiction | omega
  · intro c0 c1 c2
    refine K _ _ ⟨_, M27⟩ (fun Q2 K2 => ?_)
    refine s_X8_open M27 M44 M45 hE60 ?_ ?_ ?_ ?_ ?_ ?_
    · intro b0
      exfalso
      clear hI0 hM hX hW hY hT hE hD hU hS hB hG K M27 M28 M29 M30 M31 M32 M33 M34 M35 M36 M37 M38 M39 M40 M41 M42 M43 M44 M45 M46 M47 M48 M49 X0 X1 X2 X3 X4 X5 X6 X7 X8 X9 X10 X11 X12 X13 W0 W1 W2 Y0 Y1 Y2 Y3 Y4 Y5 Y6 Y7 Y8 Y9 K2
      (try simp only [Int32.lt_iff_toInt_lt, Int32.le_iff_toInt_le, Int64.lt_iff_toInt_lt, Int64.le_iff_toInt_le, Int32.toInt_toInt64, ← Int32.toInt_inj, ← Int64.toInt_inj, n32_0, n32_1, n32_2, n32_3, n32_4, n32_6, n32_8, n32_9, n32_10, n32_20, n32_100, n32_120, n32_255, n32_400, n32_3600, n32_m1, n64_0, n64_1, n64_2, n64_3, n64_4, n64_5, n64_9, n64_19, n64_119, n64_255, n64_400, n64_3599, n64_1000000000, n64_1000000000000, n64_m1000000000000] at c0 c1 c2 b0)
      first | contradiction | omega
    · intro b0 b1
      exfalso
      clear hI0 hM hX hW hY hT hE hD hU hS hB hG K M27 M28 M29 M30 M31 M32 M33 M34 M35 M36 M37 M38 M39 M40 M41 M42 M43 M44 M45 M46 M47 M48 M49 X0 X1 X2 X3 X4 X5 X6 X7 X8 X9 X10 X11 X12 X13 W0 W1 W2 Y0 Y1 Y2 Y3 Y4 Y5 Y6 Y7 Y8 Y9 K2
      (try simp only [Int32.lt_iff_toInt_lt, Int32.le_iff_toInt_le, Int64.lt_iff_toInt_lt, Int64.le_iff_toInt_le, Int32.toInt_toInt64, ← Int32.toInt_inj, ← Int64.toInt_inj, n32_0, n32_1, n32_2, n32_3, n32_4, n32_6, n32_8, n32_9, n32_10, n32_20, n32_100, n32_120, n32_255, n32_400, n32_3600, n32_m1, n64_0, n64_1, n64_2, n64_3, n64_4, n64_5, n64_9, n64_19, n64_119, n64_255, n64_400, n64_3599, n64_1000000000, n64_1000000000000, n64_m1000000000000] at c0 c1 c2 b0 b1)
      first | contradiction | omega
    · intro b0 b1 b2
      exact K2 _ (iV_up hI0)
    · intro b0 b1 b2 b3
      exfalso
      clear hI0 hM hX hW hY hT hE hD hU hS hB hG K M27 M28 M29 M30 M31 M32 M33 M34 M35 M36 M37 M38 M39 M40 M41 M42 M43 M44 M45 M46 M47 M48 M49 X0 X1 X2 X3 X4 X5 X6 X7 X8 X9 X10 X11 X12 X13 W0 W1 W2 Y0 Y1 Y2 Y3 Y4 Y5 Y6 Y7 Y8 Y9 K2
      (try simp only [Int32.lt_iff_toInt_lt, Int32.le_iff_toInt_le, Int64.lt_iff_toInt_lt, Int64.le_iff_toInt_le, Int32.toInt_toInt64, ← Int32.toInt_inj, ← Int64.toInt_inj, n32_0, n32_1, n32_2, n32_3, n32_4, n32_6, n32_8, n32_9, n32_10, n32_20, n32_100, n32_120, n32_255, n32_400, n32_3600, n32_m1, n64_0, n64_1, n64_2, n64_3, n64_4, n64_5, n64_9, n64_19, n64_119, n64_255, n64_400, n64_3599, n64_1000000000, n64_1000000000000, n64_m1000000000000] at c0 c1 c2 b0 b1 b2 b3)
      first | contradiction | omega
    · intro b0 b1 b2 b3 b4
      exfalso
      clear hI0 hM hX hW hY hT hE hD hU hS hB hG K M27 M28 M29 M30 M31 M32 M33 M34 M35 M36 M37 M38 M39 M40 M41 M42 M43 M44 M45 M46 M47 M48 M49 X0 X1 X2 X3 X4 X5 X6 X7 X8 X9 X10 X11 X12 X13 W0 W1 W2 Y0 Y1 Y2 Y3 Y4 Y5 Y6 Y7 Y8 Y9 K2
      (try simp only [Int32.lt_iff_toInt_lt, Int32.le_iff_toInt_le, Int64.lt_iff_toInt_lt, Int64.le_iff_toInt_le, Int32.toInt_toInt64, ← Int32.toInt_inj, ← Int64.toInt_inj, n32_0, n32_1, n32_2, n32_3, n32_4, n32_6, n32_8, n32_9, n32_10, n32_20, n32_100, n32_120, n32_255, n32_400, n32_3600, n32_m1, n64_0, n64_1, n64_2, n64_3, n64_4, n64_5, n64_9, n64_19, n64_119, n64_255, n64_400, n64_3599, n64_1000000000, n64_1000000000000, n64_m1000000000000] at c0 c1 c2 b0 b1 b2 b3 b4)
      first | contradiction | omega
    · intro b0 b1 b2 b3 b4
      exfalso
      clear hI0 hM hX hW hY hT hE hD hU hS hB hG K M27 M28 M29 M30 M31 M32 M33 M34 M35 M36 M37 M38 M39 M40 M41 M42 M43 M44 M45 M46 M47 M48 M49 X0 X1 X2 X3 X4 X5 X6 X7 X8 X9 X10 X11 X12 X13 W0 W1 W2 Y0 Y1 Y2 Y3 Y4 Y5 Y6 Y7 Y8 Y9 K2
      (try simp only [Int32.lt_iff_toInt_lt, Int32.le_iff_toInt_le, Int64.lt_iff_toInt_lt, Int64.le_iff_toInt_le, Int32.toInt_toInt64, ← Int32.toInt_inj, ← Int64.toInt_inj, n32_0, n32_1, n32_2, n32_3, n32_4, n32_6, n32_8, n32_9, n32_10, n32_20, n32_100, n32_120, n32_255, n32_400, n32_3600, n32_m1, n64_0, n64_1, n64_2, n64_3, n64_4, n64_5, n64_9, n64_19, n64_119, n64_255, n64_400, n64_3599, n64_1000000000, n64_1000000000000, n64_m1000000000000] at c0 c1 c2 b0 b1 b2 b3 b4)
      first | contradiction | omega
  · intro c0 c1 c2 c3 c4
    refine K _ _ ⟨_, (j_hn (by decide) (j_hn (by omega) M27))⟩ (fun Q2 K2 => ?_)
    refine s_X8_open (j_hn (by decide) (j_hn (by omega) M27)) (j_hn (by decide) (j_hn (by omega) M44)) (j_hn (by decide) (j_hn (by omega) M45)) hE60 ?_ ?_ ?_ ?_ ?_ ?_
    · intro b0
      exfalso
      clear hI0 hM hX hW hY hT hE hD hU hS hB hG K M27 M28 M29 M30 M31 M32 M33 M34 M35 M36 M37 M38 M39 M40 M41 M42 M43 M44 M45 M46 M47 M48 M49 X0 X1 X2 X3 X4 X5 X6 X7 X8 X9 X10 X11 X12 X13 W0 W1 W2 Y0 Y1 Y2 Y3 Y4 Y5 Y6 Y7 Y8 Y9 K2
      (try simp only [Int32.lt_iff_toInt_lt, Int32.le_iff_toInt_le, Int64.lt_iff_toInt_lt, Int64.le_iff_toInt_le, Int32.toInt_toInt64, ← Int32.toInt_inj, ← Int64.toInt_inj, n32_0, n32_1, n32_2, n32_3, n32_4, n32_6, n32_8, n32_9, n32_10, n32_20, n32_100, n32_120, n32_255, n32_400, n32_3600, n32_m1, n64_0, n64_1, n64_2, n64_3, n64_4, n64_5, n64_9, n64_19, n64_119, n64_255, n64_400, n64_3599, n64_1000000000, n64_1000000000000, n64_m1000000000000] at c0 c1 c2 c3 c4 b0)
      first | contradiction | omega
    · intro b0 b1
      exfalso
      clear hI0 hM hX hW hY hT hE hD hU hS hB hG K M27 M28 M29 M30 M31 M32 M33 M34 M35 M36 M37 M38 M39 M40 M41 M42 M43 M44 M45 M46 M47 M48 M49 X0 X1 X2 X3 X4 X5 X6 X7 X8 X9 X10 X11 X12 X13 W0 W1 W2 Y0 Y1 Y2 Y3 Y4 Y5 Y6 Y7 Y8 Y9 K2
      (try simp only [Int32.lt_iff_toInt_lt, Int32.le_iff_toInt_le, Int64.lt_iff_toInt_lt, Int64.le_iff_toInt_le, Int32.toInt_toInt64, ← Int32.toInt_inj, ← Int64.toInt_inj, n32_0, n32_1, n32_2, n32_3, n32_4, n32_6, n32_8, n32_9, n32_10, n32_20, n32_100, n32_120, n32_255, n32_400, n32_3600, n32_m1, n64_0, n64_1, n64_2, n64_3, n64_4, n64_5, n64_9, n64_19, n64_119, n64_255, n64_400, n64_3599, n64_1000000000, n64_1000000000000, n64_m1000000000000] at c0 c1 c2 c3 c4 b0 b1)
      first | contradiction | omega
    · intro b0 b1 b2
      exfalso
      clear hI0 hM hX hW hY hT hE hD hU hS hB hG K M27 M28 M29 M30 M31 M32 M33 M34 M35 M36 M37 M38 M39 M40 M41 M42 M43 M44 M45 M46 M47 M48 M49 X0 X1 X2 X3 X4 X5 X6 X7 X8 X9 X10 X11 X12 X13 W0 W1 W2 Y0 Y1 Y2 Y3 Y4 Y5 Y6 Y7 Y8 Y9 K2
      (try simp only [Int32.lt_iff_toInt_lt, Int32.le_iff_toInt_le, Int64.lt_iff_toInt_lt, Int64.le_iff_toInt_le, Int32.toInt_toInt64, ← Int32.toInt_inj, ← Int64.toInt_inj, n32_0, n32_1, n32_2, n32_3, n32_4, n32_6, n32_8, n32_9, n32_10, n32_20, n32_100, n32_120, n32_255, n32_400, n32_3600, n32_m1, n64_0, n64_1, n64_2, n64_3, n64_4, n64_5, n64_9, n64_19, n64_119, n64_255, n64_400, n64_3599, n64_1000000000, n64_1000000000000, n64_m1000000000000] at c0 c1 c2 c3 c4 b0 b1 b2)
      first | contradiction | omega
    · intro b0 b1 b2 b3
      exfalso
      clear hI0 hM hX hW hY hT hE hD hU hS hB hG K M27 M28 M29 M30 M31 M32 M33 M34 M35 M36 M37 M38 M39 M40 M41 M42 M43 M44 M45 M46 M47 M48 M49 X0 X1 X2 X3 X4 X5 X6 X7 X8 X9 X10 X11 X12 X13 W0 W1 W2 Y0 Y1 Y2 Y3 Y4 Y5 Y6 Y7 Y8 Y9 K2
      (try simp only [Int32.lt_iff_toInt_lt, Int32.le_iff_toInt_le, Int64.lt_iff_toInt_lt, Int64.le_iff_toInt_le, Int32.toInt_toInt64, ← Int32.toInt_inj, ← Int64.toInt_inj, n32_0, n32_1, n32_2, n32_3, n32_4, n32_6, n32_8, n32_9, n32_10, n32_20, n32_100, n32_120, n32_255, n32_400, n32_3600, n32_m1, n64_0, n64_1, n64_2, n64_3, n64_4, n64_5, n64_9, n64_19, n64_119, n64_255, n64_400, n64_3599, n64_1000000000, n64_1000000000000, n64_m1000000000000] at c0 c1 c2 c3 c4 b0 b1 b2 b3)
      first | contradiction | omega
    · intro b0 b1 b2 b3 b4
      refine K2 _ (fun X k => ?_)
      exact k L P T E C 0 0 n ru dq dr 1 at_ fr wd ws we wn d0 tx rs fs ro sh dy se (va_up ey 0 d0) (va_up er 0 0) tk tn ac f1 f2 f3 f4 g1 g2 g3 g4 da lo ad sa co pa ss w1 w2 w3 am pw ps cu dm ta ea shp tb eb rr rn cst prt eam dys eac shs (⟨(j_hn (by decide) (j_hn (by decide) j_hs)), (j_hn (by decide) (j_hn (by decide) (j_hn (by decide) (j_hn (by decide) (j_hn (by omega) M28))))), (j_hn (by decide) (j_hn (by decide) (j_hn (by decide) (j_hn (by decide) (j_hn (by omega) M29))))), (j_hn (by decide) (j_hn (by decide) (j_hn (by decide) (j_hn (by decide) (j_hn (by omega) M30))))), (j_hn (by decide) (j_hn (by decide) (j_hn (by decide) (j_hn (by decide) (j_hn (by omega) M31))))), (j_hn (by decide) (j_hn (by decide) (j_hn (by decide) (j_hn (by decide) (j_hn (by omega) M32))))), (j_hn (by decide) (j_hn (by decide) (j_hn (by decide) (j_hn (by decide) (j_hn (by omega) M33))))), (j_hn (by decide) (j_hn (by decide) (j_hn (by decide) (j_hn (by decide) (j_hn (by omega) M34))))), (j_hn (by decide) (j_hn (by decide) (j_hn (by decide) (j_hn (by decide) (j_hn (by omega) M35))))), (j_hn (by decide) (j_hn (by decide) (j_hn (by decide) (j_hn (by decide) (j_hn (by omega) M36))))), (j_hn (by decide) (j_hn (by decide) (j_hn (by decide) (j_hn (by decide) (j_hn (by omega) M37))))), (j_hn (by decide) (j_hn (by decide) (j_hn (by decide) (j_hn (by decide) (j_hn (by omega) M38))))), (j_hn (by decide) (j_hn (by decide) (j_hn (by decide) (j_hn (by decide) (j_hn (by omega) M39))))), (j_hn (by decide) (j_hn (by decide) (j_hn (by decide) (j_hn (by decide) (j_hn (by omega) M40))))), (j_hn (by decide) (j_hn (by decide) (j_hn (by decide) (j_hn (by decide) (j_hn (by omega) M41))))), (j_hn (by decide) (j_hn (by decide) (j_hn (by decide) (j_hn (by decide) (j_hn (by omega) M42))))), (j_hn (by decide) (j_hn (by decide) (j_hn (by decide) (j_hn (by decide) (j_hn (by omega) M43))))), (j_hn (by decide) j_hs), j_hs, (j_hn (by decide) (j_hn (by decide) (j_hn (by decide) (j_hn (by decide) (j_hn (by omega) M46))))), (j_hn (by decide) (j_hn (by decide) (j_hn (by decide) (j_hn (by decide) (j_hn (by omega) M47))))), (j_hn (by decide) (j_hn (by decide) (j_hn (by decide) (j_hn (by decide) (j_hn (by omega) M48))))), (j_hn (by decide) (j_hn (by decide) (j_hn (by decide) (j_hn (by decide) (j_hn (by omega) M49)))))⟩) (⟨(j_hn (by decide) (j_hn (by decide) (j_hn (by decide) (j_hn (by decide) (j_hn (by omega) X0))))), (j_hn (by decide) (j_hn (by decide) (j_hn (by decide) (j_hn (by decide) (j_hn (by omega) X1))))), (j_hn (by decide) (j_hn (by decide) (j_hn (by decide) (j_hn (by decide) (j_hn (by omega) X2))))), (j_hn (by decide) (j_hn (by decide) (j_hn (by decide) (j_hn (by decide) (j_hn (by omega) X3))))), (j_hn (by decide) (j_hn (by decide) (j_hn (by decide) (j_hn (by decide) (j_hn (by omega) X4))))), (j_hn (by decide) (j_hn (by decide) (j_hn (by decide) (j_hn (by decide) (j_hn (by omega) X5))))), (j_hn (by decide) (j_hn (by decide) (j_hn (by decide) (j_hn (by decide) (j_hn (by omega) X6))))), (j_hn (by decide) (j_hn (by decide) (j_hn (by decide) (j_hn (by decide) (j_hn (by omega) X7))))), (j_hn (by decide) (j_hn (by decide) (j_hn (by decide) (j_hn (by decide) (j_hn (by omega) X8))))), (j_hn (by decide) (j_hn (by decide) (j_hn (by decide) (j_hn (by decide) (j_hn (by omega) X9))))), (j_hn (by decide) (j_hn (by decide) (j_hn (by decide) (j_hn (by decide) (j_hn (by omega) X10))))), (j_hn (by decide) (j_hn (by decide) (j_hn (by decide) (j_hn (by decide) (j_hn (by omega) X11))))), (j_hn (by decide) (j_hn (by decide) (j_hn (by decide) j_hs))), (j_hn (by decide) (j_hn (by decide) (j_hn (by decide) (j_hn (by decide) (j_hn (by omega) X13)))))⟩) (⟨(j_hn (by omega) (j_hn (by omega) (j_hn (by omega) (j_hn (by omega) j_hs)))), (j_hn (by omega) (j_hn (by omega) (j_hn (by omega) (j_hn (by omega) (j_hn (by omega) W1))))), (j_hn (by omega) (j_hn (by omega) (j_hn (by omega) (j_hn (by omega) (j_hn (by omega) W2)))))⟩) ((iY_set (iY_set (iY_set (iY_set (iY_set hY hrd (by omega)) hrd (by decide)) hrd (by decide)) hrd (by decide)) hrd (by decide))) ((iT_lo hD (by decide) (iT_lo hD (by decide) (iT_lo hD (by decide) (iT_lo hD (by decide) (iT_set hT (fun t ht => by have q := hD.2.2.2.2.2.2.2.2.2 t ht; omega))))))) (iE_cg (iE_lo hD (by decide) (iE_lo hD (by decide) (iE_lo hD (by decide) (iE_lo hD (by decide) (iE_set hE (fun e he => by have q := hD.2.2.2.2.2.2.2.2.1 e he; omega)))))) (fun e he => va_up_n _ _ (by omega)) (fun _ _ => rfl) (fun _ _ => rfl)) (hD) (⟨hL, hP, hT20, hE60, hC, Nat.zero_le _, Nat.zero_le _, hn, hrd, Or.inr rfl⟩) (hU) (iS_up hS) (iB_open hB)
    · intro b0 b1 b2 b3 b4
      exfalso
      clear hI0 hM hX hW hY hT hE hD hU hS hB hG K M27 M28 M29 M30 M31 M32 M33 M34 M35 M36 M37 M38 M39 M40 M41 M42 M43 M44 M45 M46 M47 M48 M49 X0 X1 X2 X3 X4 X5 X6 X7 X8 X9 X10 X11 X12 X13 W0 W1 W2 Y0 Y1 Y2 Y3 Y4 Y5 Y6 Y7 Y8 Y9 K2
      (try simp only [Int32.lt_iff_toInt_lt, Int32.le_iff_toInt_le, Int64.lt_iff_toInt_lt, Int64.le_iff_toInt_le, Int32.toInt_toInt64, ← Int32.toInt_inj, ← Int64.toInt_inj, n32_0, n32_1, n32_2, n32_3, n32_4, n32_6, n32_8, n32_9, n32_10, n32_20, n32_100, n32_120, n32_255, n32_400, n32_3600, n32_m1, n64_0, n64_1, n64_2, n64_3, n64_4, n64_5, n64_9, n64_19, n64_119, n64_255, n64_400, n64_3599, n64_1000000000, n64_1000000000000, n64_m1000000000000] at c0 c1 c2 c3 c4 b0 b1 b2 b3 b4)
      first | contradiction | omega
  · intro c0 c1 c2 c3 c4
    refine K _ _ ⟨_, M27⟩ (fun Q2 K2 => ?_)
    refine s_X8_open M27 M44 M45 hE60 ?_ ?_ ?_ ?_ ?_ ?_
    · intro b0
      exfalso
      clear hI0 hM hX hW hY hT hE hD hU hS hB hG K M27 M28 M29 M30 M31 M32 M33 M34 M35 M36 M37 M38 M39 M40 M41 M42 M43 M44 M45 M46 M47 M48 M49 X0 X1 X2 X3 X4 X5 X6 X7 X8 X9 X10 X11 X12 X13 W0 W1 W2 Y0 Y1 Y2 Y3 Y4 Y5 Y6 Y7 Y8 Y9 K2
      (try simp only [Int32.lt_iff_toInt_lt, Int32.le_iff_toInt_le, Int64.lt_iff_toInt_lt, Int64.le_iff_toInt_le, Int32.toInt_toInt64, ← Int32.toInt_inj, ← Int64.toInt_inj, n32_0, n32_1, n32_2, n32_3, n32_4, n32_6, n32_8, n32_9, n32_10, n32_20, n32_100, n32_120, n32_255, n32_400, n32_3600, n32_m1, n64_0, n64_1, n64_2, n64_3, n64_4, n64_5, n64_9, n64_19, n64_119, n64_255, n64_400, n64_3599, n64_1000000000, n64_1000000000000, n64_m1000000000000] at c0 c1 c2 c3 c4 b0)
      first | contradiction | omega
    · intro b0 b1
      exfalso
      clear hI0 hM hX hW hY hT hE hD hU hS hB hG K M27 M28 M29 M30 M31 M32 M33 M34 M35 M36 M37 M38 M39 M40 M41 M42 M43 M44 M45 M46 M47 M48 M49 X0 X1 X2 X3 X4 X5 X6 X7 X8 X9 X10 X11 X12 X13 W0 W1 W2 Y0 Y1 Y2 Y3 Y4 Y5 Y6 Y7 Y8 Y9 K2
      (try simp only [Int32.lt_iff_toInt_lt, Int32.le_iff_toInt_le, Int64.lt_iff_toInt_lt, Int64.le_iff_toInt_le, Int32.toInt_toInt64, ← Int32.toInt_inj, ← Int64.toInt_inj, n32_0, n32_1, n32_2, n32_3, n32_4, n32_6, n32_8, n32_9, n32_10, n32_20, n32_100, n32_120, n32_255, n32_400, n32_3600, n32_m1, n64_0, n64_1, n64_2, n64_3, n64_4, n64_5, n64_9, n64_19, n64_119, n64_255, n64_400, n64_3599, n64_1000000000, n64_1000000000000, n64_m1000000000000] at c0 c1 c2 c3 c4 b0 b1)
      first | contradiction | omega
    · intro b0 b1 b2
      exfalso
      clear hI0 hM hX hW hY hT hE hD hU hS hB hG K M27 M28 M29 M30 M31 M32 M33 M34 M35 M36 M37 M38 M39 M40 M41 M42 M43 M44 M45 M46 M47 M48 M49 X0 X1 X2 X3 X4 X5 X6 X7 X8 X9 X10 X11 X12 X13 W0 W1 W2 Y0 Y1 Y2 Y3 Y4 Y5 Y6 Y7 Y8 Y9 K2
      (try simp only [Int32.lt_iff_toInt_lt, Int32.le_iff_toInt_le, Int64.lt_iff_toInt_lt, Int64.le_iff_toInt_le, Int32.toInt_toInt64, ← Int32.toInt_inj, ← Int64.toInt_inj, n32_0, n32_1, n32_2, n32_3, n32_4, n32_6, n32_8, n32_9, n32_10, n32_20, n32_100, n32_120, n32_255, n32_400, n32_3600, n32_m1, n64_0, n64_1, n64_2, n64_3, n64_4, n64_5, n64_9, n64_19, n64_119, n64_255, n64_400, n64_3599, n64_1000000000, n64_1000000000000, n64_m1000000000000] at c0 c1 c2 c3 c4 b0 b1 b2)
      first | contradiction | omega
    · intro b0 b1 b2 b3
      exfalso
      clear hI0 hM hX hW hY hT hE hD hU hS hB hG K M27 M28 M29 M30 M31 M32 M33 M34 M35 M36 M37 M38 M39 M40 M41 M42 M43 M44 M45 M46 M47 M48 M49 X0 X1 X2 X3 X4 X5 X6 X7 X8 X9 X10 X11 X12 X13 W0 W1 W2 Y0 Y1 Y2 Y3 Y4 Y5 Y6 Y7 Y8 Y9 K2
      (try simp only [Int32.lt_iff_toInt_lt, Int32.le_iff_toInt_le, Int64.lt_iff_toInt_lt, Int64.le_iff_toInt_le, Int32.toInt_toInt64, ← Int32.toInt_inj, ← Int64.toInt_inj, n32_0, n32_1, n32_2, n32_3, n32_4, n32_6, n32_8, n32_9, n32_10, n32_20, n32_100, n32_120, n32_255, n32_400, n32_3600, n32_m1, n64_0, n64_1, n64_2, n64_3, n64_4, n64_5, n64_9, n64_19, n64_119, n64_255, n64_400, n64_3599, n64_1000000000, n64_1000000000000, n64_m1000000000000] at c0 c1 c2 c3 c4 b0 b1 b2 b3)
      first | contradiction | omega
    · intro b0 b1 b2 b3 b4
      exfalso
      clear hI0 hM hX hW hY hT hE hD hU hS hB hG K M27 M28 M29 M30 M31 M32 M33 M34 M35 M36 M37 M38 M39 M40 M41 M42 M43 M44 M45 M46 M47 M48 M49 X0 X1 X2 X3 X4 X5 X6 X7 X8 X9 X10 X11 X12 X13 W0 W1 W2 Y0 Y1 Y2 Y3 Y4 Y5 Y6 Y7 Y8 Y9 K2
      (try simp only [Int32.lt_iff_toInt_lt, Int32.le_iff_toInt_le, Int64.lt_iff_toInt_lt, Int64.le_iff_toInt_le, Int32.toInt_toInt64, ← Int32.toInt_inj, ← Int64.toInt_inj, n32_0, n32_1, n32_2, n32_3, n32_4, n32_6, n32_8, n32_9, n32_10, n32_20, n32_100, n32_120, n32_255, n32_400, n32_3600, n32_m1, n64_0, n64_1, n64_2, n64_3, n64_4, n64_5, n64_9, n64_19, n64_119, n64_255, n64_400, n64_3599, n64_1000000000, n64_1000000000000, n64_m1000000000000] at c0 c1 c2 c3 c4 b0 b1 b2 b3 b4)
      first | contradiction | omega
    · intro b0 b1 b2 b3 b4
      exact K2 _ (iV_up hI0)
  · intro c0 c1 c2 c3
    refine K _ _ ⟨_, M27⟩ (fun Q2 K2 => ?_)
    refine s_X8_open M27 M44 M45 hE60 ?_ ?_ ?_ ?_ ?_ ?_
    · intro b0
      exfalso
      clear hI0 hM hX hW hY hT hE hD hU hS hB hG K M27 M28 M29 M30 M31 M32 M33 M34 M35 M36 M37 M38 M39 M40 M41 M42 M43 M44 M45 M46 M47 M48 M49 X0 X1 X2 X3 X4 X5 X6 X7 X8 X9 X10 X11 X12 X13 W0 W1 W2 Y0 Y1 Y2 Y3 Y4 Y5 Y6 Y7 Y8 Y9 K2
      (try simp only [Int32.lt_iff_toInt_lt, Int32.le_iff_toInt_le, Int64.lt_iff_toInt_lt, Int64.le_iff_toInt_le, Int32.toInt_toInt64, ← Int32.toInt_inj, ← Int64.toInt_inj, n32_0, n32_1, n32_2, n32_3, n32_4, n32_6, n32_8, n32_9, n32_10, n32_20, n32_100, n32_120, n32_255, n32_400, n32_3600, n32_m1, n64_0, n64_1, n64_2, n64_3, n64_4, n64_5, n64_9, n64_19, n64_119, n64_255, n64_400, n64_3599, n64_1000000000, n64_1000000000000, n64_m1000000000000] at c0 c1 c2 c3 b0)
      first | contradiction | omega
    · intro b0 b1
      exfalso
      clear hI0 hM hX hW hY hT hE hD hU hS hB hG K M27 M28 M29 M30 M31 M32 M33 M34 M35 M36 M37 M38 M39 M40 M41 M42 M43 M44 M45 M46 M47 M48 M49 X0 X1 X2 X3 X4 X5 X6 X7 X8 X9 X10 X11 X12 X13 W0 W1 W2 Y0 Y1 Y2 Y3 Y4 Y5 Y6 Y7 Y8 Y9 K2
      (try simp only [Int32.lt_iff_toInt_lt, Int32.le_iff_toInt_le, Int64.lt_iff_toInt_lt, Int64.le_iff_toInt_le, Int32.toInt_toInt64, ← Int32.toInt_inj, ← Int64.toInt_inj, n32_0, n32_1, n32_2, n32_3, n32_4, n32_6, n32_8, n32_9, n32_10, n32_20, n32_100, n32_120, n32_255, n32_400, n32_3600, n32_m1, n64_0, n64_1, n64_2, n64_3, n64_4, n64_5, n64_9, n64_19, n64_119, n64_255, n64_400, n64_3599, n64_1000000000, n64_1000000000000, n64_m1000000000000] at c0 c1 c2 c3 b0 b1)
      first | contradiction | omega
    · intro b0 b1 b2
      exfalso
      clear hI0 hM hX hW hY hT hE hD hU hS hB hG K M27 M28 M29 M30 M31 M32 M33 M34 M35 M36 M37 M38 M39 M40 M41 M42 M43 M44 M45 M46 M47 M48 M49 X0 X1 X2 X3 X4 X5 X6 X7 X8 X9 X10 X11 X12 X13 W0 W1 W2 Y0 Y1 Y2 Y3 Y4 Y5 Y6 Y7 Y8 Y9 K2
      (try simp only [Int32.lt_iff_toInt_lt, Int32.le_iff_toInt_le, Int64.lt_iff_toInt_lt, Int64.le_iff_toInt_le, Int32.toInt_toInt64, ← Int32.toInt_inj, ← Int64.toInt_inj, n32_0, n32_1, n32_2, n32_3, n32_4, n32_6, n32_8, n32_9, n32_10, n32_20, n32_100, n32_120, n32_255, n32_400, n32_3600, n32_m1, n64_0, n64_1, n64_2, n64_3, n64_4, n64_5, n64_9, n64_19, n64_119, n64_255, n64_400, n64_3599, n64_1000000000, n64_1000000000000, n64_m1000000000000] at c0 c1 c2 c3 b0 b1 b2)
      first | contradiction | omega
    · intro b0 b1 b2 b3
      exact K2 _ (iV_up hI0)
    · intro b0 b1 b2 b3 b4
      exfalso
      clear hI0 hM hX hW hY hT hE hD hU hS hB hG K M27 M28 M29 M30 M31 M32 M33 M34 M35 M36 M37 M38 M39 M40 M41 M42 M43 M44 M45 M46 M47 M48 M49 X0 X1 X2 X3 X4 X5 X6 X7 X8 X9 X10 X11 X12 X13 W0 W1 W2 Y0 Y1 Y2 Y3 Y4 Y5 Y6 Y7 Y8 Y9 K2
      (try simp only [Int32.lt_iff_toInt_lt, Int32.le_iff_toInt_le, Int64.lt_iff_toInt_lt, Int64.le_iff_toInt_le, Int32.toInt_toInt64, ← Int32.toInt_inj, ← Int64.toInt_inj, n32_0, n32_1, n32_2, n32_3, n32_4, n32_6, n32_8, n32_9, n32_10, n32_20, n32_100, n32_120, n32_255, n32_400, n32_3600, n32_m1, n64_0, n64_1, n64_2, n64_3, n64_4, n64_5, n64_9, n64_19, n64_119, n64_255, n64_400, n64_3599, n64_1000000000, n64_1000000000000, n64_m1000000000000] at c0 c1 c2 c3 b0 b1 b2 b3 b4)
      first | contradiction | omega
    · intro b0 b1 b2 b3 b4
      exfalso
      clear hI0 hM hX hW hY hT hE hD hU hS hB hG K M27 M28 M29 M30 M31 M32 M33 M34 M35 M36 M37 M38 M39 M40 M41 M42 M43 M44 M45 M46 M47 M48 M49 X0 X1 X2 X3 X4 X5 X6 X7 X8 X9 X10 X11 X12 X13 W0 W1 W2 Y0 Y1 Y2 Y3 Y4 Y5 Y6 Y7 Y8 Y9 K2
      (try simp only [Int32.lt_iff_toInt_lt, Int32.le_iff_toInt_le, Int64.lt_iff_toInt_lt, Int64.le_iff_toInt_le, Int32.toInt_toInt64, ← Int32.toInt_inj, ← Int64.toInt_inj, n32_0, n32_1, n32_2, n32_3, n32_4, n32_6, n32_8, n32_9, n32_10, n32_20, n32_100, n32_120, n32_255, n32_400, n32_3600, n32_m1, n64_0, n64_1, n64_2, n64_3, n64_4, n64_5, n64_9, n64_19, n64_119, n64_255, n64_400, n64_3599, n64_1000000000, n64_1000000000000, n64_m1000000000000] at c0 c1 c2 c3 b0 b1 b2 b3 b4)
      first | contradiction | omega

set_option maxRecDepth 20000 in
theorem r_row {l : Launch} {G : jG} {h : jH} {Q : Option Value → jH → Prop} {c : Nat} {a0 : Int32} {v : Int64} (hc : c < 512) (hG : j_gok G) (hI : iV c h) (K : ∀ (vv : Int32) (h1 : jH), (∃ fs, h1.2 27 = some (jO 8 fs)) → (∀ Q2 : Option Value → jH → Prop, (∀ h2, iV (c + 1) h2 → Q2 (some (.int vv)) h2) → J l G mX8_row 0 0 0 (lv_args 0 [.ref 27, .int a0, .long v]) [] h1 Q2) → Q (some (.int vv)) h1) : J l G mX7_row 0 0 0 (lv_args 0 [.ref 0, .int a0, .long v]) [] h Q := by
  have hI0 := hI
  refine hI _ ?_
  clear hI
  intro L P T E C R R0 n ru dq dr op at_ fr wd ws we wn dd tx rs fs ro sh dy se ey er tk tn ac f1 f2 f3 f4 g1 g2 g3 g4 da lo ad sa co pa ss w1 w2 w3 am pw ps cu dm ta ea shp tb eb rr rn cst prt eam dys eac shs hM hX hW hY hT hE hD hN hU hS hB
  obtain ⟨M27, M28, M29, M30, M31, M32, M33, M34, M35, M36, M37, M38, M39, M40, M41, M42, M43, M44, M45, M46, M47, M48, M49⟩ := id hM
  obtain ⟨X0, X1, X2, X3, X4, X5, X6, X7, X8, X9, X10, X11, X12, X13⟩ := id hX
  obtain ⟨W0, W1, W2⟩ := id hW
  obtain ⟨Y0, Y1, Y2, Y3, Y4, Y5, Y6, Y7, Y8, Y9⟩ := id hY
  obtain ⟨hL, hP, hT20, hE60, hC, hR, hR0, hn, hrd, hop⟩ := id hN
  have hdx : dr = 14 ∨ 50 ≤ dr := hD.2.2.2.2.2.2.1
  refine s_X7_row (ea := ea) X0 X12 W0 W1 W2 hE60 (by have q := hD.2.2.2.2.2.2.1; omega) hR ?_ ?_ ?_ ?_ ?_ ?_ ?_ ?_ ?_
  · intro c0
    refine K _ _ ⟨_, M27⟩ (fun Q2 K2 => ?_)
    refine s_X8_row M27 M45 M48 M49 hB.2.1 hR0 ?_ ?_ ?_ ?_ ?_ ?_ ?_ ?_
    · intro b0
      exact K2 _ (iV_up hI0)
    · intro b0 b1
      exfalso
      clear hI0 hM hX hW hY hT hE hD hU hS hB hG K M27 M28 M29 M30 M31 M32 M33 M34 M35 M36 M37 M38 M39 M40 M41 M42 M43 M44 M45 M46 M47 M48 M49 X0 X1 X2 X3 X4 X5 X6 X7 X8 X9 X10 X11 X12 X13 W0 W1 W2 Y0 Y1 Y2 Y3 Y4 Y5 Y6 Y7 Y8 Y9 K2
      (try simp only [Int32.lt_iff_toInt_lt, Int32.le_iff_toInt_le, Int64.lt_iff_toInt_lt, Int64.le_iff_toInt_le, Int32.toInt_toInt64, ← Int32.toInt_inj, ← Int64.toInt_inj, n32_0, n32_1, n32_2, n32_3, n32_4, n32_6, n32_8, n32_9, n32_10, n32_20, n32_100, n32_120, n32_255, n32_400, n32_3600, n32_m1, n64_0, n64_1, n64_2, n64_3, n64_4, n64_5, n64_9, n64_19, n64_119, n64_255, n64_400, n64_3599, n64_1000000000, n64_1000000000000, n64_m1000000000000] at c0 b0 b1)
      first | contradiction | omega
    · intro b0 b1 b2
      exfalso
      clear hI0 hM hX hW hY hT hE hD hU hS hB hG K M27 M28 M29 M30 M31 M32 M33 M34 M35 M36 M37 M38 M39 M40 M41 M42 M43 M44 M45 M46 M47 M48 M49 X0 X1 X2 X3 X4 X5 X6 X7 X8 X9 X10 X11 X12 X13 W0 W1 W2 Y0 Y1 Y2 Y3 Y4 Y5 Y6 Y7 Y8 Y9 K2
      (try simp only [Int32.lt_iff_toInt_lt, Int32.le_iff_toInt_le, Int64.lt_iff_toInt_lt, Int64.le_iff_toInt_le, Int32.toInt_toInt64, ← Int32.toInt_inj, ← Int64.toInt_inj, n32_0, n32_1, n32_2, n32_3, n32_4, n32_6, n32_8, n32_9, n32_10, n32_20, n32_100, n32_120, n32_255, n32_400, n32_3600, n32_m1, n64_0, n64_1, n64_2, n64_3, n64_4, n64_5, n64_9, n64_19, n64_119, n64_255, n64_400, n64_3599, n64_1000000000, n64_1000000000000, n64_m1000000000000] at c0 b0 b1 b2)
      first | contradiction | omega
    · intro b0 b1 b2 b3
      exfalso
      clear hI0 hM hX hW hY hT hE hD hU hS hB hG K M27 M28 M29 M30 M31 M32 M33 M34 M35 M36 M37 M38 M39 M40 M41 M42 M43 M44 M45 M46 M47 M48 M49 X0 X1 X2 X3 X4 X5 X6 X7 X8 X9 X10 X11 X12 X13 W0 W1 W2 Y0 Y1 Y2 Y3 Y4 Y5 Y6 Y7 Y8 Y9 K2
      (try simp only [Int32.lt_iff_toInt_lt, Int32.le_iff_toInt_le, Int64.lt_iff_toInt_lt, Int64.le_iff_toInt_le, Int32.toInt_toInt64, ← Int32.toInt_inj, ← Int64.toInt_inj, n32_0, n32_1, n32_2, n32_3, n32_4, n32_6, n32_8, n32_9, n32_10, n32_20, n32_100, n32_120, n32_255, n32_400, n32_3600, n32_m1, n64_0, n64_1, n64_2, n64_3, n64_4, n64_5, n64_9, n64_19, n64_119, n64_255, n64_400, n64_3599, n64_1000000000, n64_1000000000000, n64_m1000000000000] at c0 b0 b1 b2 b3)
      first | contradiction | omega
    · intro b0 b1 b2 b3 b4
      exfalso
      clear hI0 hM hX hW hY hT hE hD hU hS hB hG K M27 M28 M29 M30 M31 M32 M33 M34 M35 M36 M37 M38 M39 M40 M41 M42 M43 M44 M45 M46 M47 M48 M49 X0 X1 X2 X3 X4 X5 X6 X7 X8 X9 X10 X11 X12 X13 W0 W1 W2 Y0 Y1 Y2 Y3 Y4 Y5 Y6 Y7 Y8 Y9 K2
      (try simp only [Int32.lt_iff_toInt_lt, Int32.le_iff_toInt_le, Int64.lt_iff_toInt_lt, Int64.le_iff_toInt_le, Int32.toInt_toInt64, ← Int32.toInt_inj, ← Int64.toInt_inj, n32_0, n32_1, n32_2, n32_3, n32_4, n32_6, n32_8, n32_9, n32_10, n32_20, n32_100, n32_120, n32_255, n32_400, n32_3600, n32_m1, n64_0, n64_1, n64_2, n64_3, n64_4, n64_5, n64_9, n64_19, n64_119, n64_255, n64_400, n64_3599, n64_1000000000, n64_1000000000000, n64_m1000000000000] at c0 b0 b1 b2 b3 b4)
      first | contradiction | omega
    · intro b0 b1 b2 b3 b4 b5
      exfalso
      clear hI0 hM hX hW hY hT hE hD hU hS hB hG K M27 M28 M29 M30 M31 M32 M33 M34 M35 M36 M37 M38 M39 M40 M41 M42 M43 M44 M45 M46 M47 M48 M49 X0 X1 X2 X3 X4 X5 X6 X7 X8 X9 X10 X11 X12 X13 W0 W1 W2 Y0 Y1 Y2 Y3 Y4 Y5 Y6 Y7 Y8 Y9 K2
      (try simp only [Int32.lt_iff_toInt_lt, Int32.le_iff_toInt_le, Int64.lt_iff_toInt_lt, Int64.le_iff_toInt_le, Int32.toInt_toInt64, ← Int32.toInt_inj, ← Int64.toInt_inj, n32_0, n32_1, n32_2, n32_3, n32_4, n32_6, n32_8, n32_9, n32_10, n32_20, n32_100, n32_120, n32_255, n32_400, n32_3600, n32_m1, n64_0, n64_1, n64_2, n64_3, n64_4, n64_5, n64_9, n64_19, n64_119, n64_255, n64_400, n64_3599, n64_1000000000, n64_1000000000000, n64_m1000000000000] at c0 b0 b1 b2 b3 b4 b5)
      first | contradiction | omega
    · intro b0 b1 b2 b3 b4 b5 b6
      exfalso
      clear hI0 hM hX hW hY hT hE hD hU hS hB hG K M27 M28 M29 M30 M31 M32 M33 M34 M35 M36 M37 M38 M39 M40 M41 M42 M43 M44 M45 M46 M47 M48 M49 X0 X1 X2 X3 X4 X5 X6 X7 X8 X9 X10 X11 X12 X13 W0 W1 W2 Y0 Y1 Y2 Y3 Y4 Y5 Y6 Y7 Y8 Y9 K2
      (try simp only [Int32.lt_iff_toInt_lt, Int32.le_iff_toInt_le, Int64.lt_iff_toInt_lt, Int64.le_iff_toInt_le, Int32.toInt_toInt64, ← Int32.toInt_inj, ← Int64.toInt_inj, n32_0, n32_1, n32_2, n32_3, n32_4, n32_6, n32_8, n32_9, n32_10, n32_20, n32_100, n32_120, n32_255, n32_400, n32_3600, n32_m1, n64_0, n64_1, n64_2, n64_3, n64_4, n64_5, n64_9, n64_19, n64_119, n64_255, n64_400, n64_3599, n64_1000000000, n64_1000000000000, n64_m1000000000000] at c0 b0 b1 b2 b3 b4 b5 b6)
      first | contradiction | omega
    · intro b0 b1 b2 b3 b4 b5 b6
      exfalso
      clear hI0 hM hX hW hY hT hE hD hU hS hB hG K M27 M28 M29 M30 M31 M32 M33 M34 M35 M36 M37 M38 M39 M40 M41 M42 M43 M44 M45 M46 M47 M48 M49 X0 X1 X2 X3 X4 X5 X6 X7 X8 X9 X10 X11 X12 X13 W0 W1 W2 Y0 Y1 Y2 Y3 Y4 Y5 Y6 Y7 Y8 Y9 K2
      (try simp only [Int32.lt_iff_toInt_lt, Int32.le_iff_toInt_le, Int64.lt_iff_toInt_lt, Int64.le_iff_toInt_le, Int32.toInt_toInt64, ← Int32.toInt_inj, ← Int64.toInt_inj, n32_0, n32_1, n32_2, n32_3, n32_4, n32_6, n32_8, n32_9, n32_10, n32_20, n32_100, n32_120, n32_255, n32_400, n32_3600, n32_m1, n64_0, n64_1, n64_2, n64_3, n64_4, n64_5, n64_9, n64_19, n64_119, n64_255, n64_400, n64_3599, n64_1000000000, n64_1000000000000, n64_m1000000000000] at c0 b0 b1 b2 b3 b4 b5 b6)
      first | contradiction | omega
  · intro c0 c1
    obtain ⟨hRR, hdd, hdm⟩ := hB.2.2 c0
    subst hRR
    have her : (er 0).toInt = R := by rw [hB.2.1]; exact nI_toInt (by omega)
    refine K _ _ ⟨_, M27⟩ (fun Q2 K2 => ?_)
    refine s_X8_row M27 M45 M48 M49 hB.2.1 hR0 ?_ ?_ ?_ ?_ ?_ ?_ ?_ ?_
    · intro b0
      exfalso
      clear hI0 hM hX hW hY hT hE hD hU hS hB hG K M27 M28 M29 M30 M31 M32 M33 M34 M35 M36 M37 M38 M39 M40 M41 M42 M43 M44 M45 M46 M47 M48 M49 X0 X1 X2 X3 X4 X5 X6 X7 X8 X9 X10 X11 X12 X13 W0 W1 W2 Y0 Y1 Y2 Y3 Y4 Y5 Y6 Y7 Y8 Y9 K2
      (try simp only [Int32.lt_iff_toInt_lt, Int32.le_iff_toInt_le, Int64.lt_iff_toInt_lt, Int64.le_iff_toInt_le, Int32.toInt_toInt64, ← Int32.toInt_inj, ← Int64.toInt_inj, n32_0, n32_1, n32_2, n32_3, n32_4, n32_6, n32_8, n32_9, n32_10, n32_20, n32_100, n32_120, n32_255, n32_400, n32_3600, n32_m1, n64_0, n64_1, n64_2, n64_3, n64_4, n64_5, n64_9, n64_19, n64_119, n64_255, n64_400, n64_3599, n64_1000000000, n64_1000000000000, n64_m1000000000000] at c0 c1 b0)
      first | contradiction | omega
    · intro b0 b1
      exact K2 _ (iV_up hI0)
    · intro b0 b1 b2
      exfalso
      clear hI0 hM hX hW hY hT hE hD hU hS hB hG K M27 M28 M29 M30 M31 M32 M33 M34 M35 M36 M37 M38 M39 M40 M41 M42 M43 M44 M45 M46 M47 M48 M49 X0 X1 X2 X3 X4 X5 X6 X7 X8 X9 X10 X11 X12 X13 W0 W1 W2 Y0 Y1 Y2 Y3 Y4 Y5 Y6 Y7 Y8 Y9 K2
      (try simp only [Int32.lt_iff_toInt_lt, Int32.le_iff_toInt_le, Int64.lt_iff_toInt_lt, Int64.le_iff_toInt_le, Int32.toInt_toInt64, ← Int32.toInt_inj, ← Int64.toInt_inj, n32_0, n32_1, n32_2, n32_3, n32_4, n32_6, n32_8, n32_9, n32_10, n32_20, n32_100, n32_120, n32_255, n32_400, n32_3600, n32_m1, n64_0, n64_1, n64_2, n64_3, n64_4, n64_5, n64_9, n64_19, n64_119, n64_255, n64_400, n64_3599, n64_1000000000, n64_1000000000000, n64_m1000000000000] at c0 c1 b0 b1 b2)
      first | contradiction | omega
    · intro b0 b1 b2 b3
      exfalso
      clear hI0 hM hX hW hY hT hE hD hU hS hB hG K M27 M28 M29 M30 M31 M32 M33 M34 M35 M36 M37 M38 M39 M40 M41 M42 M43 M44 M45 M46 M47 M48 M49 X0 X1 X2 X3 X4 X5 X6 X7 X8 X9 X10 X11 X12 X13 W0 W1 W2 Y0 Y1 Y2 Y3 Y4 Y5 Y6 Y7 Y8 Y9 K2
      (try simp only [Int32.lt_iff_toInt_lt, Int32.le_iff_toInt_le, Int64.lt_iff_toInt_lt, Int64.le_iff_toInt_le, Int32.toInt_toInt64, ← Int32.toInt_inj, ← Int64.toInt_inj, n32_0, n32_1, n32_2, n32_3, n32_4, n32_6, n32_8, n32_9, n32_10, n32_20, n32_100, n32_120, n32_255, n32_400, n32_3600, n32_m1, n64_0, n64_1, n64_2, n64_3, n64_4, n64_5, n64_9, n64_19, n64_119, n64_255, n64_400, n64_3599, n64_1000000000, n64_1000000000000, n64_m1000000000000] at c0 c1 b0 b1 b2 b3)
      first | contradiction | omega
    · intro b0 b1 b2 b3 b4
      exfalso
      clear hI0 hM hX hW hY hT hE hD hU hS hB hG K M27 M28 M29 M30 M31 M32 M33 M34 M35 M36 M37 M38 M39 M40 M41 M42 M43 M44 M45 M46 M47 M48 M49 X0 X1 X2 X3 X4 X5 X6 X7 X8 X9 X10 X11 X12 X13 W0 W1 W2 Y0 Y1 Y2 Y3 Y4 Y5 Y6 Y7 Y8 Y9 K2
      (try simp only [Int32.lt_iff_toInt_lt, Int32.le_iff_toInt_le, Int64.lt_iff_toInt_lt, Int64.le_iff_toInt_le, Int32.toInt_toInt64, ← Int32.toInt_inj, ← Int64.toInt_inj, n32_0, n32_1, n32_2, n32_3, n32_4, n32_6, n32_8, n32_9, n32_10, n32_20, n32_100, n32_120, n32_255, n32_400, n32_3600, n32_m1, n64_0, n64_1, n64_2, n64_3, n64_4, n64_5, n64_9, n64_19, n64_119, n64_255, n64_400, n64_3599, n64_1000000000, n64_1000000000000, n64_m1000000000000] at c0 c1 b0 b1 b2 b3 b4)
      first | contradiction | omega
    · intro b0 b1 b2 b3 b4 b5
      exfalso
      clear hI0 hM hX hW hY hT hE hD hU hS hB hG K M27 M28 M29 M30 M31 M32 M33 M34 M35 M36 M37 M38 M39 M40 M41 M42 M43 M44 M45 M46 M47 M48 M49 X0 X1 X2 X3 X4 X5 X6 X7 X8 X9 X10 X11 X12 X13 W0 W1 W2 Y0 Y1 Y2 Y3 Y4 Y5 Y6 Y7 Y8 Y9 K2
      (try simp only [Int32.lt_iff_toInt_lt, Int32.le_iff_toInt_le, Int64.lt_iff_toInt_lt, Int64.le_iff_toInt_le, Int32.toInt_toInt64, ← Int32.toInt_inj, ← Int64.toInt_inj, n32_0, n32_1, n32_2, n32_3, n32_4, n32_6, n32_8, n32_9, n32_10, n32_20, n32_100, n32_120, n32_255, n32_400, n32_3600, n32_m1, n64_0, n64_1, n64_2, n64_3, n64_4, n64_5, n64_9, n64_19, n64_119, n64_255, n64_400, n64_3599, n64_1000000000, n64_1000000000000, n64_m1000000000000] at c0 c1 b0 b1 b2 b3 b4 b5)
      first | contradiction | omega
    · intro b0 b1 b2 b3 b4 b5 b6
      exfalso
      clear hI0 hM hX hW hY hT hE hD hU hS hB hG K M27 M28 M29 M30 M31 M32 M33 M34 M35 M36 M37 M38 M39 M40 M41 M42 M43 M44 M45 M46 M47 M48 M49 X0 X1 X2 X3 X4 X5 X6 X7 X8 X9 X10 X11 X12 X13 W0 W1 W2 Y0 Y1 Y2 Y3 Y4 Y5 Y6 Y7 Y8 Y9 K2
      (try simp only [Int32.lt_iff_toInt_lt, Int32.le_iff_toInt_le, Int64.lt_iff_toInt_lt, Int64.le_iff_toInt_le, Int32.toInt_toInt64, ← Int32.toInt_inj, ← Int64.toInt_inj, n32_0, n32_1, n32_2, n32_3, n32_4, n32_6, n32_8, n32_9, n32_10, n32_20, n32_100, n32_120, n32_255, n32_400, n32_3600, n32_m1, n64_0, n64_1, n64_2, n64_3, n64_4, n64_5, n64_9, n64_19, n64_119, n64_255, n64_400, n64_3599, n64_1000000000, n64_1000000000000, n64_m1000000000000] at c0 c1 b0 b1 b2 b3 b4 b5 b6)
      first | contradiction | omega
    · intro b0 b1 b2 b3 b4 b5 b6
      exfalso
      clear hI0 hM hX hW hY hT hE hD hU hS hB hG K M27 M28 M29 M30 M31 M32 M33 M34 M35 M36 M37 M38 M39 M40 M41 M42 M43 M44 M45 M46 M47 M48 M49 X0 X1 X2 X3 X4 X5 X6 X7 X8 X9 X10 X11 X12 X13 W0 W1 W2 Y0 Y1 Y2 Y3 Y4 Y5 Y6 Y7 Y8 Y9 K2
      (try simp only [Int32.lt_iff_toInt_lt, Int32.le_iff_toInt_le, Int64.lt_iff_toInt_lt, Int64.le_iff_toInt_le, Int32.toInt_toInt64, ← Int32.toInt_inj, ← Int64.toInt_inj, n32_0, n32_1, n32_2, n32_3, n32_4, n32_6, n32_8, n32_9, n32_10, n32_20, n32_100, n32_120, n32_255, n32_400, n32_3600, n32_m1, n64_0, n64_1, n64_2, n64_3, n64_4, n64_5, n64_9, n64_19, n64_119, n64_255, n64_400, n64_3599, n64_1000000000, n64_1000000000000, n64_m1000000000000] at c0 c1 b0 b1 b2 b3 b4 b5 b6)
      first | contradiction | omega
  · intro c0 c1 c2
    obtain ⟨hRR, hdd, hdm⟩ := hB.2.2 c0
    subst hRR
    have her : (er 0).toInt = R := by rw [hB.2.1]; exact nI_toInt (by omega)
    refine K _ _ ⟨_, M27⟩ (fun Q2 K2 => ?_)
    refine s_X8_row M27 M45 M48 M49 hB.2.1 hR0 ?_ ?_ ?_ ?_ ?_ ?_ ?_ ?_
    · intro b0
      exfalso
      clear hI0 hM hX hW hY hT hE hD hU hS hB hG K M27 M28 M29 M30 M31 M32 M33 M34 M35 M36 M37 M38 M39 M40 M41 M42 M43 M44 M45 M46 M47 M48 M49 X0 X1 X2 X3 X4 X5 X6 X7 X8 X9 X10 X11 X12 X13 W0 W1 W2 Y0 Y1 Y2 Y3 Y4 Y5 Y6 Y7 Y8 Y9 K2
      (try simp only [Int32.lt_iff_toInt_lt, Int32.le_iff_toInt_le, Int64.lt_iff_toInt_lt, Int64.le_iff_toInt_le, Int32.toInt_toInt64, ← Int32.toInt_inj, ← Int64.toInt_inj, n32_0, n32_1, n32_2, n32_3, n32_4, n32_6, n32_8, n32_9, n32_10, n32_20, n32_100, n32_120, n32_255, n32_400, n32_3600, n32_m1, n64_0, n64_1, n64_2, n64_3, n64_4, n64_5, n64_9, n64_19, n64_119, n64_255, n64_400, n64_3599, n64_1000000000, n64_1000000000000, n64_m1000000000000] at c0 c1 c2 b0)
      first | contradiction | omega
    · intro b0 b1
      exfalso
      clear hI0 hM hX hW hY hT hE hD hU hS hB hG K M27 M28 M29 M30 M31 M32 M33 M34 M35 M36 M37 M38 M39 M40 M41 M42 M43 M44 M45 M46 M47 M48 M49 X0 X1 X2 X3 X4 X5 X6 X7 X8 X9 X10 X11 X12 X13 W0 W1 W2 Y0 Y1 Y2 Y3 Y4 Y5 Y6 Y7 Y8 Y9 K2
      (try simp only [Int32.lt_iff_toInt_lt, Int32.le_iff_toInt_le, Int64.lt_iff_toInt_lt, Int64.le_iff_toInt_le, Int32.toInt_toInt64, ← Int32.toInt_inj, ← Int64.toInt_inj, n32_0, n32_1, n32_2, n32_3, n32_4, n32_6, n32_8, n32_9, n32_10, n32_20, n32_100, n32_120, n32_255, n32_400, n32_3600, n32_m1, n64_0, n64_1, n64_2, n64_3, n64_4, n64_5, n64_9, n64_19, n64_119, n64_255, n64_400, n64_3599, n64_1000000000, n64_1000000000000, n64_m1000000000000] at c0 c1 c2 b0 b1)
      first | contradiction | omega
    · intro b0 b1 b2
      exact K2 _ (iV_up hI0)
    · intro b0 b1 b2 b3
      exfalso
      clear hI0 hM hX hW hY hT hE hD hU hS hB hG K M27 M28 M29 M30 M31 M32 M33 M34 M35 M36 M37 M38 M39 M40 M41 M42 M43 M44 M45 M46 M47 M48 M49 X0 X1 X2 X3 X4 X5 X6 X7 X8 X9 X10 X11 X12 X13 W0 W1 W2 Y0 Y1 Y2 Y3 Y4 Y5 Y6 Y7 Y8 Y9 K2
      (try simp only [Int32.lt_iff_toInt_lt, Int32.le_iff_toInt_le, Int64.lt_iff_toInt_lt, Int64.le_iff_toInt_le, Int32.toInt_toInt64, ← Int32.toInt_inj, ← Int64.toInt_inj, n32_0, n32_1, n32_2, n32_3, n32_4, n32_6, n32_8, n32_9, n32_10, n32_20, n32_100, n32_120, n32_255, n32_400, n32_3600, n32_m1, n64_0, n64_1, n64_2, n64_3, n64_4, n64_5, n64_9, n64_19, n64_119, n64_255, n64_400, n64_3599, n64_1000000000, n64_1000000000000, n64_m1000000000000] at c0 c1 c2 b0 b1 b2 b3)
      first | contradiction | omega
    · intro b0 b1 b2 b3 b4
      exfalso
      clear hI0 hM hX hW hY hT hE hD hU hS hB hG K M27 M28 M29 M30 M31 M32 M33 M34 M35 M36 M37 M38 M39 M40 M41 M42 M43 M44 M45 M46 M47 M48 M49 X0 X1 X2 X3 X4 X5 X6 X7 X8 X9 X10 X11 X12 X13 W0 W1 W2 Y0 Y1 Y2 Y3 Y4 Y5 Y6 Y7 Y8 Y9 K2
      (try simp only [Int32.lt_iff_toInt_lt, Int32.le_iff_toInt_le, Int64.lt_iff_toInt_lt, Int64.le_iff_toInt_le, Int32.toInt_toInt64, ← Int32.toInt_inj, ← Int64.toInt_inj, n32_0, n32_1, n32_2, n32_3, n32_4, n32_6, n32_8, n32_9, n32_10, n32_20, n32_100, n32_120, n32_255, n32_400, n32_3600, n32_m1, n64_0, n64_1, n64_2, n64_3, n64_4, n64_5, n64_9, n64_19, n64_119, n64_255, n64_400, n64_3599, n64_1000000000, n64_1000000000000, n64_m1000000000000] at c0 c1 c2 b0 b1 b2 b3 b4)
      first | contradiction | omega
    · intro b0 b1 b2 b3 b4 b5
      exfalso
      clear hI0 hM hX hW hY hT hE hD hU hS hB hG K M27 M28 M29 M30 M31 M32 M33 M34 M35 M36 M37 M38 M39 M40 M41 M42 M43 M44 M45 M46 M47 M48 M49 X0 X1 X2 X3 X4 X5 X6 X7 X8 X9 X10 X11 X12 X13 W0 W1 W2 Y0 Y1 Y2 Y3 Y4 Y5 Y6 Y7 Y8 Y9 K2
      (try simp only [Int32.lt_iff_toInt_lt, Int32.le_iff_toInt_le, Int64.lt_iff_toInt_lt, Int64.le_iff_toInt_le, Int32.toInt_toInt64, ← Int32.toInt_inj, ← Int64.toInt_inj, n32_0, n32_1, n32_2, n32_3, n32_4, n32_6, n32_8, n32_9, n32_10, n32_20, n32_100, n32_120, n32_255, n32_400, n32_3600, n32_m1, n64_0, n64_1, n64_2, n64_3, n64_4, n64_5, n64_9, n64_19, n64_119, n64_255, n64_400, n64_3599, n64_1000000000, n64_1000000000000, n64_m1000000000000] at c0 c1 c2 b0 b1 b2 b3 b4 b5)
      first | contradiction | omega
    · intro b0 b1 b2 b3 b4 b5 b6
      exfalso
      clear hI0 hM hX hW hY hT hE hD hU hS hB hG K M27 M28 M29 M30 M31 M32 M33 M34 M35 M36 M37 M38 M39 M40 M41 M42 M43 M44 M45 M46 M47 M48 M49 X0 X1 X2 X3 X4 X5 X6 X7 X8 X9 X10 X11 X12 X13 W0 W1 W2 Y0 Y1 Y2 Y3 Y4 Y5 Y6 Y7 Y8 Y9 K2
      (try simp only [Int32.lt_iff_toInt_lt, Int32.le_iff_toInt_le, Int64.lt_iff_toInt_lt, Int64.le_iff_toInt_le, Int32.toInt_toInt64, ← Int32.toInt_inj, ← Int64.toInt_inj, n32_0, n32_1, n32_2, n32_3, n32_4, n32_6, n32_8, n32_9, n32_10, n32_20, n32_100, n32_120, n32_255, n32_400, n32_3600, n32_m1, n64_0, n64_1, n64_2, n64_3, n64_4, n64_5, n64_9, n64_19, n64_119, n64_255, n64_400, n64_3599, n64_1000000000, n64_1000000000000, n64_m1000000000000] at c0 c1 c2 b0 b1 b2 b3 b4 b5 b6)
      first | contradiction | omega
    · intro b0 b1 b2 b3 b4 b5 b6
      exfalso
      clear hI0 hM hX hW hY hT hE hD hU hS hB hG K M27 M28 M29 M30 M31 M32 M33 M34 M35 M36 M37 M38 M39 M40 M41 M42 M43 M44 M45 M46 M47 M48 M49 X0 X1 X2 X3 X4 X5 X6 X7 X8 X9 X10 X11 X12 X13 W0 W1 W2 Y0 Y1 Y2 Y3 Y4 Y5 Y6 Y7 Y8 Y9 K2
      (try simp only [Int32.lt_iff_toInt_lt, Int32.le_iff_toInt_le, Int64.lt_iff_toInt_lt, Int64.le_iff_toInt_le, Int32.toInt_toInt64, ← Int32.toInt_inj, ← Int64.toInt_inj, n32_0, n32_1, n32_2, n32_3, n32_4, n32_6, n32_8, n32_9, n32_10, n32_20, n32_100, n32_120, n32_255, n32_400, n32_3600, n32_m1, n64_0, n64_1, n64_2, n64_3, n64_4, n64_5, n64_9, n64_19, n64_119, n64_255, n64_400, n64_3599, n64_1000000000, n64_1000000000000, n64_m1000000000000] at c0 c1 c2 b0 b1 b2 b3 b4 b5 b6)
      first | contradiction | omega
  · intro c0 c1 c2 c3 c4
    obtain ⟨hRR, hdd, hdm⟩ := hB.2.2 c0
    subst hRR
    have her : (er 0).toInt = R := by rw [hB.2.1]; exact nI_toInt (by omega)
    refine K _ _ ⟨_, M27⟩ (fun Q2 K2 => ?_)
    refine s_X8_row M27 M45 M48 M49 hB.2.1 hR0 ?_ ?_ ?_ ?_ ?_ ?_ ?_ ?_
    · intro b0
      exfalso
      clear hI0 hM hX hW hY hT hE hD hU hS hB hG K M27 M28 M29 M30 M31 M32 M33 M34 M35 M36 M37 M38 M39 M40 M41 M42 M43 M44 M45 M46 M47 M48 M49 X0 X1 X2 X3 X4 X5 X6 X7 X8 X9 X10 X11 X12 X13 W0 W1 W2 Y0 Y1 Y2 Y3 Y4 Y5 Y6 Y7 Y8 Y9 K2
      (try simp only [Int32.lt_iff_toInt_lt, Int32.le_iff_toInt_le, Int64.lt_iff_toInt_lt, Int64.le_iff_toInt_le, Int32.toInt_toInt64, ← Int32.toInt_inj, ← Int64.toInt_inj, n32_0, n32_1, n32_2, n32_3, n32_4, n32_6, n32_8, n32_9, n32_10, n32_20, n32_100, n32_120, n32_255, n32_400, n32_3600, n32_m1, n64_0, n64_1, n64_2, n64_3, n64_4, n64_5, n64_9, n64_19, n64_119, n64_255, n64_400, n64_3599, n64_1000000000, n64_1000000000000, n64_m1000000000000] at c0 c1 c2 c3 c4 b0)
      first | contradiction | omega
    · intro b0 b1
      exfalso
      clear hI0 hM hX hW hY hT hE hD hU hS hB hG K M27 M28 M29 M30 M31 M32 M33 M34 M35 M36 M37 M38 M39 M40 M41 M42 M43 M44 M45 M46 M47 M48 M49 X0 X1 X2 X3 X4 X5 X6 X7 X8 X9 X10 X11 X12 X13 W0 W1 W2 Y0 Y1 Y2 Y3 Y4 Y5 Y6 Y7 Y8 Y9 K2
      (try simp only [Int32.lt_iff_toInt_lt, Int32.le_iff_toInt_le, Int64.lt_iff_toInt_lt, Int64.le_iff_toInt_le, Int32.toInt_toInt64, ← Int32.toInt_inj, ← Int64.toInt_inj, n32_0, n32_1, n32_2, n32_3, n32_4, n32_6, n32_8, n32_9, n32_10, n32_20, n32_100, n32_120, n32_255, n32_400, n32_3600, n32_m1, n64_0, n64_1, n64_2, n64_3, n64_4, n64_5, n64_9, n64_19, n64_119, n64_255, n64_400, n64_3599, n64_1000000000, n64_1000000000000, n64_m1000000000000] at c0 c1 c2 c3 c4 b0 b1)
      first | contradiction | omega
    · intro b0 b1 b2
      exfalso
      clear hI0 hM hX hW hY hT hE hD hU hS hB hG K M27 M28 M29 M30 M31 M32 M33 M34 M35 M36 M37 M38 M39 M40 M41 M42 M43 M44 M45 M46 M47 M48 M49 X0 X1 X2 X3 X4 X5 X6 X7 X8 X9 X10 X11 X12 X13 W0 W1 W2 Y0 Y1 Y2 Y3 Y4 Y5 Y6 Y7 Y8 Y9 K2
      (try simp only [Int32.lt_iff_toInt_lt, Int32.le_iff_toInt_le, Int64.lt_iff_toInt_lt, Int64.le_iff_toInt_le, Int32.toInt_toInt64, ← Int32.toInt_inj, ← Int64.toInt_inj, n32_0, n32_1, n32_2, n32_3, n32_4, n32_6, n32_8, n32_9, n32_10, n32_20, n32_100, n32_120, n32_255, n32_400, n32_3600, n32_m1, n64_0, n64_1, n64_2, n64_3, n64_4, n64_5, n64_9, n64_19, n64_119, n64_255, n64_400, n64_3599, n64_1000000000, n64_1000000000000, n64_m1000000000000] at c0 c1 c2 c3 c4 b0 b1 b2)
      first | contradiction | omega
    · intro b0 b1 b2 b3
      exfalso
      clear hI0 hM hX hW hY hT hE hD hU hS hB hG K M27 M28 M29 M30 M31 M32 M33 M34 M35 M36 M37 M38 M39 M40 M41 M42 M43 M44 M45 M46 M47 M48 M49 X0 X1 X2 X3 X4 X5 X6 X7 X8 X9 X10 X11 X12 X13 W0 W1 W2 Y0 Y1 Y2 Y3 Y4 Y5 Y6 Y7 Y8 Y9 K2
      (try simp only [Int32.lt_iff_toInt_lt, Int32.le_iff_toInt_le, Int64.lt_iff_toInt_lt, Int64.le_iff_toInt_le, Int32.toInt_toInt64, ← Int32.toInt_inj, ← Int64.toInt_inj, n32_0, n32_1, n32_2, n32_3, n32_4, n32_6, n32_8, n32_9, n32_10, n32_20, n32_100, n32_120, n32_255, n32_400, n32_3600, n32_m1, n64_0, n64_1, n64_2, n64_3, n64_4, n64_5, n64_9, n64_19, n64_119, n64_255, n64_400, n64_3599, n64_1000000000, n64_1000000000000, n64_m1000000000000] at c0 c1 c2 c3 c4 b0 b1 b2 b3)
      first | contradiction | omega
    · intro b0 b1 b2 b3 b4
      exact K2 _ (iV_up hI0)
    · intro b0 b1 b2 b3 b4 b5
      exfalso
      clear hI0 hM hX hW hY hT hE hD hU hS hB hG K M27 M28 M29 M30 M31 M32 M33 M34 M35 M36 M37 M38 M39 M40 M41 M42 M43 M44 M45 M46 M47 M48 M49 X0 X1 X2 X3 X4 X5 X6 X7 X8 X9 X10 X11 X12 X13 W0 W1 W2 Y0 Y1 Y2 Y3 Y4 Y5 Y6 Y7 Y8 Y9 K2
      (try simp only [Int32.lt_iff_toInt_lt, Int32.le_iff_toInt_le, Int64.lt_iff_toInt_lt, Int64.le_iff_toInt_le, Int32.toInt_toInt64, ← Int32.toInt_inj, ← Int64.toInt_inj, n32_0, n32_1, n32_2, n32_3, n32_4, n32_6, n32_8, n32_9, n32_10, n32_20, n32_100, n32_120, n32_255, n32_400, n32_3600, n32_m1, n64_0, n64_1, n64_2, n64_3, n64_4, n64_5, n64_9, n64_19, n64_119, n64_255, n64_400, n64_3599, n64_1000000000, n64_1000000000000, n64_m1000000000000] at c0 c1 c2 c3 c4 b0 b1 b2 b3 b4 b5)
      first | contradiction | omega
    · intro b0 b1 b2 b3 b4 b5 b6
      exfalso
      clear hI0 hM hX hW hY hT hE hD hU hS hB hG K M27 M28 M29 M30 M31 M32 M33 M34 M35 M36 M37 M38 M39 M40 M41 M42 M43 M44 M45 M46 M47 M48 M49 X0 X1 X2 X3 X4 X5 X6 X7 X8 X9 X10 X11 X12 X13 W0 W1 W2 Y0 Y1 Y2 Y3 Y4 Y5 Y6 Y7 Y8 Y9 K2
      (try simp only [Int32.lt_iff_toInt_lt, Int32.le_iff_toInt_le, Int64.lt_iff_toInt_lt, Int64.le_iff_toInt_le, Int32.toInt_toInt64, ← Int32.toInt_inj, ← Int64.toInt_inj, n32_0, n32_1, n32_2, n32_3, n32_4, n32_6, n32_8, n32_9, n32_10, n32_20, n32_100, n32_120, n32_255, n32_400, n32_3600, n32_m1, n64_0, n64_1, n64_2, n64_3, n64_4, n64_5, n64_9, n64_19, n64_119, n64_255, n64_400, n64_3599, n64_1000000000, n64_1000000000000, n64_m1000000000000] at c0 c1 c2 c3 c4 b0 b1 b2 b3 b4 b5 b6)
      first | contradiction | omega
    · intro b0 b1 b2 b3 b4 b5 b6
      exfalso
      clear hI0 hM hX hW hY hT hE hD hU hS hB hG K M27 M28 M29 M30 M31 M32 M33 M34 M35 M36 M37 M38 M39 M40 M41 M42 M43 M44 M45 M46 M47 M48 M49 X0 X1 X2 X3 X4 X5 X6 X7 X8 X9 X10 X11 X12 X13 W0 W1 W2 Y0 Y1 Y2 Y3 Y4 Y5 Y6 Y7 Y8 Y9 K2
      (try simp only [Int32.lt_iff_toInt_lt, Int32.le_iff_toInt_le, Int64.lt_iff_toInt_lt, Int64.le_iff_toInt_le, Int32.toInt_toInt64, ← Int32.toInt_inj, ← Int64.toInt_inj, n32_0, n32_1, n32_2, n32_3, n32_4, n32_6, n32_8, n32_9, n32_10, n32_20, n32_100, n32_120, n32_255, n32_400, n32_3600, n32_m1, n64_0, n64_1, n64_2, n64_3, n64_4, n64_5, n64_9, n64_19, n64_119, n64_255, n64_400, n64_3599, n64_1000000000, n64_1000000000000, n64_m1000000000000] at c0 c1 c2 c3 c4 b0 b1 b2 b3 b4 b5 b6)
      first | contradiction | omega
  · intro c0 c1 c2 c3 c4 c5
    obtain ⟨hRR, hdd, hdm⟩ := hB.2.2 c0
    subst hRR
    have her : (er 0).toInt = R := by rw [hB.2.1]; exact nI_toInt (by omega)
    refine K _ _ ⟨_, M27⟩ (fun Q2 K2 => ?_)
    refine s_X8_row M27 M45 M48 M49 hB.2.1 hR0 ?_ ?_ ?_ ?_ ?_ ?_ ?_ ?_
    · intro b0
      exfalso
      clear hI0 hM hX hW hY hT hE hD hU hS hB hG K M27 M28 M29 M30 M31 M32 M33 M34 M35 M36 M37 M38 M39 M40 M41 M42 M43 M44 M45 M46 M47 M48 M49 X0 X1 X2 X3 X4 X5 X6 X7 X8 X9 X10 X11 X12 X13 W0 W1 W2 Y0 Y1 Y2 Y3 Y4 Y5 Y6 Y7 Y8 Y9 K2
      (try simp only [Int32.lt_iff_toInt_lt, Int32.le_iff_toInt_le, Int64.lt_iff_toInt_lt, Int64.le_iff_toInt_le, Int32.toInt_toInt64, ← Int32.toInt_inj, ← Int64.toInt_inj, n32_0, n32_1, n32_2, n32_3, n32_4, n32_6, n32_8, n32_9, n32_10, n32_20, n32_100, n32_120, n32_255, n32_400, n32_3600, n32_m1, n64_0, n64_1, n64_2, n64_3, n64_4, n64_5, n64_9, n64_19, n64_119, n64_255, n64_400, n64_3599, n64_1000000000, n64_1000000000000, n64_m1000000000000] at c0 c1 c2 c3 c4 c5 b0)
      first | contradiction | omega
    · intro b0 b1
      exfalso
      clear hI0 hM hX hW hY hT hE hD hU hS hB hG K M27 M28 M29 M30 M31 M32 M33 M34 M35 M36 M37 M38 M39 M40 M41 M42 M43 M44 M45 M46 M47 M48 M49 X0 X1 X2 X3 X4 X5 X6 X7 X8 X9 X10 X11 X12 X13 W0 W1 W2 Y0 Y1 Y2 Y3 Y4 Y5 Y6 Y7 Y8 Y9 K2
      (try simp only [Int32.lt_iff_toInt_lt, Int32.le_iff_toInt_le, Int64.lt_iff_toInt_lt, Int64.le_iff_toInt_le, Int32.toInt_toInt64, ← Int32.toInt_inj, ← Int64.toInt_inj, n32_0, n32_1, n32_2, n32_3, n32_4, n32_6, n32_8, n32_9, n32_10, n32_20, n32_100, n32_120, n32_255, n32_400, n32_3600, n32_m1, n64_0, n64_1, n64_2, n64_3, n64_4, n64_5, n64_9, n64_19, n64_119, n64_255, n64_400, n64_3599, n64_1000000000, n64_1000000000000, n64_m1000000000000] at c0 c1 c2 c3 c4 c5 b0 b1)
      first | contradiction | omega
    · intro b0 b1 b2
      exfalso
      clear hI0 hM hX hW hY hT hE hD hU hS hB hG K M27 M28 M29 M30 M31 M32 M33 M34 M35 M36 M37 M38 M39 M40 M41 M42 M43 M44 M45 M46 M47 M48 M49 X0 X1 X2 X3 X4 X5 X6 X7 X8 X9 X10 X11 X12 X13 W0 W1 W2 Y0 Y1 Y2 Y3 Y4 Y5 Y6 Y7 Y8 Y9 K2
      (try simp only [Int32.lt_iff_toInt_lt, Int32.le_iff_toInt_le, Int64.lt_iff_toInt_lt, Int64.le_iff_toInt_le, Int32.toInt_toInt64, ← Int32.toInt_inj, ← Int64.toInt_inj, n32_0, n32_1, n32_2, n32_3, n32_4, n32_6, n32_8, n32_9, n32_10, n32_20, n32_100, n32_120, n32_255, n32_400, n32_3600, n32_m1, n64_0, n64_1, n64_2, n64_3, n64_4, n64_5, n64_9, n64_19, n64_119, n64_255, n64_400, n64_3599, n64_1000000000, n64_1000000000000, n64_m1000000000000] at c0 c1 c2 c3 c4 c5 b0 b1 b2)
      first | contradiction | omega
    · intro b0 b1 b2 b3
      exfalso
      clear hI0 hM hX hW hY hT hE hD hU hS hB hG K M27 M28 M29 M30 M31 M32 M33 M34 M35 M36 M37 M38 M39 M40 M41 M42 M43 M44 M45 M46 M47 M48 M49 X0 X1 X2 X3 X4 X5 X6 X7 X8 X9 X10 X11 X12 X13 W0 W1 W2 Y0 Y1 Y2 Y3 Y4 Y5 Y6 Y7 Y8 Y9 K2
      (try simp only [Int32.lt_iff_toInt_lt, Int32.le_iff_toInt_le, Int64.lt_iff_toInt_lt, Int64.le_iff_toInt_le, Int32.toInt_toInt64, ← Int32.toInt_inj, ← Int64.toInt_inj, n32_0, n32_1, n32_2, n32_3, n32_4, n32_6, n32_8, n32_9, n32_10, n32_20, n32_100, n32_120, n32_255, n32_400, n32_3600, n32_m1, n64_0, n64_1, n64_2, n64_3, n64_4, n64_5, n64_9, n64_19, n64_119, n64_255, n64_400, n64_3599, n64_1000000000, n64_1000000000000, n64_m1000000000000] at c0 c1 c2 c3 c4 c5 b0 b1 b2 b3)
      first | contradiction | omega
    · intro b0 b1 b2 b3 b4
      exfalso
      clear hI0 hM hX hW hY hT hE hD hU hS hB hG K M27 M28 M29 M30 M31 M32 M33 M34 M35 M36 M37 M38 M39 M40 M41 M42 M43 M44 M45 M46 M47 M48 M49 X0 X1 X2 X3 X4 X5 X6 X7 X8 X9 X10 X11 X12 X13 W0 W1 W2 Y0 Y1 Y2 Y3 Y4 Y5 Y6 Y7 Y8 Y9 K2
      (try simp only [Int32.lt_iff_toInt_lt, Int32.le_iff_toInt_le, Int64.lt_iff_toInt_lt, Int64.le_iff_toInt_le, Int32.toInt_toInt64, ← Int32.toInt_inj, ← Int64.toInt_inj, n32_0, n32_1, n32_2, n32_3, n32_4, n32_6, n32_8, n32_9, n32_10, n32_20, n32_100, n32_120, n32_255, n32_400, n32_3600, n32_m1, n64_0, n64_1, n64_2, n64_3, n64_4, n64_5, n64_9, n64_19, n64_119, n64_255, n64_400, n64_3599, n64_1000000000, n64_1000000000000, n64_m1000000000000] at c0 c1 c2 c3 c4 c5 b0 b1 b2 b3 b4)
      first | contradiction | omega
    · intro b0 b1 b2 b3 b4 b5
      exact K2 _ (iV_up hI0)
    · intro b0 b1 b2 b3 b4 b5 b6
      exfalso
      clear hI0 hM hX hW hY hT hE hD hU hS hB hG K M27 M28 M29 M30 M31 M32 M33 M34 M35 M36 M37 M38 M39 M40 M41 M42 M43 M44 M45 M46 M47 M48 M49 X0 X1 X2 X3 X4 X5 X6 X7 X8 X9 X10 X11 X12 X13 W0 W1 W2 Y0 Y1 Y2 Y3 Y4 Y5 Y6 Y7 Y8 Y9 K2
      (try simp only [Int32.lt_iff_toInt_lt, Int32.le_iff_toInt_le, Int64.lt_iff_toInt_lt, Int64.le_iff_toInt_le, Int32.toInt_toInt64, ← Int32.toInt_inj, ← Int64.toInt_inj, n32_0, n32_1, n32_2, n32_3, n32_4, n32_6, n32_8, n32_9, n32_10, n32_20, n32_100, n32_120, n32_255, n32_400, n32_3600, n32_m1, n64_0, n64_1, n64_2, n64_3, n64_4, n64_5, n64_9, n64_19, n64_119, n64_255, n64_400, n64_3599, n64_1000000000, n64_1000000000000, n64_m1000000000000] at c0 c1 c2 c3 c4 c5 b0 b1 b2 b3 b4 b5 b6)
      first | contradiction | omega
    · intro b0 b1 b2 b3 b4 b5 b6
      exfalso
      clear hI0 hM hX hW hY hT hE hD hU hS hB hG K M27 M28 M29 M30 M31 M32 M33 M34 M35 M36 M37 M38 M39 M40 M41 M42 M43 M44 M45 M46 M47 M48 M49 X0 X1 X2 X3 X4 X5 X6 X7 X8 X9 X10 X11 X12 X13 W0 W1 W2 Y0 Y1 Y2 Y3 Y4 Y5 Y6 Y7 Y8 Y9 K2
      (try simp only [Int32.lt_iff_toInt_lt, Int32.le_iff_toInt_le, Int64.lt_iff_toInt_lt, Int64.le_iff_toInt_le, Int32.toInt_toInt64, ← Int32.toInt_inj, ← Int64.toInt_inj, n32_0, n32_1, n32_2, n32_3, n32_4, n32_6, n32_8, n32_9, n32_10, n32_20, n32_100, n32_120, n32_255, n32_400, n32_3600, n32_m1, n64_0, n64_1, n64_2, n64_3, n64_4, n64_5, n64_9, n64_19, n64_119, n64_255, n64_400, n64_3599, n64_1000000000, n64_1000000000000, n64_m1000000000000] at c0 c1 c2 c3 c4 c5 b0 b1 b2 b3 b4 b5 b6)
      first | contradiction | omega
  · intro c0 c1 c2 c3 c4 c5 c6 c7
    obtain ⟨hRR, hdd, hdm⟩ := hB.2.2 c0
    subst hRR
    have her : (er 0).toInt = R := by rw [hB.2.1]; exact nI_toInt (by omega)
    refine K _ _ ⟨_, (j_hn (by omega) (j_hn (by omega) (j_hn (by omega) M27)))⟩ (fun Q2 K2 => ?_)
    refine s_X8_row (j_hn (by omega) (j_hn (by omega) (j_hn (by omega) M27))) (j_hn (by omega) (j_hn (by omega) (j_hn (by omega) M45))) (j_hn (by omega) (j_hn (by omega) (j_hn (by omega) M48))) (j_hn (by omega) (j_hn (by omega) (j_hn (by omega) M49))) hB.2.1 hR0 ?_ ?_ ?_ ?_ ?_ ?_ ?_ ?_
    · intro b0
      exfalso
      clear hI0 hM hX hW hY hT hE hD hU hS hB hG K M27 M28 M29 M30 M31 M32 M33 M34 M35 M36 M37 M38 M39 M40 M41 M42 M43 M44 M45 M46 M47 M48 M49 X0 X1 X2 X3 X4 X5 X6 X7 X8 X9 X10 X11 X12 X13 W0 W1 W2 Y0 Y1 Y2 Y3 Y4 Y5 Y6 Y7 Y8 Y9 K2
      (try simp only [Int32.lt_iff_toInt_lt, Int32.le_iff_toInt_le, Int64.lt_iff_toInt_lt, Int64.le_iff_toInt_le, Int32.toInt_toInt64, ← Int32.toInt_inj, ← Int64.toInt_inj, n32_0, n32_1, n32_2, n32_3, n32_4, n32_6, n32_8, n32_9, n32_10, n32_20, n32_100, n32_120, n32_255, n32_400, n32_3600, n32_m1, n64_0, n64_1, n64_2, n64_3, n64_4, n64_5, n64_9, n64_19, n64_119, n64_255, n64_400, n64_3599, n64_1000000000, n64_1000000000000, n64_m1000000000000] at c0 c1 c2 c3 c4 c5 c6 c7 b0)
      first | contradiction | omega
    · intro b0 b1
      exfalso
      clear hI0 hM hX hW hY hT hE hD hU hS hB hG K M27 M28 M29 M30 M31 M32 M33 M34 M35 M36 M37 M38 M39 M40 M41 M42 M43 M44 M45 M46 M47 M48 M49 X0 X1 X2 X3 X4 X5 X6 X7 X8 X9 X10 X11 X12 X13 W0 W1 W2 Y0 Y1 Y2 Y3 Y4 Y5 Y6 Y7 Y8 Y9 K2
      (try simp only [Int32.lt_iff_toInt_lt, Int32.le_iff_toInt_le, Int64.lt_iff_toInt_lt, Int64.le_iff_toInt_le, Int32.toInt_toInt64, ← Int32.toInt_inj, ← Int64.toInt_inj, n32_0, n32_1, n32_2, n32_3, n32_4, n32_6, n32_8, n32_9, n32_10, n32_20, n32_100, n32_120, n32_255, n32_400, n32_3600, n32_m1, n64_0, n64_1, n64_2, n64_3, n64_4, n64_5, n64_9, n64_19, n64_119, n64_255, n64_400, n64_3599, n64_1000000000, n64_1000000000000, n64_m1000000000000] at c0 c1 c2 c3 c4 c5 c6 c7 b0 b1)
      first | contradiction | omega
    · intro b0 b1 b2
      exfalso
      clear hI0 hM hX hW hY hT hE hD hU hS hB hG K M27 M28 M29 M30 M31 M32 M33 M34 M35 M36 M37 M38 M39 M40 M41 M42 M43 M44 M45 M46 M47 M48 M49 X0 X1 X2 X3 X4 X5 X6 X7 X8 X9 X10 X11 X12 X13 W0 W1 W2 Y0 Y1 Y2 Y3 Y4 Y5 Y6 Y7 Y8 Y9 K2
      (try simp only [Int32.lt_iff_toInt_lt, Int32.le_iff_toInt_le, Int64.lt_iff_toInt_lt, Int64.le_iff_toInt_le, Int32.toInt_toInt64, ← Int32.toInt_inj, ← Int64.toInt_inj, n32_0, n32_1, n32_2, n32_3, n32_4, n32_6, n32_8, n32_9, n32_10, n32_20, n32_100, n32_120, n32_255, n32_400, n32_3600, n32_m1, n64_0, n64_1, n64_2, n64_3, n64_4, n64_5, n64_9, n64_19, n64_119, n64_255, n64_400, n64_3599, n64_1000000000, n64_1000000000000, n64_m1000000000000] at c0 c1 c2 c3 c4 c5 c6 c7 b0 b1 b2)
      first | contradiction | omega
    · intro b0 b1 b2 b3
      exfalso
      clear hI0 hM hX hW hY hT hE hD hU hS hB hG K M27 M28 M29 M30 M31 M32 M33 M34 M35 M36 M37 M38 M39 M40 M41 M42 M43 M44 M45 M46 M47 M48 M49 X0 X1 X2 X3 X4 X5 X6 X7 X8 X9 X10 X11 X12 X13 W0 W1 W2 Y0 Y1 Y2 Y3 Y4 Y5 Y6 Y7 Y8 Y9 K2
      (try simp only [Int32.lt_iff_toInt_lt, Int32.le_iff_toInt_le, Int64.lt_iff_toInt_lt, Int64.le_iff_toInt_le, Int32.toInt_toInt64, ← Int32.toInt_inj, ← Int64.toInt_inj, n32_0, n32_1, n32_2, n32_3, n32_4, n32_6, n32_8, n32_9, n32_10, n32_20, n32_100, n32_120, n32_255, n32_400, n32_3600, n32_m1, n64_0, n64_1, n64_2, n64_3, n64_4, n64_5, n64_9, n64_19, n64_119, n64_255, n64_400, n64_3599, n64_1000000000, n64_1000000000000, n64_m1000000000000] at c0 c1 c2 c3 c4 c5 c6 c7 b0 b1 b2 b3)
      first | contradiction | omega
    · intro b0 b1 b2 b3 b4
      exfalso
      clear hI0 hM hX hW hY hT hE hD hU hS hB hG K M27 M28 M29 M30 M31 M32 M33 M34 M35 M36 M37 M38 M39 M40 M41 M42 M43 M44 M45 M46 M47 M48 M49 X0 X1 X2 X3 X4 X5 X6 X7 X8 X9 X10 X11 X12 X13 W0 W1 W2 Y0 Y1 Y2 Y3 Y4 Y5 Y6 Y7 Y8 Y9 K2
      (try simp only [Int32.lt_iff_toInt_lt, Int32.le_iff_toInt_le, Int64.lt_iff_toInt_lt, Int64.le_iff_toInt_le, Int32.toInt_toInt64, ← Int32.toInt_inj, ← Int64.toInt_inj, n32_0, n32_1, n32_2, n32_3, n32_4, n32_6, n32_8, n32_9, n32_10, n32_20, n32_100, n32_120, n32_255, n32_400, n32_3600, n32_m1, n64_0, n64_1, n64_2, n64_3, n64_4, n64_5, n64_9, n64_19, n64_119, n64_255, n64_400, n64_3599, n64_1000000000, n64_1000000000000, n64_m1000000000000] at c0 c1 c2 c3 c4 c5 c6 c7 b0 b1 b2 b3 b4)
      first | contradiction | omega
    · intro b0 b1 b2 b3 b4 b5
      exfalso
      clear hI0 hM hX hW hY hT hE hD hU hS hB hG K M27 M28 M29 M30 M31 M32 M33 M34 M35 M36 M37 M38 M39 M40 M41 M42 M43 M44 M45 M46 M47 M48 M49 X0 X1 X2 X3 X4 X5 X6 X7 X8 X9 X10 X11 X12 X13 W0 W1 W2 Y0 Y1 Y2 Y3 Y4 Y5 Y6 Y7 Y8 Y9 K2
      (try simp only [Int32.lt_iff_toInt_lt, Int32.le_iff_toInt_le, Int64.lt_iff_toInt_lt, Int64.le_iff_toInt_le, Int32.toInt_toInt64, ← Int32.toInt_inj, ← Int64.toInt_inj, n32_0, n32_1, n32_2, n32_3, n32_4, n32_6, n32_8, n32_9, n32_10, n32_20, n32_100, n32_120, n32_255, n32_400, n32_3600, n32_m1, n64_0, n64_1, n64_2, n64_3, n64_4, n64_5, n64_9, n64_19, n64_119, n64_255, n64_400, n64_3599, n64_1000000000, n64_1000000000000, n64_m1000000000000] at c0 c1 c2 c3 c4 c5 c6 c7 b0 b1 b2 b3 b4 b5)
      first | contradiction | omega
    · intro b0 b1 b2 b3 b4 b5 b6
      have e1 : er 0 + 1 = nI (R + 1) := by rw [hB.2.1, nI_1]
      rw [e1]
      refine K2 _ (fun X k => ?_)
      exact k L P T E C (R + 1) (R + 1) n ru dq dr op at_ fr wd ws we wn dd tx rs fs ro sh dy se ey (va_up er 0 (nI (R + 1))) tk tn (va_up ac R a0) f1 f2 f3 f4 g1 g2 g3 g4 (va_up da R a0) lo ad sa co pa ss w1 w2 w3 (va_up am R v) pw ps cu (va_up dm R v) ta ea shp tb eb rr rn cst prt eam dys eac shs (⟨(j_hn (by decide) (j_hn (by decide) (j_hn (by decide) (j_hn (by omega) (j_hn (by omega) (j_hn (by omega) M27)))))), (j_hn (by decide) (j_hn (by decide) (j_hn (by decide) (j_hn (by omega) (j_hn (by omega) (j_hn (by omega) M28)))))), (j_hn (by decide) (j_hn (by decide) (j_hn (by decide) (j_hn (by omega) (j_hn (by omega) (j_hn (by omega) M29)))))), (j_hn (by decide) (j_hn (by decide) (j_hn (by decide) (j_hn (by omega) (j_hn (by omega) (j_hn (by omega) M30)))))), (j_hn (by decide) (j_hn (by decide) (j_hn (by decide) (j_hn (by omega) (j_hn (by omega) (j_hn (by omega) M31)))))), (j_hn (by decide) (j_hn (by decide) (j_hn (by decide) (j_hn (by omega) (j_hn (by omega) (j_hn (by omega) M32)))))), (j_hn (by decide) (j_hn (by decide) (j_hn (by decide) (j_hn (by omega) (j_hn (by omega) (j_hn (by omega) M33)))))), (j_hn (by decide) (j_hn (by decide) (j_hn (by decide) (j_hn (by omega) (j_hn (by omega) (j_hn (by omega) M34)))))), (j_hn (by decide) (j_hn (by decide) (j_hn (by decide) (j_hn (by omega) (j_hn (by omega) (j_hn (by omega) M35)))))), (j_hn (by decide) (j_hn (by decide) (j_hn (by decide) (j_hn (by omega) (j_hn (by omega) (j_hn (by omega) M36)))))), (j_hn (by decide) (j_hn (by decide) (j_hn (by decide) (j_hn (by omega) (j_hn (by omega) (j_hn (by omega) M37)))))), (j_hn (by decide) (j_hn (by decide) (j_hn (by decide) (j_hn (by omega) (j_hn (by omega) (j_hn (by omega) M38)))))), (j_hn (by decide) (j_hn (by decide) (j_hn (by decide) (j_hn (by omega) (j_hn (by omega) (j_hn (by omega) M39)))))), (j_hn (by decide) (j_hn (by decide) (j_hn (by decide) (j_hn (by omega) (j_hn (by omega) (j_hn (by omega) M40)))))), (j_hn (by decide) (j_hn (by decide) (j_hn (by decide) (j_hn (by omega) (j_hn (by omega) (j_hn (by omega) M41)))))), (j_hn (by decide) (j_hn (by decide) (j_hn (by decide) (j_hn (by omega) (j_hn (by omega) (j_hn (by omega) M42)))))), (j_hn (by decide) (j_hn (by decide) (j_hn (by decide) (j_hn (by omega) (j_hn (by omega) (j_hn (by omega) M43)))))), (j_hn (by decide) (j_hn (by decide) (j_hn (by decide) (j_hn (by omega) (j_hn (by omega) (j_hn (by omega) M44)))))), j_hs, (j_hn (by decide) (j_hn (by decide) (j_hn (by decide) (j_hn (by omega) (j_hn (by omega) (j_hn (by omega) M46)))))), (j_hn (by decide) (j_hn (by decide) (j_hn (by decide) (j_hn (by omega) (j_hn (by omega) (j_hn (by omega) M47)))))), (j_hn (by decide) (j_hn (by decide) j_hs)), (j_hn (by decide) j_hs)⟩) (⟨(j_hn (by decide) (j_hn (by decide) (j_hn (by decide) (j_hn (by omega) (j_hn (by omega) (j_hn (by omega) X0)))))), (j_hn (by decide) (j_hn (by decide) (j_hn (by decide) (j_hn (by omega) (j_hn (by omega) (j_hn (by omega) X1)))))), (j_hn (by decide) (j_hn (by decide) (j_hn (by decide) (j_hn (by omega) (j_hn (by omega) (j_hn (by omega) X2)))))), (j_hn (by decide) (j_hn (by decide) (j_hn (by decide) (j_hn (by omega) (j_hn (by omega) (j_hn (by omega) X3)))))), (j_hn (by decide) (j_hn (by decide) (j_hn (by decide) (j_hn (by omega) (j_hn (by omega) (j_hn (by omega) X4)))))), (j_hn (by decide) (j_hn (by decide) (j_hn (by decide) (j_hn (by omega) (j_hn (by omega) (j_hn (by omega) X5)))))), (j_hn (by decide) (j_hn (by decide) (j_hn (by decide) (j_hn (by omega) (j_hn (by omega) (j_hn (by omega) X6)))))), (j_hn (by decide) (j_hn (by decide) (j_hn (by decide) (j_hn (by omega) (j_hn (by omega) (j_hn (by omega) X7)))))), (j_hn (by decide) (j_hn (by decide) (j_hn (by decide) (j_hn (by omega) (j_hn (by omega) (j_hn (by omega) X8)))))), (j_hn (by decide) (j_hn (by decide) (j_hn (by decide) (j_hn (by omega) (j_hn (by omega) (j_hn (by omega) X9)))))), (j_hn (by decide) (j_hn (by decide) (j_hn (by decide) (j_hn (by omega) (j_hn (by omega) (j_hn (by omega) X10)))))), (j_hn (by decide) (j_hn (by decide) (j_hn (by decide) (j_hn (by omega) (j_hn (by omega) (j_hn (by omega) X11)))))), (j_hn (by decide) (j_hn (by decide) (j_hn (by decide) (j_hn (by omega) (j_hn (by omega) (j_hn (by omega) X12)))))), (j_hn (by decide) (j_hn (by decide) (j_hn (by decide) (j_hn (by omega) (j_hn (by omega) (j_hn (by omega) X13))))))⟩) (⟨(j_hn (by omega) (j_hn (by omega) (j_hn (by omega) j_hs))), (j_hn (by omega) (j_hn (by omega) (j_hn (by omega) (j_hn (by omega) (j_hn (by omega) j_hs))))), (j_hn (by omega) (j_hn (by omega) (j_hn (by omega) (j_hn (by omega) j_hs))))⟩) ((iY_set (iY_set (iY_set (iY_set (iY_set (iY_set hY hrd (by omega)) hrd (by omega)) hrd (by omega)) hrd (by decide)) hrd (by decide)) hrd (by decide))) ((iT_lo hD (by decide) (iT_lo hD (by decide) (iT_lo hD (by decide) (iT_set (iT_set (iT_set hT (fun t ht => by have q := hD.2.2.2.2.2.2.2.2.2 t ht; omega)) (fun t ht => by have q := hD.2.2.2.2.2.2.2.2.2 t ht; omega)) (fun t ht => by have q := hD.2.2.2.2.2.2.2.2.2 t ht; omega)))))) ((iE_lo hD (by decide) (iE_lo hD (by decide) (iE_lo hD (by decide) (iE_set (iE_set (iE_set hE (fun e he => by have q := hD.2.2.2.2.2.2.2.2.1 e he; omega)) (fun e he => by have q := hD.2.2.2.2.2.2.2.2.1 e he; omega)) (fun e he => by have q := hD.2.2.2.2.2.2.2.2.1 e he; omega)))))) (hD) (⟨hL, hP, hT20, hE60, hC, (by omega), (by omega), hn, hrd, hop⟩) (hU) (iS_up hS) (iB_row hB c0 (by omega))
    · intro b0 b1 b2 b3 b4 b5 b6
      exfalso
      clear hI0 hM hX hW hY hT hE hD hU hS hB hG K M27 M28 M29 M30 M31 M32 M33 M34 M35 M36 M37 M38 M39 M40 M41 M42 M43 M44 M45 M46 M47 M48 M49 X0 X1 X2 X3 X4 X5 X6 X7 X8 X9 X10 X11 X12 X13 W0 W1 W2 Y0 Y1 Y2 Y3 Y4 Y5 Y6 Y7 Y8 Y9 K2
      (try simp only [Int32.lt_iff_toInt_lt, Int32.le_iff_toInt_le, Int64.lt_iff_toInt_lt, Int64.le_iff_toInt_le, Int32.toInt_toInt64, ← Int32.toInt_inj, ← Int64.toInt_inj, n32_0, n32_1, n32_2, n32_3, n32_4, n32_6, n32_8, n32_9, n32_10, n32_20, n32_100, n32_120, n32_255, n32_400, n32_3600, n32_m1, n64_0, n64_1, n64_2, n64_3, n64_4, n64_5, n64_9, n64_19, n64_119, n64_255, n64_400, n64_3599, n64_1000000000, n64_1000000000000, n64_m1000000000000] at c0 c1 c2 c3 c4 c5 c6 c7 b0 b1 b2 b3 b4 b5 b6)
      first | contradiction | omega
  · intro c0 c1 c2 c3 c4 c5 c6 c7
    obtain ⟨hRR, hdd, hdm⟩ := hB.2.2 c0
    subst hRR
    have her : (er 0).toInt = R := by rw [hB.2.1]; exact nI_toInt (by omega)
    exfalso
    clear hI0 hM hX hW hY hT hE hD hU hS hB hG K M27 M28 M29 M30 M31 M32 M33 M34 M35 M36 M37 M38 M39 M40 M41 M42 M43 M44 M45 M46 M47 M48 M49 X0 X1 X2 X3 X4 X5 X6 X7 X8 X9 X10 X11 X12 X13 W0 W1 W2 Y0 Y1 Y2 Y3 Y4 Y5 Y6 Y7 Y8 Y9
    (try simp only [Int32.lt_iff_toInt_lt, Int32.le_iff_toInt_le, Int64.lt_iff_toInt_lt, Int64.le_iff_toInt_le, Int32.toInt_toInt64, ← Int32.toInt_inj, ← Int64.toInt_inj, n32_0, n32_1, n32_2, n32_3, n32_4, n32_6, n32_8, n32_9, n32_10, n32_20, n32_100, n32_120, n32_255, n32_400, n32_3600, n32_m1, n64_0, n64_1, n64_2, n64_3, n64_4, n64_5, n64_9, n64_19, n64_119, n64_255, n64_400, n64_3599, n64_1000000000, n64_1000000000000, n64_m1000000000000] at c0 c1 c2 c3 c4 c5 c6 c7)
    first | contradiction | omega
  · intro c0 c1 c2 c3 c4 c5 c6
    obtain ⟨hRR, hdd, hdm⟩ := hB.2.2 c0
    subst hRR
    have her : (er 0).toInt = R := by rw [hB.2.1]; exact nI_toInt (by omega)
    refine K _ _ ⟨_, M27⟩ (fun Q2 K2 => ?_)
    refine s_X8_row M27 M45 M48 M49 hB.2.1 hR0 ?_ ?_ ?_ ?_ ?_ ?_ ?_ ?_
    · intro b0
      exfalso
      clear hI0 hM hX hW hY hT hE hD hU hS hB hG K M27 M28 M29 M30 M31 M32 M33 M34 M35 M36 M37 M38 M39 M40 M41 M42 M43 M44 M45 M46 M47 M48 M49 X0 X1 X2 X3 X4 X5 X6 X7 X8 X9 X10 X11 X12 X13 W0 W1 W2 Y0 Y1 Y2 Y3 Y4 Y5 Y6 Y7 Y8 Y9 K2
      (try simp only [Int32.lt_iff_toInt_lt, Int32.le_iff_toInt_le, Int64.lt_iff_toInt_lt, Int64.le_iff_toInt_le, Int32.toInt_toInt64, ← Int32.toInt_inj, ← Int64.toInt_inj, n32_0, n32_1, n32_2, n32_3, n32_4, n32_6, n32_8, n32_9, n32_10, n32_20, n32_100, n32_120, n32_255, n32_400, n32_3600, n32_m1, n64_0, n64_1, n64_2, n64_3, n64_4, n64_5, n64_9, n64_19, n64_119, n64_255, n64_400, n64_3599, n64_1000000000, n64_1000000000000, n64_m1000000000000] at c0 c1 c2 c3 c4 c5 c6 b0)
      first | contradiction | omega
    · intro b0 b1
      exfalso
      clear hI0 hM hX hW hY hT hE hD hU hS hB hG K M27 M28 M29 M30 M31 M32 M33 M34 M35 M36 M37 M38 M39 M40 M41 M42 M43 M44 M45 M46 M47 M48 M49 X0 X1 X2 X3 X4 X5 X6 X7 X8 X9 X10 X11 X12 X13 W0 W1 W2 Y0 Y1 Y2 Y3 Y4 Y5 Y6 Y7 Y8 Y9 K2
      (try simp only [Int32.lt_iff_toInt_lt, Int32.le_iff_toInt_le, Int64.lt_iff_toInt_lt, Int64.le_iff_toInt_le, Int32.toInt_toInt64, ← Int32.toInt_inj, ← Int64.toInt_inj, n32_0, n32_1, n32_2, n32_3, n32_4, n32_6, n32_8, n32_9, n32_10, n32_20, n32_100, n32_120, n32_255, n32_400, n32_3600, n32_m1, n64_0, n64_1, n64_2, n64_3, n64_4, n64_5, n64_9, n64_19, n64_119, n64_255, n64_400, n64_3599, n64_1000000000, n64_1000000000000, n64_m1000000000000] at c0 c1 c2 c3 c4 c5 c6 b0 b1)
      first | contradiction | omega
    · intro b0 b1 b2
      exfalso
      clear hI0 hM hX hW hY hT hE hD hU hS hB hG K M27 M28 M29 M30 M31 M32 M33 M34 M35 M36 M37 M38 M39 M40 M41 M42 M43 M44 M45 M46 M47 M48 M49 X0 X1 X2 X3 X4 X5 X6 X7 X8 X9 X10 X11 X12 X13 W0 W1 W2 Y0 Y1 Y2 Y3 Y4 Y5 Y6 Y7 Y8 Y9 K2
      (try simp only [Int32.lt_iff_toInt_lt, Int32.le_iff_toInt_le, Int64.lt_iff_toInt_lt, Int64.le_iff_toInt_le, Int32.toInt_toInt64, ← Int32.toInt_inj, ← Int64.toInt_inj, n32_0, n32_1, n32_2, n32_3, n32_4, n32_6, n32_8, n32_9, n32_10, n32_20, n32_100, n32_120, n32_255, n32_400, n32_3600, n32_m1, n64_0, n64_1, n64_2, n64_3, n64_4, n64_5, n64_9, n64_19, n64_119, n64_255, n64_400, n64_3599, n64_1000000000, n64_1000000000000, n64_m1000000000000] at c0 c1 c2 c3 c4 c5 c6 b0 b1 b2)
      first | contradiction | omega
    · intro b0 b1 b2 b3
      exfalso
      clear hI0 hM hX hW hY hT hE hD hU hS hB hG K M27 M28 M29 M30 M31 M32 M33 M34 M35 M36 M37 M38 M39 M40 M41 M42 M43 M44 M45 M46 M47 M48 M49 X0 X1 X2 X3 X4 X5 X6 X7 X8 X9 X10 X11 X12 X13 W0 W1 W2 Y0 Y1 Y2 Y3 Y4 Y5 Y6 Y7 Y8 Y9 K2
      (try simp only [Int32.lt_iff_toInt_lt, Int32.le_iff_toInt_le, Int64.lt_iff_toInt_lt, Int64.le_iff_toInt_le, Int32.toInt_toInt64, ← Int32.toInt_inj, ← Int64.toInt_inj, n32_0, n32_1, n32_2, n32_3, n32_4, n32_6, n32_8, n32_9, n32_10, n32_20, n32_100, n32_120, n32_255, n32_400, n32_3600, n32_m1, n64_0, n64_1, n64_2, n64_3, n64_4, n64_5, n64_9, n64_19, n64_119, n64_255, n64_400, n64_3599, n64_1000000000, n64_1000000000000, n64_m1000000000000] at c0 c1 c2 c3 c4 c5 c6 b0 b1 b2 b3)
      first | contradiction | omega
    · intro b0 b1 b2 b3 b4
      exfalso
      clear hI0 hM hX hW hY hT hE hD hU hS hB hG K M27 M28 M29 M30 M31 M32 M33 M34 M35 M36 M37 M38 M39 M40 M41 M42 M43 M44 M45 M46 M47 M48 M49 X0 X1 X2 X3 X4 X5 X6 X7 X8 X9 X10 X11 X12 X13 W0 W1 W2 Y0 Y1 Y2 Y3 Y4 Y5 Y6 Y7 Y8 Y9 K2
      (try simp only [Int32.lt_iff_toInt_lt, Int32.le_iff_toInt_le, Int64.lt_iff_toInt_lt, Int64.le_iff_toInt_le, Int32.toInt_toInt64, ← Int32.toInt_inj, ← Int64.toInt_inj, n32_0, n32_1, n32_2, n32_3, n32_4, n32_6, n32_8, n32_9, n32_10, n32_20, n32_100, n32_120, n32_255, n32_400, n32_3600, n32_m1, n64_0, n64_1, n64_2, n64_3, n64_4, n64_5, n64_9, n64_19, n64_119, n64_255, n64_400, n64_3599, n64_1000000000, n64_1000000000000, n64_m1000000000000] at c0 c1 c2 c3 c4 c5 c6 b0 b1 b2 b3 b4)
      first | contradiction | omega
    · intro b0 b1 b2 b3 b4 b5
      exfalso
      clear hI0 hM hX hW hY hT hE hD hU hS hB hG K M27 M28 M29 M30 M31 M32 M33 M34 M35 M36 M37 M38 M39 M40 M41 M42 M43 M44 M45 M46 M47 M48 M49 X0 X1 X2 X3 X4 X5 X6 X7 X8 X9 X10 X11 X12 X13 W0 W1 W2 Y0 Y1 Y2 Y3 Y4 Y5 Y6 Y7 Y8 Y9 K2
      (try simp only [Int32.lt_iff_toInt_lt, Int32.le_iff_toInt_le, Int64.lt_iff_toInt_lt, Int64.le_iff_toInt_le, Int32.toInt_toInt64, ← Int32.toInt_inj, ← Int64.toInt_inj, n32_0, n32_1, n32_2, n32_3, n32_4, n32_6, n32_8, n32_9, n32_10, n32_20, n32_100, n32_120, n32_255, n32_400, n32_3600, n32_m1, n64_0, n64_1, n64_2, n64_3, n64_4, n64_5, n64_9, n64_19, n64_119, n64_255, n64_400, n64_3599, n64_1000000000, n64_1000000000000, n64_m1000000000000] at c0 c1 c2 c3 c4 c5 c6 b0 b1 b2 b3 b4 b5)
      first | contradiction | omega
    · intro b0 b1 b2 b3 b4 b5 b6
      exfalso
      clear hI0 hM hX hW hY hT hE hD hU hS hB hG K M27 M28 M29 M30 M31 M32 M33 M34 M35 M36 M37 M38 M39 M40 M41 M42 M43 M44 M45 M46 M47 M48 M49 X0 X1 X2 X3 X4 X5 X6 X7 X8 X9 X10 X11 X12 X13 W0 W1 W2 Y0 Y1 Y2 Y3 Y4 Y5 Y6 Y7 Y8 Y9 K2
      (try simp only [Int32.lt_iff_toInt_lt, Int32.le_iff_toInt_le, Int64.lt_iff_toInt_lt, Int64.le_iff_toInt_le, Int32.toInt_toInt64, ← Int32.toInt_inj, ← Int64.toInt_inj, n32_0, n32_1, n32_2, n32_3, n32_4, n32_6, n32_8, n32_9, n32_10, n32_20, n32_100, n32_120, n32_255, n32_400, n32_3600, n32_m1, n64_0, n64_1, n64_2, n64_3, n64_4, n64_5, n64_9, n64_19, n64_119, n64_255, n64_400, n64_3599, n64_1000000000, n64_1000000000000, n64_m1000000000000] at c0 c1 c2 c3 c4 c5 c6 b0 b1 b2 b3 b4 b5 b6)
      first | contradiction | omega
    · intro b0 b1 b2 b3 b4 b5 b6
      exact K2 _ (iV_up hI0)
  · intro c0 c1 c2 c3
    obtain ⟨hRR, hdd, hdm⟩ := hB.2.2 c0
    subst hRR
    have her : (er 0).toInt = R := by rw [hB.2.1]; exact nI_toInt (by omega)
    refine K _ _ ⟨_, M27⟩ (fun Q2 K2 => ?_)
    refine s_X8_row M27 M45 M48 M49 hB.2.1 hR0 ?_ ?_ ?_ ?_ ?_ ?_ ?_ ?_
    · intro b0
      exfalso
      clear hI0 hM hX hW hY hT hE hD hU hS hB hG K M27 M28 M29 M30 M31 M32 M33 M34 M35 M36 M37 M38 M39 M40 M41 M42 M43 M44 M45 M46 M47 M48 M49 X0 X1 X2 X3 X4 X5 X6 X7 X8 X9 X10 X11 X12 X13 W0 W1 W2 Y0 Y1 Y2 Y3 Y4 Y5 Y6 Y7 Y8 Y9 K2
      (try simp only [Int32.lt_iff_toInt_lt, Int32.le_iff_toInt_le, Int64.lt_iff_toInt_lt, Int64.le_iff_toInt_le, Int32.toInt_toInt64, ← Int32.toInt_inj, ← Int64.toInt_inj, n32_0, n32_1, n32_2, n32_3, n32_4, n32_6, n32_8, n32_9, n32_10, n32_20, n32_100, n32_120, n32_255, n32_400, n32_3600, n32_m1, n64_0, n64_1, n64_2, n64_3, n64_4, n64_5, n64_9, n64_19, n64_119, n64_255, n64_400, n64_3599, n64_1000000000, n64_1000000000000, n64_m1000000000000] at c0 c1 c2 c3 b0)
      first | contradiction | omega
    · intro b0 b1
      exfalso
      clear hI0 hM hX hW hY hT hE hD hU hS hB hG K M27 M28 M29 M30 M31 M32 M33 M34 M35 M36 M37 M38 M39 M40 M41 M42 M43 M44 M45 M46 M47 M48 M49 X0 X1 X2 X3 X4 X5 X6 X7 X8 X9 X10 X11 X12 X13 W0 W1 W2 Y0 Y1 Y2 Y3 Y4 Y5 Y6 Y7 Y8 Y9 K2
      (try simp only [Int32.lt_iff_toInt_lt, Int32.le_iff_toInt_le, Int64.lt_iff_toInt_lt, Int64.le_iff_toInt_le, Int32.toInt_toInt64, ← Int32.toInt_inj, ← Int64.toInt_inj, n32_0, n32_1, n32_2, n32_3, n32_4, n32_6, n32_8, n32_9, n32_10, n32_20, n32_100, n32_120, n32_255, n32_400, n32_3600, n32_m1, n64_0, n64_1, n64_2, n64_3, n64_4, n64_5, n64_9, n64_19, n64_119, n64_255, n64_400, n64_3599, n64_1000000000, n64_1000000000000, n64_m1000000000000] at c0 c1 c2 c3 b0 b1)
      first | contradiction | omega
    · intro b0 b1 b2
      exfalso
      clear hI0 hM hX hW hY hT hE hD hU hS hB hG K M27 M28 M29 M30 M31 M32 M33 M34 M35 M36 M37 M38 M39 M40 M41 M42 M43 M44 M45 M46 M47 M48 M49 X0 X1 X2 X3 X4 X5 X6 X7 X8 X9 X10 X11 X12 X13 W0 W1 W2 Y0 Y1 Y2 Y3 Y4 Y5 Y6 Y7 Y8 Y9 K2
      (try simp only [Int32.lt_iff_toInt_lt, Int32.le_iff_toInt_le, Int64.lt_iff_toInt_lt, Int64.le_iff_toInt_le, Int32.toInt_toInt64, ← Int32.toInt_inj, ← Int64.toInt_inj, n32_0, n32_1, n32_2, n32_3, n32_4, n32_6, n32_8, n32_9, n32_10, n32_20, n32_100, n32_120, n32_255, n32_400, n32_3600, n32_m1, n64_0, n64_1, n64_2, n64_3, n64_4, n64_5, n64_9, n64_19, n64_119, n64_255, n64_400, n64_3599, n64_1000000000, n64_1000000000000, n64_m1000000000000] at c0 c1 c2 c3 b0 b1 b2)
      first | contradiction | omega
    · intro b0 b1 b2 b3
      exact K2 _ (iV_up hI0)
    · intro b0 b1 b2 b3 b4
      exfalso
      clear hI0 hM hX hW hY hT hE hD hU hS hB hG K M27 M28 M29 M30 M31 M32 M33 M34 M35 M36 M37 M38 M39 M40 M41 M42 M43 M44 M45 M46 M47 M48 M49 X0 X1 X2 X3 X4 X5 X6 X7 X8 X9 X10 X11 X12 X13 W0 W1 W2 Y0 Y1 Y2 Y3 Y4 Y5 Y6 Y7 Y8 Y9 K2
      (try simp only [Int32.lt_iff_toInt_lt, Int32.le_iff_toInt_le, Int64.lt_iff_toInt_lt, Int64.le_iff_toInt_le, Int32.toInt_toInt64, ← Int32.toInt_inj, ← Int64.toInt_inj, n32_0, n32_1, n32_2, n32_3, n32_4, n32_6, n32_8, n32_9, n32_10, n32_20, n32_100, n32_120, n32_255, n32_400, n32_3600, n32_m1, n64_0, n64_1, n64_2, n64_3, n64_4, n64_5, n64_9, n64_19, n64_119, n64_255, n64_400, n64_3599, n64_1000000000, n64_1000000000000, n64_m1000000000000] at c0 c1 c2 c3 b0 b1 b2 b3 b4)
      first | contradiction | omega
    · intro b0 b1 b2 b3 b4 b5
      exfalso
      clear hI0 hM hX hW hY hT hE hD hU hS hB hG K M27 M28 M29 M30 M31 M32 M33 M34 M35 M36 M37 M38 M39 M40 M41 M42 M43 M44 M45 M46 M47 M48 M49 X0 X1 X2 X3 X4 X5 X6 X7 X8 X9 X10 X11 X12 X13 W0 W1 W2 Y0 Y1 Y2 Y3 Y4 Y5 Y6 Y7 Y8 Y9 K2
      (try simp only [Int32.lt_iff_toInt_lt, Int32.le_iff_toInt_le, Int64.lt_iff_toInt_lt, Int64.le_iff_toInt_le, Int32.toInt_toInt64, ← Int32.toInt_inj, ← Int64.toInt_inj, n32_0, n32_1, n32_2, n32_3, n32_4, n32_6, n32_8, n32_9, n32_10, n32_20, n32_100, n32_120, n32_255, n32_400, n32_3600, n32_m1, n64_0, n64_1, n64_2, n64_3, n64_4, n64_5, n64_9, n64_19, n64_119, n64_255, n64_400, n64_3599, n64_1000000000, n64_1000000000000, n64_m1000000000000] at c0 c1 c2 c3 b0 b1 b2 b3 b4 b5)
      first | contradiction | omega
    · intro b0 b1 b2 b3 b4 b5 b6
      exfalso
      clear hI0 hM hX hW hY hT hE hD hU hS hB hG K M27 M28 M29 M30 M31 M32 M33 M34 M35 M36 M37 M38 M39 M40 M41 M42 M43 M44 M45 M46 M47 M48 M49 X0 X1 X2 X3 X4 X5 X6 X7 X8 X9 X10 X11 X12 X13 W0 W1 W2 Y0 Y1 Y2 Y3 Y4 Y5 Y6 Y7 Y8 Y9 K2
      (try simp only [Int32.lt_iff_toInt_lt, Int32.le_iff_toInt_le, Int64.lt_iff_toInt_lt, Int64.le_iff_toInt_le, Int32.toInt_toInt64, ← Int32.toInt_inj, ← Int64.toInt_inj, n32_0, n32_1, n32_2, n32_3, n32_4, n32_6, n32_8, n32_9, n32_10, n32_20, n32_100, n32_120, n32_255, n32_400, n32_3600, n32_m1, n64_0, n64_1, n64_2, n64_3, n64_4, n64_5, n64_9, n64_19, n64_119, n64_255, n64_400, n64_3599, n64_1000000000, n64_1000000000000, n64_m1000000000000] at c0 c1 c2 c3 b0 b1 b2 b3 b4 b5 b6)
      first | contradiction | omega
    · intro b0 b1 b2 b3 b4 b5 b6
      exfalso
      clear hI0 hM hX hW hY hT hE hD hU hS hB hG K M27 M28 M29 M30 M31 M32 M33 M34 M35 M36 M37 M38 M39 M40 M41 M42 M43 M44 M45 M46 M47 M48 M49 X0 X1 X2 X3 X4 X5 X6 X7 X8 X9 X10 X11 X12 X13 W0 W1 W2 Y0 Y1 Y2 Y3 Y4 Y5 Y6 Y7 Y8 Y9 K2
      (try simp only [Int32.lt_iff_toInt_lt, Int32.le_iff_toInt_le, Int64.lt_iff_toInt_lt, Int64.le_iff_toInt_le, Int32.toInt_toInt64, ← Int32.toInt_inj, ← Int64.toInt_inj, n32_0, n32_1, n32_2, n32_3, n32_4, n32_6, n32_8, n32_9, n32_10, n32_20, n32_100, n32_120, n32_255, n32_400, n32_3600, n32_m1, n64_0, n64_1, n64_2, n64_3, n64_4, n64_5, n64_9, n64_19, n64_119, n64_255, n64_400, n64_3599, n64_1000000000, n64_1000000000000, n64_m1000000000000] at c0 c1 c2 c3 b0 b1 b2 b3 b4 b5 b6)
      first | contradiction | omega
