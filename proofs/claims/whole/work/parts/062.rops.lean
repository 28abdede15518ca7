set_option maxRecDepth 20000 in
theorem r_unit {l : Launch} {G : jG} {h : jH} {Q : Option Value → jH → Prop} {c : Nat} {u : Int32} (hc : c < 512) (hG : j_gok G) (hI : iV c h) (K : ∀ (vv : Int32) (h1 : jH), (∃ fs, h1.2 27 = some (jO 8 fs)) → (∀ Q2 : Option Value → jH → Prop, (∀ h2, iV (c + 1) h2 → Q2 (some (.int vv)) h2) → J l G mX8_unit 0 0 0 (lv_args 0 [.ref 27, .int u]) [] h1 Q2) → Q (some (.int vv)) h1) : J l G mX7_unit 0 0 0 (lv_args 0 [.ref 0, .int u]) [] h Q := by
  have hI0 := hI
  refine hI _ ?_
  clear hI
  intro L P T E C R R0 n ru dq dr op at_ fr wd ws we wn dd tx rs fs ro sh dy se ey er tk tn ac f1 f2 f3 f4 g1 g2 g3 g4 da lo ad sa co pa ss w1 w2 w3 am pw ps cu dm ta ea shp tb eb rr rn cst prt eam dys eac shs hM hX hW hY hT hE hD hN hU hS hB
  obtain ⟨M27, M28, M29, M30, M31, M32, M33, M34, M35, M36, M37, M38, M39, M40, M41, M42, M43, M44, M45, M46, M47, M48, M49⟩ := id hM
  obtain ⟨X0, X1, X2, X3, X4, X5, X6, X7, X8, X9, X10, X11, X12, X13⟩ := id hX
  obtain ⟨W0, W1, W2⟩ := id hW
  obtain ⟨Y0, Y1, Y2, Y3, Y4, Y5, Y6, Y7, Y8, Y9⟩ := id hY
  obtain ⟨hL, hP, hT20, hE60, hC, hR, hR0, hn, hrd, hop⟩ := id hN
  refine s_X7_unit X0 X1 X2 hL ?_ ?_ ?_ ?_
  · intro c0
    refine K _ _ ⟨_, M27⟩ (fun Q2 K2 => ?_)
    refine s_X8_unit M27 M28 hL ?_ ?_ ?_ ?_
    · intro b0
      exact K2 _ (iV_up hI0)
    · intro b0 b1
      exfalso
      clear hI0 hM hX hW hY hT hE hD hU hS hB hG K M27 M28 M29 M30 M31 M32 M33 M34 M35 M36 M37 M38 M39 M40 M41 M42 M43 M44 M45 M46 M47 M48 M49 X0 X1 X2 X3 X4 X5 X6 X7 X8 X9 X10 X11 X12 X13 W0 W1 W2 Y0 Y1 Y2 Y3 Y4 Y5 Y6 Y7 Y8 Y9 K2
      (try simp only [Int32.lt_iff_toInt_lt, Int32.le_iff_toInt_le, Int64.lt_iff_toInt_lt, Int64.le_iff_toInt_le, Int32.toInt_toInt64, ← Int32.toInt_inj, ← Int64.toInt_inj, n32_0, n32_1, n32_2, n32_3, n32_4, n32_6, n32_8, n32_9, n32_10, n32_20, n32_100, n32_120, n32_255, n32_400, n32_3600, n32_m1, n64_0, n64_1, n64_2, n64_3, n64_4, n64_5, n64_9, n64_19, n64_119, n64_255, n64_400, n64_3599, n64_1000000000, n64_1000000000000, n64_m1000000000000] at c0 b0 b1)
      first | contradiction | omega
    · intro b0 b1 b2
      exfalso
      clear hI0 hM hX hW hY hT hE hD hU hS hB hG K M27 M28 M29 M30 M31 M32 M33 M34 M35 M36 M37 M38 M39 M40 M41 M42 M43 M44 M45 M46 M47 M48 M49 X0 X1 X2 X3 X4 X5 X6 X7 X8 X9 X10 X11 X12 X13 W0 W1 W2 Y0 Y1 Y2 Y3 Y4 Y5 Y6 Y7 Y8 Y9 K2
      (try simp only [Int32.lt_iff_toInt_lt, Int32.le_iff_toInt_le, Int64.lt_iff_toInt_lt, Int64.le_iff_toInt_le, Int32.toInt_toInt64, ← Int32.toInt_inj, ← Int64.toInt_inj, n32_0, n32_1, n32_2, n32_3, n32_4, n32_6, n32_8, n32_9, n32_10, n32_20, n32_100, n32_120, n32_255, n32_400, n32_3600, n32_m1, n64_0, n64_1, n64_2, n64_3, n64_4, n64_5, n64_9, n64_19, n64_119, n64_255, n64_400, n64_3599, n64_1000000000, n64_1000000000000, n64_m1000000000000] at c0 b0 b1 b2)
      first | contradiction | omega
    · intro b0 b1 b2
      exfalso
      clear hI0 hM hX hW hY hT hE hD hU hS hB hG K M27 M28 M29 M30 M31 M32 M33 M34 M35 M36 M37 M38 M39 M40 M41 M42 M43 M44 M45 M46 M47 M48 M49 X0 X1 X2 X3 X4 X5 X6 X7 X8 X9 X10 X11 X12 X13 W0 W1 W2 Y0 Y1 Y2 Y3 Y4 Y5 Y6 Y7 Y8 Y9 K2
      (try simp only [Int32.lt_iff_toInt_lt, Int32.le_iff_toInt_le, Int64.lt_iff_toInt_lt, Int64.le_iff_toInt_le, Int32.toInt_toInt64, ← Int32.toInt_inj, ← Int64.toInt_inj, n32_0, n32_1, n32_2, n32_3, n32_4, n32_6, n32_8, n32_9, n32_10, n32_20, n32_100, n32_120, n32_255, n32_400, n32_3600, n32_m1, n64_0, n64_1, n64_2, n64_3, n64_4, n64_5, n64_9, n64_19, n64_119, n64_255, n64_400, n64_3599, n64_1000000000, n64_1000000000000, n64_m1000000000000] at c0 b0 b1 b2)
      first | contradiction | omega
  · intro c0 c1
    refine K _ _ ⟨_, M27⟩ (fun Q2 K2 => ?_)
    refine s_X8_unit M27 M28 hL ?_ ?_ ?_ ?_
    · intro b0
      exfalso
      clear hI0 hM hX hW hY hT hE hD hU hS hB hG K M27 M28 M29 M30 M31 M32 M33 M34 M35 M36 M37 M38 M39 M40 M41 M42 M43 M44 M45 M46 M47 M48 M49 X0 X1 X2 X3 X4 X5 X6 X7 X8 X9 X10 X11 X12 X13 W0 W1 W2 Y0 Y1 Y2 Y3 Y4 Y5 Y6 Y7 Y8 Y9 K2
      (try simp only [Int32.lt_iff_toInt_lt, Int32.le_iff_toInt_le, Int64.lt_iff_toInt_lt, Int64.le_iff_toInt_le, Int32.toInt_toInt64, ← Int32.toInt_inj, ← Int64.toInt_inj, n32_0, n32_1, n32_2, n32_3, n32_4, n32_6, n32_8, n32_9, n32_10, n32_20, n32_100, n32_120, n32_255, n32_400, n32_3600, n32_m1, n64_0, n64_1, n64_2, n64_3, n64_4, n64_5, n64_9, n64_19, n64_119, n64_255, n64_400, n64_3599, n64_1000000000, n64_1000000000000, n64_m1000000000000] at c0 c1 b0)
      first | contradiction | omega
    · intro b0 b1
      exact K2 _ (iV_up hI0)
    · intro b0 b1 b2
      exfalso
      clear hI0 hM hX hW hY hT hE hD hU hS hB hG K M27 M28 M29 M30 M31 M32 M33 M34 M35 M36 M37 M38 M39 M40 M41 M42 M43 M44 M45 M46 M47 M48 M49 X0 X1 X2 X3 X4 X5 X6 X7 X8 X9 X10 X11 X12 X13 W0 W1 W2 Y0 Y1 Y2 Y3 Y4 Y5 Y6 Y7 Y8 Y9 K2
      (try simp only [Int32.lt_iff_toInt_lt, Int32.le_iff_toInt_le, Int64.lt_iff_toInt_lt, Int64.le_iff_toInt_le, Int32.toInt_toInt64, ← Int32.toInt_inj, ← Int64.toInt_inj, n32_0, n32_1, n32_2, n32_3, n32_4, n32_6, n32_8, n32_9, n32_10, n32_20, n32_100, n32_120, n32_255, n32_400, n32_3600, n32_m1, n64_0, n64_1, n64_2, n64_3, n64_4, n64_5, n64_9, n64_19, n64_119, n64_255, n64_400, n64_3599, n64_1000000000, n64_1000000000000, n64_m1000000000000] at c0 c1 b0 b1 b2)
      first | contradiction | omega
    · intro b0 b1 b2
      exfalso
      clear hI0 hM hX hW hY hT hE hD hU hS hB hG K M27 M28 M29 M30 M31 M32 M33 M34 M35 M36 M37 M38 M39 M40 M41 M42 M43 M44 M45 M46 M47 M48 M49 X0 X1 X2 X3 X4 X5 X6 X7 X8 X9 X10 X11 X12 X13 W0 W1 W2 Y0 Y1 Y2 Y3 Y4 Y5 Y6 Y7 Y8 Y9 K2
      (try simp only [Int32.lt_iff_toInt_lt, Int32.le_iff_toInt_le, Int64.lt_iff_toInt_lt, Int64.le_iff_toInt_le, Int32.toInt_toInt64, ← Int32.toInt_inj, ← Int64.toInt_inj, n32_0, n32_1, n32_2, n32_3, n32_4, n32_6, n32_8, n32_9, n32_10, n32_20, n32_100, n32_120, n32_255, n32_400, n32_3600, n32_m1, n64_0, n64_1, n64_2, n64_3, n64_4, n64_5, n64_9, n64_19, n64_119, n64_255, n64_400, n64_3599, n64_1000000000, n64_1000000000000, n64_m1000000000000] at c0 c1 b0 b1 b2)
      first | contradiction | omega
  · intro c0 c1 c2
    rw [x_u8 c0 c1]
    refine K _ _ ⟨_, (j_hn (by decide) (j_hn (by decide) M27))⟩ (fun Q2 K2 => ?_)
    refine s_X8_unit (j_hn (by decide) (j_hn (by decide) M27)) (j_hn (by decide) (j_hn (by decide) M28)) hL ?_ ?_ ?_ ?_
    · intro b0
      exfalso
      clear hI0 hM hX hW hY hT hE hD hU hS hB hG K M27 M28 M29 M30 M31 M32 M33 M34 M35 M36 M37 M38 M39 M40 M41 M42 M43 M44 M45 M46 M47 M48 M49 X0 X1 X2 X3 X4 X5 X6 X7 X8 X9 X10 X11 X12 X13 W0 W1 W2 Y0 Y1 Y2 Y3 Y4 Y5 Y6 Y7 Y8 Y9 K2
      (try simp only [Int32.lt_iff_toInt_lt, Int32.le_iff_toInt_le, Int64.lt_iff_toInt_lt, Int64.le_iff_toInt_le, Int32.toInt_toInt64, ← Int32.toInt_inj, ← Int64.toInt_inj, n32_0, n32_1, n32_2, n32_3, n32_4, n32_6, n32_8, n32_9, n32_10, n32_20, n32_100, n32_120, n32_255, n32_400, n32_3600, n32_m1, n64_0, n64_1, n64_2, n64_3, n64_4, n64_5, n64_9, n64_19, n64_119, n64_255, n64_400, n64_3599, n64_1000000000, n64_1000000000000, n64_m1000000000000] at c0 c1 c2 b0)
      first | contradiction | omega
    · intro b0 b1
      exfalso
      clear hI0 hM hX hW hY hT hE hD hU hS hB hG K M27 M28 M29 M30 M31 M32 M33 M34 M35 M36 M37 M38 M39 M40 M41 M42 M43 M44 M45 M46 M47 M48 M49 X0 X1 X2 X3 X4 X5 X6 X7 X8 X9 X10 X11 X12 X13 W0 W1 W2 Y0 Y1 Y2 Y3 Y4 Y5 Y6 Y7 Y8 Y9 K2
      (try simp only [Int32.lt_iff_toInt_lt, Int32.le_iff_toInt_le, Int64.lt_iff_toInt_lt, Int64.le_iff_toInt_le, Int32.toInt_toInt64, ← Int32.toInt_inj, ← Int64.toInt_inj, n32_0, n32_1, n32_2, n32_3, n32_4, n32_6, n32_8, n32_9, n32_10, n32_20, n32_100, n32_120, n32_255, n32_400, n32_3600, n32_m1, n64_0, n64_1, n64_2, n64_3, n64_4, n64_5, n64_9, n64_19, n64_119, n64_255, n64_400, n64_3599, n64_1000000000, n64_1000000000000, n64_m1000000000000] at c0 c1 c2 b0 b1)
      first | contradiction | omega
    · intro b0 b1 b2
      refine K2 _ (fun X k => ?_)
      exact k (L + 1) P T E C R R0 n ru dq dr op at_ fr wd ws we wn dd (va_up tx L u) rs fs ro sh dy se ey er tk tn ac f1 f2 f3 f4 g1 g2 g3 g4 da lo ad sa co pa ss w1 w2 w3 am pw ps cu dm ta ea shp tb eb rr rn cst prt eam dys eac shs (⟨j_hs, (j_hn (by decide) j_hs), (j_hn (by decide) (j_hn (by decide) (j_hn (by decide) (j_hn (by decide) M29)))), (j_hn (by decide) (j_hn (by decide) (j_hn (by decide) (j_hn (by decide) M30)))), (j_hn (by decide) (j_hn (by decide) (j_hn (by decide) (j_hn (by decide) M31)))), (j_hn (by decide) (j_hn (by decide) (j_hn (by decide) (j_hn (by decide) M32)))), (j_hn (by decide) (j_hn (by decide) (j_hn (by decide) (j_hn (by decide) M33)))), (j_hn (by decide) (j_hn (by decide) (j_hn (by decide) (j_hn (by decide) M34)))), (j_hn (by decide) (j_hn (by decide) (j_hn (by decide) (j_hn (by decide) M35)))), (j_hn (by decide) (j_hn (by decide) (j_hn (by decide) (j_hn (by decide) M36)))), (j_hn (by decide) (j_hn (by decide) (j_hn (by decide) (j_hn (by decide) M37)))), (j_hn (by decide) (j_hn (by decide) (j_hn (by decide) (j_hn (by decide) M38)))), (j_hn (by decide) (j_hn (by decide) (j_hn (by decide) (j_hn (by decide) M39)))), (j_hn (by decide) (j_hn (by decide) (j_hn (by decide) (j_hn (by decide) M40)))), (j_hn (by decide) (j_hn (by decide) (j_hn (by decide) (j_hn (by decide) M41)))), (j_hn (by decide) (j_hn (by decide) (j_hn (by decide) (j_hn (by decide) M42)))), (j_hn (by decide) (j_hn (by decide) (j_hn (by decide) (j_hn (by decide) M43)))), (j_hn (by decide) (j_hn (by decide) (j_hn (by decide) (j_hn (by decide) M44)))), (j_hn (by decide) (j_hn (by decide) (j_hn (by decide) (j_hn (by decide) M45)))), (j_hn (by decide) (j_hn (by decide) (j_hn (by decide) (j_hn (by decide) M46)))), (j_hn (by decide) (j_hn (by decide) (j_hn (by decide) (j_hn (by decide) M47)))), (j_hn (by decide) (j_hn (by decide) (j_hn (by decide) (j_hn (by decide) M48)))), (j_hn (by decide) (j_hn (by decide) (j_hn (by decide) (j_hn (by decide) M49))))⟩) (⟨(j_hn (by decide) (j_hn (by decide) (j_hn (by decide) (j_hn (by decide) X0)))), (j_hn (by decide) (j_hn (by decide) j_hs)), (j_hn (by decide) (j_hn (by decide) (j_hn (by decide) j_hs))), (j_hn (by decide) (j_hn (by decide) (j_hn (by decide) (j_hn (by decide) X3)))), (j_hn (by decide) (j_hn (by decide) (j_hn (by decide) (j_hn (by decide) X4)))), (j_hn (by decide) (j_hn (by decide) (j_hn (by decide) (j_hn (by decide) X5)))), (j_hn (by decide) (j_hn (by decide) (j_hn (by decide) (j_hn (by decide) X6)))), (j_hn (by decide) (j_hn (by decide) (j_hn (by decide) (j_hn (by decide) X7)))), (j_hn (by decide) (j_hn (by decide) (j_hn (by decide) (j_hn (by decide) X8)))), (j_hn (by decide) (j_hn (by decide) (j_hn (by decide) (j_hn (by decide) X9)))), (j_hn (by decide) (j_hn (by decide) (j_hn (by decide) (j_hn (by decide) X10)))), (j_hn (by decide) (j_hn (by decide) (j_hn (by decide) (j_hn (by decide) X11)))), (j_hn (by decide) (j_hn (by decide) (j_hn (by decide) (j_hn (by decide) X12)))), (j_hn (by decide) (j_hn (by decide) (j_hn (by decide) (j_hn (by decide) X13))))⟩) ((iW_lo hD (by decide) (iW_lo hD (by decide) (iW_lo hD (by decide) (iW_lo hD (by decide) hW))))) ((iY_set (iY_set (iY_set (iY_set hY hrd (by decide)) hrd (by decide)) hrd (by decide)) hrd (by decide))) ((iT_lo hD (by decide) (iT_lo hD (by decide) (iT_lo hD (by decide) (iT_lo hD (by decide) hT))))) ((iE_lo hD (by decide) (iE_lo hD (by decide) (iE_lo hD (by decide) (iE_lo hD (by decide) hE))))) (hD) (⟨by omega, hP, hT20, hE60, hC, hR, hR0, hn, hrd, hop⟩) (hU) (iS_up hS) (hB)
    · intro b0 b1 b2
      exfalso
      clear hI0 hM hX hW hY hT hE hD hU hS hB hG K M27 M28 M29 M30 M31 M32 M33 M34 M35 M36 M37 M38 M39 M40 M41 M42 M43 M44 M45 M46 M47 M48 M49 X0 X1 X2 X3 X4 X5 X6 X7 X8 X9 X10 X11 X12 X13 W0 W1 W2 Y0 Y1 Y2 Y3 Y4 Y5 Y6 Y7 Y8 Y9 K2
      (try simp only [Int32.lt_iff_toInt_lt, Int32.le_iff_toInt_le, Int64.lt_iff_toInt_lt, Int64.le_iff_toInt_le, Int32.toInt_toInt64, ← Int32.toInt_inj, ← Int64.toInt_inj, n32_0, n32_1, n32_2, n32_3, n32_4, n32_6, n32_8, n32_9, n32_10, n32_20, n32_100, n32_120, n32_255, n32_400, n32_3600, n32_m1, n64_0, n64_1, n64_2, n64_3, n64_4, n64_5, n64_9, n64_19, n64_119, n64_255, n64_400, n64_3599, n64_1000000000, n64_1000000000000, n64_m1000000000000] at c0 c1 c2 b0 b1 b2)
      first | contradiction | omega
  · intro c0 c1 c2
    refine K _ _ ⟨_, M27⟩ (fun Q2 K2 => ?_)
    refine s_X8_unit M27 M28 hL ?_ ?_ ?_ ?_
    · intro b0
      exfalso
      clear hI0 hM hX hW hY hT hE hD hU hS hB hG K M27 M28 M29 M30 M31 M32 M33 M34 M35 M36 M37 M38 M39 M40 M41 M42 M43 M44 M45 M46 M47 M48 M49 X0 X1 X2 X3 X4 X5 X6 X7 X8 X9 X10 X11 X12 X13 W0 W1 W2 Y0 Y1 Y2 Y3 Y4 Y5 Y6 Y7 Y8 Y9 K2
      (try simp only [Int32.lt_iff_toInt_lt, Int32.le_iff_toInt_le, Int64.lt_iff_toInt_lt, Int64.le_iff_toInt_le, Int32.toInt_toInt64, ← Int32.toInt_inj, ← Int64.toInt_inj, n32_0, n32_1, n32_2, n32_3, n32_4, n32_6, n32_8, n32_9, n32_10, n32_20, n32_100, n32_120, n32_255, n32_400, n32_3600, n32_m1, n64_0, n64_1, n64_2, n64_3, n64_4, n64_5, n64_9, n64_19, n64_119, n64_255, n64_400, n64_3599, n64_1000000000, n64_1000000000000, n64_m1000000000000] at c0 c1 c2 b0)
      first | contradiction | omega
    · intro b0 b1
      exfalso
      clear hI0 hM hX hW hY hT hE hD hU hS hB hG K M27 M28 M29 M30 M31 M32 M33 M34 M35 M36 M37 M38 M39 M40 M41 M42 M43 M44 M45 M46 M47 M48 M49 X0 X1 X2 X3 X4 X5 X6 X7 X8 X9 X10 X11 X12 X13 W0 W1 W2 Y0 Y1 Y2 Y3 Y4 Y5 Y6 Y7 Y8 Y9 K2
      (try simp only [Int32.lt_iff_toInt_lt, Int32.le_iff_toInt_le, Int64.lt_iff_toInt_lt, Int64.le_iff_toInt_le, Int32.toInt_toInt64, ← Int32.toInt_inj, ← Int64.toInt_inj, n32_0, n32_1, n32_2, n32_3, n32_4, n32_6, n32_8, n32_9, n32_10, n32_20, n32_100, n32_120, n32_255, n32_400, n32_3600, n32_m1, n64_0, n64_1, n64_2, n64_3, n64_4, n64_5, n64_9, n64_19, n64_119, n64_255, n64_400, n64_3599, n64_1000000000, n64_1000000000000, n64_m1000000000000] at c0 c1 c2 b0 b1)
      first | contradiction | omega
    · intro b0 b1 b2
      exfalso
      clear hI0 hM hX hW hY hT hE hD hU hS hB hG K M27 M28 M29 M30 M31 M32 M33 M34 M35 M36 M37 M38 M39 M40 M41 M42 M43 M44 M45 M46 M47 M48 M49 X0 X1 X2 X3 X4 X5 X6 X7 X8 X9 X10 X11 X12 X13 W0 W1 W2 Y0 Y1 Y2 Y3 Y4 Y5 Y6 Y7 Y8 Y9 K2
      (try simp only [Int32.lt_iff_toInt_lt, Int32.le_iff_toInt_le, Int64.lt_iff_toInt_lt, Int64.le_iff_toInt_le, Int32.toInt_toInt64, ← Int32.toInt_inj, ← Int64.toInt_inj, n32_0, n32_1, n32_2, n32_3, n32_4, n32_6, n32_8, n32_9, n32_10, n32_20, n32_100, n32_120, n32_255, n32_400, n32_3600, n32_m1, n64_0, n64_1, n64_2, n64_3, n64_4, n64_5, n64_9, n64_19, n64_119, n64_255, n64_400, n64_3599, n64_1000000000, n64_1000000000000, n64_m1000000000000] at c0 c1 c2 b0 b1 b2)
      first | contradiction | omega
    · intro b0 b1 b2
      exact K2 _ (iV_up hI0)
