set_option maxRecDepth 20000 in
theorem r_person {l : Launch} {G : jG} {h : jH} {Q : Option Value → jH → Prop} {c : Nat} {u : Int32} (hc : c < 512) (hG : j_gok G) (hI : iV c h) (K : ∀ (vv : Int32) (h1 : jH), (∃ fs, h1.2 27 = some (jO 8 fs)) → (∀ Q2 : Option Value → jH → Prop, (∀ h2, iV (c + 1) h2 → Q2 (some (.int vv)) h2) → J l G mX8_person 0 0 0 (lv_args 0 [.ref 27, .int u]) [] h1 Q2) → Q (some (.int vv)) h1) : J l G mX7_person 0 0 0 (lv_args 0 [.ref 0, .int u]) [] h Q := by
  have hI0 := hI
  refine hI _ ?_
  clear hI
  intro L P T E C R R0 n ru dq dr op at_ fr wd ws we wn dd tx rs fs ro sh dy se ey er tk tn ac f1 f2 f3 f4 g1 g2 g3 g4 da lo ad sa co pa ss w1 w2 w3 am pw ps cu dm ta ea shp tb eb rr rn cst prt eam dys eac shs hM hX hW hY hT hE hD hN hU hS hB
  obtain ⟨M27, M28, M29, M30, M31, M32, M33, M34, M35, M36, M37, M38, M39, M40, M41, M42, M43, M44, M45, M46, M47, M48, M49⟩ := id hM
  obtain ⟨X0, X1, X2, X3, X4, X5, X6, X7, X8, X9, X10, X11, X12, X13⟩ := id hX
  obtain ⟨W0, W1, W2⟩ := id hW
  obtain ⟨Y0, Y1, Y2, Y3, Y4, Y5, Y6, Y7, Y8, Y9⟩ := id hY
  obtain ⟨hL, hP, hT20, hE60, hC, hR, hR0, hn, hrd, hop⟩ := id hN
  refine s_X7_person X0 X3 X4 hP ?_ ?_ ?_ ?_
  · intro c0
    refine K _ _ ⟨_, M27⟩ (fun Q2 K2 => ?_)
    refine s_X8_person M27 M32 hP ?_ ?_ ?_ ?_
    · intro b0
      exact K2 _ (iV_up hI0)
    · intro b0 b1
      exfalso
      clear hI0 hM hX hW hY hT hE hD hU hS hB hG K M27 M28 M29 M30 M31 M32 M33 M34 M35 M36 M37 M38 M39 M40 M41 M42 M43 M44 M45 M46 M47 M48 M49 X0 X1 X2 X3 X4 X5 X6 X7 X8 X9 X10 X11 X12 X13 W0 W1 W2 Y0 Y1 Y2 Y3 Y4 Y5 Y6 Y7 Y8 Y9 K2
      (try simp only [Int32.lt_iff_toInt_lt, Int32.le_iff_toInt_le, Int64.lt_iff_toInt_lt, Int64.le_iff_toInt_le, Int32.toInt_toInt64, ← Int32.toInt_inj, ← Int64.toInt_inj, n32_0, n32_1, n32_2, n32_3, n32_4, n32_6, n32_8, n32_9, n32_10, n32_20, n32_100, n32_120, n32_255, n32_400, n32_3600, n32_m1, n64_0, n64_1, n64_2, n64_3, n64_4, n64_5, n64_9, n64_19, n64_119, n64_255, n64_400, n64_3599, n64_1000000000, n64_1000000000000, n64_m1000000000000] at c0 b0 b1)
      first | contradiction | omega
    · intro b0 b1 b2
      exfalso
      clear hI0 hM hX hW hY hT hE hD hU hS hB hG K M27 M28 M29 M30 M31 M32 M33 M34 M35 M36 M37 M38 M39 M40 M41 M42 M43 M44 M45 M46 M47 M48 M49 X0 X1 X2 X3 X4 X5 X6 X7 X8 X9 X10 X11 X12 X13 W0 W1 W2 Y0 Y1 Y2 Y3 Y4 Y5 Y6 Y7 Y8 Y9 K2
      (try simp only [Int32.lt_iff_toInt_lt, Int32.le_iff_toInt_le, Int64.lt_iff_toInt_lt, Int64.le_iff_toInt_le, Int32.toInt_toInt64, ← Int32.toInt_inj, ← Int64.toInt_inj, n32_0, n32_1, n32_2, n32_3, n32_4, n32_6, n32_8, n32_9, n32_10, n32_20, n32_100, n32_120, n32_255, n32_400, n32_3600, n32_m1, n64_0, n64_1, n64_2, n64_3, n64_4, n64_5, n64_9, n64_19, n64_119, n64_255, n64_400, n64_3599, n64_1000000000, n64_1000000000000, n64_m1000000000000] at c0 b0 b1 b2)
      first | contradiction | omega
    · intro b0 b1 b2
      exfalso
      clear hI0 hM hX hW hY hT hE hD hU hS hB hG K M27 M28 M29 M30 M31 M32 M33 M34 M35 M36 M37 M38 M39 M40 M41 M42 M43 M44 M45 M46 M47 M48 M49 X0 X1 X2 X3 X4 X5 X6 X7 X8 X9 X10 X11 X12 X13 W0 W1 W2 Y0 Y1 Y2 Y3 Y4 Y5 Y6 Y7 Y8 Y9 K2
      (try simp only [Int32.lt_iff_toInt_lt, Int32.le_iff_toInt_le, Int64.lt_iff_toInt_lt, Int64.le_iff_toInt_le, Int32.toInt_toInt64, ← Int32.toInt_inj, ← Int64.toInt_inj, n32_0, n32_1, n32_2, n32_3, n32_4, n32_6, n32_8, n32_9, n32_10, n32_20, n32_100, n32_120, n32_255, n32_400, n32_3600, n32_m1, n64_0, n64_1, n64_2, n64_3, n64_4, n64_5, n64_9, n64_19, n64_119, n64_255, n64_400, n64_3599, n64_1000000000, n64_1000000000000, n64_m1000000000000] at c0 b0 b1 b2)
      first | contradiction | omega
  · intro c0 c1
    refine K _ _ ⟨_, M27⟩ (fun Q2 K2 => ?_)
    refine s_X8_person M27 M32 hP ?_ ?_ ?_ ?_
    · intro b0
      exfalso
      clear hI0 hM hX hW hY hT hE hD hU hS hB hG K M27 M28 M29 M30 M31 M32 M33 M34 M35 M36 M37 M38 M39 M40 M41 M42 M43 M44 M45 M46 M47 M48 M49 X0 X1 X2 X3 X4 X5 X6 X7 X8 X9 X10 X11 X12 X13 W0 W1 W2 Y0 Y1 Y2 Y3 Y4 Y5 Y6 Y7 Y8 Y9 K2
      (try simp only [Int32.lt_iff_toInt_lt, Int32.le_iff_toInt_le, Int64.lt_iff_toInt_lt, Int64.le_iff_toInt_le, Int32.toInt_toInt64, ← Int32.toInt_inj, ← Int64.toInt_inj, n32_0, n32_1, n32_2, n32_3, n32_4, n32_6, n32_8, n32_9, n32_10, n32_20, n32_100, n32_120, n32_255, n32_400, n32_3600, n32_m1, n64_0, n64_1, n64_2, n64_3, n64_4, n64_5, n64_9, n64_19, n64_119, n64_255, n64_400, n64_3599, n64_1000000000, n64_1000000000000, n64_m1000000000000] at c0 c1 b0)
      first | contradiction | omega
    · intro b0 b1
      exact K2 _ (iV_up hI0)
    · intro b0 b1 b2
      exfalso
      clear hI0 hM hX hW hY hT hE hD hU hS hB hG K M27 M28 M29 M30 M31 M32 M33 M34 M35 M36 M37 M38 M39 M40 M41 M42 M43 M44 M45 M46 M47 M48 M49 X0 X1 X2 X3 X4 X5 X6 X7 X8 X9 X10 X11 X12 X13 W0 W1 W2 Y0 Y1 Y2 Y3 Y4 Y5 Y6 Y7 Y8 Y9 K2
      (try simp only [Int32.lt_iff_toInt_lt, Int32.le_iff_toInt_le, Int64.lt_iff_toInt_lt, Int64.le_iff_toInt_le, Int32.toInt_toInt64, ← Int32.toInt_inj, ← Int64.toInt_inj, n32_0, n32_1, n32_2, n32_3, n32_4, n32_6, n32_8, n32_9, n32_10, n32_20, n32_100, n32_120, n32_255, n32_400, n32_3600, n32_m1, n64_0, n64_1, n64_2, n64_3, n64_4, n64_5, n64_9, n64_19, n64_119, n64_255, n64_400, n64_3599, n64_1000000000, n64_1000000000000, n64_m1000000000000] at c0 c1 b0 b1 b2)
      first | contradiction | omega
    · intro b0 b1 b2
      exfalso
      clear hI0 hM hX hW hY hT hE hD hU hS hB hG K M27 M28 M29 M30 M31 M32 M33 M34 M35 M36 M37 M38 M39 M40 M41 M42 M43 M44 M45 M46 M47 M48 M49 X0 X1 X2 X3 X4 X5 X6 X7 X8 X9 X10 X11 X12 X13 W0 W1 W2 Y0 Y1 Y2 Y3 Y4 Y5 Y6 Y7 Y8 Y9 K2
      (try simp only [Int32.lt_iff_toInt_lt, Int32.le_iff_toInt_le, Int64.lt_iff_toInt_lt, Int64.le_iff_toInt_le, Int32.toInt_toInt64, ← Int32.toInt_inj, ← Int64.toInt_inj, n32_0, n32_1, n32_2, n32_3, n32_4, n32_6, n32_8, n32_9, n32_10, n32_20, n32_100, n32_120, n32_255, n32_400, n32_3600, n32_m1, n64_0, n64_1, n64_2, n64_3, n64_4, n64_5, n64_9, n64_19, n64_119, n64_255, n64_400, n64_3599, n64_1000000000, n64_1000000000000, n64_m1000000000000] at c0 c1 b0 b1 b2)
      first | contradiction | omega
  · intro c0 c1 c2
    obtain ⟨j, hj, hu⟩ : ∃ j : Nat, j < 10 ∧ u = nI j := n_nat (by simp only [Int32.lt_iff_toInt_lt, Int32.le_iff_toInt_le, Int64.lt_iff_toInt_lt, Int64.le_iff_toInt_le, Int32.toInt_toInt64, ← Int32.toInt_inj, ← Int64.toInt_inj, n32_0, n32_1, n32_2, n32_3, n32_4, n32_6, n32_8, n32_9, n32_10, n32_20, n32_100, n32_120, n32_255, n32_400, n32_3600, n32_m1, n64_0, n64_1, n64_2, n64_3, n64_4, n64_5, n64_9, n64_19, n64_119, n64_255, n64_400, n64_3599, n64_1000000000, n64_1000000000000, n64_m1000000000000] at c0; omega) (by simp only [Int32.lt_iff_toInt_lt, Int32.le_iff_toInt_le, Int64.lt_iff_toInt_lt, Int64.le_iff_toInt_le, Int32.toInt_toInt64, ← Int32.toInt_inj, ← Int64.toInt_inj, n32_0, n32_1, n32_2, n32_3, n32_4, n32_6, n32_8, n32_9, n32_10, n32_20, n32_100, n32_120, n32_255, n32_400, n32_3600, n32_m1, n64_0, n64_1, n64_2, n64_3, n64_4, n64_5, n64_9, n64_19, n64_119, n64_255, n64_400, n64_3599, n64_1000000000, n64_1000000000000, n64_m1000000000000] at c1; omega)
    refine K _ _ ⟨_, (j_hn (by decide) (j_hn (by decide) M27))⟩ (fun Q2 K2 => ?_)
    refine s_X8_person (j_hn (by decide) (j_hn (by decide) M27)) (j_hn (by decide) (j_hn (by decide) M32)) hP ?_ ?_ ?_ ?_
    · intro b0
      exfalso
      clear hI0 hM hX hW hY hT hE hD hU hS hB hG K M27 M28 M29 M30 M31 M32 M33 M34 M35 M36 M37 M38 M39 M40 M41 M42 M43 M44 M45 M46 M47 M48 M49 X0 X1 X2 X3 X4 X5 X6 X7 X8 X9 X10 X11 X12 X13 W0 W1 W2 Y0 Y1 Y2 Y3 Y4 Y5 Y6 Y7 Y8 Y9 K2
      (try simp only [Int32.lt_iff_toInt_lt, Int32.le_iff_toInt_le, Int64.lt_iff_toInt_lt, Int64.le_iff_toInt_le, Int32.toInt_toInt64, ← Int32.toInt_inj, ← Int64.toInt_inj, n32_0, n32_1, n32_2, n32_3, n32_4, n32_6, n32_8, n32_9, n32_10, n32_20, n32_100, n32_120, n32_255, n32_400, n32_3600, n32_m1, n64_0, n64_1, n64_2, n64_3, n64_4, n64_5, n64_9, n64_19, n64_119, n64_255, n64_400, n64_3599, n64_1000000000, n64_1000000000000, n64_m1000000000000] at c0 c1 c2 b0)
      first | contradiction | omega
    · intro b0 b1
      exfalso
      clear hI0 hM hX hW hY hT hE hD hU hS hB hG K M27 M28 M29 M30 M31 M32 M33 M34 M35 M36 M37 M38 M39 M40 M41 M42 M43 M44 M45 M46 M47 M48 M49 X0 X1 X2 X3 X4 X5 X6 X7 X8 X9 X10 X11 X12 X13 W0 W1 W2 Y0 Y1 Y2 Y3 Y4 Y5 Y6 Y7 Y8 Y9 K2
      (try simp only [Int32.lt_iff_toInt_lt, Int32.le_iff_toInt_le, Int64.lt_iff_toInt_lt, Int64.le_iff_toInt_le, Int32.toInt_toInt64, ← Int32.toInt_inj, ← Int64.toInt_inj, n32_0, n32_1, n32_2, n32_3, n32_4, n32_6, n32_8, n32_9, n32_10, n32_20, n32_100, n32_120, n32_255, n32_400, n32_3600, n32_m1, n64_0, n64_1, n64_2, n64_3, n64_4, n64_5, n64_9, n64_19, n64_119, n64_255, n64_400, n64_3599, n64_1000000000, n64_1000000000000, n64_m1000000000000] at c0 c1 c2 b0 b1)
      first | contradiction | omega
    · intro b0 b1 b2
      have hU2 : iU (P + 1) rs f1 f2 f3 f4 (va_up ro P u) (va_up rn P j) := by
        refine ⟨hU.1, hU.2.1, fun p hp => ?_⟩
        by_cases q : p = P
        · subst q; rw [va_up_e, va_up_e]; exact ⟨hu, hj⟩
        · rw [va_up_n _ _ q, va_up_n _ _ q]; exact hU.2.2 p (by omega)
      refine K2 _ (fun X k => ?_)
      exact k L (P + 1) T E C R R0 n ru dq dr op at_ fr wd ws we wn dd tx rs fs (va_up ro P u) sh dy se ey er tk tn ac f1 f2 f3 f4 g1 g2 g3 g4 da lo ad sa co pa ss w1 w2 w3 am pw ps cu dm ta ea shp tb eb rr (va_up rn P j) cst prt eam dys eac shs (⟨j_hs, (j_hn (by decide) (j_hn (by decide) (j_hn (by decide) (j_hn (by decide) M28)))), (j_hn (by decide) (j_hn (by decide) (j_hn (by decide) (j_hn (by decide) M29)))), (j_hn (by decide) (j_hn (by decide) (j_hn (by decide) (j_hn (by decide) M30)))), (j_hn (by decide) (j_hn (by decide) (j_hn (by decide) (j_hn (by decide) M31)))), (j_hn (by decide) j_hs), (j_hn (by decide) (j_hn (by decide) (j_hn (by decide) (j_hn (by decide) M33)))), (j_hn (by decide) (j_hn (by decide) (j_hn (by decide) (j_hn (by decide) M34)))), (j_hn (by decide) (j_hn (by decide) (j_hn (by decide) (j_hn (by decide) M35)))), (j_hn (by decide) (j_hn (by decide) (j_hn (by decide) (j_hn (by decide) M36)))), (j_hn (by decide) (j_hn (by decide) (j_hn (by decide) (j_hn (by decide) M37)))), (j_hn (by decide) (j_hn (by decide) (j_hn (by decide) (j_hn (by decide) M38)))), (j_hn (by decide) (j_hn (by decide) (j_hn (by decide) (j_hn (by decide) M39)))), (j_hn (by decide) (j_hn (by decide) (j_hn (by decide) (j_hn (by decide) M40)))), (j_hn (by decide) (j_hn (by decide) (j_hn (by decide) (j_hn (by decide) M41)))), (j_hn (by decide) (j_hn (by decide) (j_hn (by decide) (j_hn (by decide) M42)))), (j_hn (by decide) (j_hn (by decide) (j_hn (by decide) (j_hn (by decide) M43)))), (j_hn (by decide) (j_hn (by decide) (j_hn (by decide) (j_hn (by decide) M44)))), (j_hn (by decide) (j_hn (by decide) (j_hn (by decide) (j_hn (by decide) M45)))), (j_hn (by decide) (j_hn (by decide) (j_hn (by decide) (j_hn (by decide) M46)))), (j_hn (by decide) (j_hn (by decide) (j_hn (by decide) (j_hn (by decide) M47)))), (j_hn (by decide) (j_hn (by decide) (j_hn (by decide) (j_hn (by decide) M48)))), (j_hn (by decide) (j_hn (by decide) (j_hn (by decide) (j_hn (by decide) M49))))⟩) (⟨(j_hn (by decide) (j_hn (by decide) (j_hn (by decide) (j_hn (by decide) X0)))), (j_hn (by decide) (j_hn (by decide) (j_hn (by decide) (j_hn (by decide) X1)))), (j_hn (by decide) (j_hn (by decide) (j_hn (by decide) (j_hn (by decide) X2)))), (j_hn (by decide) (j_hn (by decide) j_hs)), (j_hn (by decide) (j_hn (by decide) (j_hn (by decide) j_hs))), (j_hn (by decide) (j_hn (by decide) (j_hn (by decide) (j_hn (by decide) X5)))), (j_hn (by decide) (j_hn (by decide) (j_hn (by decide) (j_hn (by decide) X6)))), (j_hn (by decide) (j_hn (by decide) (j_hn (by decide) (j_hn (by decide) X7)))), (j_hn (by decide) (j_hn (by decide) (j_hn (by decide) (j_hn (by decide) X8)))), (j_hn (by decide) (j_hn (by decide) (j_hn (by decide) (j_hn (by decide) X9)))), (j_hn (by decide) (j_hn (by decide) (j_hn (by decide) (j_hn (by decide) X10)))), (j_hn (by decide) (j_hn (by decide) (j_hn (by decide) (j_hn (by decide) X11)))), (j_hn (by decide) (j_hn (by decide) (j_hn (by decide) (j_hn (by decide) X12)))), (j_hn (by decide) (j_hn (by decide) (j_hn (by decide) (j_hn (by decide) X13))))⟩) ((iW_lo hD (by decide) (iW_lo hD (by decide) (iW_lo hD (by decide) (iW_lo hD (by decide) hW))))) ((iY_set (iY_set (iY_set (iY_set hY hrd (by decide)) hrd (by decide)) hrd (by decide)) hrd (by decide))) ((iT_lo hD (by decide) (iT_lo hD (by decide) (iT_lo hD (by decide) (iT_lo hD (by decide) hT))))) ((iE_lo hD (by decide) (iE_lo hD (by decide) (iE_lo hD (by decide) (iE_lo hD (by decide) hE))))) (hD) (⟨hL, by omega, hT20, hE60, hC, hR, hR0, hn, hrd, hop⟩) (hU2) (iS_up (iS_P (Nat.le_succ P) hS)) (hB)
    · intro b0 b1 b2
      exfalso
      clear hI0 hM hX hW hY hT hE hD hU hS hB hG K M27 M28 M29 M30 M31 M32 M33 M34 M35 M36 M37 M38 M39 M40 M41 M42 M43 M44 M45 M46 M47 M48 M49 X0 X1 X2 X3 X4 X5 X6 X7 X8 X9 X10 X11 X12 X13 W0 W1 W2 Y0 Y1 Y2 Y3 Y4 Y5 Y6 Y7 Y8 Y9 K2
      (try simp only [Int32.lt_iff_toInt_lt, Int32.le_iff_toInt_le, Int64.lt_iff_toInt_lt, Int64.le_iff_toInt_le, Int32.toInt_toInt64, ← Int32.toInt_inj, ← Int64.toInt_inj, n32_0, n32_1, n32_2, n32_3, n32_4, n32_6, n32_8, n32_9, n32_10, n32_20, n32_100, n32_120, n32_255, n32_400, n32_3600, n32_m1, n64_0, n64_1, n64_2, n64_3, n64_4, n64_5, n64_9, n64_19, n64_119, n64_255, n64_400, n64_3599, n64_1000000000, n64_1000000000000, n64_m1000000000000] at c0 c1 c2 b0 b1 b2)
      first | contradiction | omega
  · intro c0 c1 c2
    refine K _ _ ⟨_, M27⟩ (fun Q2 K2 => ?_)
    refine s_X8_person M27 M32 hP ?_ ?_ ?_ ?_
    · intro b0
      exfalso
      clear hI0 hM hX hW hY hT hE hD hU hS hB hG K M27 M28 M29 M30 M31 M32 M33 M34 M35 M36 M37 M38 M39 M40 M41 M42 M43 M44 M45 M46 M47 M48 M49 X0 X1 X2 X3 X4 X5 X6 X7 X8 X9 X10 X11 X12 X13 W0 W1 W2 Y0 Y1 Y2 Y3 Y4 Y5 Y6 Y7 Y8 Y9 K2
      (try simp only [Int32.lt_iff_toInt_lt, Int32.le_iff_toInt_le, Int64.lt_iff_toInt_lt, Int64.le_iff_toInt_le, Int32.toInt_toInt64, ← Int32.toInt_inj, ← Int64.toInt_inj, n32_0, n32_1, n32_2, n32_3, n32_4, n32_6, n32_8, n32_9, n32_10, n32_20, n32_100, n32_120, n32_255, n32_400, n32_3600, n32_m1, n64_0, n64_1, n64_2, n64_3, n64_4, n64_5, n64_9, n64_19, n64_119, n64_255, n64_400, n64_3599, n64_1000000000, n64_1000000000000, n64_m1000000000000] at c0 c1 c2 b0)
      first | contradiction | omega
    · intro b0 b1
      exfalso
      clear hI0 hM hX hW hY hT hE hD hU hS hB hG K M27 M28 M29 M30 M31 M32 M33 M34 M35 M36 M37 M38 M39 M40 M41 M42 M43 M44 M45 M46 M47 M48 M49 X0 X1 X2 X3 X4 X5 X6 X7 X8 X9 X10 X11 X12 X13 W0 W1 W2 Y0 Y1 Y2 Y3 Y4 Y5 Y6 Y7 Y8 Y9 K2
      (try simp only [Int32.lt_iff_toInt_lt, Int32.le_iff_toInt_le, Int64.lt_iff_toInt_lt, Int64.le_iff_toInt_le, Int32.toInt_toInt64, ← Int32.toInt_inj, ← Int64.toInt_inj, n32_0, n32_1, n32_2, n32_3, n32_4, n32_6, n32_8, n32_9, n32_10, n32_20, n32_100, n32_120, n32_255, n32_400, n32_3600, n32_m1, n64_0, n64_1, n64_2, n64_3, n64_4, n64_5, n64_9, n64_19, n64_119, n64_255, n64_400, n64_3599, n64_1000000000, n64_1000000000000, n64_m1000000000000] at c0 c1 c2 b0 b1)
      first | contradiction | omega
    · intro b0 b1 b2
      exfalso
      clear hI0 hM hX hW hY hT hE hD hU hS hB hG K M27 M28 M29 M30 M31 M32 M33 M34 M35 M36 M37 M38 M39 M40 M41 M42 M43 M44 M45 M46 M47 M48 M49 X0 X1 X2 X3 X4 X5 X6 X7 X8 X9 X10 X11 X12 X13 W0 W1 W2 Y0 Y1 Y2 Y3 Y4 Y5 Y6 Y7 Y8 Y9 K2
      (try simp only [Int32.lt_iff_toInt_lt, Int32.le_iff_toInt_le, Int64.lt_iff_toInt_lt, Int64.le_iff_toInt_le, Int32.toInt_toInt64, ← Int32.toInt_inj, ← Int64.toInt_inj, n32_0, n32_1, n32_2, n32_3, n32_4, n32_6, n32_8, n32_9, n32_10, n32_20, n32_100, n32_120, n32_255, n32_400, n32_3600, n32_m1, n64_0, n64_1, n64_2, n64_3, n64_4, n64_5, n64_9, n64_19, n64_119, n64_255, n64_400, n64_3599, n64_1000000000, n64_1000000000000, n64_m1000000000000] at c0 c1 c2 b0 b1 b2)
      first | contradiction | omega
    · intro b0 b1 b2
      exact K2 _ (iV_up hI0)

set_option maxRecDepth 20000 in
theorem r_advance {l : Launch} {G : jG} {h : jH} {Q : Option Value → jH → Prop} {c : Nat} {p0 : Int32} {v : Int64} (hc : c < 512) (hG : j_gok G) (hI : iV c h) (K : ∀ (vv : Int32) (h1 : jH), (∃ fs, h1.2 27 = some (jO 8 fs)) → (∀ Q2 : Option Value → jH → Prop, (∀ h2, iV (c + 1) h2 → Q2 (some (.int vv)) h2) → J l G mX8_advance 0 0 0 (lv_args 0 [.ref 27, .int p0, .long v]) [] h1 Q2) → Q (some (.int vv)) h1) : J l G mX7_advance 0 0 0 (lv_args 0 [.ref 0, .int p0, .long v]) [] h Q := by
  have hI0 := hI
  refine hI _ ?_
  clear hI
  intro L P T E C R R0 n ru dq dr op at_ fr wd ws we wn dd tx rs fs ro sh dy se ey er tk tn ac f1 f2 f3 f4 g1 g2 g3 g4 da lo ad sa co pa ss w1 w2 w3 am pw ps cu dm ta ea shp tb eb rr rn cst prt eam dys eac shs hM hX hW hY hT hE hD hN hU hS hB
  obtain ⟨M27, M28, M29, M30, M31, M32, M33, M34, M35, M36, M37, M38, M39, M40, M41, M42, M43, M44, M45, M46, M47, M48, M49⟩ := id hM
  obtain ⟨X0, X1, X2, X3, X4, X5, X6, X7, X8, X9, X10, X11, X12, X13⟩ := id hX
  obtain ⟨W0, W1, W2⟩ := id hW
  obtain ⟨Y0, Y1, Y2, Y3, Y4, Y5, Y6, Y7, Y8, Y9⟩ := id hY
  obtain ⟨hL, hP, hT20, hE60, hC, hR, hR0, hn, hrd, hop⟩ := id hN
  refine s_X7_advance X0 X3 X5 hP ?_ ?_ ?_ ?_ ?_
  · intro c0
    refine K _ _ ⟨_, M27⟩ (fun Q2 K2 => ?_)
    refine s_X8_advance M27 M33 hP ?_ ?_ ?_ ?_ ?_
    · intro b0
      exact K2 _ (iV_up hI0)
    · intro b0 b1
      exfalso
      clear hI0 hM hX hW hY hT hE hD hU hS hB hG K M27 M28 M29 M30 M31 M32 M33 M34 M35 M36 M37 M38 M39 M40 M41 M42 M43 M44 M45 M46 M47 M48 M49 X0 X1 X2 X3 X4 X5 X6 X7 X8 X9 X10 X11 X12 X13 W0 W1 W2 Y0 Y1 Y2 Y3 Y4 Y5 Y6 Y7 Y8 Y9 K2
      (try simp only [Int32.lt_iff_toInt_lt, Int32.le_iff_toInt_le, Int64.lt_iff_toInt_lt, Int64.le_iff_toInt_le, Int32.toInt_toInt64, ← Int32.toInt_inj, ← Int64.toInt_inj, n32_0, n32_1, n32_2, n32_3, n32_4, n32_6, n32_8, n32_9, n32_10, n32_20, n32_100, n32_120, n32_255, n32_400, n32_3600, n32_m1, n64_0, n64_1, n64_2, n64_3, n64_4, n64_5, n64_9, n64_19, n64_119, n64_255, n64_400, n64_3599, n64_1000000000, n64_1000000000000, n64_m1000000000000] at c0 b0 b1)
      first | contradiction | omega
    · intro b0 b1 b2
      exfalso
      clear hI0 hM hX hW hY hT hE hD hU hS hB hG K M27 M28 M29 M30 M31 M32 M33 M34 M35 M36 M37 M38 M39 M40 M41 M42 M43 M44 M45 M46 M47 M48 M49 X0 X1 X2 X3 X4 X5 X6 X7 X8 X9 X10 X11 X12 X13 W0 W1 W2 Y0 Y1 Y2 Y3 Y4 Y5 Y6 Y7 Y8 Y9 K2
      (try simp only [Int32.lt_iff_toInt_lt, Int32.le_iff_toInt_le, Int64.lt_iff_toInt_lt, Int64.le_iff_toInt_le, Int32.toInt_toInt64, ← Int32.toInt_inj, ← Int64.toInt_inj, n32_0, n32_1, n32_2, n32_3, n32_4, n32_6, n32_8, n32_9, n32_10, n32_20, n32_100, n32_120, n32_255, n32_400, n32_3600, n32_m1, n64_0, n64_1, n64_2, n64_3, n64_4, n64_5, n64_9, n64_19, n64_119, n64_255, n64_400, n64_3599, n64_1000000000, n64_1000000000000, n64_m1000000000000] at c0 b0 b1 b2)
      first | contradiction | omega
    · intro b0 b1 b2 b3
      exfalso
      clear hI0 hM hX hW hY hT hE hD hU hS hB hG K M27 M28 M29 M30 M31 M32 M33 M34 M35 M36 M37 M38 M39 M40 M41 M42 M43 M44 M45 M46 M47 M48 M49 X0 X1 X2 X3 X4 X5 X6 X7 X8 X9 X10 X11 X12 X13 W0 W1 W2 Y0 Y1 Y2 Y3 Y4 Y5 Y6 Y7 Y8 Y9 K2
      (try simp only [Int32.lt_iff_toInt_lt, Int32.le_iff_toInt_le, Int64.lt_iff_toInt_lt, Int64.le_iff_toInt_le, Int32.toInt_toInt64, ← Int32.toInt_inj, ← Int64.toInt_inj, n32_0, n32_1, n32_2, n32_3, n32_4, n32_6, n32_8, n32_9, n32_10, n32_20, n32_100, n32_120, n32_255, n32_400, n32_3600, n32_m1, n64_0, n64_1, n64_2, n64_3, n64_4, n64_5, n64_9, n64_19, n64_119, n64_255, n64_400, n64_3599, n64_1000000000, n64_1000000000000, n64_m1000000000000] at c0 b0 b1 b2 b3)
      first | contradiction | omega
    · intro b0 b1 b2 b3 bt4 be4 bh4
      exfalso
      clear hI0 hM hX hW hY hT hE hD hU hS hB hG K M27 M28 M29 M30 M31 M32 M33 M34 M35 M36 M37 M38 M39 M40 M41 M42 M43 M44 M45 M46 M47 M48 M49 X0 X1 X2 X3 X4 X5 X6 X7 X8 X9 X10 X11 X12 X13 W0 W1 W2 Y0 Y1 Y2 Y3 Y4 Y5 Y6 Y7 Y8 Y9 K2
      (try simp only [Int32.lt_iff_toInt_lt, Int32.le_iff_toInt_le, Int64.lt_iff_toInt_lt, Int64.le_iff_toInt_le, Int32.toInt_toInt64, ← Int32.toInt_inj, ← Int64.toInt_inj, n32_0, n32_1, n32_2, n32_3, n32_4, n32_6, n32_8, n32_9, n32_10, n32_20, n32_100, n32_120, n32_255, n32_400, n32_3600, n32_m1, n64_0, n64_1, n64_2, n64_3, n64_4, n64_5, n64_9, n64_19, n64_119, n64_255, n64_400, n64_3599, n64_1000000000, n64_1000000000000, n64_m1000000000000] at c0 b0 b1 b2 b3)
      first | contradiction | omega
  · intro c0 c1
    refine K _ _ ⟨_, M27⟩ (fun Q2 K2 => ?_)
    refine s_X8_advance M27 M33 hP ?_ ?_ ?_ ?_ ?_
    · intro b0
      exfalso
      clear hI0 hM hX hW hY hT hE hD hU hS hB hG K M27 M28 M29 M30 M31 M32 M33 M34 M35 M36 M37 M38 M39 M40 M41 M42 M43 M44 M45 M46 M47 M48 M49 X0 X1 X2 X3 X4 X5 X6 X7 X8 X9 X10 X11 X12 X13 W0 W1 W2 Y0 Y1 Y2 Y3 Y4 Y5 Y6 Y7 Y8 Y9 K2
      (try simp only [Int32.lt_iff_toInt_lt, Int32.le_iff_toInt_le, Int64.lt_iff_toInt_lt, Int64.le_iff_toInt_le, Int32.toInt_toInt64, ← Int32.toInt_inj, ← Int64.toInt_inj, n32_0, n32_1, n32_2, n32_3, n32_4, n32_6, n32_8, n32_9, n32_10, n32_20, n32_100, n32_120, n32_255, n32_400, n32_3600, n32_m1, n64_0, n64_1, n64_2, n64_3, n64_4, n64_5, n64_9, n64_19, n64_119, n64_255, n64_400, n64_3599, n64_1000000000, n64_1000000000000, n64_m1000000000000] at c0 c1 b0)
      first | contradiction | omega
    · intro b0 b1
      exact K2 _ (iV_up hI0)
    · intro b0 b1 b2
      exfalso
      clear hI0 hM hX hW hY hT hE hD hU hS hB hG K M27 M28 M29 M30 M31 M32 M33 M34 M35 M36 M37 M38 M39 M40 M41 M42 M43 M44 M45 M46 M47 M48 M49 X0 X1 X2 X3 X4 X5 X6 X7 X8 X9 X10 X11 X12 X13 W0 W1 W2 Y0 Y1 Y2 Y3 Y4 Y5 Y6 Y7 Y8 Y9 K2
      (try simp only [Int32.lt_iff_toInt_lt, Int32.le_iff_toInt_le, Int64.lt_iff_toInt_lt, Int64.le_iff_toInt_le, Int32.toInt_toInt64, ← Int32.toInt_inj, ← Int64.toInt_inj, n32_0, n32_1, n32_2, n32_3, n32_4, n32_6, n32_8, n32_9, n32_10, n32_20, n32_100, n32_120, n32_255, n32_400, n32_3600, n32_m1, n64_0, n64_1, n64_2, n64_3, n64_4, n64_5, n64_9, n64_19, n64_119, n64_255, n64_400, n64_3599, n64_1000000000, n64_1000000000000, n64_m1000000000000] at c0 c1 b0 b1 b2)
      first | contradiction | omega
    · intro b0 b1 b2 b3
      exfalso
      clear hI0 hM hX hW hY hT hE hD hU hS hB hG K M27 M28 M29 M30 M31 M32 M33 M34 M35 M36 M37 M38 M39 M40 M41 M42 M43 M44 M45 M46 M47 M48 M49 X0 X1 X2 X3 X4 X5 X6 X7 X8 X9 X10 X11 X12 X13 W0 W1 W2 Y0 Y1 Y2 Y3 Y4 Y5 Y6 Y7 Y8 Y9 K2
      (try simp only [Int32.lt_iff_toInt_lt, Int32.le_iff_toInt_le, Int64.lt_iff_toInt_lt, Int64.le_iff_toInt_le, Int32.toInt_toInt64, ← Int32.toInt_inj, ← Int64.toInt_inj, n32_0, n32_1, n32_2, n32_3, n32_4, n32_6, n32_8, n32_9, n32_10, n32_20, n32_100, n32_120, n32_255, n32_400, n32_3600, n32_m1, n64_0, n64_1, n64_2, n64_3, n64_4, n64_5, n64_9, n64_19, n64_119, n64_255, n64_400, n64_3599, n64_1000000000, n64_1000000000000, n64_m1000000000000] at c0 c1 b0 b1 b2 b3)
      first | contradiction | omega
    · intro b0 b1 b2 b3 bt4 be4 bh4
      exfalso
      clear hI0 hM hX hW hY hT hE hD hU hS hB hG K M27 M28 M29 M30 M31 M32 M33 M34 M35 M36 M37 M38 M39 M40 M41 M42 M43 M44 M45 M46 M47 M48 M49 X0 X1 X2 X3 X4 X5 X6 X7 X8 X9 X10 X11 X12 X13 W0 W1 W2 Y0 Y1 Y2 Y3 Y4 Y5 Y6 Y7 Y8 Y9 K2
      (try simp only [Int32.lt_iff_toInt_lt, Int32.le_iff_toInt_le, Int64.lt_iff_toInt_lt, Int64.le_iff_toInt_le, Int32.toInt_toInt64, ← Int32.toInt_inj, ← Int64.toInt_inj, n32_0, n32_1, n32_2, n32_3, n32_4, n32_6, n32_8, n32_9, n32_10, n32_20, n32_100, n32_120, n32_255, n32_400, n32_3600, n32_m1, n64_0, n64_1, n64_2, n64_3, n64_4, n64_5, n64_9, n64_19, n64_119, n64_255, n64_400, n64_3599, n64_1000000000, n64_1000000000000, n64_m1000000000000] at c0 c1 b0 b1 b2 b3)
      first | contradiction | omega
  · intro c0 c1 c2
    refine K _ _ ⟨_, M27⟩ (fun Q2 K2 => ?_)
    refine s_X8_advance M27 M33 hP ?_ ?_ ?_ ?_ ?_
    · intro b0
      exfalso
      clear hI0 hM hX hW hY hT hE hD hU hS hB hG K M27 M28 M29 M30 M31 M32 M33 M34 M35 M36 M37 M38 M39 M40 M41 M42 M43 M44 M45 M46 M47 M48 M49 X0 X1 X2 X3 X4 X5 X6 X7 X8 X9 X10 X11 X12 X13 W0 W1 W2 Y0 Y1 Y2 Y3 Y4 Y5 Y6 Y7 Y8 Y9 K2
      (try simp only [Int32.lt_iff_toInt_lt, Int32.le_iff_toInt_le, Int64.lt_iff_toInt_lt, Int64.le_iff_toInt_le, Int32.toInt_toInt64, ← Int32.toInt_inj, ← Int64.toInt_inj, n32_0, n32_1, n32_2, n32_3, n32_4, n32_6, n32_8, n32_9, n32_10, n32_20, n32_100, n32_120, n32_255, n32_400, n32_3600, n32_m1, n64_0, n64_1, n64_2, n64_3, n64_4, n64_5, n64_9, n64_19, n64_119, n64_255, n64_400, n64_3599, n64_1000000000, n64_1000000000000, n64_m1000000000000] at c0 c1 c2 b0)
      first | contradiction | omega
    · intro b0 b1
      exfalso
      clear hI0 hM hX hW hY hT hE hD hU hS hB hG K M27 M28 M29 M30 M31 M32 M33 M34 M35 M36 M37 M38 M39 M40 M41 M42 M43 M44 M45 M46 M47 M48 M49 X0 X1 X2 X3 X4 X5 X6 X7 X8 X9 X10 X11 X12 X13 W0 W1 W2 Y0 Y1 Y2 Y3 Y4 Y5 Y6 Y7 Y8 Y9 K2
      (try simp only [Int32.lt_iff_toInt_lt, Int32.le_iff_toInt_le, Int64.lt_iff_toInt_lt, Int64.le_iff_toInt_le, Int32.toInt_toInt64, ← Int32.toInt_inj, ← Int64.toInt_inj, n32_0, n32_1, n32_2, n32_3, n32_4, n32_6, n32_8, n32_9, n32_10, n32_20, n32_100, n32_120, n32_255, n32_400, n32_3600, n32_m1, n64_0, n64_1, n64_2, n64_3, n64_4, n64_5, n64_9, n64_19, n64_119, n64_255, n64_400, n64_3599, n64_1000000000, n64_1000000000000, n64_m1000000000000] at c0 c1 c2 b0 b1)
      first | contradiction | omega
    · intro b0 b1 b2
      exact K2 _ (iV_up hI0)
    · intro b0 b1 b2 b3
      exfalso
      clear hI0 hM hX hW hY hT hE hD hU hS hB hG K M27 M28 M29 M30 M31 M32 M33 M34 M35 M36 M37 M38 M39 M40 M41 M42 M43 M44 M45 M46 M47 M48 M49 X0 X1 X2 X3 X4 X5 X6 X7 X8 X9 X10 X11 X12 X13 W0 W1 W2 Y0 Y1 Y2 Y3 Y4 Y5 Y6 Y7 Y8 Y9 K2
      (try simp only [Int32.lt_iff_toInt_lt, Int32.le_iff_toInt_le, Int64.lt_iff_toInt_lt, Int64.le_iff_toInt_le, Int32.toInt_toInt64, ← Int32.toInt_inj, ← Int64.toInt_inj, n32_0, n32_1, n32_2, n32_3, n32_4, n32_6, n32_8, n32_9, n32_10, n32_20, n32_100, n32_120, n32_255, n32_400, n32_3600, n32_m1, n64_0, n64_1, n64_2, n64_3, n64_4, n64_5, n64_9, n64_19, n64_119, n64_255, n64_400, n64_3599, n64_1000000000, n64_1000000000000, n64_m1000000000000] at c0 c1 c2 b0 b1 b2 b3)
      first | contradiction | omega
    · intro b0 b1 b2 b3 bt4 be4 bh4
      exfalso
      clear hI0 hM hX hW hY hT hE hD hU hS hB hG K M27 M28 M29 M30 M31 M32 M33 M34 M35 M36 M37 M38 M39 M40 M41 M42 M43 M44 M45 M46 M47 M48 M49 X0 X1 X2 X3 X4 X5 X6 X7 X8 X9 X10 X11 X12 X13 W0 W1 W2 Y0 Y1 Y2 Y3 Y4 Y5 Y6 Y7 Y8 Y9 K2
      (try simp only [Int32.lt_iff_toInt_lt, Int32.le_iff_toInt_le, Int64.lt_iff_toInt_lt, Int64.le_iff_toInt_le, Int32.toInt_toInt64, ← Int32.toInt_inj, ← Int64.toInt_inj, n32_0, n32_1, n32_2, n32_3, n32_4, n32_6, n32_8, n32_9, n32_10, n32_20, n32_100, n32_120, n32_255, n32_400, n32_3600, n32_m1, n64_0, n64_1, n64_2, n64_3, n64_4, n64_5, n64_9, n64_19, n64_119, n64_255, n64_400, n64_3599, n64_1000000000, n64_1000000000000, n64_m1000000000000] at c0 c1 c2 b0 b1 b2 b3)
      first | contradiction | omega
  · intro c0 c1 c2 c3
    refine K _ _ ⟨_, M27⟩ (fun Q2 K2 => ?_)
    refine s_X8_advance M27 M33 hP ?_ ?_ ?_ ?_ ?_
    · intro b0
      exfalso
      clear hI0 hM hX hW hY hT hE hD hU hS hB hG K M27 M28 M29 M30 M31 M32 M33 M34 M35 M36 M37 M38 M39 M40 M41 M42 M43 M44 M45 M46 M47 M48 M49 X0 X1 X2 X3 X4 X5 X6 X7 X8 X9 X10 X11 X12 X13 W0 W1 W2 Y0 Y1 Y2 Y3 Y4 Y5 Y6 Y7 Y8 Y9 K2
      (try simp only [Int32.lt_iff_toInt_lt, Int32.le_iff_toInt_le, Int64.lt_iff_toInt_lt, Int64.le_iff_toInt_le, Int32.toInt_toInt64, ← Int32.toInt_inj, ← Int64.toInt_inj, n32_0, n32_1, n32_2, n32_3, n32_4, n32_6, n32_8, n32_9, n32_10, n32_20, n32_100, n32_120, n32_255, n32_400, n32_3600, n32_m1, n64_0, n64_1, n64_2, n64_3, n64_4, n64_5, n64_9, n64_19, n64_119, n64_255, n64_400, n64_3599, n64_1000000000, n64_1000000000000, n64_m1000000000000] at c0 c1 c2 c3 b0)
      first | contradiction | omega
    · intro b0 b1
      exfalso
      clear hI0 hM hX hW hY hT hE hD hU hS hB hG K M27 M28 M29 M30 M31 M32 M33 M34 M35 M36 M37 M38 M39 M40 M41 M42 M43 M44 M45 M46 M47 M48 M49 X0 X1 X2 X3 X4 X5 X6 X7 X8 X9 X10 X11 X12 X13 W0 W1 W2 Y0 Y1 Y2 Y3 Y4 Y5 Y6 Y7 Y8 Y9 K2
      (try simp only [Int32.lt_iff_toInt_lt, Int32.le_iff_toInt_le, Int64.lt_iff_toInt_lt, Int64.le_iff_toInt_le, Int32.toInt_toInt64, ← Int32.toInt_inj, ← Int64.toInt_inj, n32_0, n32_1, n32_2, n32_3, n32_4, n32_6, n32_8, n32_9, n32_10, n32_20, n32_100, n32_120, n32_255, n32_400, n32_3600, n32_m1, n64_0, n64_1, n64_2, n64_3, n64_4, n64_5, n64_9, n64_19, n64_119, n64_255, n64_400, n64_3599, n64_1000000000, n64_1000000000000, n64_m1000000000000] at c0 c1 c2 c3 b0 b1)
      first | contradiction | omega
    · intro b0 b1 b2
      exfalso
      clear hI0 hM hX hW hY hT hE hD hU hS hB hG K M27 M28 M29 M30 M31 M32 M33 M34 M35 M36 M37 M38 M39 M40 M41 M42 M43 M44 M45 M46 M47 M48 M49 X0 X1 X2 X3 X4 X5 X6 X7 X8 X9 X10 X11 X12 X13 W0 W1 W2 Y0 Y1 Y2 Y3 Y4 Y5 Y6 Y7 Y8 Y9 K2
      (try simp only [Int32.lt_iff_toInt_lt, Int32.le_iff_toInt_le, Int64.lt_iff_toInt_lt, Int64.le_iff_toInt_le, Int32.toInt_toInt64, ← Int32.toInt_inj, ← Int64.toInt_inj, n32_0, n32_1, n32_2, n32_3, n32_4, n32_6, n32_8, n32_9, n32_10, n32_20, n32_100, n32_120, n32_255, n32_400, n32_3600, n32_m1, n64_0, n64_1, n64_2, n64_3, n64_4, n64_5, n64_9, n64_19, n64_119, n64_255, n64_400, n64_3599, n64_1000000000, n64_1000000000000, n64_m1000000000000] at c0 c1 c2 c3 b0 b1 b2)
      first | contradiction | omega
    · intro b0 b1 b2 b3
      exact K2 _ (iV_up hI0)
    · intro b0 b1 b2 b3 bt4 be4 bh4
      exfalso
      clear hI0 hM hX hW hY hT hE hD hU hS hB hG K M27 M28 M29 M30 M31 M32 M33 M34 M35 M36 M37 M38 M39 M40 M41 M42 M43 M44 M45 M46 M47 M48 M49 X0 X1 X2 X3 X4 X5 X6 X7 X8 X9 X10 X11 X12 X13 W0 W1 W2 Y0 Y1 Y2 Y3 Y4 Y5 Y6 Y7 Y8 Y9 K2
      (try simp only [Int32.lt_iff_toInt_lt, Int32.le_iff_toInt_le, Int64.lt_iff_toInt_lt, Int64.le_iff_toInt_le, Int32.toInt_toInt64, ← Int32.toInt_inj, ← Int64.toInt_inj, n32_0, n32_1, n32_2, n32_3, n32_4, n32_6, n32_8, n32_9, n32_10, n32_20, n32_100, n32_120, n32_255, n32_400, n32_3600, n32_m1, n64_0, n64_1, n64_2, n64_3, n64_4, n64_5, n64_9, n64_19, n64_119, n64_255, n64_400, n64_3599, n64_1000000000, n64_1000000000000, n64_m1000000000000] at c0 c1 c2 c3 b0 b1 b2 b3)
      first | contradiction | omega
  · intro c0 c1 c2 c3 ct4 ce4 ch4
    subst ce4
    refine K _ _ ⟨_, (j_hn (by decide) M27)⟩ (fun Q2 K2 => ?_)
    refine s_X8_advance (j_hn (by decide) M27) (j_hn (by decide) M33) hP ?_ ?_ ?_ ?_ ?_
    · intro b0
      exfalso
      clear hI0 hM hX hW hY hT hE hD hU hS hB hG K M27 M28 M29 M30 M31 M32 M33 M34 M35 M36 M37 M38 M39 M40 M41 M42 M43 M44 M45 M46 M47 M48 M49 X0 X1 X2 X3 X4 X5 X6 X7 X8 X9 X10 X11 X12 X13 W0 W1 W2 Y0 Y1 Y2 Y3 Y4 Y5 Y6 Y7 Y8 Y9 K2
      (try simp only [Int32.lt_iff_toInt_lt, Int32.le_iff_toInt_le, Int64.lt_iff_toInt_lt, Int64.le_iff_toInt_le, Int32.toInt_toInt64, ← Int32.toInt_inj, ← Int64.toInt_inj, n32_0, n32_1, n32_2, n32_3, n32_4, n32_6, n32_8, n32_9, n32_10, n32_20, n32_100, n32_120, n32_255, n32_400, n32_3600, n32_m1, n64_0, n64_1, n64_2, n64_3, n64_4, n64_5, n64_9, n64_19, n64_119, n64_255, n64_400, n64_3599, n64_1000000000, n64_1000000000000, n64_m1000000000000] at c0 c1 c2 c3 b0)
      first | contradiction | omega
    · intro b0 b1
      exfalso
      clear hI0 hM hX hW hY hT hE hD hU hS hB hG K M27 M28 M29 M30 M31 M32 M33 M34 M35 M36 M37 M38 M39 M40 M41 M42 M43 M44 M45 M46 M47 M48 M49 X0 X1 X2 X3 X4 X5 X6 X7 X8 X9 X10 X11 X12 X13 W0 W1 W2 Y0 Y1 Y2 Y3 Y4 Y5 Y6 Y7 Y8 Y9 K2
      (try simp only [Int32.lt_iff_toInt_lt, Int32.le_iff_toInt_le, Int64.lt_iff_toInt_lt, Int64.le_iff_toInt_le, Int32.toInt_toInt64, ← Int32.toInt_inj, ← Int64.toInt_inj, n32_0, n32_1, n32_2, n32_3, n32_4, n32_6, n32_8, n32_9, n32_10, n32_20, n32_100, n32_120, n32_255, n32_400, n32_3600, n32_m1, n64_0, n64_1, n64_2, n64_3, n64_4, n64_5, n64_9, n64_19, n64_119, n64_255, n64_400, n64_3599, n64_1000000000, n64_1000000000000, n64_m1000000000000] at c0 c1 c2 c3 b0 b1)
      first | contradiction | omega
    · intro b0 b1 b2
      exfalso
      clear hI0 hM hX hW hY hT hE hD hU hS hB hG K M27 M28 M29 M30 M31 M32 M33 M34 M35 M36 M37 M38 M39 M40 M41 M42 M43 M44 M45 M46 M47 M48 M49 X0 X1 X2 X3 X4 X5 X6 X7 X8 X9 X10 X11 X12 X13 W0 W1 W2 Y0 Y1 Y2 Y3 Y4 Y5 Y6 Y7 Y8 Y9 K2
      (try simp only [Int32.lt_iff_toInt_lt, Int32.le_iff_toInt_le, Int64.lt_iff_toInt_lt, Int64.le_iff_toInt_le, Int32.toInt_toInt64, ← Int32.toInt_inj, ← Int64.toInt_inj, n32_0, n32_1, n32_2, n32_3, n32_4, n32_6, n32_8, n32_9, n32_10, n32_20, n32_100, n32_120, n32_255, n32_400, n32_3600, n32_m1, n64_0, n64_1, n64_2, n64_3, n64_4, n64_5, n64_9, n64_19, n64_119, n64_255, n64_400, n64_3599, n64_1000000000, n64_1000000000000, n64_m1000000000000] at c0 c1 c2 c3 b0 b1 b2)
      first | contradiction | omega
    · intro b0 b1 b2 b3
      exfalso
      clear hI0 hM hX hW hY hT hE hD hU hS hB hG K M27 M28 M29 M30 M31 M32 M33 M34 M35 M36 M37 M38 M39 M40 M41 M42 M43 M44 M45 M46 M47 M48 M49 X0 X1 X2 X3 X4 X5 X6 X7 X8 X9 X10 X11 X12 X13 W0 W1 W2 Y0 Y1 Y2 Y3 Y4 Y5 Y6 Y7 Y8 Y9 K2
      (try simp only [Int32.lt_iff_toInt_lt, Int32.le_iff_toInt_le, Int64.lt_iff_toInt_lt, Int64.le_iff_toInt_le, Int32.toInt_toInt64, ← Int32.toInt_inj, ← Int64.toInt_inj, n32_0, n32_1, n32_2, n32_3, n32_4, n32_6, n32_8, n32_9, n32_10, n32_20, n32_100, n32_120, n32_255, n32_400, n32_3600, n32_m1, n64_0, n64_1, n64_2, n64_3, n64_4, n64_5, n64_9, n64_19, n64_119, n64_255, n64_400, n64_3599, n64_1000000000, n64_1000000000000, n64_m1000000000000] at c0 c1 c2 c3 b0 b1 b2 b3)
      first | contradiction | omega
    · intro b0 b1 b2 b3 bt4 be4 bh4
      obtain rfl : ct4 = bt4 := by have z := nI_inj2 be4 (by omega) (by omega); omega
      refine K2 _ (fun X k => ?_)
      exact k L P T E C R R0 n ru dq dr op at_ fr wd ws we wn dd tx rs fs ro sh dy se ey er tk tn ac f1 f2 f3 f4 g1 g2 g3 g4 da lo (va_up ad ct4 (ad ct4 + v)) sa co pa ss w1 w2 w3 am pw ps cu dm ta ea shp tb eb rr rn cst prt eam dys eac shs (⟨(j_hn (by decide) (j_hn (by decide) M27)), (j_hn (by decide) (j_hn (by decide) M28)), (j_hn (by decide) (j_hn (by decide) M29)), (j_hn (by decide) (j_hn (by decide) M30)), (j_hn (by decide) (j_hn (by decide) M31)), (j_hn (by decide) (j_hn (by decide) M32)), j_hs, (j_hn (by decide) (j_hn (by decide) M34)), (j_hn (by decide) (j_hn (by decide) M35)), (j_hn (by decide) (j_hn (by decide) M36)), (j_hn (by decide) (j_hn (by decide) M37)), (j_hn (by decide) (j_hn (by decide) M38)), (j_hn (by decide) (j_hn (by decide) M39)), (j_hn (by decide) (j_hn (by decide) M40)), (j_hn (by decide) (j_hn (by decide) M41)), (j_hn (by decide) (j_hn (by decide) M42)), (j_hn (by decide) (j_hn (by decide) M43)), (j_hn (by decide) (j_hn (by decide) M44)), (j_hn (by decide) (j_hn (by decide) M45)), (j_hn (by decide) (j_hn (by decide) M46)), (j_hn (by decide) (j_hn (by decide) M47)), (j_hn (by decide) (j_hn (by decide) M48)), (j_hn (by decide) (j_hn (by decide) M49))⟩) (⟨(j_hn (by decide) (j_hn (by decide) X0)), (j_hn (by decide) (j_hn (by decide) X1)), (j_hn (by decide) (j_hn (by decide) X2)), (j_hn (by decide) (j_hn (by decide) X3)), (j_hn (by decide) (j_hn (by decide) X4)), (j_hn (by decide) j_hs), (j_hn (by decide) (j_hn (by decide) X6)), (j_hn (by decide) (j_hn (by decide) X7)), (j_hn (by decide) (j_hn (by decide) X8)), (j_hn (by decide) (j_hn (by decide) X9)), (j_hn (by decide) (j_hn (by decide) X10)), (j_hn (by decide) (j_hn (by decide) X11)), (j_hn (by decide) (j_hn (by decide) X12)), (j_hn (by decide) (j_hn (by decide) X13))⟩) ((iW_lo hD (by decide) (iW_lo hD (by decide) hW))) ((iY_set (iY_set hY hrd (by decide)) hrd (by decide))) ((iT_lo hD (by decide) (iT_lo hD (by decide) hT))) ((iE_lo hD (by decide) (iE_lo hD (by decide) hE))) (hD) (⟨hL, hP, hT20, hE60, hC, hR, hR0, hn, hrd, hop⟩) (hU) (iS_up hS) (hB)

set_option maxRecDepth 20000 in
theorem r_part {l : Launch} {G : jG} {h : jH} {Q : Option Value → jH → Prop} {c : Nat} {t0 : Int32} {w0 : Int32} (hc : c < 512) (hG : j_gok G) (hI : iV c h) (K : ∀ (vv : Int64) (h1 : jH), (∃ fs, h1.2 27 = some (jO 8 fs)) → (∀ Q2 : Option Value → jH → Prop, (∀ h2, iV (c + 1) h2 → Q2 (some (.long vv)) h2) → J l G mX8_part 0 0 0 (lv_args 0 [.ref 27, .int t0, .int w0]) [] h1 Q2) → Q (some (.long vv)) h1) : J l G mX7_part 0 0 0 (lv_args 0 [.ref 0, .int t0, .int w0]) [] h Q := by
  have hI0 := hI
  refine hI _ ?_
  clear hI
  intro L P T E C R R0 n ru dq dr op at_ fr wd ws we wn dd tx rs fs ro sh dy se ey er tk tn ac f1 f2 f3 f4 g1 g2 g3 g4 da lo ad sa co pa ss w1 w2 w3 am pw ps cu dm ta ea shp tb eb rr rn cst prt eam dys eac shs hM hX hW hY hT hE hD hN hU hS hB
  obtain ⟨M27, M28, M29, M30, M31, M32, M33, M34, M35, M36, M37, M38, M39, M40, M41, M42, M43, M44, M45, M46, M47, M48, M49⟩ := id hM
  obtain ⟨X0, X1, X2, X3, X4, X5, X6, X7, X8, X9, X10, X11, X12, X13⟩ := id hX
  obtain ⟨W0, W1, W2⟩ := id hW
  obtain ⟨Y0, Y1, Y2, Y3, Y4, Y5, Y6, Y7, Y8, Y9⟩ := id hY
  obtain ⟨hL, hP, hT20, hE60, hC, hR, hR0, hn, hrd, hop⟩ := id hN
  refine s_X7_part X0 X7 (fun t ht => (hT t ht).1) (fun t ht => (hT t ht).2.2.2.1) hT20 (fun t ht => (hS.1 t ht).1) ?_ ?_ ?_ ?_ ?_ ?_
  · intro c0
    refine K _ _ ⟨_, M27⟩ (fun Q2 K2 => ?_)
    refine s_X8_part M27 M38 M39 hT20 ?_ ?_ ?_ ?_ ?_ ?_
    · intro b0
      exact K2 _ (iV_up hI0)
    · intro b0 b1
      exfalso
      clear hI0 hM hX hW hY hT hE hD hU hS hB hG K M27 M28 M29 M30 M31 M32 M33 M34 M35 M36 M37 M38 M39 M40 M41 M42 M43 M44 M45 M46 M47 M48 M49 X0 X1 X2 X3 X4 X5 X6 X7 X8 X9 X10 X11 X12 X13 W0 W1 W2 Y0 Y1 Y2 Y3 Y4 Y5 Y6 Y7 Y8 Y9 K2
      (try simp only [Int32.lt_iff_toInt_lt, Int32.le_iff_toInt_le, Int64.lt_iff_toInt_lt, Int64.le_iff_toInt_le, Int32.toInt_toInt64, ← Int32.toInt_inj, ← Int64.toInt_inj, n32_0, n32_1, n32_2, n32_3, n32_4, n32_6, n32_8, n32_9, n32_10, n32_20, n32_100, n32_120, n32_255, n32_400, n32_3600, n32_m1, n64_0, n64_1, n64_2, n64_3, n64_4, n64_5, n64_9, n64_19, n64_119, n64_255, n64_400, n64_3599, n64_1000000000, n64_1000000000000, n64_m1000000000000] at c0 b0 b1)
      first | contradiction | omega
    · intro b0 b1 bt2 be2 bh2 b3
      exfalso
      clear hI0 hM hX hW hY hT hE hD hU hS hB hG K M27 M28 M29 M30 M31 M32 M33 M34 M35 M36 M37 M38 M39 M40 M41 M42 M43 M44 M45 M46 M47 M48 M49 X0 X1 X2 X3 X4 X5 X6 X7 X8 X9 X10 X11 X12 X13 W0 W1 W2 Y0 Y1 Y2 Y3 Y4 Y5 Y6 Y7 Y8 Y9 K2
      (try simp only [Int32.lt_iff_toInt_lt, Int32.le_iff_toInt_le, Int64.lt_iff_toInt_lt, Int64.le_iff_toInt_le, Int32.toInt_toInt64, ← Int32.toInt_inj, ← Int64.toInt_inj, n32_0, n32_1, n32_2, n32_3, n32_4, n32_6, n32_8, n32_9, n32_10, n32_20, n32_100, n32_120, n32_255, n32_400, n32_3600, n32_m1, n64_0, n64_1, n64_2, n64_3, n64_4, n64_5, n64_9, n64_19, n64_119, n64_255, n64_400, n64_3599, n64_1000000000, n64_1000000000000, n64_m1000000000000] at c0 b0 b1 b3)
      first | contradiction | omega
    · intro b0 b1 bt2 be2 bh2 b3 b4
      exfalso
      clear hI0 hM hX hW hY hT hE hD hU hS hB hG K M27 M28 M29 M30 M31 M32 M33 M34 M35 M36 M37 M38 M39 M40 M41 M42 M43 M44 M45 M46 M47 M48 M49 X0 X1 X2 X3 X4 X5 X6 X7 X8 X9 X10 X11 X12 X13 W0 W1 W2 Y0 Y1 Y2 Y3 Y4 Y5 Y6 Y7 Y8 Y9 K2
      (try simp only [Int32.lt_iff_toInt_lt, Int32.le_iff_toInt_le, Int64.lt_iff_toInt_lt, Int64.le_iff_toInt_le, Int32.toInt_toInt64, ← Int32.toInt_inj, ← Int64.toInt_inj, n32_0, n32_1, n32_2, n32_3, n32_4, n32_6, n32_8, n32_9, n32_10, n32_20, n32_100, n32_120, n32_255, n32_400, n32_3600, n32_m1, n64_0, n64_1, n64_2, n64_3, n64_4, n64_5, n64_9, n64_19, n64_119, n64_255, n64_400, n64_3599, n64_1000000000, n64_1000000000000, n64_m1000000000000] at c0 b0 b1 b3 b4)
      first | contradiction | omega
    · intro b0 b1 bt2 be2 bh2 b3 b4 b5
      exfalso
      clear hI0 hM hX hW hY hT hE hD hU hS hB hG K M27 M28 M29 M30 M31 M32 M33 M34 M35 M36 M37 M38 M39 M40 M41 M42 M43 M44 M45 M46 M47 M48 M49 X0 X1 X2 X3 X4 X5 X6 X7 X8 X9 X10 X11 X12 X13 W0 W1 W2 Y0 Y1 Y2 Y3 Y4 Y5 Y6 Y7 Y8 Y9 K2
      (try simp only [Int32.lt_iff_toInt_lt, Int32.le_iff_toInt_le, Int64.lt_iff_toInt_lt, Int64.le_iff_toInt_le, Int32.toInt_toInt64, ← Int32.toInt_inj, ← Int64.toInt_inj, n32_0, n32_1, n32_2, n32_3, n32_4, n32_6, n32_8, n32_9, n32_10, n32_20, n32_100, n32_120, n32_255, n32_400, n32_3600, n32_m1, n64_0, n64_1, n64_2, n64_3, n64_4, n64_5, n64_9, n64_19, n64_119, n64_255, n64_400, n64_3599, n64_1000000000, n64_1000000000000, n64_m1000000000000] at c0 b0 b1 b3 b4 b5)
      first | contradiction | omega
    · intro b0 b1 bt2 be2 bh2 b3 b4 b5 bt6 be6 bh6
      exfalso
      clear hI0 hM hX hW hY hT hE hD hU hS hB hG K M27 M28 M29 M30 M31 M32 M33 M34 M35 M36 M37 M38 M39 M40 M41 M42 M43 M44 M45 M46 M47 M48 M49 X0 X1 X2 X3 X4 X5 X6 X7 X8 X9 X10 X11 X12 X13 W0 W1 W2 Y0 Y1 Y2 Y3 Y4 Y5 Y6 Y7 Y8 Y9 K2
      (try simp only [Int32.lt_iff_toInt_lt, Int32.le_iff_toInt_le, Int64.lt_iff_toInt_lt, Int64.le_iff_toInt_le, Int32.toInt_toInt64, ← Int32.toInt_inj, ← Int64.toInt_inj, n32_0, n32_1, n32_2, n32_3, n32_4, n32_6, n32_8, n32_9, n32_10, n32_20, n32_100, n32_120, n32_255, n32_400, n32_3600, n32_m1, n64_0, n64_1, n64_2, n64_3, n64_4, n64_5, n64_9, n64_19, n64_119, n64_255, n64_400, n64_3599, n64_1000000000, n64_1000000000000, n64_m1000000000000] at c0 b0 b1 b3 b4 b5)
      first | contradiction | omega
  · intro c0 c1
    refine K _ _ ⟨_, M27⟩ (fun Q2 K2 => ?_)
    refine s_X8_part M27 M38 M39 hT20 ?_ ?_ ?_ ?_ ?_ ?_
    · intro b0
      exfalso
      clear hI0 hM hX hW hY hT hE hD hU hS hB hG K M27 M28 M29 M30 M31 M32 M33 M34 M35 M36 M37 M38 M39 M40 M41 M42 M43 M44 M45 M46 M47 M48 M49 X0 X1 X2 X3 X4 X5 X6 X7 X8 X9 X10 X11 X12 X13 W0 W1 W2 Y0 Y1 Y2 Y3 Y4 Y5 Y6 Y7 Y8 Y9 K2
      (try simp only [Int32.lt_iff_toInt_lt, Int32.le_iff_toInt_le, Int64.lt_iff_toInt_lt, Int64.le_iff_toInt_le, Int32.toInt_toInt64, ← Int32.toInt_inj, ← Int64.toInt_inj, n32_0, n32_1, n32_2, n32_3, n32_4, n32_6, n32_8, n32_9, n32_10, n32_20, n32_100, n32_120, n32_255, n32_400, n32_3600, n32_m1, n64_0, n64_1, n64_2, n64_3, n64_4, n64_5, n64_9, n64_19, n64_119, n64_255, n64_400, n64_3599, n64_1000000000, n64_1000000000000, n64_m1000000000000] at c0 c1 b0)
      first | contradiction | omega
    · intro b0 b1
      exact K2 _ (iV_up hI0)
    · intro b0 b1 bt2 be2 bh2 b3
      exfalso
      clear hI0 hM hX hW hY hT hE hD hU hS hB hG K M27 M28 M29 M30 M31 M32 M33 M34 M35 M36 M37 M38 M39 M40 M41 M42 M43 M44 M45 M46 M47 M48 M49 X0 X1 X2 X3 X4 X5 X6 X7 X8 X9 X10 X11 X12 X13 W0 W1 W2 Y0 Y1 Y2 Y3 Y4 Y5 Y6 Y7 Y8 Y9 K2
      (try simp only [Int32.lt_iff_toInt_lt, Int32.le_iff_toInt_le, Int64.lt_iff_toInt_lt, Int64.le_iff_toInt_le, Int32.toInt_toInt64, ← Int32.toInt_inj, ← Int64.toInt_inj, n32_0, n32_1, n32_2, n32_3, n32_4, n32_6, n32_8, n32_9, n32_10, n32_20, n32_100, n32_120, n32_255, n32_400, n32_3600, n32_m1, n64_0, n64_1, n64_2, n64_3, n64_4, n64_5, n64_9, n64_19, n64_119, n64_255, n64_400, n64_3599, n64_1000000000, n64_1000000000000, n64_m1000000000000] at c0 c1 b0 b1 b3)
      first | contradiction | omega
    · intro b0 b1 bt2 be2 bh2 b3 b4
      exfalso
      clear hI0 hM hX hW hY hT hE hD hU hS hB hG K M27 M28 M29 M30 M31 M32 M33 M34 M35 M36 M37 M38 M39 M40 M41 M42 M43 M44 M45 M46 M47 M48 M49 X0 X1 X2 X3 X4 X5 X6 X7 X8 X9 X10 X11 X12 X13 W0 W1 W2 Y0 Y1 Y2 Y3 Y4 Y5 Y6 Y7 Y8 Y9 K2
      (try simp only [Int32.lt_iff_toInt_lt, Int32.le_iff_toInt_le, Int64.lt_iff_toInt_lt, Int64.le_iff_toInt_le, Int32.toInt_toInt64, ← Int32.toInt_inj, ← Int64.toInt_inj, n32_0, n32_1, n32_2, n32_3, n32_4, n32_6, n32_8, n32_9, n32_10, n32_20, n32_100, n32_120, n32_255, n32_400, n32_3600, n32_m1, n64_0, n64_1, n64_2, n64_3, n64_4, n64_5, n64_9, n64_19, n64_119, n64_255, n64_400, n64_3599, n64_1000000000, n64_1000000000000, n64_m1000000000000] at c0 c1 b0 b1 b3 b4)
      first | contradiction | omega
    · intro b0 b1 bt2 be2 bh2 b3 b4 b5
      exfalso
      clear hI0 hM hX hW hY hT hE hD hU hS hB hG K M27 M28 M29 M30 M31 M32 M33 M34 M35 M36 M37 M38 M39 M40 M41 M42 M43 M44 M45 M46 M47 M48 M49 X0 X1 X2 X3 X4 X5 X6 X7 X8 X9 X10 X11 X12 X13 W0 W1 W2 Y0 Y1 Y2 Y3 Y4 Y5 Y6 Y7 Y8 Y9 K2
      (try simp only [Int32.lt_iff_toInt_lt, Int32.le_iff_toInt_le, Int64.lt_iff_toInt_lt, Int64.le_iff_toInt_le, Int32.toInt_toInt64, ← Int32.toInt_inj, ← Int64.toInt_inj, n32_0, n32_1, n32_2, n32_3, n32_4, n32_6, n32_8, n32_9, n32_10, n32_20, n32_100, n32_120, n32_255, n32_400, n32_3600, n32_m1, n64_0, n64_1, n64_2, n64_3, n64_4, n64_5, n64_9, n64_19, n64_119, n64_255, n64_400, n64_3599, n64_1000000000, n64_1000000000000, n64_m1000000000000] at c0 c1 b0 b1 b3 b4 b5)
      first | contradiction | omega
    · intro b0 b1 bt2 be2 bh2 b3 b4 b5 bt6 be6 bh6
      exfalso
      clear hI0 hM hX hW hY hT hE hD hU hS hB hG K M27 M28 M29 M30 M31 M32 M33 M34 M35 M36 M37 M38 M39 M40 M41 M42 M43 M44 M45 M46 M47 M48 M49 X0 X1 X2 X3 X4 X5 X6 X7 X8 X9 X10 X11 X12 X13 W0 W1 W2 Y0 Y1 Y2 Y3 Y4 Y5 Y6 Y7 Y8 Y9 K2
      (try simp only [Int32.lt_iff_toInt_lt, Int32.le_iff_toInt_le, Int64.lt_iff_toInt_lt, Int64.le_iff_toInt_le, Int32.toInt_toInt64, ← Int32.toInt_inj, ← Int64.toInt_inj, n32_0, n32_1, n32_2, n32_3, n32_4, n32_6, n32_8, n32_9, n32_10, n32_20, n32_100, n32_120, n32_255, n32_400, n32_3600, n32_m1, n64_0, n64_1, n64_2, n64_3, n64_4, n64_5, n64_9, n64_19, n64_119, n64_255, n64_400, n64_3599, n64_1000000000, n64_1000000000000, n64_m1000000000000] at c0 c1 b0 b1 b3 b4 b5)
      first | contradiction | omega
  · intro c0 c1 ct2 ce2 ch2 c3
    subst ce2
    refine K _ _ ⟨_, M27⟩ (fun Q2 K2 => ?_)
    refine s_X8_part M27 M38 M39 hT20 ?_ ?_ ?_ ?_ ?_ ?_
    · intro b0
      exfalso
      clear hI0 hM hX hW hY hT hE hD hU hS hB hG K M27 M28 M29 M30 M31 M32 M33 M34 M35 M36 M37 M38 M39 M40 M41 M42 M43 M44 M45 M46 M47 M48 M49 X0 X1 X2 X3 X4 X5 X6 X7 X8 X9 X10 X11 X12 X13 W0 W1 W2 Y0 Y1 Y2 Y3 Y4 Y5 Y6 Y7 Y8 Y9 K2
      (try simp only [Int32.lt_iff_toInt_lt, Int32.le_iff_toInt_le, Int64.lt_iff_toInt_lt, Int64.le_iff_toInt_le, Int32.toInt_toInt64, ← Int32.toInt_inj, ← Int64.toInt_inj, n32_0, n32_1, n32_2, n32_3, n32_4, n32_6, n32_8, n32_9, n32_10, n32_20, n32_100, n32_120, n32_255, n32_400, n32_3600, n32_m1, n64_0, n64_1, n64_2, n64_3, n64_4, n64_5, n64_9, n64_19, n64_119, n64_255, n64_400, n64_3599, n64_1000000000, n64_1000000000000, n64_m1000000000000] at c0 c1 c3 b0)
      first | contradiction | omega
    · intro b0 b1
      exfalso
      clear hI0 hM hX hW hY hT hE hD hU hS hB hG K M27 M28 M29 M30 M31 M32 M33 M34 M35 M36 M37 M38 M39 M40 M41 M42 M43 M44 M45 M46 M47 M48 M49 X0 X1 X2 X3 X4 X5 X6 X7 X8 X9 X10 X11 X12 X13 W0 W1 W2 Y0 Y1 Y2 Y3 Y4 Y5 Y6 Y7 Y8 Y9 K2
      (try simp only [Int32.lt_iff_toInt_lt, Int32.le_iff_toInt_le, Int64.lt_iff_toInt_lt, Int64.le_iff_toInt_le, Int32.toInt_toInt64, ← Int32.toInt_inj, ← Int64.toInt_inj, n32_0, n32_1, n32_2, n32_3, n32_4, n32_6, n32_8, n32_9, n32_10, n32_20, n32_100, n32_120, n32_255, n32_400, n32_3600, n32_m1, n64_0, n64_1, n64_2, n64_3, n64_4, n64_5, n64_9, n64_19, n64_119, n64_255, n64_400, n64_3599, n64_1000000000, n64_1000000000000, n64_m1000000000000] at c0 c1 c3 b0 b1)
      first | contradiction | omega
    · intro b0 b1 bt2 be2 bh2 b3
      obtain rfl : ct2 = bt2 := by have z := nI_inj2 be2 (by omega) (by omega); omega
      exact K2 _ (iV_up hI0)
    · intro b0 b1 bt2 be2 bh2 b3 b4
      obtain rfl : ct2 = bt2 := by have z := nI_inj2 be2 (by omega) (by omega); omega
      exfalso
      clear hI0 hM hX hW hY hT hE hD hU hS hB hG K M27 M28 M29 M30 M31 M32 M33 M34 M35 M36 M37 M38 M39 M40 M41 M42 M43 M44 M45 M46 M47 M48 M49 X0 X1 X2 X3 X4 X5 X6 X7 X8 X9 X10 X11 X12 X13 W0 W1 W2 Y0 Y1 Y2 Y3 Y4 Y5 Y6 Y7 Y8 Y9 K2
      (try simp only [Int32.lt_iff_toInt_lt, Int32.le_iff_toInt_le, Int64.lt_iff_toInt_lt, Int64.le_iff_toInt_le, Int32.toInt_toInt64, ← Int32.toInt_inj, ← Int64.toInt_inj, n32_0, n32_1, n32_2, n32_3, n32_4, n32_6, n32_8, n32_9, n32_10, n32_20, n32_100, n32_120, n32_255, n32_400, n32_3600, n32_m1, n64_0, n64_1, n64_2, n64_3, n64_4, n64_5, n64_9, n64_19, n64_119, n64_255, n64_400, n64_3599, n64_1000000000, n64_1000000000000, n64_m1000000000000] at c0 c1 c3 b0 b1 b3 b4)
      first | contradiction | omega
    · intro b0 b1 bt2 be2 bh2 b3 b4 b5
      obtain rfl : ct2 = bt2 := by have z := nI_inj2 be2 (by omega) (by omega); omega
      exfalso
      clear hI0 hM hX hW hY hT hE hD hU hS hB hG K M27 M28 M29 M30 M31 M32 M33 M34 M35 M36 M37 M38 M39 M40 M41 M42 M43 M44 M45 M46 M47 M48 M49 X0 X1 X2 X3 X4 X5 X6 X7 X8 X9 X10 X11 X12 X13 W0 W1 W2 Y0 Y1 Y2 Y3 Y4 Y5 Y6 Y7 Y8 Y9 K2
      (try simp only [Int32.lt_iff_toInt_lt, Int32.le_iff_toInt_le, Int64.lt_iff_toInt_lt, Int64.le_iff_toInt_le, Int32.toInt_toInt64, ← Int32.toInt_inj, ← Int64.toInt_inj, n32_0, n32_1, n32_2, n32_3, n32_4, n32_6, n32_8, n32_9, n32_10, n32_20, n32_100, n32_120, n32_255, n32_400, n32_3600, n32_m1, n64_0, n64_1, n64_2, n64_3, n64_4, n64_5, n64_9, n64_19, n64_119, n64_255, n64_400, n64_3599, n64_1000000000, n64_1000000000000, n64_m1000000000000] at c0 c1 c3 b0 b1 b3 b4 b5)
      first | contradiction | omega
    · intro b0 b1 bt2 be2 bh2 b3 b4 b5 bt6 be6 bh6
      obtain rfl : ct2 = bt2 := by have z := nI_inj2 be2 (by omega) (by omega); omega
      exfalso
      clear hI0 hM hX hW hY hT hE hD hU hS hB hG K M27 M28 M29 M30 M31 M32 M33 M34 M35 M36 M37 M38 M39 M40 M41 M42 M43 M44 M45 M46 M47 M48 M49 X0 X1 X2 X3 X4 X5 X6 X7 X8 X9 X10 X11 X12 X13 W0 W1 W2 Y0 Y1 Y2 Y3 Y4 Y5 Y6 Y7 Y8 Y9 K2
      (try simp only [Int32.lt_iff_toInt_lt, Int32.le_iff_toInt_le, Int64.lt_iff_toInt_lt, Int64.le_iff_toInt_le, Int32.toInt_toInt64, ← Int32.toInt_inj, ← Int64.toInt_inj, n32_0, n32_1, n32_2, n32_3, n32_4, n32_6, n32_8, n32_9, n32_10, n32_20, n32_100, n32_120, n32_255, n32_400, n32_3600, n32_m1, n64_0, n64_1, n64_2, n64_3, n64_4, n64_5, n64_9, n64_19, n64_119, n64_255, n64_400, n64_3599, n64_1000000000, n64_1000000000000, n64_m1000000000000] at c0 c1 c3 b0 b1 b3 b4 b5)
      first | contradiction | omega
  · intro c0 c1 ct2 ce2 ch2 c3 c4
    subst ce2
    refine K _ _ ⟨_, M27⟩ (fun Q2 K2 => ?_)
    refine s_X8_part M27 M38 M39 hT20 ?_ ?_ ?_ ?_ ?_ ?_
    · intro b0
      exfalso
      clear hI0 hM hX hW hY hT hE hD hU hS hB hG K M27 M28 M29 M30 M31 M32 M33 M34 M35 M36 M37 M38 M39 M40 M41 M42 M43 M44 M45 M46 M47 M48 M49 X0 X1 X2 X3 X4 X5 X6 X7 X8 X9 X10 X11 X12 X13 W0 W1 W2 Y0 Y1 Y2 Y3 Y4 Y5 Y6 Y7 Y8 Y9 K2
      (try simp only [Int32.lt_iff_toInt_lt, Int32.le_iff_toInt_le, Int64.lt_iff_toInt_lt, Int64.le_iff_toInt_le, Int32.toInt_toInt64, ← Int32.toInt_inj, ← Int64.toInt_inj, n32_0, n32_1, n32_2, n32_3, n32_4, n32_6, n32_8, n32_9, n32_10, n32_20, n32_100, n32_120, n32_255, n32_400, n32_3600, n32_m1, n64_0, n64_1, n64_2, n64_3, n64_4, n64_5, n64_9, n64_19, n64_119, n64_255, n64_400, n64_3599, n64_1000000000, n64_1000000000000, n64_m1000000000000] at c0 c1 c3 c4 b0)
      first | contradiction | omega
    · intro b0 b1
      exfalso
      clear hI0 hM hX hW hY hT hE hD hU hS hB hG K M27 M28 M29 M30 M31 M32 M33 M34 M35 M36 M37 M38 M39 M40 M41 M42 M43 M44 M45 M46 M47 M48 M49 X0 X1 X2 X3 X4 X5 X6 X7 X8 X9 X10 X11 X12 X13 W0 W1 W2 Y0 Y1 Y2 Y3 Y4 Y5 Y6 Y7 Y8 Y9 K2
      (try simp only [Int32.lt_iff_toInt_lt, Int32.le_iff_toInt_le, Int64.lt_iff_toInt_lt, Int64.le_iff_toInt_le, Int32.toInt_toInt64, ← Int32.toInt_inj, ← Int64.toInt_inj, n32_0, n32_1, n32_2, n32_3, n32_4, n32_6, n32_8, n32_9, n32_10, n32_20, n32_100, n32_120, n32_255, n32_400, n32_3600, n32_m1, n64_0, n64_1, n64_2, n64_3, n64_4, n64_5, n64_9, n64_19, n64_119, n64_255, n64_400, n64_3599, n64_1000000000, n64_1000000000000, n64_m1000000000000] at c0 c1 c3 c4 b0 b1)
      first | contradiction | omega
    · intro b0 b1 bt2 be2 bh2 b3
      obtain rfl : ct2 = bt2 := by have z := nI_inj2 be2 (by omega) (by omega); omega
      exfalso
      clear hI0 hM hX hW hY hT hE hD hU hS hB hG K M27 M28 M29 M30 M31 M32 M33 M34 M35 M36 M37 M38 M39 M40 M41 M42 M43 M44 M45 M46 M47 M48 M49 X0 X1 X2 X3 X4 X5 X6 X7 X8 X9 X10 X11 X12 X13 W0 W1 W2 Y0 Y1 Y2 Y3 Y4 Y5 Y6 Y7 Y8 Y9 K2
      (try simp only [Int32.lt_iff_toInt_lt, Int32.le_iff_toInt_le, Int64.lt_iff_toInt_lt, Int64.le_iff_toInt_le, Int32.toInt_toInt64, ← Int32.toInt_inj, ← Int64.toInt_inj, n32_0, n32_1, n32_2, n32_3, n32_4, n32_6, n32_8, n32_9, n32_10, n32_20, n32_100, n32_120, n32_255, n32_400, n32_3600, n32_m1, n64_0, n64_1, n64_2, n64_3, n64_4, n64_5, n64_9, n64_19, n64_119, n64_255, n64_400, n64_3599, n64_1000000000, n64_1000000000000, n64_m1000000000000] at c0 c1 c3 c4 b0 b1 b3)
      first | contradiction | omega
    · intro b0 b1 bt2 be2 bh2 b3 b4
      obtain rfl : ct2 = bt2 := by have z := nI_inj2 be2 (by omega) (by omega); omega
      exact K2 _ (iV_up hI0)
    · intro b0 b1 bt2 be2 bh2 b3 b4 b5
      obtain rfl : ct2 = bt2 := by have z := nI_inj2 be2 (by omega) (by omega); omega
      exfalso
      clear hI0 hM hX hW hY hT hE hD hU hS hB hG K M27 M28 M29 M30 M31 M32 M33 M34 M35 M36 M37 M38 M39 M40 M41 M42 M43 M44 M45 M46 M47 M48 M49 X0 X1 X2 X3 X4 X5 X6 X7 X8 X9 X10 X11 X12 X13 W0 W1 W2 Y0 Y1 Y2 Y3 Y4 Y5 Y6 Y7 Y8 Y9 K2
      (try simp only [Int32.lt_iff_toInt_lt, Int32.le_iff_toInt_le, Int64.lt_iff_toInt_lt, Int64.le_iff_toInt_le, Int32.toInt_toInt64, ← Int32.toInt_inj, ← Int64.toInt_inj, n32_0, n32_1, n32_2, n32_3, n32_4, n32_6, n32_8, n32_9, n32_10, n32_20, n32_100, n32_120, n32_255, n32_400, n32_3600, n32_m1, n64_0, n64_1, n64_2, n64_3, n64_4, n64_5, n64_9, n64_19, n64_119, n64_255, n64_400, n64_3599, n64_1000000000, n64_1000000000000, n64_m1000000000000] at c0 c1 c3 c4 b0 b1 b3 b4 b5)
      first | contradiction | omega
    · intro b0 b1 bt2 be2 bh2 b3 b4 b5 bt6 be6 bh6
      obtain rfl : ct2 = bt2 := by have z := nI_inj2 be2 (by omega) (by omega); omega
      exfalso
      clear hI0 hM hX hW hY hT hE hD hU hS hB hG K M27 M28 M29 M30 M31 M32 M33 M34 M35 M36 M37 M38 M39 M40 M41 M42 M43 M44 M45 M46 M47 M48 M49 X0 X1 X2 X3 X4 X5 X6 X7 X8 X9 X10 X11 X12 X13 W0 W1 W2 Y0 Y1 Y2 Y3 Y4 Y5 Y6 Y7 Y8 Y9 K2
      (try simp only [Int32.lt_iff_toInt_lt, Int32.le_iff_toInt_le, Int64.lt_iff_toInt_lt, Int64.le_iff_toInt_le, Int32.toInt_toInt64, ← Int32.toInt_inj, ← Int64.toInt_inj, n32_0, n32_1, n32_2, n32_3, n32_4, n32_6, n32_8, n32_9, n32_10, n32_20, n32_100, n32_120, n32_255, n32_400, n32_3600, n32_m1, n64_0, n64_1, n64_2, n64_3, n64_4, n64_5, n64_9, n64_19, n64_119, n64_255, n64_400, n64_3599, n64_1000000000, n64_1000000000000, n64_m1000000000000] at c0 c1 c3 c4 b0 b1 b3 b4 b5)
      first | contradiction | omega
  · intro c0 c1 ct2 ce2 ch2 c3 c4 c5 ct6 ce6 ch6
    subst ce2
    subst ce6
    refine K _ _ ⟨_, M27⟩ (fun Q2 K2 => ?_)
    refine s_X8_part M27 M38 M39 hT20 ?_ ?_ ?_ ?_ ?_ ?_
    · intro b0
      exfalso
      clear hI0 hM hX hW hY hT hE hD hU hS hB hG K M27 M28 M29 M30 M31 M32 M33 M34 M35 M36 M37 M38 M39 M40 M41 M42 M43 M44 M45 M46 M47 M48 M49 X0 X1 X2 X3 X4 X5 X6 X7 X8 X9 X10 X11 X12 X13 W0 W1 W2 Y0 Y1 Y2 Y3 Y4 Y5 Y6 Y7 Y8 Y9 K2
      (try simp only [Int32.lt_iff_toInt_lt, Int32.le_iff_toInt_le, Int64.lt_iff_toInt_lt, Int64.le_iff_toInt_le, Int32.toInt_toInt64, ← Int32.toInt_inj, ← Int64.toInt_inj, n32_0, n32_1, n32_2, n32_3, n32_4, n32_6, n32_8, n32_9, n32_10, n32_20, n32_100, n32_120, n32_255, n32_400, n32_3600, n32_m1, n64_0, n64_1, n64_2, n64_3, n64_4, n64_5, n64_9, n64_19, n64_119, n64_255, n64_400, n64_3599, n64_1000000000, n64_1000000000000, n64_m1000000000000] at c0 c1 c3 c4 c5 b0)
      first | contradiction | omega
    · intro b0 b1
      exfalso
      clear hI0 hM hX hW hY hT hE hD hU hS hB hG K M27 M28 M29 M30 M31 M32 M33 M34 M35 M36 M37 M38 M39 M40 M41 M42 M43 M44 M45 M46 M47 M48 M49 X0 X1 X2 X3 X4 X5 X6 X7 X8 X9 X10 X11 X12 X13 W0 W1 W2 Y0 Y1 Y2 Y3 Y4 Y5 Y6 Y7 Y8 Y9 K2
      (try simp only [Int32.lt_iff_toInt_lt, Int32.le_iff_toInt_le, Int64.lt_iff_toInt_lt, Int64.le_iff_toInt_le, Int32.toInt_toInt64, ← Int32.toInt_inj, ← Int64.toInt_inj, n32_0, n32_1, n32_2, n32_3, n32_4, n32_6, n32_8, n32_9, n32_10, n32_20, n32_100, n32_120, n32_255, n32_400, n32_3600, n32_m1, n64_0, n64_1, n64_2, n64_3, n64_4, n64_5, n64_9, n64_19, n64_119, n64_255, n64_400, n64_3599, n64_1000000000, n64_1000000000000, n64_m1000000000000] at c0 c1 c3 c4 c5 b0 b1)
      first | contradiction | omega
    · intro b0 b1 bt2 be2 bh2 b3
      obtain rfl : ct2 = bt2 := by have z := nI_inj2 be2 (by omega) (by omega); omega
      exfalso
      clear hI0 hM hX hW hY hT hE hD hU hS hB hG K M27 M28 M29 M30 M31 M32 M33 M34 M35 M36 M37 M38 M39 M40 M41 M42 M43 M44 M45 M46 M47 M48 M49 X0 X1 X2 X3 X4 X5 X6 X7 X8 X9 X10 X11 X12 X13 W0 W1 W2 Y0 Y1 Y2 Y3 Y4 Y5 Y6 Y7 Y8 Y9 K2
      (try simp only [Int32.lt_iff_toInt_lt, Int32.le_iff_toInt_le, Int64.lt_iff_toInt_lt, Int64.le_iff_toInt_le, Int32.toInt_toInt64, ← Int32.toInt_inj, ← Int64.toInt_inj, n32_0, n32_1, n32_2, n32_3, n32_4, n32_6, n32_8, n32_9, n32_10, n32_20, n32_100, n32_120, n32_255, n32_400, n32_3600, n32_m1, n64_0, n64_1, n64_2, n64_3, n64_4, n64_5, n64_9, n64_19, n64_119, n64_255, n64_400, n64_3599, n64_1000000000, n64_1000000000000, n64_m1000000000000] at c0 c1 c3 c4 c5 b0 b1 b3)
      first | contradiction | omega
    · intro b0 b1 bt2 be2 bh2 b3 b4
      obtain rfl : ct2 = bt2 := by have z := nI_inj2 be2 (by omega) (by omega); omega
      exfalso
      clear hI0 hM hX hW hY hT hE hD hU hS hB hG K M27 M28 M29 M30 M31 M32 M33 M34 M35 M36 M37 M38 M39 M40 M41 M42 M43 M44 M45 M46 M47 M48 M49 X0 X1 X2 X3 X4 X5 X6 X7 X8 X9 X10 X11 X12 X13 W0 W1 W2 Y0 Y1 Y2 Y3 Y4 Y5 Y6 Y7 Y8 Y9 K2
      (try simp only [Int32.lt_iff_toInt_lt, Int32.le_iff_toInt_le, Int64.lt_iff_toInt_lt, Int64.le_iff_toInt_le, Int32.toInt_toInt64, ← Int32.toInt_inj, ← Int64.toInt_inj, n32_0, n32_1, n32_2, n32_3, n32_4, n32_6, n32_8, n32_9, n32_10, n32_20, n32_100, n32_120, n32_255, n32_400, n32_3600, n32_m1, n64_0, n64_1, n64_2, n64_3, n64_4, n64_5, n64_9, n64_19, n64_119, n64_255, n64_400, n64_3599, n64_1000000000, n64_1000000000000, n64_m1000000000000] at c0 c1 c3 c4 c5 b0 b1 b3 b4)
      first | contradiction | omega
    · intro b0 b1 bt2 be2 bh2 b3 b4 b5
      obtain rfl : ct2 = bt2 := by have z := nI_inj2 be2 (by omega) (by omega); omega
      exfalso
      clear hI0 hM hX hW hY hT hE hD hU hS hB hG K M27 M28 M29 M30 M31 M32 M33 M34 M35 M36 M37 M38 M39 M40 M41 M42 M43 M44 M45 M46 M47 M48 M49 X0 X1 X2 X3 X4 X5 X6 X7 X8 X9 X10 X11 X12 X13 W0 W1 W2 Y0 Y1 Y2 Y3 Y4 Y5 Y6 Y7 Y8 Y9 K2
      (try simp only [Int32.lt_iff_toInt_lt, Int32.le_iff_toInt_le, Int64.lt_iff_toInt_lt, Int64.le_iff_toInt_le, Int32.toInt_toInt64, ← Int32.toInt_inj, ← Int64.toInt_inj, n32_0, n32_1, n32_2, n32_3, n32_4, n32_6, n32_8, n32_9, n32_10, n32_20, n32_100, n32_120, n32_255, n32_400, n32_3600, n32_m1, n64_0, n64_1, n64_2, n64_3, n64_4, n64_5, n64_9, n64_19, n64_119, n64_255, n64_400, n64_3599, n64_1000000000, n64_1000000000000, n64_m1000000000000] at c0 c1 c3 c4 c5 b0 b1 b3 b4 b5)
      first | contradiction | omega
    · intro b0 b1 bt2 be2 bh2 b3 b4 b5 bt6 be6 bh6
      obtain rfl : ct2 = bt2 := by have z := nI_inj2 be2 (by omega) (by omega); omega
      obtain rfl : ct6 = bt6 := by have z := nI_inj2 be6 (by omega) (by omega); omega
      rw [← (hS.1 ct2 ch2).2.2.2.2.2.2.2.2.1 ct6 ch6]
      exact K2 _ (iV_up hI0)
  · intro c0 c1 ct2 ce2 ch2 c3 c4 c5
    subst ce2
    refine K _ _ ⟨_, M27⟩ (fun Q2 K2 => ?_)
    refine s_X8_part M27 M38 M39 hT20 ?_ ?_ ?_ ?_ ?_ ?_
    · intro b0
      exfalso
      clear hI0 hM hX hW hY hT hE hD hU hS hB hG K M27 M28 M29 M30 M31 M32 M33 M34 M35 M36 M37 M38 M39 M40 M41 M42 M43 M44 M45 M46 M47 M48 M49 X0 X1 X2 X3 X4 X5 X6 X7 X8 X9 X10 X11 X12 X13 W0 W1 W2 Y0 Y1 Y2 Y3 Y4 Y5 Y6 Y7 Y8 Y9 K2
      (try simp only [Int32.lt_iff_toInt_lt, Int32.le_iff_toInt_le, Int64.lt_iff_toInt_lt, Int64.le_iff_toInt_le, Int32.toInt_toInt64, ← Int32.toInt_inj, ← Int64.toInt_inj, n32_0, n32_1, n32_2, n32_3, n32_4, n32_6, n32_8, n32_9, n32_10, n32_20, n32_100, n32_120, n32_255, n32_400, n32_3600, n32_m1, n64_0, n64_1, n64_2, n64_3, n64_4, n64_5, n64_9, n64_19, n64_119, n64_255, n64_400, n64_3599, n64_1000000000, n64_1000000000000, n64_m1000000000000] at c0 c1 c3 c4 c5 b0)
      first | contradiction | omega
    · intro b0 b1
      exfalso
      clear hI0 hM hX hW hY hT hE hD hU hS hB hG K M27 M28 M29 M30 M31 M32 M33 M34 M35 M36 M37 M38 M39 M40 M41 M42 M43 M44 M45 M46 M47 M48 M49 X0 X1 X2 X3 X4 X5 X6 X7 X8 X9 X10 X11 X12 X13 W0 W1 W2 Y0 Y1 Y2 Y3 Y4 Y5 Y6 Y7 Y8 Y9 K2
      (try simp only [Int32.lt_iff_toInt_lt, Int32.le_iff_toInt_le, Int64.lt_iff_toInt_lt, Int64.le_iff_toInt_le, Int32.toInt_toInt64, ← Int32.toInt_inj, ← Int64.toInt_inj, n32_0, n32_1, n32_2, n32_3, n32_4, n32_6, n32_8, n32_9, n32_10, n32_20, n32_100, n32_120, n32_255, n32_400, n32_3600, n32_m1, n64_0, n64_1, n64_2, n64_3, n64_4, n64_5, n64_9, n64_19, n64_119, n64_255, n64_400, n64_3599, n64_1000000000, n64_1000000000000, n64_m1000000000000] at c0 c1 c3 c4 c5 b0 b1)
      first | contradiction | omega
    · intro b0 b1 bt2 be2 bh2 b3
      obtain rfl : ct2 = bt2 := by have z := nI_inj2 be2 (by omega) (by omega); omega
      exfalso
      clear hI0 hM hX hW hY hT hE hD hU hS hB hG K M27 M28 M29 M30 M31 M32 M33 M34 M35 M36 M37 M38 M39 M40 M41 M42 M43 M44 M45 M46 M47 M48 M49 X0 X1 X2 X3 X4 X5 X6 X7 X8 X9 X10 X11 X12 X13 W0 W1 W2 Y0 Y1 Y2 Y3 Y4 Y5 Y6 Y7 Y8 Y9 K2
      (try simp only [Int32.lt_iff_toInt_lt, Int32.le_iff_toInt_le, Int64.lt_iff_toInt_lt, Int64.le_iff_toInt_le, Int32.toInt_toInt64, ← Int32.toInt_inj, ← Int64.toInt_inj, n32_0, n32_1, n32_2, n32_3, n32_4, n32_6, n32_8, n32_9, n32_10, n32_20, n32_100, n32_120, n32_255, n32_400, n32_3600, n32_m1, n64_0, n64_1, n64_2, n64_3, n64_4, n64_5, n64_9, n64_19, n64_119, n64_255, n64_400, n64_3599, n64_1000000000, n64_1000000000000, n64_m1000000000000] at c0 c1 c3 c4 c5 b0 b1 b3)
      first | contradiction | omega
    · intro b0 b1 bt2 be2 bh2 b3 b4
      obtain rfl : ct2 = bt2 := by have z := nI_inj2 be2 (by omega) (by omega); omega
      exfalso
      clear hI0 hM hX hW hY hT hE hD hU hS hB hG K M27 M28 M29 M30 M31 M32 M33 M34 M35 M36 M37 M38 M39 M40 M41 M42 M43 M44 M45 M46 M47 M48 M49 X0 X1 X2 X3 X4 X5 X6 X7 X8 X9 X10 X11 X12 X13 W0 W1 W2 Y0 Y1 Y2 Y3 Y4 Y5 Y6 Y7 Y8 Y9 K2
      (try simp only [Int32.lt_iff_toInt_lt, Int32.le_iff_toInt_le, Int64.lt_iff_toInt_lt, Int64.le_iff_toInt_le, Int32.toInt_toInt64, ← Int32.toInt_inj, ← Int64.toInt_inj, n32_0, n32_1, n32_2, n32_3, n32_4, n32_6, n32_8, n32_9, n32_10, n32_20, n32_100, n32_120, n32_255, n32_400, n32_3600, n32_m1, n64_0, n64_1, n64_2, n64_3, n64_4, n64_5, n64_9, n64_19, n64_119, n64_255, n64_400, n64_3599, n64_1000000000, n64_1000000000000, n64_m1000000000000] at c0 c1 c3 c4 c5 b0 b1 b3 b4)
      first | contradiction | omega
    · intro b0 b1 bt2 be2 bh2 b3 b4 b5
      obtain rfl : ct2 = bt2 := by have z := nI_inj2 be2 (by omega) (by omega); omega
      exact K2 _ (iV_up hI0)
    · intro b0 b1 bt2 be2 bh2 b3 b4 b5 bt6 be6 bh6
      obtain rfl : ct2 = bt2 := by have z := nI_inj2 be2 (by omega) (by omega); omega
      exfalso
      clear hI0 hM hX hW hY hT hE hD hU hS hB hG K M27 M28 M29 M30 M31 M32 M33 M34 M35 M36 M37 M38 M39 M40 M41 M42 M43 M44 M45 M46 M47 M48 M49 X0 X1 X2 X3 X4 X5 X6 X7 X8 X9 X10 X11 X12 X13 W0 W1 W2 Y0 Y1 Y2 Y3 Y4 Y5 Y6 Y7 Y8 Y9 K2
      (try simp only [Int32.lt_iff_toInt_lt, Int32.le_iff_toInt_le, Int64.lt_iff_toInt_lt, Int64.le_iff_toInt_le, Int32.toInt_toInt64, ← Int32.toInt_inj, ← Int64.toInt_inj, n32_0, n32_1, n32_2, n32_3, n32_4, n32_6, n32_8, n32_9, n32_10, n32_20, n32_100, n32_120, n32_255, n32_400, n32_3600, n32_m1, n64_0, n64_1, n64_2, n64_3, n64_4, n64_5, n64_9, n64_19, n64_119, n64_255, n64_400, n64_3599, n64_1000000000, n64_1000000000000, n64_m1000000000000] at c0 c1 c3 c4 c5 b0 b1 b3 b4 b5)
      first | contradiction | omega

set_option maxRecDepth 20000 in
theorem r_share {l : Launch} {G : jG} {h : jH} {Q : Option Value → jH → Prop} {c : Nat} {t0 : Int32} {p0 : Int32} {w0 : Int32} (hc : c < 512) (hG : j_gok G) (hI : iV c h) (K : ∀ (vv : Int64) (h1 : jH), (∃ fs, h1.2 27 = some (jO 8 fs)) → (∀ Q2 : Option Value → jH → Prop, (∀ h2, iV (c + 1) h2 → Q2 (some (.long vv)) h2) → J l G mX8_share 0 0 0 (lv_args 0 [.ref 27, .int t0, .int p0, .int w0]) [] h1 Q2) → Q (some (.long vv)) h1) : J l G mX7_share 0 0 0 (lv_args 0 [.ref 0, .int t0, .int p0, .int w0]) [] h Q := by
  have hI0 := hI
  refine hI _ ?_
  clear hI
  intro L P T E C R R0 n ru dq dr op at_ fr wd ws we wn dd tx rs fs ro sh dy se ey er tk tn ac f1 f2 f3 f4 g1 g2 g3 g4 da lo ad sa co pa ss w1 w2 w3 am pw ps cu dm ta ea shp tb eb rr rn cst prt eam dys eac shs hM hX hW hY hT hE hD hN hU hS hB
  obtain ⟨M27, M28, M29, M30, M31, M32, M33, M34, M35, M36, M37, M38, M39, M40, M41, M42, M43, M44, M45, M46, M47, M48, M49⟩ := id hM
  obtain ⟨X0, X1, X2, X3, X4, X5, X6, X7, X8, X9, X10, X11, X12, X13⟩ := id hX
  obtain ⟨W0, W1, W2⟩ := id hW
  obtain ⟨Y0, Y1, Y2, Y3, Y4, Y5, Y6, Y7, Y8, Y9⟩ := id hY
  obtain ⟨hL, hP, hT20, hE60, hC, hR, hR0, hn, hrd, hop⟩ := id hN
  refine s_X7_share X0 X7 X3 (fun t ht => (hT t ht).1) (fun t ht => (hT t ht).2.2.2.2.1) (iT_row hT) hT20 (fun t ht => (hS.1 t ht).1) hP (fun t ht => j_rows_at (tb t + 5)) ?_ ?_ ?_ ?_ ?_ ?_ ?_ ?_
  · intro c0
    refine K _ _ ⟨_, M27⟩ (fun Q2 K2 => ?_)
    refine s_X8_share M27 M38 M40 hT20 hP ?_ ?_ ?_ ?_ ?_ ?_ ?_ ?_
    · intro b0
      exact K2 _ (iV_up hI0)
    · intro b0 b1
      exfalso
      clear hI0 hM hX hW hY hT hE hD hU hS hB hG K M27 M28 M29 M30 M31 M32 M33 M34 M35 M36 M37 M38 M39 M40 M41 M42 M43 M44 M45 M46 M47 M48 M49 X0 X1 X2 X3 X4 X5 X6 X7 X8 X9 X10 X11 X12 X13 W0 W1 W2 Y0 Y1 Y2 Y3 Y4 Y5 Y6 Y7 Y8 Y9 K2
      (try simp only [Int32.lt_iff_toInt_lt, Int32.le_iff_toInt_le, Int64.lt_iff_toInt_lt, Int64.le_iff_toInt_le, Int32.toInt_toInt64, ← Int32.toInt_inj, ← Int64.toInt_inj, n32_0, n32_1, n32_2, n32_3, n32_4, n32_6, n32_8, n32_9, n32_10, n32_20, n32_100, n32_120, n32_255, n32_400, n32_3600, n32_m1, n64_0, n64_1, n64_2, n64_3, n64_4, n64_5, n64_9, n64_19, n64_119, n64_255, n64_400, n64_3599, n64_1000000000, n64_1000000000000, n64_m1000000000000] at c0 b0 b1)
      first | contradiction | omega
    · intro b0 b1 bt2 be2 bh2 b3
      exfalso
      clear hI0 hM hX hW hY hT hE hD hU hS hB hG K M27 M28 M29 M30 M31 M32 M33 M34 M35 M36 M37 M38 M39 M40 M41 M42 M43 M44 M45 M46 M47 M48 M49 X0 X1 X2 X3 X4 X5 X6 X7 X8 X9 X10 X11 X12 X13 W0 W1 W2 Y0 Y1 Y2 Y3 Y4 Y5 Y6 Y7 Y8 Y9 K2
      (try simp only [Int32.lt_iff_toInt_lt, Int32.le_iff_toInt_le, Int64.lt_iff_toInt_lt, Int64.le_iff_toInt_le, Int32.toInt_toInt64, ← Int32.toInt_inj, ← Int64.toInt_inj, n32_0, n32_1, n32_2, n32_3, n32_4, n32_6, n32_8, n32_9, n32_10, n32_20, n32_100, n32_120, n32_255, n32_400, n32_3600, n32_m1, n64_0, n64_1, n64_2, n64_3, n64_4, n64_5, n64_9, n64_19, n64_119, n64_255, n64_400, n64_3599, n64_1000000000, n64_1000000000000, n64_m1000000000000] at c0 b0 b1 b3)
      first | contradiction | omega
    · intro b0 b1 bt2 be2 bh2 b3 b4
      exfalso
      clear hI0 hM hX hW hY hT hE hD hU hS hB hG K M27 M28 M29 M30 M31 M32 M33 M34 M35 M36 M37 M38 M39 M40 M41 M42 M43 M44 M45 M46 M47 M48 M49 X0 X1 X2 X3 X4 X5 X6 X7 X8 X9 X10 X11 X12 X13 W0 W1 W2 Y0 Y1 Y2 Y3 Y4 Y5 Y6 Y7 Y8 Y9 K2
      (try simp only [Int32.lt_iff_toInt_lt, Int32.le_iff_toInt_le, Int64.lt_iff_toInt_lt, Int64.le_iff_toInt_le, Int32.toInt_toInt64, ← Int32.toInt_inj, ← Int64.toInt_inj, n32_0, n32_1, n32_2, n32_3, n32_4, n32_6, n32_8, n32_9, n32_10, n32_20, n32_100, n32_120, n32_255, n32_400, n32_3600, n32_m1, n64_0, n64_1, n64_2, n64_3, n64_4, n64_5, n64_9, n64_19, n64_119, n64_255, n64_400, n64_3599, n64_1000000000, n64_1000000000000, n64_m1000000000000] at c0 b0 b1 b3 b4)
      first | contradiction | omega
    · intro b0 b1 bt2 be2 bh2 b3 b4 b5
      exfalso
      clear hI0 hM hX hW hY hT hE hD hU hS hB hG K M27 M28 M29 M30 M31 M32 M33 M34 M35 M36 M37 M38 M39 M40 M41 M42 M43 M44 M45 M46 M47 M48 M49 X0 X1 X2 X3 X4 X5 X6 X7 X8 X9 X10 X11 X12 X13 W0 W1 W2 Y0 Y1 Y2 Y3 Y4 Y5 Y6 Y7 Y8 Y9 K2
      (try simp only [Int32.lt_iff_toInt_lt, Int32.le_iff_toInt_le, Int64.lt_iff_toInt_lt, Int64.le_iff_toInt_le, Int32.toInt_toInt64, ← Int32.toInt_inj, ← Int64.toInt_inj, n32_0, n32_1, n32_2, n32_3, n32_4, n32_6, n32_8, n32_9, n32_10, n32_20, n32_100, n32_120, n32_255, n32_400, n32_3600, n32_m1, n64_0, n64_1, n64_2, n64_3, n64_4, n64_5, n64_9, n64_19, n64_119, n64_255, n64_400, n64_3599, n64_1000000000, n64_1000000000000, n64_m1000000000000] at c0 b0 b1 b3 b4 b5)
      first | contradiction | omega
    · intro b0 b1 bt2 be2 bh2 b3 b4 b5 bt6 be6 bh6 b7
      exfalso
      clear hI0 hM hX hW hY hT hE hD hU hS hB hG K M27 M28 M29 M30 M31 M32 M33 M34 M35 M36 M37 M38 M39 M40 M41 M42 M43 M44 M45 M46 M47 M48 M49 X0 X1 X2 X3 X4 X5 X6 X7 X8 X9 X10 X11 X12 X13 W0 W1 W2 Y0 Y1 Y2 Y3 Y4 Y5 Y6 Y7 Y8 Y9 K2
      (try simp only [Int32.lt_iff_toInt_lt, Int32.le_iff_toInt_le, Int64.lt_iff_toInt_lt, Int64.le_iff_toInt_le, Int32.toInt_toInt64, ← Int32.toInt_inj, ← Int64.toInt_inj, n32_0, n32_1, n32_2, n32_3, n32_4, n32_6, n32_8, n32_9, n32_10, n32_20, n32_100, n32_120, n32_255, n32_400, n32_3600, n32_m1, n64_0, n64_1, n64_2, n64_3, n64_4, n64_5, n64_9, n64_19, n64_119, n64_255, n64_400, n64_3599, n64_1000000000, n64_1000000000000, n64_m1000000000000] at c0 b0 b1 b3 b4 b5 b7)
      first | contradiction | omega
    · intro b0 b1 bt2 be2 bh2 b3 b4 b5 bt6 be6 bh6 b7 b8
      exfalso
      clear hI0 hM hX hW hY hT hE hD hU hS hB hG K M27 M28 M29 M30 M31 M32 M33 M34 M35 M36 M37 M38 M39 M40 M41 M42 M43 M44 M45 M46 M47 M48 M49 X0 X1 X2 X3 X4 X5 X6 X7 X8 X9 X10 X11 X12 X13 W0 W1 W2 Y0 Y1 Y2 Y3 Y4 Y5 Y6 Y7 Y8 Y9 K2
      (try simp only [Int32.lt_iff_toInt_lt, Int32.le_iff_toInt_le, Int64.lt_iff_toInt_lt, Int64.le_iff_toInt_le, Int32.toInt_toInt64, ← Int32.toInt_inj, ← Int64.toInt_inj, n32_0, n32_1, n32_2, n32_3, n32_4, n32_6, n32_8, n32_9, n32_10, n32_20, n32_100, n32_120, n32_255, n32_400, n32_3600, n32_m1, n64_0, n64_1, n64_2, n64_3, n64_4, n64_5, n64_9, n64_19, n64_119, n64_255, n64_400, n64_3599, n64_1000000000, n64_1000000000000, n64_m1000000000000] at c0 b0 b1 b3 b4 b5 b7 b8)
      first | contradiction | omega
    · intro b0 b1 bt2 be2 bh2 b3 b4 b5 bt6 be6 bh6 b7 b8 bt9 be9 bh9
      exfalso
      clear hI0 hM hX hW hY hT hE hD hU hS hB hG K M27 M28 M29 M30 M31 M32 M33 M34 M35 M36 M37 M38 M39 M40 M41 M42 M43 M44 M45 M46 M47 M48 M49 X0 X1 X2 X3 X4 X5 X6 X7 X8 X9 X10 X11 X12 X13 W0 W1 W2 Y0 Y1 Y2 Y3 Y4 Y5 Y6 Y7 Y8 Y9 K2
      (try simp only [Int32.lt_iff_toInt_lt, Int32.le_iff_toInt_le, Int64.lt_iff_toInt_lt, Int64.le_iff_toInt_le, Int32.toInt_toInt64, ← Int32.toInt_inj, ← Int64.toInt_inj, n32_0, n32_1, n32_2, n32_3, n32_4, n32_6, n32_8, n32_9, n32_10, n32_20, n32_100, n32_120, n32_255, n32_400, n32_3600, n32_m1, n64_0, n64_1, n64_2, n64_3, n64_4, n64_5, n64_9, n64_19, n64_119, n64_255, n64_400, n64_3599, n64_1000000000, n64_1000000000000, n64_m1000000000000] at c0 b0 b1 b3 b4 b5 b7 b8)
      first | contradiction | omega
  · intro c0 c1
    refine K _ _ ⟨_, M27⟩ (fun Q2 K2 => ?_)
    refine s_X8_share M27 M38 M40 hT20 hP ?_ ?_ ?_ ?_ ?_ ?_ ?_ ?_
    · intro b0
      exfalso
      clear hI0 hM hX hW hY hT hE hD hU hS hB hG K M27 M28 M29 M30 M31 M32 M33 M34 M35 M36 M37 M38 M39 M40 M41 M42 M43 M44 M45 M46 M47 M48 M49 X0 X1 X2 X3 X4 X5 X6 X7 X8 X9 X10 X11 X12 X13 W0 W1 W2 Y0 Y1 Y2 Y3 Y4 Y5 Y6 Y7 Y8 Y9 K2
      (try simp only [Int32.lt_iff_toInt_lt, Int32.le_iff_toInt_le, Int64.lt_iff_toInt_lt, Int64.le_iff_toInt_le, Int32.toInt_toInt64, ← Int32.toInt_inj, ← Int64.toInt_inj, n32_0, n32_1, n32_2, n32_3, n32_4, n32_6, n32_8, n32_9, n32_10, n32_20, n32_100, n32_120, n32_255, n32_400, n32_3600, n32_m1, n64_0, n64_1, n64_2, n64_3, n64_4, n64_5, n64_9, n64_19, n64_119, n64_255, n64_400, n64_3599, n64_1000000000, n64_1000000000000, n64_m1000000000000] at c0 c1 b0)
      first | contradiction | omega
    · intro b0 b1
      exact K2 _ (iV_up hI0)
    · intro b0 b1 bt2 be2 bh2 b3
      exfalso
      clear hI0 hM hX hW hY hT hE hD hU hS hB hG K M27 M28 M29 M30 M31 M32 M33 M34 M35 M36 M37 M38 M39 M40 M41 M42 M43 M44 M45 M46 M47 M48 M49 X0 X1 X2 X3 X4 X5 X6 X7 X8 X9 X10 X11 X12 X13 W0 W1 W2 Y0 Y1 Y2 Y3 Y4 Y5 Y6 Y7 Y8 Y9 K2
      (try simp only [Int32.lt_iff_toInt_lt, Int32.le_iff_toInt_le, Int64.lt_iff_toInt_lt, Int64.le_iff_toInt_le, Int32.toInt_toInt64, ← Int32.toInt_inj, ← Int64.toInt_inj, n32_0, n32_1, n32_2, n32_3, n32_4, n32_6, n32_8, n32_9, n32_10, n32_20, n32_100, n32_120, n32_255, n32_400, n32_3600, n32_m1, n64_0, n64_1, n64_2, n64_3, n64_4, n64_5, n64_9, n64_19, n64_119, n64_255, n64_400, n64_3599, n64_1000000000, n64_1000000000000, n64_m1000000000000] at c0 c1 b0 b1 b3)
      first | contradiction | omega
    · intro b0 b1 bt2 be2 bh2 b3 b4
      exfalso
      clear hI0 hM hX hW hY hT hE hD hU hS hB hG K M27 M28 M29 M30 M31 M32 M33 M34 M35 M36 M37 M38 M39 M40 M41 M42 M43 M44 M45 M46 M47 M48 M49 X0 X1 X2 X3 X4 X5 X6 X7 X8 X9 X10 X11 X12 X13 W0 W1 W2 Y0 Y1 Y2 Y3 Y4 Y5 Y6 Y7 Y8 Y9 K2
      (try simp only [Int32.lt_iff_toInt_lt, Int32.le_iff_toInt_le, Int64.lt_iff_toInt_lt, Int64.le_iff_toInt_le, Int32.toInt_toInt64, ← Int32.toInt_inj, ← Int64.toInt_inj, n32_0, n32_1, n32_2, n32_3, n32_4, n32_6, n32_8, n32_9, n32_10, n32_20, n32_100, n32_120, n32_255, n32_400, n32_3600, n32_m1, n64_0, n64_1, n64_2, n64_3, n64_4, n64_5, n64_9, n64_19, n64_119, n64_255, n64_400, n64_3599, n64_1000000000, n64_1000000000000, n64_m1000000000000] at c0 c1 b0 b1 b3 b4)
      first | contradiction | omega
    · intro b0 b1 bt2 be2 bh2 b3 b4 b5
      exfalso
      clear hI0 hM hX hW hY hT hE hD hU hS hB hG K M27 M28 M29 M30 M31 M32 M33 M34 M35 M36 M37 M38 M39 M40 M41 M42 M43 M44 M45 M46 M47 M48 M49 X0 X1 X2 X3 X4 X5 X6 X7 X8 X9 X10 X11 X12 X13 W0 W1 W2 Y0 Y1 Y2 Y3 Y4 Y5 Y6 Y7 Y8 Y9 K2
      (try simp only [Int32.lt_iff_toInt_lt, Int32.le_iff_toInt_le, Int64.lt_iff_toInt_lt, Int64.le_iff_toInt_le, Int32.toInt_toInt64, ← Int32.toInt_inj, ← Int64.toInt_inj, n32_0, n32_1, n32_2, n32_3, n32_4, n32_6, n32_8, n32_9, n32_10, n32_20, n32_100, n32_120, n32_255, n32_400, n32_3600, n32_m1, n64_0, n64_1, n64_2, n64_3, n64_4, n64_5, n64_9, n64_19, n64_119, n64_255, n64_400, n64_3599, n64_1000000000, n64_1000000000000, n64_m1000000000000] at c0 c1 b0 b1 b3 b4 b5)
      first | contradiction | omega
    · intro b0 b1 bt2 be2 bh2 b3 b4 b5 bt6 be6 bh6 b7
      exfalso
      clear hI0 hM hX hW hY hT hE hD hU hS hB hG K M27 M28 M29 M30 M31 M32 M33 M34 M35 M36 M37 M38 M39 M40 M41 M42 M43 M44 M45 M46 M47 M48 M49 X0 X1 X2 X3 X4 X5 X6 X7 X8 X9 X10 X11 X12 X13 W0 W1 W2 Y0 Y1 Y2 Y3 Y4 Y5 Y6 Y7 Y8 Y9 K2
      (try simp only [Int32.lt_iff_toInt_lt, Int32.le_iff_toInt_le, Int64.lt_iff_toInt_lt, Int64.le_iff_toInt_le, Int32.toInt_toInt64, ← Int32.toInt_inj, ← Int64.toInt_inj, n32_0, n32_1, n32_2, n32_3, n32_4, n32_6, n32_8, n32_9, n32_10, n32_20, n32_100, n32_120, n32_255, n32_400, n32_3600, n32_m1, n64_0, n64_1, n64_2, n64_3, n64_4, n64_5, n64_9, n64_19, n64_119, n64_255, n64_400, n64_3599, n64_1000000000, n64_1000000000000, n64_m1000000000000] at c0 c1 b0 b1 b3 b4 b5 b7)
      first | contradiction | omega
    · intro b0 b1 bt2 be2 bh2 b3 b4 b5 bt6 be6 bh6 b7 b8
      exfalso
      clear hI0 hM hX hW hY hT hE hD hU hS hB hG K M27 M28 M29 M30 M31 M32 M33 M34 M35 M36 M37 M38 M39 M40 M41 M42 M43 M44 M45 M46 M47 M48 M49 X0 X1 X2 X3 X4 X5 X6 X7 X8 X9 X10 X11 X12 X13 W0 W1 W2 Y0 Y1 Y2 Y3 Y4 Y5 Y6 Y7 Y8 Y9 K2
      (try simp only [Int32.lt_iff_toInt_lt, Int32.le_iff_toInt_le, Int64.lt_iff_toInt_lt, Int64.le_iff_toInt_le, Int32.toInt_toInt64, ← Int32.toInt_inj, ← Int64.toInt_inj, n32_0, n32_1, n32_2, n32_3, n32_4, n32_6, n32_8, n32_9, n32_10, n32_20, n32_100, n32_120, n32_255, n32_400, n32_3600, n32_m1, n64_0, n64_1, n64_2, n64_3, n64_4, n64_5, n64_9, n64_19, n64_119, n64_255, n64_400, n64_3599, n64_1000000000, n64_1000000000000, n64_m1000000000000] at c0 c1 b0 b1 b3 b4 b5 b7 b8)
      first | contradiction | omega
    · intro b0 b1 bt2 be2 bh2 b3 b4 b5 bt6 be6 bh6 b7 b8 bt9 be9 bh9
      exfalso
      clear hI0 hM hX hW hY hT hE hD hU hS hB hG K M27 M28 M29 M30 M31 M32 M33 M34 M35 M36 M37 M38 M39 M40 M41 M42 M43 M44 M45 M46 M47 M48 M49 X0 X1 X2 X3 X4 X5 X6 X7 X8 X9 X10 X11 X12 X13 W0 W1 W2 Y0 Y1 Y2 Y3 Y4 Y5 Y6 Y7 Y8 Y9 K2
      (try simp only [Int32.lt_iff_toInt_lt, Int32.le_iff_toInt_le, Int64.lt_iff_toInt_lt, Int64.le_iff_toInt_le, Int32.toInt_toInt64, ← Int32.toInt_inj, ← Int64.toInt_inj, n32_0, n32_1, n32_2, n32_3, n32_4, n32_6, n32_8, n32_9, n32_10, n32_20, n32_100, n32_120, n32_255, n32_400, n32_3600, n32_m1, n64_0, n64_1, n64_2, n64_3, n64_4, n64_5, n64_9, n64_19, n64_119, n64_255, n64_400, n64_3599, n64_1000000000, n64_1000000000000, n64_m1000000000000] at c0 c1 b0 b1 b3 b4 b5 b7 b8)
      first | contradiction | omega
  · intro c0 c1 ct2 ce2 ch2 c3
    subst ce2
    refine K _ _ ⟨_, M27⟩ (fun Q2 K2 => ?_)
    refine s_X8_share M27 M38 M40 hT20 hP ?_ ?_ ?_ ?_ ?_ ?_ ?_ ?_
    · intro b0
      exfalso
      clear hI0 hM hX hW hY hT hE hD hU hS hB hG K M27 M28 M29 M30 M31 M32 M33 M34 M35 M36 M37 M38 M39 M40 M41 M42 M43 M44 M45 M46 M47 M48 M49 X0 X1 X2 X3 X4 X5 X6 X7 X8 X9 X10 X11 X12 X13 W0 W1 W2 Y0 Y1 Y2 Y3 Y4 Y5 Y6 Y7 Y8 Y9 K2
      (try simp only [Int32.lt_iff_toInt_lt, Int32.le_iff_toInt_le, Int64.lt_iff_toInt_lt, Int64.le_iff_toInt_le, Int32.toInt_toInt64, ← Int32.toInt_inj, ← Int64.toInt_inj, n32_0, n32_1, n32_2, n32_3, n32_4, n32_6, n32_8, n32_9, n32_10, n32_20, n32_100, n32_120, n32_255, n32_400, n32_3600, n32_m1, n64_0, n64_1, n64_2, n64_3, n64_4, n64_5, n64_9, n64_19, n64_119, n64_255, n64_400, n64_3599, n64_1000000000, n64_1000000000000, n64_m1000000000000] at c0 c1 c3 b0)
      first | contradiction | omega
    · intro b0 b1
      exfalso
      clear hI0 hM hX hW hY hT hE hD hU hS hB hG K M27 M28 M29 M30 M31 M32 M33 M34 M35 M36 M37 M38 M39 M40 M41 M42 M43 M44 M45 M46 M47 M48 M49 X0 X1 X2 X3 X4 X5 X6 X7 X8 X9 X10 X11 X12 X13 W0 W1 W2 Y0 Y1 Y2 Y3 Y4 Y5 Y6 Y7 Y8 Y9 K2
      (try simp only [Int32.lt_iff_toInt_lt, Int32.le_iff_toInt_le, Int64.lt_iff_toInt_lt, Int64.le_iff_toInt_le, Int32.toInt_toInt64, ← Int32.toInt_inj, ← Int64.toInt_inj, n32_0, n32_1, n32_2, n32_3, n32_4, n32_6, n32_8, n32_9, n32_10, n32_20, n32_100, n32_120, n32_255, n32_400, n32_3600, n32_m1, n64_0, n64_1, n64_2, n64_3, n64_4, n64_5, n64_9, n64_19, n64_119, n64_255, n64_400, n64_3599, n64_1000000000, n64_1000000000000, n64_m1000000000000] at c0 c1 c3 b0 b1)
      first | contradiction | omega
    · intro b0 b1 bt2 be2 bh2 b3
      obtain rfl : ct2 = bt2 := by have z := nI_inj2 be2 (by omega) (by omega); omega
      exact K2 _ (iV_up hI0)
    · intro b0 b1 bt2 be2 bh2 b3 b4
      obtain rfl : ct2 = bt2 := by have z := nI_inj2 be2 (by omega) (by omega); omega
      exfalso
      clear hI0 hM hX hW hY hT hE hD hU hS hB hG K M27 M28 M29 M30 M31 M32 M33 M34 M35 M36 M37 M38 M39 M40 M41 M42 M43 M44 M45 M46 M47 M48 M49 X0 X1 X2 X3 X4 X5 X6 X7 X8 X9 X10 X11 X12 X13 W0 W1 W2 Y0 Y1 Y2 Y3 Y4 Y5 Y6 Y7 Y8 Y9 K2
      (try simp only [Int32.lt_iff_toInt_lt, Int32.le_iff_toInt_le, Int64.lt_iff_toInt_lt, Int64.le_iff_toInt_le, Int32.toInt_toInt64, ← Int32.toInt_inj, ← Int64.toInt_inj, n32_0, n32_1, n32_2, n32_3, n32_4, n32_6, n32_8, n32_9, n32_10, n32_20, n32_100, n32_120, n32_255, n32_400, n32_3600, n32_m1, n64_0, n64_1, n64_2, n64_3, n64_4, n64_5, n64_9, n64_19, n64_119, n64_255, n64_400, n64_3599, n64_1000000000, n64_1000000000000, n64_m1000000000000] at c0 c1 c3 b0 b1 b3 b4)
      first | contradiction | omega
    · intro b0 b1 bt2 be2 bh2 b3 b4 b5
      obtain rfl : ct2 = bt2 := by have z := nI_inj2 be2 (by omega) (by omega); omega
      exfalso
      clear hI0 hM hX hW hY hT hE hD hU hS hB hG K M27 M28 M29 M30 M31 M32 M33 M34 M35 M36 M37 M38 M39 M40 M41 M42 M43 M44 M45 M46 M47 M48 M49 X0 X1 X2 X3 X4 X5 X6 X7 X8 X9 X10 X11 X12 X13 W0 W1 W2 Y0 Y1 Y2 Y3 Y4 Y5 Y6 Y7 Y8 Y9 K2
      (try simp only [Int32.lt_iff_toInt_lt, Int32.le_iff_toInt_le, Int64.lt_iff_toInt_lt, Int64.le_iff_toInt_le, Int32.toInt_toInt64, ← Int32.toInt_inj, ← Int64.toInt_inj, n32_0, n32_1, n32_2, n32_3, n32_4, n32_6, n32_8, n32_9, n32_10, n32_20, n32_100, n32_120, n32_255, n32_400, n32_3600, n32_m1, n64_0, n64_1, n64_2, n64_3, n64_4, n64_5, n64_9, n64_19, n64_119, n64_255, n64_400, n64_3599, n64_1000000000, n64_1000000000000, n64_m1000000000000] at c0 c1 c3 b0 b1 b3 b4 b5)
      first | contradiction | omega
    · intro b0 b1 bt2 be2 bh2 b3 b4 b5 bt6 be6 bh6 b7
      obtain rfl : ct2 = bt2 := by have z := nI_inj2 be2 (by omega) (by omega); omega
      exfalso
      clear hI0 hM hX hW hY hT hE hD hU hS hB hG K M27 M28 M29 M30 M31 M32 M33 M34 M35 M36 M37 M38 M39 M40 M41 M42 M43 M44 M45 M46 M47 M48 M49 X0 X1 X2 X3 X4 X5 X6 X7 X8 X9 X10 X11 X12 X13 W0 W1 W2 Y0 Y1 Y2 Y3 Y4 Y5 Y6 Y7 Y8 Y9 K2
      (try simp only [Int32.lt_iff_toInt_lt, Int32.le_iff_toInt_le, Int64.lt_iff_toInt_lt, Int64.le_iff_toInt_le, Int32.toInt_toInt64, ← Int32.toInt_inj, ← Int64.toInt_inj, n32_0, n32_1, n32_2, n32_3, n32_4, n32_6, n32_8, n32_9, n32_10, n32_20, n32_100, n32_120, n32_255, n32_400, n32_3600, n32_m1, n64_0, n64_1, n64_2, n64_3, n64_4, n64_5, n64_9, n64_19, n64_119, n64_255, n64_400, n64_3599, n64_1000000000, n64_1000000000000, n64_m1000000000000] at c0 c1 c3 b0 b1 b3 b4 b5 b7)
      first | contradiction | omega
    · intro b0 b1 bt2 be2 bh2 b3 b4 b5 bt6 be6 bh6 b7 b8
      obtain rfl : ct2 = bt2 := by have z := nI_inj2 be2 (by omega) (by omega); omega
      exfalso
      clear hI0 hM hX hW hY hT hE hD hU hS hB hG K M27 M28 M29 M30 M31 M32 M33 M34 M35 M36 M37 M38 M39 M40 M41 M42 M43 M44 M45 M46 M47 M48 M49 X0 X1 X2 X3 X4 X5 X6 X7 X8 X9 X10 X11 X12 X13 W0 W1 W2 Y0 Y1 Y2 Y3 Y4 Y5 Y6 Y7 Y8 Y9 K2
      (try simp only [Int32.lt_iff_toInt_lt, Int32.le_iff_toInt_le, Int64.lt_iff_toInt_lt, Int64.le_iff_toInt_le, Int32.toInt_toInt64, ← Int32.toInt_inj, ← Int64.toInt_inj, n32_0, n32_1, n32_2, n32_3, n32_4, n32_6, n32_8, n32_9, n32_10, n32_20, n32_100, n32_120, n32_255, n32_400, n32_3600, n32_m1, n64_0, n64_1, n64_2, n64_3, n64_4, n64_5, n64_9, n64_19, n64_119, n64_255, n64_400, n64_3599, n64_1000000000, n64_1000000000000, n64_m1000000000000] at c0 c1 c3 b0 b1 b3 b4 b5 b7 b8)
      first | contradiction | omega
    · intro b0 b1 bt2 be2 bh2 b3 b4 b5 bt6 be6 bh6 b7 b8 bt9 be9 bh9
      obtain rfl : ct2 = bt2 := by have z := nI_inj2 be2 (by omega) (by omega); omega
      exfalso
      clear hI0 hM hX hW hY hT hE hD hU hS hB hG K M27 M28 M29 M30 M31 M32 M33 M34 M35 M36 M37 M38 M39 M40 M41 M42 M43 M44 M45 M46 M47 M48 M49 X0 X1 X2 X3 X4 X5 X6 X7 X8 X9 X10 X11 X12 X13 W0 W1 W2 Y0 Y1 Y2 Y3 Y4 Y5 Y6 Y7 Y8 Y9 K2
      (try simp only [Int32.lt_iff_toInt_lt, Int32.le_iff_toInt_le, Int64.lt_iff_toInt_lt, Int64.le_iff_toInt_le, Int32.toInt_toInt64, ← Int32.toInt_inj, ← Int64.toInt_inj, n32_0, n32_1, n32_2, n32_3, n32_4, n32_6, n32_8, n32_9, n32_10, n32_20, n32_100, n32_120, n32_255, n32_400, n32_3600, n32_m1, n64_0, n64_1, n64_2, n64_3, n64_4, n64_5, n64_9, n64_19, n64_119, n64_255, n64_400, n64_3599, n64_1000000000, n64_1000000000000, n64_m1000000000000] at c0 c1 c3 b0 b1 b3 b4 b5 b7 b8)
      first | contradiction | omega
  · intro c0 c1 ct2 ce2 ch2 c3 c4
    subst ce2
    refine K _ _ ⟨_, M27⟩ (fun Q2 K2 => ?_)
    refine s_X8_share M27 M38 M40 hT20 hP ?_ ?_ ?_ ?_ ?_ ?_ ?_ ?_
    · intro b0
      exfalso
      clear hI0 hM hX hW hY hT hE hD hU hS hB hG K M27 M28 M29 M30 M31 M32 M33 M34 M35 M36 M37 M38 M39 M40 M41 M42 M43 M44 M45 M46 M47 M48 M49 X0 X1 X2 X3 X4 X5 X6 X7 X8 X9 X10 X11 X12 X13 W0 W1 W2 Y0 Y1 Y2 Y3 Y4 Y5 Y6 Y7 Y8 Y9 K2
      (try simp only [Int32.lt_iff_toInt_lt, Int32.le_iff_toInt_le, Int64.lt_iff_toInt_lt, Int64.le_iff_toInt_le, Int32.toInt_toInt64, ← Int32.toInt_inj, ← Int64.toInt_inj, n32_0, n32_1, n32_2, n32_3, n32_4, n32_6, n32_8, n32_9, n32_10, n32_20, n32_100, n32_120, n32_255, n32_400, n32_3600, n32_m1, n64_0, n64_1, n64_2, n64_3, n64_4, n64_5, n64_9, n64_19, n64_119, n64_255, n64_400, n64_3599, n64_1000000000, n64_1000000000000, n64_m1000000000000] at c0 c1 c3 c4 b0)
      first | contradiction | omega
    · intro b0 b1
      exfalso
      clear hI0 hM hX hW hY hT hE hD hU hS hB hG K M27 M28 M29 M30 M31 M32 M33 M34 M35 M36 M37 M38 M39 M40 M41 M42 M43 M44 M45 M46 M47 M48 M49 X0 X1 X2 X3 X4 X5 X6 X7 X8 X9 X10 X11 X12 X13 W0 W1 W2 Y0 Y1 Y2 Y3 Y4 Y5 Y6 Y7 Y8 Y9 K2
      (try simp only [Int32.lt_iff_toInt_lt, Int32.le_iff_toInt_le, Int64.lt_iff_toInt_lt, Int64.le_iff_toInt_le, Int32.toInt_toInt64, ← Int32.toInt_inj, ← Int64.toInt_inj, n32_0, n32_1, n32_2, n32_3, n32_4, n32_6, n32_8, n32_9, n32_10, n32_20, n32_100, n32_120, n32_255, n32_400, n32_3600, n32_m1, n64_0, n64_1, n64_2, n64_3, n64_4, n64_5, n64_9, n64_19, n64_119, n64_255, n64_400, n64_3599, n64_1000000000, n64_1000000000000, n64_m1000000000000] at c0 c1 c3 c4 b0 b1)
      first | contradiction | omega
    · intro b0 b1 bt2 be2 bh2 b3
      obtain rfl : ct2 = bt2 := by have z := nI_inj2 be2 (by omega) (by omega); omega
      exfalso
      clear hI0 hM hX hW hY hT hE hD hU hS hB hG K M27 M28 M29 M30 M31 M32 M33 M34 M35 M36 M37 M38 M39 M40 M41 M42 M43 M44 M45 M46 M47 M48 M49 X0 X1 X2 X3 X4 X5 X6 X7 X8 X9 X10 X11 X12 X13 W0 W1 W2 Y0 Y1 Y2 Y3 Y4 Y5 Y6 Y7 Y8 Y9 K2
      (try simp only [Int32.lt_iff_toInt_lt, Int32.le_iff_toInt_le, Int64.lt_iff_toInt_lt, Int64.le_iff_toInt_le, Int32.toInt_toInt64, ← Int32.toInt_inj, ← Int64.toInt_inj, n32_0, n32_1, n32_2, n32_3, n32_4, n32_6, n32_8, n32_9, n32_10, n32_20, n32_100, n32_120, n32_255, n32_400, n32_3600, n32_m1, n64_0, n64_1, n64_2, n64_3, n64_4, n64_5, n64_9, n64_19, n64_119, n64_255, n64_400, n64_3599, n64_1000000000, n64_1000000000000, n64_m1000000000000] at c0 c1 c3 c4 b0 b1 b3)
      first | contradiction | omega
    · intro b0 b1 bt2 be2 bh2 b3 b4
      obtain rfl : ct2 = bt2 := by have z := nI_inj2 be2 (by omega) (by omega); omega
      exact K2 _ (iV_up hI0)
    · intro b0 b1 bt2 be2 bh2 b3 b4 b5
      obtain rfl : ct2 = bt2 := by have z := nI_inj2 be2 (by omega) (by omega); omega
      exfalso
      clear hI0 hM hX hW hY hT hE hD hU hS hB hG K M27 M28 M29 M30 M31 M32 M33 M34 M35 M36 M37 M38 M39 M40 M41 M42 M43 M44 M45 M46 M47 M48 M49 X0 X1 X2 X3 X4 X5 X6 X7 X8 X9 X10 X11 X12 X13 W0 W1 W2 Y0 Y1 Y2 Y3 Y4 Y5 Y6 Y7 Y8 Y9 K2
      (try simp only [Int32.lt_iff_toInt_lt, Int32.le_iff_toInt_le, Int64.lt_iff_toInt_lt, Int64.le_iff_toInt_le, Int32.toInt_toInt64, ← Int32.toInt_inj, ← Int64.toInt_inj, n32_0, n32_1, n32_2, n32_3, n32_4, n32_6, n32_8, n32_9, n32_10, n32_20, n32_100, n32_120, n32_255, n32_400, n32_3600, n32_m1, n64_0, n64_1, n64_2, n64_3, n64_4, n64_5, n64_9, n64_19, n64_119, n64_255, n64_400, n64_3599, n64_1000000000, n64_1000000000000, n64_m1000000000000] at c0 c1 c3 c4 b0 b1 b3 b4 b5)
      first | contradiction | omega
    · intro b0 b1 bt2 be2 bh2 b3 b4 b5 bt6 be6 bh6 b7
      obtain rfl : ct2 = bt2 := by have z := nI_inj2 be2 (by omega) (by omega); omega
      exfalso
      clear hI0 hM hX hW hY hT hE hD hU hS hB hG K M27 M28 M29 M30 M31 M32 M33 M34 M35 M36 M37 M38 M39 M40 M41 M42 M43 M44 M45 M46 M47 M48 M49 X0 X1 X2 X3 X4 X5 X6 X7 X8 X9 X10 X11 X12 X13 W0 W1 W2 Y0 Y1 Y2 Y3 Y4 Y5 Y6 Y7 Y8 Y9 K2
      (try simp only [Int32.lt_iff_toInt_lt, Int32.le_iff_toInt_le, Int64.lt_iff_toInt_lt, Int64.le_iff_toInt_le, Int32.toInt_toInt64, ← Int32.toInt_inj, ← Int64.toInt_inj, n32_0, n32_1, n32_2, n32_3, n32_4, n32_6, n32_8, n32_9, n32_10, n32_20, n32_100, n32_120, n32_255, n32_400, n32_3600, n32_m1, n64_0, n64_1, n64_2, n64_3, n64_4, n64_5, n64_9, n64_19, n64_119, n64_255, n64_400, n64_3599, n64_1000000000, n64_1000000000000, n64_m1000000000000] at c0 c1 c3 c4 b0 b1 b3 b4 b5 b7)
      first | contradiction | omega
    · intro b0 b1 bt2 be2 bh2 b3 b4 b5 bt6 be6 bh6 b7 b8
      obtain rfl : ct2 = bt2 := by have z := nI_inj2 be2 (by omega) (by omega); omega
      exfalso
      clear hI0 hM hX hW hY hT hE hD hU hS hB hG K M27 M28 M29 M30 M31 M32 M33 M34 M35 M36 M37 M38 M39 M40 M41 M42 M43 M44 M45 M46 M47 M48 M49 X0 X1 X2 X3 X4 X5 X6 X7 X8 X9 X10 X11 X12 X13 W0 W1 W2 Y0 Y1 Y2 Y3 Y4 Y5 Y6 Y7 Y8 Y9 K2
      (try simp only [Int32.lt_iff_toInt_lt, Int32.le_iff_toInt_le, Int64.lt_iff_toInt_lt, Int64.le_iff_toInt_le, Int32.toInt_toInt64, ← Int32.toInt_inj, ← Int64.toInt_inj, n32_0, n32_1, n32_2, n32_3, n32_4, n32_6, n32_8, n32_9, n32_10, n32_20, n32_100, n32_120, n32_255, n32_400, n32_3600, n32_m1, n64_0, n64_1, n64_2, n64_3, n64_4, n64_5, n64_9, n64_19, n64_119, n64_255, n64_400, n64_3599, n64_1000000000, n64_1000000000000, n64_m1000000000000] at c0 c1 c3 c4 b0 b1 b3 b4 b5 b7 b8)
      first | contradiction | omega
    · intro b0 b1 bt2 be2 bh2 b3 b4 b5 bt6 be6 bh6 b7 b8 bt9 be9 bh9
      obtain rfl : ct2 = bt2 := by have z := nI_inj2 be2 (by omega) (by omega); omega
      exfalso
      clear hI0 hM hX hW hY hT hE hD hU hS hB hG K M27 M28 M29 M30 M31 M32 M33 M34 M35 M36 M37 M38 M39 M40 M41 M42 M43 M44 M45 M46 M47 M48 M49 X0 X1 X2 X3 X4 X5 X6 X7 X8 X9 X10 X11 X12 X13 W0 W1 W2 Y0 Y1 Y2 Y3 Y4 Y5 Y6 Y7 Y8 Y9 K2
      (try simp only [Int32.lt_iff_toInt_lt, Int32.le_iff_toInt_le, Int64.lt_iff_toInt_lt, Int64.le_iff_toInt_le, Int32.toInt_toInt64, ← Int32.toInt_inj, ← Int64.toInt_inj, n32_0, n32_1, n32_2, n32_3, n32_4, n32_6, n32_8, n32_9, n32_10, n32_20, n32_100, n32_120, n32_255, n32_400, n32_3600, n32_m1, n64_0, n64_1, n64_2, n64_3, n64_4, n64_5, n64_9, n64_19, n64_119, n64_255, n64_400, n64_3599, n64_1000000000, n64_1000000000000, n64_m1000000000000] at c0 c1 c3 c4 b0 b1 b3 b4 b5 b7 b8)
      first | contradiction | omega
  · intro c0 c1 ct2 ce2 ch2 c3 c4 c5
    subst ce2
    refine K _ _ ⟨_, M27⟩ (fun Q2 K2 => ?_)
    refine s_X8_share M27 M38 M40 hT20 hP ?_ ?_ ?_ ?_ ?_ ?_ ?_ ?_
    · intro b0
      exfalso
      clear hI0 hM hX hW hY hT hE hD hU hS hB hG K M27 M28 M29 M30 M31 M32 M33 M34 M35 M36 M37 M38 M39 M40 M41 M42 M43 M44 M45 M46 M47 M48 M49 X0 X1 X2 X3 X4 X5 X6 X7 X8 X9 X10 X11 X12 X13 W0 W1 W2 Y0 Y1 Y2 Y3 Y4 Y5 Y6 Y7 Y8 Y9 K2
      (try simp only [Int32.lt_iff_toInt_lt, Int32.le_iff_toInt_le, Int64.lt_iff_toInt_lt, Int64.le_iff_toInt_le, Int32.toInt_toInt64, ← Int32.toInt_inj, ← Int64.toInt_inj, n32_0, n32_1, n32_2, n32_3, n32_4, n32_6, n32_8, n32_9, n32_10, n32_20, n32_100, n32_120, n32_255, n32_400, n32_3600, n32_m1, n64_0, n64_1, n64_2, n64_3, n64_4, n64_5, n64_9, n64_19, n64_119, n64_255, n64_400, n64_3599, n64_1000000000, n64_1000000000000, n64_m1000000000000] at c0 c1 c3 c4 c5 b0)
      first | contradiction | omega
    · intro b0 b1
      exfalso
      clear hI0 hM hX hW hY hT hE hD hU hS hB hG K M27 M28 M29 M30 M31 M32 M33 M34 M35 M36 M37 M38 M39 M40 M41 M42 M43 M44 M45 M46 M47 M48 M49 X0 X1 X2 X3 X4 X5 X6 X7 X8 X9 X10 X11 X12 X13 W0 W1 W2 Y0 Y1 Y2 Y3 Y4 Y5 Y6 Y7 Y8 Y9 K2
      (try simp only [Int32.lt_iff_toInt_lt, Int32.le_iff_toInt_le, Int64.lt_iff_toInt_lt, Int64.le_iff_toInt_le, Int32.toInt_toInt64, ← Int32.toInt_inj, ← Int64.toInt_inj, n32_0, n32_1, n32_2, n32_3, n32_4, n32_6, n32_8, n32_9, n32_10, n32_20, n32_100, n32_120, n32_255, n32_400, n32_3600, n32_m1, n64_0, n64_1, n64_2, n64_3, n64_4, n64_5, n64_9, n64_19, n64_119, n64_255, n64_400, n64_3599, n64_1000000000, n64_1000000000000, n64_m1000000000000] at c0 c1 c3 c4 c5 b0 b1)
      first | contradiction | omega
    · intro b0 b1 bt2 be2 bh2 b3
      obtain rfl : ct2 = bt2 := by have z := nI_inj2 be2 (by omega) (by omega); omega
      exfalso
      clear hI0 hM hX hW hY hT hE hD hU hS hB hG K M27 M28 M29 M30 M31 M32 M33 M34 M35 M36 M37 M38 M39 M40 M41 M42 M43 M44 M45 M46 M47 M48 M49 X0 X1 X2 X3 X4 X5 X6 X7 X8 X9 X10 X11 X12 X13 W0 W1 W2 Y0 Y1 Y2 Y3 Y4 Y5 Y6 Y7 Y8 Y9 K2
      (try simp only [Int32.lt_iff_toInt_lt, Int32.le_iff_toInt_le, Int64.lt_iff_toInt_lt, Int64.le_iff_toInt_le, Int32.toInt_toInt64, ← Int32.toInt_inj, ← Int64.toInt_inj, n32_0, n32_1, n32_2, n32_3, n32_4, n32_6, n32_8, n32_9, n32_10, n32_20, n32_100, n32_120, n32_255, n32_400, n32_3600, n32_m1, n64_0, n64_1, n64_2, n64_3, n64_4, n64_5, n64_9, n64_19, n64_119, n64_255, n64_400, n64_3599, n64_1000000000, n64_1000000000000, n64_m1000000000000] at c0 c1 c3 c4 c5 b0 b1 b3)
      first | contradiction | omega
    · intro b0 b1 bt2 be2 bh2 b3 b4
      obtain rfl : ct2 = bt2 := by have z := nI_inj2 be2 (by omega) (by omega); omega
      exfalso
      clear hI0 hM hX hW hY hT hE hD hU hS hB hG K M27 M28 M29 M30 M31 M32 M33 M34 M35 M36 M37 M38 M39 M40 M41 M42 M43 M44 M45 M46 M47 M48 M49 X0 X1 X2 X3 X4 X5 X6 X7 X8 X9 X10 X11 X12 X13 W0 W1 W2 Y0 Y1 Y2 Y3 Y4 Y5 Y6 Y7 Y8 Y9 K2
      (try simp only [Int32.lt_iff_toInt_lt, Int32.le_iff_toInt_le, Int64.lt_iff_toInt_lt, Int64.le_iff_toInt_le, Int32.toInt_toInt64, ← Int32.toInt_inj, ← Int64.toInt_inj, n32_0, n32_1, n32_2, n32_3, n32_4, n32_6, n32_8, n32_9, n32_10, n32_20, n32_100, n32_120, n32_255, n32_400, n32_3600, n32_m1, n64_0, n64_1, n64_2, n64_3, n64_4, n64_5, n64_9, n64_19, n64_119, n64_255, n64_400, n64_3599, n64_1000000000, n64_1000000000000, n64_m1000000000000] at c0 c1 c3 c4 c5 b0 b1 b3 b4)
      first | contradiction | omega
    · intro b0 b1 bt2 be2 bh2 b3 b4 b5
      obtain rfl : ct2 = bt2 := by have z := nI_inj2 be2 (by omega) (by omega); omega
      exact K2 _ (iV_up hI0)
    · intro b0 b1 bt2 be2 bh2 b3 b4 b5 bt6 be6 bh6 b7
      obtain rfl : ct2 = bt2 := by have z := nI_inj2 be2 (by omega) (by omega); omega
      exfalso
      clear hI0 hM hX hW hY hT hE hD hU hS hB hG K M27 M28 M29 M30 M31 M32 M33 M34 M35 M36 M37 M38 M39 M40 M41 M42 M43 M44 M45 M46 M47 M48 M49 X0 X1 X2 X3 X4 X5 X6 X7 X8 X9 X10 X11 X12 X13 W0 W1 W2 Y0 Y1 Y2 Y3 Y4 Y5 Y6 Y7 Y8 Y9 K2
      (try simp only [Int32.lt_iff_toInt_lt, Int32.le_iff_toInt_le, Int64.lt_iff_toInt_lt, Int64.le_iff_toInt_le, Int32.toInt_toInt64, ← Int32.toInt_inj, ← Int64.toInt_inj, n32_0, n32_1, n32_2, n32_3, n32_4, n32_6, n32_8, n32_9, n32_10, n32_20, n32_100, n32_120, n32_255, n32_400, n32_3600, n32_m1, n64_0, n64_1, n64_2, n64_3, n64_4, n64_5, n64_9, n64_19, n64_119, n64_255, n64_400, n64_3599, n64_1000000000, n64_1000000000000, n64_m1000000000000] at c0 c1 c3 c4 c5 b0 b1 b3 b4 b5 b7)
      first | contradiction | omega
    · intro b0 b1 bt2 be2 bh2 b3 b4 b5 bt6 be6 bh6 b7 b8
      obtain rfl : ct2 = bt2 := by have z := nI_inj2 be2 (by omega) (by omega); omega
      exfalso
      clear hI0 hM hX hW hY hT hE hD hU hS hB hG K M27 M28 M29 M30 M31 M32 M33 M34 M35 M36 M37 M38 M39 M40 M41 M42 M43 M44 M45 M46 M47 M48 M49 X0 X1 X2 X3 X4 X5 X6 X7 X8 X9 X10 X11 X12 X13 W0 W1 W2 Y0 Y1 Y2 Y3 Y4 Y5 Y6 Y7 Y8 Y9 K2
      (try simp only [Int32.lt_iff_toInt_lt, Int32.le_iff_toInt_le, Int64.lt_iff_toInt_lt, Int64.le_iff_toInt_le, Int32.toInt_toInt64, ← Int32.toInt_inj, ← Int64.toInt_inj, n32_0, n32_1, n32_2, n32_3, n32_4, n32_6, n32_8, n32_9, n32_10, n32_20, n32_100, n32_120, n32_255, n32_400, n32_3600, n32_m1, n64_0, n64_1, n64_2, n64_3, n64_4, n64_5, n64_9, n64_19, n64_119, n64_255, n64_400, n64_3599, n64_1000000000, n64_1000000000000, n64_m1000000000000] at c0 c1 c3 c4 c5 b0 b1 b3 b4 b5 b7 b8)
      first | contradiction | omega
    · intro b0 b1 bt2 be2 bh2 b3 b4 b5 bt6 be6 bh6 b7 b8 bt9 be9 bh9
      obtain rfl : ct2 = bt2 := by have z := nI_inj2 be2 (by omega) (by omega); omega
      exfalso
      clear hI0 hM hX hW hY hT hE hD hU hS hB hG K M27 M28 M29 M30 M31 M32 M33 M34 M35 M36 M37 M38 M39 M40 M41 M42 M43 M44 M45 M46 M47 M48 M49 X0 X1 X2 X3 X4 X5 X6 X7 X8 X9 X10 X11 X12 X13 W0 W1 W2 Y0 Y1 Y2 Y3 Y4 Y5 Y6 Y7 Y8 Y9 K2
      (try simp only [Int32.lt_iff_toInt_lt, Int32.le_iff_toInt_le, Int64.lt_iff_toInt_lt, Int64.le_iff_toInt_le, Int32.toInt_toInt64, ← Int32.toInt_inj, ← Int64.toInt_inj, n32_0, n32_1, n32_2, n32_3, n32_4, n32_6, n32_8, n32_9, n32_10, n32_20, n32_100, n32_120, n32_255, n32_400, n32_3600, n32_m1, n64_0, n64_1, n64_2, n64_3, n64_4, n64_5, n64_9, n64_19, n64_119, n64_255, n64_400, n64_3599, n64_1000000000, n64_1000000000000, n64_m1000000000000] at c0 c1 c3 c4 c5 b0 b1 b3 b4 b5 b7 b8)
      first | contradiction | omega
  · intro c0 c1 ct2 ce2 ch2 c3 c4 c5 c6
    subst ce2
    refine K _ _ ⟨_, M27⟩ (fun Q2 K2 => ?_)
    refine s_X8_share M27 M38 M40 hT20 hP ?_ ?_ ?_ ?_ ?_ ?_ ?_ ?_
    · intro b0
      exfalso
      clear hI0 hM hX hW hY hT hE hD hU hS hB hG K M27 M28 M29 M30 M31 M32 M33 M34 M35 M36 M37 M38 M39 M40 M41 M42 M43 M44 M45 M46 M47 M48 M49 X0 X1 X2 X3 X4 X5 X6 X7 X8 X9 X10 X11 X12 X13 W0 W1 W2 Y0 Y1 Y2 Y3 Y4 Y5 Y6 Y7 Y8 Y9 K2
      (try simp only [Int32.lt_iff_toInt_lt, Int32.le_iff_toInt_le, Int64.lt_iff_toInt_lt, Int64.le_iff_toInt_le, Int32.toInt_toInt64, ← Int32.toInt_inj, ← Int64.toInt_inj, n32_0, n32_1, n32_2, n32_3, n32_4, n32_6, n32_8, n32_9, n32_10, n32_20, n32_100, n32_120, n32_255, n32_400, n32_3600, n32_m1, n64_0, n64_1, n64_2, n64_3, n64_4, n64_5, n64_9, n64_19, n64_119, n64_255, n64_400, n64_3599, n64_1000000000, n64_1000000000000, n64_m1000000000000] at c0 c1 c3 c4 c5 c6 b0)
      first | contradiction | omega
    · intro b0 b1
      exfalso
      clear hI0 hM hX hW hY hT hE hD hU hS hB hG K M27 M28 M29 M30 M31 M32 M33 M34 M35 M36 M37 M38 M39 M40 M41 M42 M43 M44 M45 M46 M47 M48 M49 X0 X1 X2 X3 X4 X5 X6 X7 X8 X9 X10 X11 X12 X13 W0 W1 W2 Y0 Y1 Y2 Y3 Y4 Y5 Y6 Y7 Y8 Y9 K2
      (try simp only [Int32.lt_iff_toInt_lt, Int32.le_iff_toInt_le, Int64.lt_iff_toInt_lt, Int64.le_iff_toInt_le, Int32.toInt_toInt64, ← Int32.toInt_inj, ← Int64.toInt_inj, n32_0, n32_1, n32_2, n32_3, n32_4, n32_6, n32_8, n32_9, n32_10, n32_20, n32_100, n32_120, n32_255, n32_400, n32_3600, n32_m1, n64_0, n64_1, n64_2, n64_3, n64_4, n64_5, n64_9, n64_19, n64_119, n64_255, n64_400, n64_3599, n64_1000000000, n64_1000000000000, n64_m1000000000000] at c0 c1 c3 c4 c5 c6 b0 b1)
      first | contradiction | omega
    · intro b0 b1 bt2 be2 bh2 b3
      obtain rfl : ct2 = bt2 := by have z := nI_inj2 be2 (by omega) (by omega); omega
      exfalso
      clear hI0 hM hX hW hY hT hE hD hU hS hB hG K M27 M28 M29 M30 M31 M32 M33 M34 M35 M36 M37 M38 M39 M40 M41 M42 M43 M44 M45 M46 M47 M48 M49 X0 X1 X2 X3 X4 X5 X6 X7 X8 X9 X10 X11 X12 X13 W0 W1 W2 Y0 Y1 Y2 Y3 Y4 Y5 Y6 Y7 Y8 Y9 K2
      (try simp only [Int32.lt_iff_toInt_lt, Int32.le_iff_toInt_le, Int64.lt_iff_toInt_lt, Int64.le_iff_toInt_le, Int32.toInt_toInt64, ← Int32.toInt_inj, ← Int64.toInt_inj, n32_0, n32_1, n32_2, n32_3, n32_4, n32_6, n32_8, n32_9, n32_10, n32_20, n32_100, n32_120, n32_255, n32_400, n32_3600, n32_m1, n64_0, n64_1, n64_2, n64_3, n64_4, n64_5, n64_9, n64_19, n64_119, n64_255, n64_400, n64_3599, n64_1000000000, n64_1000000000000, n64_m1000000000000] at c0 c1 c3 c4 c5 c6 b0 b1 b3)
      first | contradiction | omega
    · intro b0 b1 bt2 be2 bh2 b3 b4
      obtain rfl : ct2 = bt2 := by have z := nI_inj2 be2 (by omega) (by omega); omega
      exfalso
      clear hI0 hM hX hW hY hT hE hD hU hS hB hG K M27 M28 M29 M30 M31 M32 M33 M34 M35 M36 M37 M38 M39 M40 M41 M42 M43 M44 M45 M46 M47 M48 M49 X0 X1 X2 X3 X4 X5 X6 X7 X8 X9 X10 X11 X12 X13 W0 W1 W2 Y0 Y1 Y2 Y3 Y4 Y5 Y6 Y7 Y8 Y9 K2
      (try simp only [Int32.lt_iff_toInt_lt, Int32.le_iff_toInt_le, Int64.lt_iff_toInt_lt, Int64.le_iff_toInt_le, Int32.toInt_toInt64, ← Int32.toInt_inj, ← Int64.toInt_inj, n32_0, n32_1, n32_2, n32_3, n32_4, n32_6, n32_8, n32_9, n32_10, n32_20, n32_100, n32_120, n32_255, n32_400, n32_3600, n32_m1, n64_0, n64_1, n64_2, n64_3, n64_4, n64_5, n64_9, n64_19, n64_119, n64_255, n64_400, n64_3599, n64_1000000000, n64_1000000000000, n64_m1000000000000] at c0 c1 c3 c4 c5 c6 b0 b1 b3 b4)
      first | contradiction | omega
    · intro b0 b1 bt2 be2 bh2 b3 b4 b5
      obtain rfl : ct2 = bt2 := by have z := nI_inj2 be2 (by omega) (by omega); omega
      exfalso
      clear hI0 hM hX hW hY hT hE hD hU hS hB hG K M27 M28 M29 M30 M31 M32 M33 M34 M35 M36 M37 M38 M39 M40 M41 M42 M43 M44 M45 M46 M47 M48 M49 X0 X1 X2 X3 X4 X5 X6 X7 X8 X9 X10 X11 X12 X13 W0 W1 W2 Y0 Y1 Y2 Y3 Y4 Y5 Y6 Y7 Y8 Y9 K2
      (try simp only [Int32.lt_iff_toInt_lt, Int32.le_iff_toInt_le, Int64.lt_iff_toInt_lt, Int64.le_iff_toInt_le, Int32.toInt_toInt64, ← Int32.toInt_inj, ← Int64.toInt_inj, n32_0, n32_1, n32_2, n32_3, n32_4, n32_6, n32_8, n32_9, n32_10, n32_20, n32_100, n32_120, n32_255, n32_400, n32_3600, n32_m1, n64_0, n64_1, n64_2, n64_3, n64_4, n64_5, n64_9, n64_19, n64_119, n64_255, n64_400, n64_3599, n64_1000000000, n64_1000000000000, n64_m1000000000000] at c0 c1 c3 c4 c5 c6 b0 b1 b3 b4 b5)
      first | contradiction | omega
    · intro b0 b1 bt2 be2 bh2 b3 b4 b5 bt6 be6 bh6 b7
      obtain rfl : ct2 = bt2 := by have z := nI_inj2 be2 (by omega) (by omega); omega
      exact K2 _ (iV_up hI0)
    · intro b0 b1 bt2 be2 bh2 b3 b4 b5 bt6 be6 bh6 b7 b8
      obtain rfl : ct2 = bt2 := by have z := nI_inj2 be2 (by omega) (by omega); omega
      exfalso
      clear hI0 hM hX hW hY hT hE hD hU hS hB hG K M27 M28 M29 M30 M31 M32 M33 M34 M35 M36 M37 M38 M39 M40 M41 M42 M43 M44 M45 M46 M47 M48 M49 X0 X1 X2 X3 X4 X5 X6 X7 X8 X9 X10 X11 X12 X13 W0 W1 W2 Y0 Y1 Y2 Y3 Y4 Y5 Y6 Y7 Y8 Y9 K2
      (try simp only [Int32.lt_iff_toInt_lt, Int32.le_iff_toInt_le, Int64.lt_iff_toInt_lt, Int64.le_iff_toInt_le, Int32.toInt_toInt64, ← Int32.toInt_inj, ← Int64.toInt_inj, n32_0, n32_1, n32_2, n32_3, n32_4, n32_6, n32_8, n32_9, n32_10, n32_20, n32_100, n32_120, n32_255, n32_400, n32_3600, n32_m1, n64_0, n64_1, n64_2, n64_3, n64_4, n64_5, n64_9, n64_19, n64_119, n64_255, n64_400, n64_3599, n64_1000000000, n64_1000000000000, n64_m1000000000000] at c0 c1 c3 c4 c5 c6 b0 b1 b3 b4 b5 b7 b8)
      first | contradiction | omega
    · intro b0 b1 bt2 be2 bh2 b3 b4 b5 bt6 be6 bh6 b7 b8 bt9 be9 bh9
      obtain rfl : ct2 = bt2 := by have z := nI_inj2 be2 (by omega) (by omega); omega
      exfalso
      clear hI0 hM hX hW hY hT hE hD hU hS hB hG K M27 M28 M29 M30 M31 M32 M33 M34 M35 M36 M37 M38 M39 M40 M41 M42 M43 M44 M45 M46 M47 M48 M49 X0 X1 X2 X3 X4 X5 X6 X7 X8 X9 X10 X11 X12 X13 W0 W1 W2 Y0 Y1 Y2 Y3 Y4 Y5 Y6 Y7 Y8 Y9 K2
      (try simp only [Int32.lt_iff_toInt_lt, Int32.le_iff_toInt_le, Int64.lt_iff_toInt_lt, Int64.le_iff_toInt_le, Int32.toInt_toInt64, ← Int32.toInt_inj, ← Int64.toInt_inj, n32_0, n32_1, n32_2, n32_3, n32_4, n32_6, n32_8, n32_9, n32_10, n32_20, n32_100, n32_120, n32_255, n32_400, n32_3600, n32_m1, n64_0, n64_1, n64_2, n64_3, n64_4, n64_5, n64_9, n64_19, n64_119, n64_255, n64_400, n64_3599, n64_1000000000, n64_1000000000000, n64_m1000000000000] at c0 c1 c3 c4 c5 c6 b0 b1 b3 b4 b5 b7 b8)
      first | contradiction | omega
  · intro c0 c1 ct2 ce2 ch2 c3 c4 c5 c6 c7 ct8 ce8 ch8 ct9 ce9 ch9
    subst ce2
    subst ce8
    subst ce9
    refine K _ _ ⟨_, M27⟩ (fun Q2 K2 => ?_)
    refine s_X8_share M27 M38 M40 hT20 hP ?_ ?_ ?_ ?_ ?_ ?_ ?_ ?_
    · intro b0
      exfalso
      clear hI0 hM hX hW hY hT hE hD hU hS hB hG K M27 M28 M29 M30 M31 M32 M33 M34 M35 M36 M37 M38 M39 M40 M41 M42 M43 M44 M45 M46 M47 M48 M49 X0 X1 X2 X3 X4 X5 X6 X7 X8 X9 X10 X11 X12 X13 W0 W1 W2 Y0 Y1 Y2 Y3 Y4 Y5 Y6 Y7 Y8 Y9 K2
      (try simp only [Int32.lt_iff_toInt_lt, Int32.le_iff_toInt_le, Int64.lt_iff_toInt_lt, Int64.le_iff_toInt_le, Int32.toInt_toInt64, ← Int32.toInt_inj, ← Int64.toInt_inj, n32_0, n32_1, n32_2, n32_3, n32_4, n32_6, n32_8, n32_9, n32_10, n32_20, n32_100, n32_120, n32_255, n32_400, n32_3600, n32_m1, n64_0, n64_1, n64_2, n64_3, n64_4, n64_5, n64_9, n64_19, n64_119, n64_255, n64_400, n64_3599, n64_1000000000, n64_1000000000000, n64_m1000000000000] at c0 c1 c3 c4 c5 c6 c7 b0)
      first | contradiction | omega
    · intro b0 b1
      exfalso
      clear hI0 hM hX hW hY hT hE hD hU hS hB hG K M27 M28 M29 M30 M31 M32 M33 M34 M35 M36 M37 M38 M39 M40 M41 M42 M43 M44 M45 M46 M47 M48 M49 X0 X1 X2 X3 X4 X5 X6 X7 X8 X9 X10 X11 X12 X13 W0 W1 W2 Y0 Y1 Y2 Y3 Y4 Y5 Y6 Y7 Y8 Y9 K2
      (try simp only [Int32.lt_iff_toInt_lt, Int32.le_iff_toInt_le, Int64.lt_iff_toInt_lt, Int64.le_iff_toInt_le, Int32.toInt_toInt64, ← Int32.toInt_inj, ← Int64.toInt_inj, n32_0, n32_1, n32_2, n32_3, n32_4, n32_6, n32_8, n32_9, n32_10, n32_20, n32_100, n32_120, n32_255, n32_400, n32_3600, n32_m1, n64_0, n64_1, n64_2, n64_3, n64_4, n64_5, n64_9, n64_19, n64_119, n64_255, n64_400, n64_3599, n64_1000000000, n64_1000000000000, n64_m1000000000000] at c0 c1 c3 c4 c5 c6 c7 b0 b1)
      first | contradiction | omega
    · intro b0 b1 bt2 be2 bh2 b3
      obtain rfl : ct2 = bt2 := by have z := nI_inj2 be2 (by omega) (by omega); omega
      exfalso
      clear hI0 hM hX hW hY hT hE hD hU hS hB hG K M27 M28 M29 M30 M31 M32 M33 M34 M35 M36 M37 M38 M39 M40 M41 M42 M43 M44 M45 M46 M47 M48 M49 X0 X1 X2 X3 X4 X5 X6 X7 X8 X9 X10 X11 X12 X13 W0 W1 W2 Y0 Y1 Y2 Y3 Y4 Y5 Y6 Y7 Y8 Y9 K2
      (try simp only [Int32.lt_iff_toInt_lt, Int32.le_iff_toInt_le, Int64.lt_iff_toInt_lt, Int64.le_iff_toInt_le, Int32.toInt_toInt64, ← Int32.toInt_inj, ← Int64.toInt_inj, n32_0, n32_1, n32_2, n32_3, n32_4, n32_6, n32_8, n32_9, n32_10, n32_20, n32_100, n32_120, n32_255, n32_400, n32_3600, n32_m1, n64_0, n64_1, n64_2, n64_3, n64_4, n64_5, n64_9, n64_19, n64_119, n64_255, n64_400, n64_3599, n64_1000000000, n64_1000000000000, n64_m1000000000000] at c0 c1 c3 c4 c5 c6 c7 b0 b1 b3)
      first | contradiction | omega
    · intro b0 b1 bt2 be2 bh2 b3 b4
      obtain rfl : ct2 = bt2 := by have z := nI_inj2 be2 (by omega) (by omega); omega
      exfalso
      clear hI0 hM hX hW hY hT hE hD hU hS hB hG K M27 M28 M29 M30 M31 M32 M33 M34 M35 M36 M37 M38 M39 M40 M41 M42 M43 M44 M45 M46 M47 M48 M49 X0 X1 X2 X3 X4 X5 X6 X7 X8 X9 X10 X11 X12 X13 W0 W1 W2 Y0 Y1 Y2 Y3 Y4 Y5 Y6 Y7 Y8 Y9 K2
      (try simp only [Int32.lt_iff_toInt_lt, Int32.le_iff_toInt_le, Int64.lt_iff_toInt_lt, Int64.le_iff_toInt_le, Int32.toInt_toInt64, ← Int32.toInt_inj, ← Int64.toInt_inj, n32_0, n32_1, n32_2, n32_3, n32_4, n32_6, n32_8, n32_9, n32_10, n32_20, n32_100, n32_120, n32_255, n32_400, n32_3600, n32_m1, n64_0, n64_1, n64_2, n64_3, n64_4, n64_5, n64_9, n64_19, n64_119, n64_255, n64_400, n64_3599, n64_1000000000, n64_1000000000000, n64_m1000000000000] at c0 c1 c3 c4 c5 c6 c7 b0 b1 b3 b4)
      first | contradiction | omega
    · intro b0 b1 bt2 be2 bh2 b3 b4 b5
      obtain rfl : ct2 = bt2 := by have z := nI_inj2 be2 (by omega) (by omega); omega
      exfalso
      clear hI0 hM hX hW hY hT hE hD hU hS hB hG K M27 M28 M29 M30 M31 M32 M33 M34 M35 M36 M37 M38 M39 M40 M41 M42 M43 M44 M45 M46 M47 M48 M49 X0 X1 X2 X3 X4 X5 X6 X7 X8 X9 X10 X11 X12 X13 W0 W1 W2 Y0 Y1 Y2 Y3 Y4 Y5 Y6 Y7 Y8 Y9 K2
      (try simp only [Int32.lt_iff_toInt_lt, Int32.le_iff_toInt_le, Int64.lt_iff_toInt_lt, Int64.le_iff_toInt_le, Int32.toInt_toInt64, ← Int32.toInt_inj, ← Int64.toInt_inj, n32_0, n32_1, n32_2, n32_3, n32_4, n32_6, n32_8, n32_9, n32_10, n32_20, n32_100, n32_120, n32_255, n32_400, n32_3600, n32_m1, n64_0, n64_1, n64_2, n64_3, n64_4, n64_5, n64_9, n64_19, n64_119, n64_255, n64_400, n64_3599, n64_1000000000, n64_1000000000000, n64_m1000000000000] at c0 c1 c3 c4 c5 c6 c7 b0 b1 b3 b4 b5)
      first | contradiction | omega
    · intro b0 b1 bt2 be2 bh2 b3 b4 b5 bt6 be6 bh6 b7
      obtain rfl : ct2 = bt2 := by have z := nI_inj2 be2 (by omega) (by omega); omega
      obtain rfl : ct9 = bt6 := by have z := nI_inj2 be6 (by omega) (by omega); omega
      exfalso
      clear hI0 hM hX hW hY hT hE hD hU hS hB hG K M27 M28 M29 M30 M31 M32 M33 M34 M35 M36 M37 M38 M39 M40 M41 M42 M43 M44 M45 M46 M47 M48 M49 X0 X1 X2 X3 X4 X5 X6 X7 X8 X9 X10 X11 X12 X13 W0 W1 W2 Y0 Y1 Y2 Y3 Y4 Y5 Y6 Y7 Y8 Y9 K2
      (try simp only [Int32.lt_iff_toInt_lt, Int32.le_iff_toInt_le, Int64.lt_iff_toInt_lt, Int64.le_iff_toInt_le, Int32.toInt_toInt64, ← Int32.toInt_inj, ← Int64.toInt_inj, n32_0, n32_1, n32_2, n32_3, n32_4, n32_6, n32_8, n32_9, n32_10, n32_20, n32_100, n32_120, n32_255, n32_400, n32_3600, n32_m1, n64_0, n64_1, n64_2, n64_3, n64_4, n64_5, n64_9, n64_19, n64_119, n64_255, n64_400, n64_3599, n64_1000000000, n64_1000000000000, n64_m1000000000000] at c0 c1 c3 c4 c5 c6 c7 b0 b1 b3 b4 b5 b7)
      first | contradiction | omega
    · intro b0 b1 bt2 be2 bh2 b3 b4 b5 bt6 be6 bh6 b7 b8
      obtain rfl : ct2 = bt2 := by have z := nI_inj2 be2 (by omega) (by omega); omega
      obtain rfl : ct9 = bt6 := by have z := nI_inj2 be6 (by omega) (by omega); omega
      exfalso
      clear hI0 hM hX hW hY hT hE hD hU hS hB hG K M27 M28 M29 M30 M31 M32 M33 M34 M35 M36 M37 M38 M39 M40 M41 M42 M43 M44 M45 M46 M47 M48 M49 X0 X1 X2 X3 X4 X5 X6 X7 X8 X9 X10 X11 X12 X13 W0 W1 W2 Y0 Y1 Y2 Y3 Y4 Y5 Y6 Y7 Y8 Y9 K2
      (try simp only [Int32.lt_iff_toInt_lt, Int32.le_iff_toInt_le, Int64.lt_iff_toInt_lt, Int64.le_iff_toInt_le, Int32.toInt_toInt64, ← Int32.toInt_inj, ← Int64.toInt_inj, n32_0, n32_1, n32_2, n32_3, n32_4, n32_6, n32_8, n32_9, n32_10, n32_20, n32_100, n32_120, n32_255, n32_400, n32_3600, n32_m1, n64_0, n64_1, n64_2, n64_3, n64_4, n64_5, n64_9, n64_19, n64_119, n64_255, n64_400, n64_3599, n64_1000000000, n64_1000000000000, n64_m1000000000000] at c0 c1 c3 c4 c5 c6 c7 b0 b1 b3 b4 b5 b7 b8)
      first | contradiction | omega
    · intro b0 b1 bt2 be2 bh2 b3 b4 b5 bt6 be6 bh6 b7 b8 bt9 be9 bh9
      obtain rfl : ct2 = bt2 := by have z := nI_inj2 be2 (by omega) (by omega); omega
      obtain rfl : ct9 = bt6 := by have z := nI_inj2 be6 (by omega) (by omega); omega
      obtain rfl : ct8 = bt9 := by have z := nI_inj2 be9 (by omega) (by omega); omega
      rw [← (hS.1 ct2 ch2).2.2.2.2.2.2.2.2.2 ct9 ct8 (by omega) ch8]
      exact K2 _ (iV_up hI0)
  · intro c0 c1 ct2 ce2 ch2 c3 c4 c5 c6 c7
    subst ce2
    refine K _ _ ⟨_, M27⟩ (fun Q2 K2 => ?_)
    refine s_X8_share M27 M38 M40 hT20 hP ?_ ?_ ?_ ?_ ?_ ?_ ?_ ?_
    · intro b0
      exfalso
      clear hI0 hM hX hW hY hT hE hD hU hS hB hG K M27 M28 M29 M30 M31 M32 M33 M34 M35 M36 M37 M38 M39 M40 M41 M42 M43 M44 M45 M46 M47 M48 M49 X0 X1 X2 X3 X4 X5 X6 X7 X8 X9 X10 X11 X12 X13 W0 W1 W2 Y0 Y1 Y2 Y3 Y4 Y5 Y6 Y7 Y8 Y9 K2
      (try simp only [Int32.lt_iff_toInt_lt, Int32.le_iff_toInt_le, Int64.lt_iff_toInt_lt, Int64.le_iff_toInt_le, Int32.toInt_toInt64, ← Int32.toInt_inj, ← Int64.toInt_inj, n32_0, n32_1, n32_2, n32_3, n32_4, n32_6, n32_8, n32_9, n32_10, n32_20, n32_100, n32_120, n32_255, n32_400, n32_3600, n32_m1, n64_0, n64_1, n64_2, n64_3, n64_4, n64_5, n64_9, n64_19, n64_119, n64_255, n64_400, n64_3599, n64_1000000000, n64_1000000000000, n64_m1000000000000] at c0 c1 c3 c4 c5 c6 c7 b0)
      first | contradiction | omega
    · intro b0 b1
      exfalso
      clear hI0 hM hX hW hY hT hE hD hU hS hB hG K M27 M28 M29 M30 M31 M32 M33 M34 M35 M36 M37 M38 M39 M40 M41 M42 M43 M44 M45 M46 M47 M48 M49 X0 X1 X2 X3 X4 X5 X6 X7 X8 X9 X10 X11 X12 X13 W0 W1 W2 Y0 Y1 Y2 Y3 Y4 Y5 Y6 Y7 Y8 Y9 K2
      (try simp only [Int32.lt_iff_toInt_lt, Int32.le_iff_toInt_le, Int64.lt_iff_toInt_lt, Int64.le_iff_toInt_le, Int32.toInt_toInt64, ← Int32.toInt_inj, ← Int64.toInt_inj, n32_0, n32_1, n32_2, n32_3, n32_4, n32_6, n32_8, n32_9, n32_10, n32_20, n32_100, n32_120, n32_255, n32_400, n32_3600, n32_m1, n64_0, n64_1, n64_2, n64_3, n64_4, n64_5, n64_9, n64_19, n64_119, n64_255, n64_400, n64_3599, n64_1000000000, n64_1000000000000, n64_m1000000000000] at c0 c1 c3 c4 c5 c6 c7 b0 b1)
      first | contradiction | omega
    · intro b0 b1 bt2 be2 bh2 b3
      obtain rfl : ct2 = bt2 := by have z := nI_inj2 be2 (by omega) (by omega); omega
      exfalso
      clear hI0 hM hX hW hY hT hE hD hU hS hB hG K M27 M28 M29 M30 M31 M32 M33 M34 M35 M36 M37 M38 M39 M40 M41 M42 M43 M44 M45 M46 M47 M48 M49 X0 X1 X2 X3 X4 X5 X6 X7 X8 X9 X10 X11 X12 X13 W0 W1 W2 Y0 Y1 Y2 Y3 Y4 Y5 Y6 Y7 Y8 Y9 K2
      (try simp only [Int32.lt_iff_toInt_lt, Int32.le_iff_toInt_le, Int64.lt_iff_toInt_lt, Int64.le_iff_toInt_le, Int32.toInt_toInt64, ← Int32.toInt_inj, ← Int64.toInt_inj, n32_0, n32_1, n32_2, n32_3, n32_4, n32_6, n32_8, n32_9, n32_10, n32_20, n32_100, n32_120, n32_255, n32_400, n32_3600, n32_m1, n64_0, n64_1, n64_2, n64_3, n64_4, n64_5, n64_9, n64_19, n64_119, n64_255, n64_400, n64_3599, n64_1000000000, n64_1000000000000, n64_m1000000000000] at c0 c1 c3 c4 c5 c6 c7 b0 b1 b3)
      first | contradiction | omega
    · intro b0 b1 bt2 be2 bh2 b3 b4
      obtain rfl : ct2 = bt2 := by have z := nI_inj2 be2 (by omega) (by omega); omega
      exfalso
      clear hI0 hM hX hW hY hT hE hD hU hS hB hG K M27 M28 M29 M30 M31 M32 M33 M34 M35 M36 M37 M38 M39 M40 M41 M42 M43 M44 M45 M46 M47 M48 M49 X0 X1 X2 X3 X4 X5 X6 X7 X8 X9 X10 X11 X12 X13 W0 W1 W2 Y0 Y1 Y2 Y3 Y4 Y5 Y6 Y7 Y8 Y9 K2
      (try simp only [Int32.lt_iff_toInt_lt, Int32.le_iff_toInt_le, Int64.lt_iff_toInt_lt, Int64.le_iff_toInt_le, Int32.toInt_toInt64, ← Int32.toInt_inj, ← Int64.toInt_inj, n32_0, n32_1, n32_2, n32_3, n32_4, n32_6, n32_8, n32_9, n32_10, n32_20, n32_100, n32_120, n32_255, n32_400, n32_3600, n32_m1, n64_0, n64_1, n64_2, n64_3, n64_4, n64_5, n64_9, n64_19, n64_119, n64_255, n64_400, n64_3599, n64_1000000000, n64_1000000000000, n64_m1000000000000] at c0 c1 c3 c4 c5 c6 c7 b0 b1 b3 b4)
      first | contradiction | omega
    · intro b0 b1 bt2 be2 bh2 b3 b4 b5
      obtain rfl : ct2 = bt2 := by have z := nI_inj2 be2 (by omega) (by omega); omega
      exfalso
      clear hI0 hM hX hW hY hT hE hD hU hS hB hG K M27 M28 M29 M30 M31 M32 M33 M34 M35 M36 M37 M38 M39 M40 M41 M42 M43 M44 M45 M46 M47 M48 M49 X0 X1 X2 X3 X4 X5 X6 X7 X8 X9 X10 X11 X12 X13 W0 W1 W2 Y0 Y1 Y2 Y3 Y4 Y5 Y6 Y7 Y8 Y9 K2
      (try simp only [Int32.lt_iff_toInt_lt, Int32.le_iff_toInt_le, Int64.lt_iff_toInt_lt, Int64.le_iff_toInt_le, Int32.toInt_toInt64, ← Int32.toInt_inj, ← Int64.toInt_inj, n32_0, n32_1, n32_2, n32_3, n32_4, n32_6, n32_8, n32_9, n32_10, n32_20, n32_100, n32_120, n32_255, n32_400, n32_3600, n32_m1, n64_0, n64_1, n64_2, n64_3, n64_4, n64_5, n64_9, n64_19, n64_119, n64_255, n64_400, n64_3599, n64_1000000000, n64_1000000000000, n64_m1000000000000] at c0 c1 c3 c4 c5 c6 c7 b0 b1 b3 b4 b5)
      first | contradiction | omega
    · intro b0 b1 bt2 be2 bh2 b3 b4 b5 bt6 be6 bh6 b7
      obtain rfl : ct2 = bt2 := by have z := nI_inj2 be2 (by omega) (by omega); omega
      exfalso
      clear hI0 hM hX hW hY hT hE hD hU hS hB hG K M27 M28 M29 M30 M31 M32 M33 M34 M35 M36 M37 M38 M39 M40 M41 M42 M43 M44 M45 M46 M47 M48 M49 X0 X1 X2 X3 X4 X5 X6 X7 X8 X9 X10 X11 X12 X13 W0 W1 W2 Y0 Y1 Y2 Y3 Y4 Y5 Y6 Y7 Y8 Y9 K2
      (try simp only [Int32.lt_iff_toInt_lt, Int32.le_iff_toInt_le, Int64.lt_iff_toInt_lt, Int64.le_iff_toInt_le, Int32.toInt_toInt64, ← Int32.toInt_inj, ← Int64.toInt_inj, n32_0, n32_1, n32_2, n32_3, n32_4, n32_6, n32_8, n32_9, n32_10, n32_20, n32_100, n32_120, n32_255, n32_400, n32_3600, n32_m1, n64_0, n64_1, n64_2, n64_3, n64_4, n64_5, n64_9, n64_19, n64_119, n64_255, n64_400, n64_3599, n64_1000000000, n64_1000000000000, n64_m1000000000000] at c0 c1 c3 c4 c5 c6 c7 b0 b1 b3 b4 b5 b7)
      first | contradiction | omega
    · intro b0 b1 bt2 be2 bh2 b3 b4 b5 bt6 be6 bh6 b7 b8
      obtain rfl : ct2 = bt2 := by have z := nI_inj2 be2 (by omega) (by omega); omega
      exact K2 _ (iV_up hI0)
    · intro b0 b1 bt2 be2 bh2 b3 b4 b5 bt6 be6 bh6 b7 b8 bt9 be9 bh9
      obtain rfl : ct2 = bt2 := by have z := nI_inj2 be2 (by omega) (by omega); omega
      exfalso
      clear hI0 hM hX hW hY hT hE hD hU hS hB hG K M27 M28 M29 M30 M31 M32 M33 M34 M35 M36 M37 M38 M39 M40 M41 M42 M43 M44 M45 M46 M47 M48 M49 X0 X1 X2 X3 X4 X5 X6 X7 X8 X9 X10 X11 X12 X13 W0 W1 W2 Y0 Y1 Y2 Y3 Y4 Y5 Y6 Y7 Y8 Y9 K2
      (try simp only [Int32.lt_iff_toInt_lt, Int32.le_iff_toInt_le, Int64.lt_iff_toInt_lt, Int64.le_iff_toInt_le, Int32.toInt_toInt64, ← Int32.toInt_inj, ← Int64.toInt_inj, n32_0, n32_1, n32_2, n32_3, n32_4, n32_6, n32_8, n32_9, n32_10, n32_20, n32_100, n32_120, n32_255, n32_400, n32_3600, n32_m1, n64_0, n64_1, n64_2, n64_3, n64_4, n64_5, n64_9, n64_19, n64_119, n64_255, n64_400, n64_3599, n64_1000000000, n64_1000000000000, n64_m1000000000000] at c0 c1 c3 c4 c5 c6 c7 b0 b1 b3 b4 b5 b7 b8)
      first | contradiction | omega

set_option maxRecDepth 20000 in
theorem r_carried {l : Launch} {G : jG} {h : jH} {Q : Option Value → jH → Prop} {c : Nat} {w0 : Int32} (hc : c < 512) (hG : j_gok G) (hI : iV c h) (K : ∀ (vv : Int64) (h1 : jH), (∃ fs, h1.2 27 = some (jO 8 fs)) → (∀ Q2 : Option Value → jH → Prop, (∀ h2, iV (c + 1) h2 → Q2 (some (.long vv)) h2) → J l G mX8_carried 0 0 0 (lv_args 0 [.ref 27, .int w0]) [] h1 Q2) → Q (some (.long vv)) h1) : J l G mX7_carried 0 0 0 (lv_args 0 [.ref 0, .int w0]) [] h Q := by
  have hI0 := hI
  refine hI _ ?_
  clear hI
  intro L P T E C R R0 n ru dq dr op at_ fr wd ws we wn dd tx rs fs ro sh dy se ey er tk tn ac f1 f2 f3 f4 g1 g2 g3 g4 da lo ad sa co pa ss w1 w2 w3 am pw ps cu dm ta ea shp tb eb rr rn cst prt eam dys eac shs hM hX hW hY hT hE hD hN hU hS hB
  obtain ⟨M27, M28, M29, M30, M31, M32, M33, M34, M35, M36, M37, M38, M39, M40, M41, M42, M43, M44, M45, M46, M47, M48, M49⟩ := id hM
  obtain ⟨X0, X1, X2, X3, X4, X5, X6, X7, X8, X9, X10, X11, X12, X13⟩ := id hX
  obtain ⟨W0, W1, W2⟩ := id hW
  obtain ⟨Y0, Y1, Y2, Y3, Y4, Y5, Y6, Y7, Y8, Y9⟩ := id hY
  obtain ⟨hL, hP, hT20, hE60, hC, hR, hR0, hn, hrd, hop⟩ := id hN
  have hw := n_sub100 w0
  have hPi : (nI P).toInt = P := nI_toInt (by omega)
  have hw1 := Int32.le_toInt w0
  have hw2 := Int32.toInt_lt w0
  refine s_X7_carried X0 X3 X5 X6 hP ?_ ?_ ?_ ?_ ?_ ?_ ?_ ?_ ?_
  · intro c0 c1
    refine K _ _ ⟨_, M27⟩ (fun Q2 K2 => ?_)
    refine s_X8_carried M27 M31 M33 hP ?_ ?_ ?_ ?_ ?_ ?_ ?_
    · intro b0 b1
      exact K2 _ (iV_up hI0)
    · intro b0 b1 b2
      exact K2 _ (iV_up hI0)
    · intro b0 b1 b2
      exfalso
      clear hI0 hM hX hW hY hT hE hD hU hS hB hG K M27 M28 M29 M30 M31 M32 M33 M34 M35 M36 M37 M38 M39 M40 M41 M42 M43 M44 M45 M46 M47 M48 M49 X0 X1 X2 X3 X4 X5 X6 X7 X8 X9 X10 X11 X12 X13 W0 W1 W2 Y0 Y1 Y2 Y3 Y4 Y5 Y6 Y7 Y8 Y9 K2
      (try simp only [Int32.lt_iff_toInt_lt, Int32.le_iff_toInt_le, Int64.lt_iff_toInt_lt, Int64.le_iff_toInt_le, Int32.toInt_toInt64, ← Int32.toInt_inj, ← Int64.toInt_inj, n32_0, n32_1, n32_2, n32_3, n32_4, n32_6, n32_8, n32_9, n32_10, n32_20, n32_100, n32_120, n32_255, n32_400, n32_3600, n32_m1, n64_0, n64_1, n64_2, n64_3, n64_4, n64_5, n64_9, n64_19, n64_119, n64_255, n64_400, n64_3599, n64_1000000000, n64_1000000000000, n64_m1000000000000] at c0 c1 b0 b1 b2)
      first | contradiction | omega
    · intro b0 b1 b2
      exfalso
      clear hI0 hM hX hW hY hT hE hD hU hS hB hG K M27 M28 M29 M30 M31 M32 M33 M34 M35 M36 M37 M38 M39 M40 M41 M42 M43 M44 M45 M46 M47 M48 M49 X0 X1 X2 X3 X4 X5 X6 X7 X8 X9 X10 X11 X12 X13 W0 W1 W2 Y0 Y1 Y2 Y3 Y4 Y5 Y6 Y7 Y8 Y9 K2
      (try simp only [Int32.lt_iff_toInt_lt, Int32.le_iff_toInt_le, Int64.lt_iff_toInt_lt, Int64.le_iff_toInt_le, Int32.toInt_toInt64, ← Int32.toInt_inj, ← Int64.toInt_inj, n32_0, n32_1, n32_2, n32_3, n32_4, n32_6, n32_8, n32_9, n32_10, n32_20, n32_100, n32_120, n32_255, n32_400, n32_3600, n32_m1, n64_0, n64_1, n64_2, n64_3, n64_4, n64_5, n64_9, n64_19, n64_119, n64_255, n64_400, n64_3599, n64_1000000000, n64_1000000000000, n64_m1000000000000] at c0 c1 b0 b1 b2)
      first | contradiction | omega
    · intro b0 b1 b2 b3
      exfalso
      clear hI0 hM hX hW hY hT hE hD hU hS hB hG K M27 M28 M29 M30 M31 M32 M33 M34 M35 M36 M37 M38 M39 M40 M41 M42 M43 M44 M45 M46 M47 M48 M49 X0 X1 X2 X3 X4 X5 X6 X7 X8 X9 X10 X11 X12 X13 W0 W1 W2 Y0 Y1 Y2 Y3 Y4 Y5 Y6 Y7 Y8 Y9 K2
      (try simp only [Int32.lt_iff_toInt_lt, Int32.le_iff_toInt_le, Int64.lt_iff_toInt_lt, Int64.le_iff_toInt_le, Int32.toInt_toInt64, ← Int32.toInt_inj, ← Int64.toInt_inj, n32_0, n32_1, n32_2, n32_3, n32_4, n32_6, n32_8, n32_9, n32_10, n32_20, n32_100, n32_120, n32_255, n32_400, n32_3600, n32_m1, n64_0, n64_1, n64_2, n64_3, n64_4, n64_5, n64_9, n64_19, n64_119, n64_255, n64_400, n64_3599, n64_1000000000, n64_1000000000000, n64_m1000000000000] at c0 c1 b0 b1 b2 b3)
      first | contradiction | omega
    · intro b0 b1 b2 b3
      exfalso
      clear hI0 hM hX hW hY hT hE hD hU hS hB hG K M27 M28 M29 M30 M31 M32 M33 M34 M35 M36 M37 M38 M39 M40 M41 M42 M43 M44 M45 M46 M47 M48 M49 X0 X1 X2 X3 X4 X5 X6 X7 X8 X9 X10 X11 X12 X13 W0 W1 W2 Y0 Y1 Y2 Y3 Y4 Y5 Y6 Y7 Y8 Y9 K2
      (try simp only [Int32.lt_iff_toInt_lt, Int32.le_iff_toInt_le, Int64.lt_iff_toInt_lt, Int64.le_iff_toInt_le, Int32.toInt_toInt64, ← Int32.toInt_inj, ← Int64.toInt_inj, n32_0, n32_1, n32_2, n32_3, n32_4, n32_6, n32_8, n32_9, n32_10, n32_20, n32_100, n32_120, n32_255, n32_400, n32_3600, n32_m1, n64_0, n64_1, n64_2, n64_3, n64_4, n64_5, n64_9, n64_19, n64_119, n64_255, n64_400, n64_3599, n64_1000000000, n64_1000000000000, n64_m1000000000000] at c0 c1 b0 b1 b2 b3)
      first | contradiction | omega
    · intro b0 b1 bt2 be2 bh2
      exfalso
      clear hI0 hM hX hW hY hT hE hD hU hS hB hG K M27 M28 M29 M30 M31 M32 M33 M34 M35 M36 M37 M38 M39 M40 M41 M42 M43 M44 M45 M46 M47 M48 M49 X0 X1 X2 X3 X4 X5 X6 X7 X8 X9 X10 X11 X12 X13 W0 W1 W2 Y0 Y1 Y2 Y3 Y4 Y5 Y6 Y7 Y8 Y9 K2
      (try simp only [Int32.lt_iff_toInt_lt, Int32.le_iff_toInt_le, Int64.lt_iff_toInt_lt, Int64.le_iff_toInt_le, Int32.toInt_toInt64, ← Int32.toInt_inj, ← Int64.toInt_inj, n32_0, n32_1, n32_2, n32_3, n32_4, n32_6, n32_8, n32_9, n32_10, n32_20, n32_100, n32_120, n32_255, n32_400, n32_3600, n32_m1, n64_0, n64_1, n64_2, n64_3, n64_4, n64_5, n64_9, n64_19, n64_119, n64_255, n64_400, n64_3599, n64_1000000000, n64_1000000000000, n64_m1000000000000] at c0 c1 b0 b1)
      first | contradiction | omega
  · intro c0 c1 c2
    exfalso
    clear hI0 hM hX hW hY hT hE hD hU hS hB hG K M27 M28 M29 M30 M31 M32 M33 M34 M35 M36 M37 M38 M39 M40 M41 M42 M43 M44 M45 M46 M47 M48 M49 X0 X1 X2 X3 X4 X5 X6 X7 X8 X9 X10 X11 X12 X13 W0 W1 W2 Y0 Y1 Y2 Y3 Y4 Y5 Y6 Y7 Y8 Y9
    (try simp only [Int32.lt_iff_toInt_lt, Int32.le_iff_toInt_le, Int64.lt_iff_toInt_lt, Int64.le_iff_toInt_le, Int32.toInt_toInt64, ← Int32.toInt_inj, ← Int64.toInt_inj, n32_0, n32_1, n32_2, n32_3, n32_4, n32_6, n32_8, n32_9, n32_10, n32_20, n32_100, n32_120, n32_255, n32_400, n32_3600, n32_m1, n64_0, n64_1, n64_2, n64_3, n64_4, n64_5, n64_9, n64_19, n64_119, n64_255, n64_400, n64_3599, n64_1000000000, n64_1000000000000, n64_m1000000000000] at c0 c1 c2)
    first | contradiction | omega
  · intro c0 c1 c2 c3
    exfalso
    clear hI0 hM hX hW hY hT hE hD hU hS hB hG K M27 M28 M29 M30 M31 M32 M33 M34 M35 M36 M37 M38 M39 M40 M41 M42 M43 M44 M45 M46 M47 M48 M49 X0 X1 X2 X3 X4 X5 X6 X7 X8 X9 X10 X11 X12 X13 W0 W1 W2 Y0 Y1 Y2 Y3 Y4 Y5 Y6 Y7 Y8 Y9
    (try simp only [Int32.lt_iff_toInt_lt, Int32.le_iff_toInt_le, Int64.lt_iff_toInt_lt, Int64.le_iff_toInt_le, Int32.toInt_toInt64, ← Int32.toInt_inj, ← Int64.toInt_inj, n32_0, n32_1, n32_2, n32_3, n32_4, n32_6, n32_8, n32_9, n32_10, n32_20, n32_100, n32_120, n32_255, n32_400, n32_3600, n32_m1, n64_0, n64_1, n64_2, n64_3, n64_4, n64_5, n64_9, n64_19, n64_119, n64_255, n64_400, n64_3599, n64_1000000000, n64_1000000000000, n64_m1000000000000] at c0 c1 c2 c3)
    first | contradiction | omega
  · intro c0 c1 c2 c3
    exfalso
    clear hI0 hM hX hW hY hT hE hD hU hS hB hG K M27 M28 M29 M30 M31 M32 M33 M34 M35 M36 M37 M38 M39 M40 M41 M42 M43 M44 M45 M46 M47 M48 M49 X0 X1 X2 X3 X4 X5 X6 X7 X8 X9 X10 X11 X12 X13 W0 W1 W2 Y0 Y1 Y2 Y3 Y4 Y5 Y6 Y7 Y8 Y9
    (try simp only [Int32.lt_iff_toInt_lt, Int32.le_iff_toInt_le, Int64.lt_iff_toInt_lt, Int64.le_iff_toInt_le, Int32.toInt_toInt64, ← Int32.toInt_inj, ← Int64.toInt_inj, n32_0, n32_1, n32_2, n32_3, n32_4, n32_6, n32_8, n32_9, n32_10, n32_20, n32_100, n32_120, n32_255, n32_400, n32_3600, n32_m1, n64_0, n64_1, n64_2, n64_3, n64_4, n64_5, n64_9, n64_19, n64_119, n64_255, n64_400, n64_3599, n64_1000000000, n64_1000000000000, n64_m1000000000000] at c0 c1 c2 c3)
    first | contradiction | omega
  · intro c0 c1 c2
    refine K _ _ ⟨_, M27⟩ (fun Q2 K2 => ?_)
    refine s_X8_carried M27 M31 M33 hP ?_ ?_ ?_ ?_ ?_ ?_ ?_
    · intro b0 b1
      exfalso
      clear hI0 hM hX hW hY hT hE hD hU hS hB hG K M27 M28 M29 M30 M31 M32 M33 M34 M35 M36 M37 M38 M39 M40 M41 M42 M43 M44 M45 M46 M47 M48 M49 X0 X1 X2 X3 X4 X5 X6 X7 X8 X9 X10 X11 X12 X13 W0 W1 W2 Y0 Y1 Y2 Y3 Y4 Y5 Y6 Y7 Y8 Y9 K2
      (try simp only [Int32.lt_iff_toInt_lt, Int32.le_iff_toInt_le, Int64.lt_iff_toInt_lt, Int64.le_iff_toInt_le, Int32.toInt_toInt64, ← Int32.toInt_inj, ← Int64.toInt_inj, n32_0, n32_1, n32_2, n32_3, n32_4, n32_6, n32_8, n32_9, n32_10, n32_20, n32_100, n32_120, n32_255, n32_400, n32_3600, n32_m1, n64_0, n64_1, n64_2, n64_3, n64_4, n64_5, n64_9, n64_19, n64_119, n64_255, n64_400, n64_3599, n64_1000000000, n64_1000000000000, n64_m1000000000000] at c0 c1 c2 b0 b1)
      first | contradiction | omega
    · intro b0 b1 b2
      exfalso
      clear hI0 hM hX hW hY hT hE hD hU hS hB hG K M27 M28 M29 M30 M31 M32 M33 M34 M35 M36 M37 M38 M39 M40 M41 M42 M43 M44 M45 M46 M47 M48 M49 X0 X1 X2 X3 X4 X5 X6 X7 X8 X9 X10 X11 X12 X13 W0 W1 W2 Y0 Y1 Y2 Y3 Y4 Y5 Y6 Y7 Y8 Y9 K2
      (try simp only [Int32.lt_iff_toInt_lt, Int32.le_iff_toInt_le, Int64.lt_iff_toInt_lt, Int64.le_iff_toInt_le, Int32.toInt_toInt64, ← Int32.toInt_inj, ← Int64.toInt_inj, n32_0, n32_1, n32_2, n32_3, n32_4, n32_6, n32_8, n32_9, n32_10, n32_20, n32_100, n32_120, n32_255, n32_400, n32_3600, n32_m1, n64_0, n64_1, n64_2, n64_3, n64_4, n64_5, n64_9, n64_19, n64_119, n64_255, n64_400, n64_3599, n64_1000000000, n64_1000000000000, n64_m1000000000000] at c0 c1 c2 b0 b1 b2)
      first | contradiction | omega
    · intro b0 b1 b2
      exfalso
      clear hI0 hM hX hW hY hT hE hD hU hS hB hG K M27 M28 M29 M30 M31 M32 M33 M34 M35 M36 M37 M38 M39 M40 M41 M42 M43 M44 M45 M46 M47 M48 M49 X0 X1 X2 X3 X4 X5 X6 X7 X8 X9 X10 X11 X12 X13 W0 W1 W2 Y0 Y1 Y2 Y3 Y4 Y5 Y6 Y7 Y8 Y9 K2
      (try simp only [Int32.lt_iff_toInt_lt, Int32.le_iff_toInt_le, Int64.lt_iff_toInt_lt, Int64.le_iff_toInt_le, Int32.toInt_toInt64, ← Int32.toInt_inj, ← Int64.toInt_inj, n32_0, n32_1, n32_2, n32_3, n32_4, n32_6, n32_8, n32_9, n32_10, n32_20, n32_100, n32_120, n32_255, n32_400, n32_3600, n32_m1, n64_0, n64_1, n64_2, n64_3, n64_4, n64_5, n64_9, n64_19, n64_119, n64_255, n64_400, n64_3599, n64_1000000000, n64_1000000000000, n64_m1000000000000] at c0 c1 c2 b0 b1 b2)
      first | contradiction | omega
    · intro b0 b1 b2
      exact K2 _ (iV_up hI0)
    · intro b0 b1 b2 b3
      exfalso
      clear hI0 hM hX hW hY hT hE hD hU hS hB hG K M27 M28 M29 M30 M31 M32 M33 M34 M35 M36 M37 M38 M39 M40 M41 M42 M43 M44 M45 M46 M47 M48 M49 X0 X1 X2 X3 X4 X5 X6 X7 X8 X9 X10 X11 X12 X13 W0 W1 W2 Y0 Y1 Y2 Y3 Y4 Y5 Y6 Y7 Y8 Y9 K2
      (try simp only [Int32.lt_iff_toInt_lt, Int32.le_iff_toInt_le, Int64.lt_iff_toInt_lt, Int64.le_iff_toInt_le, Int32.toInt_toInt64, ← Int32.toInt_inj, ← Int64.toInt_inj, n32_0, n32_1, n32_2, n32_3, n32_4, n32_6, n32_8, n32_9, n32_10, n32_20, n32_100, n32_120, n32_255, n32_400, n32_3600, n32_m1, n64_0, n64_1, n64_2, n64_3, n64_4, n64_5, n64_9, n64_19, n64_119, n64_255, n64_400, n64_3599, n64_1000000000, n64_1000000000000, n64_m1000000000000] at c0 c1 c2 b0 b1 b2 b3)
      first | contradiction | omega
    · intro b0 b1 b2 b3
      exfalso
      clear hI0 hM hX hW hY hT hE hD hU hS hB hG K M27 M28 M29 M30 M31 M32 M33 M34 M35 M36 M37 M38 M39 M40 M41 M42 M43 M44 M45 M46 M47 M48 M49 X0 X1 X2 X3 X4 X5 X6 X7 X8 X9 X10 X11 X12 X13 W0 W1 W2 Y0 Y1 Y2 Y3 Y4 Y5 Y6 Y7 Y8 Y9 K2
      (try simp only [Int32.lt_iff_toInt_lt, Int32.le_iff_toInt_le, Int64.lt_iff_toInt_lt, Int64.le_iff_toInt_le, Int32.toInt_toInt64, ← Int32.toInt_inj, ← Int64.toInt_inj, n32_0, n32_1, n32_2, n32_3, n32_4, n32_6, n32_8, n32_9, n32_10, n32_20, n32_100, n32_120, n32_255, n32_400, n32_3600, n32_m1, n64_0, n64_1, n64_2, n64_3, n64_4, n64_5, n64_9, n64_19, n64_119, n64_255, n64_400, n64_3599, n64_1000000000, n64_1000000000000, n64_m1000000000000] at c0 c1 c2 b0 b1 b2 b3)
      first | contradiction | omega
    · intro b0 b1 bt2 be2 bh2
      exfalso
      clear hI0 hM hX hW hY hT hE hD hU hS hB hG K M27 M28 M29 M30 M31 M32 M33 M34 M35 M36 M37 M38 M39 M40 M41 M42 M43 M44 M45 M46 M47 M48 M49 X0 X1 X2 X3 X4 X5 X6 X7 X8 X9 X10 X11 X12 X13 W0 W1 W2 Y0 Y1 Y2 Y3 Y4 Y5 Y6 Y7 Y8 Y9 K2
      (try simp only [Int32.lt_iff_toInt_lt, Int32.le_iff_toInt_le, Int64.lt_iff_toInt_lt, Int64.le_iff_toInt_le, Int32.toInt_toInt64, ← Int32.toInt_inj, ← Int64.toInt_inj, n32_0, n32_1, n32_2, n32_3, n32_4, n32_6, n32_8, n32_9, n32_10, n32_20, n32_100, n32_120, n32_255, n32_400, n32_3600, n32_m1, n64_0, n64_1, n64_2, n64_3, n64_4, n64_5, n64_9, n64_19, n64_119, n64_255, n64_400, n64_3599, n64_1000000000, n64_1000000000000, n64_m1000000000000] at c0 c1 c2 b0 b1)
      first | contradiction | omega
  · intro c0 c1 c2 c3
    exfalso
    clear hI0 hM hX hW hY hT hE hD hU hS hB hG K M27 M28 M29 M30 M31 M32 M33 M34 M35 M36 M37 M38 M39 M40 M41 M42 M43 M44 M45 M46 M47 M48 M49 X0 X1 X2 X3 X4 X5 X6 X7 X8 X9 X10 X11 X12 X13 W0 W1 W2 Y0 Y1 Y2 Y3 Y4 Y5 Y6 Y7 Y8 Y9
    (try simp only [Int32.lt_iff_toInt_lt, Int32.le_iff_toInt_le, Int64.lt_iff_toInt_lt, Int64.le_iff_toInt_le, Int32.toInt_toInt64, ← Int32.toInt_inj, ← Int64.toInt_inj, n32_0, n32_1, n32_2, n32_3, n32_4, n32_6, n32_8, n32_9, n32_10, n32_20, n32_100, n32_120, n32_255, n32_400, n32_3600, n32_m1, n64_0, n64_1, n64_2, n64_3, n64_4, n64_5, n64_9, n64_19, n64_119, n64_255, n64_400, n64_3599, n64_1000000000, n64_1000000000000, n64_m1000000000000] at c0 c1 c2 c3)
    first | contradiction | omega
  · intro c0 c1 c2 c3 c4
    refine K _ _ ⟨_, M27⟩ (fun Q2 K2 => ?_)
    refine s_X8_carried M27 M31 M33 hP ?_ ?_ ?_ ?_ ?_ ?_ ?_
    · intro b0 b1
      exfalso
      clear hI0 hM hX hW hY hT hE hD hU hS hB hG K M27 M28 M29 M30 M31 M32 M33 M34 M35 M36 M37 M38 M39 M40 M41 M42 M43 M44 M45 M46 M47 M48 M49 X0 X1 X2 X3 X4 X5 X6 X7 X8 X9 X10 X11 X12 X13 W0 W1 W2 Y0 Y1 Y2 Y3 Y4 Y5 Y6 Y7 Y8 Y9 K2
      (try simp only [Int32.lt_iff_toInt_lt, Int32.le_iff_toInt_le, Int64.lt_iff_toInt_lt, Int64.le_iff_toInt_le, Int32.toInt_toInt64, ← Int32.toInt_inj, ← Int64.toInt_inj, n32_0, n32_1, n32_2, n32_3, n32_4, n32_6, n32_8, n32_9, n32_10, n32_20, n32_100, n32_120, n32_255, n32_400, n32_3600, n32_m1, n64_0, n64_1, n64_2, n64_3, n64_4, n64_5, n64_9, n64_19, n64_119, n64_255, n64_400, n64_3599, n64_1000000000, n64_1000000000000, n64_m1000000000000] at c0 c1 c2 c3 c4 b0 b1)
      first | contradiction | omega
    · intro b0 b1 b2
      exfalso
      clear hI0 hM hX hW hY hT hE hD hU hS hB hG K M27 M28 M29 M30 M31 M32 M33 M34 M35 M36 M37 M38 M39 M40 M41 M42 M43 M44 M45 M46 M47 M48 M49 X0 X1 X2 X3 X4 X5 X6 X7 X8 X9 X10 X11 X12 X13 W0 W1 W2 Y0 Y1 Y2 Y3 Y4 Y5 Y6 Y7 Y8 Y9 K2
      (try simp only [Int32.lt_iff_toInt_lt, Int32.le_iff_toInt_le, Int64.lt_iff_toInt_lt, Int64.le_iff_toInt_le, Int32.toInt_toInt64, ← Int32.toInt_inj, ← Int64.toInt_inj, n32_0, n32_1, n32_2, n32_3, n32_4, n32_6, n32_8, n32_9, n32_10, n32_20, n32_100, n32_120, n32_255, n32_400, n32_3600, n32_m1, n64_0, n64_1, n64_2, n64_3, n64_4, n64_5, n64_9, n64_19, n64_119, n64_255, n64_400, n64_3599, n64_1000000000, n64_1000000000000, n64_m1000000000000] at c0 c1 c2 c3 c4 b0 b1 b2)
      first | contradiction | omega
    · intro b0 b1 b2
      exfalso
      clear hI0 hM hX hW hY hT hE hD hU hS hB hG K M27 M28 M29 M30 M31 M32 M33 M34 M35 M36 M37 M38 M39 M40 M41 M42 M43 M44 M45 M46 M47 M48 M49 X0 X1 X2 X3 X4 X5 X6 X7 X8 X9 X10 X11 X12 X13 W0 W1 W2 Y0 Y1 Y2 Y3 Y4 Y5 Y6 Y7 Y8 Y9 K2
      (try simp only [Int32.lt_iff_toInt_lt, Int32.le_iff_toInt_le, Int64.lt_iff_toInt_lt, Int64.le_iff_toInt_le, Int32.toInt_toInt64, ← Int32.toInt_inj, ← Int64.toInt_inj, n32_0, n32_1, n32_2, n32_3, n32_4, n32_6, n32_8, n32_9, n32_10, n32_20, n32_100, n32_120, n32_255, n32_400, n32_3600, n32_m1, n64_0, n64_1, n64_2, n64_3, n64_4, n64_5, n64_9, n64_19, n64_119, n64_255, n64_400, n64_3599, n64_1000000000, n64_1000000000000, n64_m1000000000000] at c0 c1 c2 c3 c4 b0 b1 b2)
      first | contradiction | omega
    · intro b0 b1 b2
      exfalso
      clear hI0 hM hX hW hY hT hE hD hU hS hB hG K M27 M28 M29 M30 M31 M32 M33 M34 M35 M36 M37 M38 M39 M40 M41 M42 M43 M44 M45 M46 M47 M48 M49 X0 X1 X2 X3 X4 X5 X6 X7 X8 X9 X10 X11 X12 X13 W0 W1 W2 Y0 Y1 Y2 Y3 Y4 Y5 Y6 Y7 Y8 Y9 K2
      (try simp only [Int32.lt_iff_toInt_lt, Int32.le_iff_toInt_le, Int64.lt_iff_toInt_lt, Int64.le_iff_toInt_le, Int32.toInt_toInt64, ← Int32.toInt_inj, ← Int64.toInt_inj, n32_0, n32_1, n32_2, n32_3, n32_4, n32_6, n32_8, n32_9, n32_10, n32_20, n32_100, n32_120, n32_255, n32_400, n32_3600, n32_m1, n64_0, n64_1, n64_2, n64_3, n64_4, n64_5, n64_9, n64_19, n64_119, n64_255, n64_400, n64_3599, n64_1000000000, n64_1000000000000, n64_m1000000000000] at c0 c1 c2 c3 c4 b0 b1 b2)
      first | contradiction | omega
    · intro b0 b1 b2 b3
      exact K2 _ (iV_up hI0)
    · intro b0 b1 b2 b3
      exfalso
      clear hI0 hM hX hW hY hT hE hD hU hS hB hG K M27 M28 M29 M30 M31 M32 M33 M34 M35 M36 M37 M38 M39 M40 M41 M42 M43 M44 M45 M46 M47 M48 M49 X0 X1 X2 X3 X4 X5 X6 X7 X8 X9 X10 X11 X12 X13 W0 W1 W2 Y0 Y1 Y2 Y3 Y4 Y5 Y6 Y7 Y8 Y9 K2
      (try simp only [Int32.lt_iff_toInt_lt, Int32.le_iff_toInt_le, Int64.lt_iff_toInt_lt, Int64.le_iff_toInt_le, Int32.toInt_toInt64, ← Int32.toInt_inj, ← Int64.toInt_inj, n32_0, n32_1, n32_2, n32_3, n32_4, n32_6, n32_8, n32_9, n32_10, n32_20, n32_100, n32_120, n32_255, n32_400, n32_3600, n32_m1, n64_0, n64_1, n64_2, n64_3, n64_4, n64_5, n64_9, n64_19, n64_119, n64_255, n64_400, n64_3599, n64_1000000000, n64_1000000000000, n64_m1000000000000] at c0 c1 c2 c3 c4 b0 b1 b2 b3)
      first | contradiction | omega
    · intro b0 b1 bt2 be2 bh2
      exfalso
      clear hI0 hM hX hW hY hT hE hD hU hS hB hG K M27 M28 M29 M30 M31 M32 M33 M34 M35 M36 M37 M38 M39 M40 M41 M42 M43 M44 M45 M46 M47 M48 M49 X0 X1 X2 X3 X4 X5 X6 X7 X8 X9 X10 X11 X12 X13 W0 W1 W2 Y0 Y1 Y2 Y3 Y4 Y5 Y6 Y7 Y8 Y9 K2
      (try simp only [Int32.lt_iff_toInt_lt, Int32.le_iff_toInt_le, Int64.lt_iff_toInt_lt, Int64.le_iff_toInt_le, Int32.toInt_toInt64, ← Int32.toInt_inj, ← Int64.toInt_inj, n32_0, n32_1, n32_2, n32_3, n32_4, n32_6, n32_8, n32_9, n32_10, n32_20, n32_100, n32_120, n32_255, n32_400, n32_3600, n32_m1, n64_0, n64_1, n64_2, n64_3, n64_4, n64_5, n64_9, n64_19, n64_119, n64_255, n64_400, n64_3599, n64_1000000000, n64_1000000000000, n64_m1000000000000] at c0 c1 c2 c3 c4 b0 b1)
      first | contradiction | omega
  · intro c0 c1 c2 c3 c4
    refine K _ _ ⟨_, M27⟩ (fun Q2 K2 => ?_)
    refine s_X8_carried M27 M31 M33 hP ?_ ?_ ?_ ?_ ?_ ?_ ?_
    · intro b0 b1
      exfalso
      clear hI0 hM hX hW hY hT hE hD hU hS hB hG K M27 M28 M29 M30 M31 M32 M33 M34 M35 M36 M37 M38 M39 M40 M41 M42 M43 M44 M45 M46 M47 M48 M49 X0 X1 X2 X3 X4 X5 X6 X7 X8 X9 X10 X11 X12 X13 W0 W1 W2 Y0 Y1 Y2 Y3 Y4 Y5 Y6 Y7 Y8 Y9 K2
      (try simp only [Int32.lt_iff_toInt_lt, Int32.le_iff_toInt_le, Int64.lt_iff_toInt_lt, Int64.le_iff_toInt_le, Int32.toInt_toInt64, ← Int32.toInt_inj, ← Int64.toInt_inj, n32_0, n32_1, n32_2, n32_3, n32_4, n32_6, n32_8, n32_9, n32_10, n32_20, n32_100, n32_120, n32_255, n32_400, n32_3600, n32_m1, n64_0, n64_1, n64_2, n64_3, n64_4, n64_5, n64_9, n64_19, n64_119, n64_255, n64_400, n64_3599, n64_1000000000, n64_1000000000000, n64_m1000000000000] at c0 c1 c2 c3 c4 b0 b1)
      first | contradiction | omega
    · intro b0 b1 b2
      exfalso
      clear hI0 hM hX hW hY hT hE hD hU hS hB hG K M27 M28 M29 M30 M31 M32 M33 M34 M35 M36 M37 M38 M39 M40 M41 M42 M43 M44 M45 M46 M47 M48 M49 X0 X1 X2 X3 X4 X5 X6 X7 X8 X9 X10 X11 X12 X13 W0 W1 W2 Y0 Y1 Y2 Y3 Y4 Y5 Y6 Y7 Y8 Y9 K2
      (try simp only [Int32.lt_iff_toInt_lt, Int32.le_iff_toInt_le, Int64.lt_iff_toInt_lt, Int64.le_iff_toInt_le, Int32.toInt_toInt64, ← Int32.toInt_inj, ← Int64.toInt_inj, n32_0, n32_1, n32_2, n32_3, n32_4, n32_6, n32_8, n32_9, n32_10, n32_20, n32_100, n32_120, n32_255, n32_400, n32_3600, n32_m1, n64_0, n64_1, n64_2, n64_3, n64_4, n64_5, n64_9, n64_19, n64_119, n64_255, n64_400, n64_3599, n64_1000000000, n64_1000000000000, n64_m1000000000000] at c0 c1 c2 c3 c4 b0 b1 b2)
      first | contradiction | omega
    · intro b0 b1 b2
      exfalso
      clear hI0 hM hX hW hY hT hE hD hU hS hB hG K M27 M28 M29 M30 M31 M32 M33 M34 M35 M36 M37 M38 M39 M40 M41 M42 M43 M44 M45 M46 M47 M48 M49 X0 X1 X2 X3 X4 X5 X6 X7 X8 X9 X10 X11 X12 X13 W0 W1 W2 Y0 Y1 Y2 Y3 Y4 Y5 Y6 Y7 Y8 Y9 K2
      (try simp only [Int32.lt_iff_toInt_lt, Int32.le_iff_toInt_le, Int64.lt_iff_toInt_lt, Int64.le_iff_toInt_le, Int32.toInt_toInt64, ← Int32.toInt_inj, ← Int64.toInt_inj, n32_0, n32_1, n32_2, n32_3, n32_4, n32_6, n32_8, n32_9, n32_10, n32_20, n32_100, n32_120, n32_255, n32_400, n32_3600, n32_m1, n64_0, n64_1, n64_2, n64_3, n64_4, n64_5, n64_9, n64_19, n64_119, n64_255, n64_400, n64_3599, n64_1000000000, n64_1000000000000, n64_m1000000000000] at c0 c1 c2 c3 c4 b0 b1 b2)
      first | contradiction | omega
    · intro b0 b1 b2
      exfalso
      clear hI0 hM hX hW hY hT hE hD hU hS hB hG K M27 M28 M29 M30 M31 M32 M33 M34 M35 M36 M37 M38 M39 M40 M41 M42 M43 M44 M45 M46 M47 M48 M49 X0 X1 X2 X3 X4 X5 X6 X7 X8 X9 X10 X11 X12 X13 W0 W1 W2 Y0 Y1 Y2 Y3 Y4 Y5 Y6 Y7 Y8 Y9 K2
      (try simp only [Int32.lt_iff_toInt_lt, Int32.le_iff_toInt_le, Int64.lt_iff_toInt_lt, Int64.le_iff_toInt_le, Int32.toInt_toInt64, ← Int32.toInt_inj, ← Int64.toInt_inj, n32_0, n32_1, n32_2, n32_3, n32_4, n32_6, n32_8, n32_9, n32_10, n32_20, n32_100, n32_120, n32_255, n32_400, n32_3600, n32_m1, n64_0, n64_1, n64_2, n64_3, n64_4, n64_5, n64_9, n64_19, n64_119, n64_255, n64_400, n64_3599, n64_1000000000, n64_1000000000000, n64_m1000000000000] at c0 c1 c2 c3 c4 b0 b1 b2)
      first | contradiction | omega
    · intro b0 b1 b2 b3
      exfalso
      clear hI0 hM hX hW hY hT hE hD hU hS hB hG K M27 M28 M29 M30 M31 M32 M33 M34 M35 M36 M37 M38 M39 M40 M41 M42 M43 M44 M45 M46 M47 M48 M49 X0 X1 X2 X3 X4 X5 X6 X7 X8 X9 X10 X11 X12 X13 W0 W1 W2 Y0 Y1 Y2 Y3 Y4 Y5 Y6 Y7 Y8 Y9 K2
      (try simp only [Int32.lt_iff_toInt_lt, Int32.le_iff_toInt_le, Int64.lt_iff_toInt_lt, Int64.le_iff_toInt_le, Int32.toInt_toInt64, ← Int32.toInt_inj, ← Int64.toInt_inj, n32_0, n32_1, n32_2, n32_3, n32_4, n32_6, n32_8, n32_9, n32_10, n32_20, n32_100, n32_120, n32_255, n32_400, n32_3600, n32_m1, n64_0, n64_1, n64_2, n64_3, n64_4, n64_5, n64_9, n64_19, n64_119, n64_255, n64_400, n64_3599, n64_1000000000, n64_1000000000000, n64_m1000000000000] at c0 c1 c2 c3 c4 b0 b1 b2 b3)
      first | contradiction | omega
    · intro b0 b1 b2 b3
      exact K2 _ (iV_up hI0)
    · intro b0 b1 bt2 be2 bh2
      exfalso
      clear hI0 hM hX hW hY hT hE hD hU hS hB hG K M27 M28 M29 M30 M31 M32 M33 M34 M35 M36 M37 M38 M39 M40 M41 M42 M43 M44 M45 M46 M47 M48 M49 X0 X1 X2 X3 X4 X5 X6 X7 X8 X9 X10 X11 X12 X13 W0 W1 W2 Y0 Y1 Y2 Y3 Y4 Y5 Y6 Y7 Y8 Y9 K2
      (try simp only [Int32.lt_iff_toInt_lt, Int32.le_iff_toInt_le, Int64.lt_iff_toInt_lt, Int64.le_iff_toInt_le, Int32.toInt_toInt64, ← Int32.toInt_inj, ← Int64.toInt_inj, n32_0, n32_1, n32_2, n32_3, n32_4, n32_6, n32_8, n32_9, n32_10, n32_20, n32_100, n32_120, n32_255, n32_400, n32_3600, n32_m1, n64_0, n64_1, n64_2, n64_3, n64_4, n64_5, n64_9, n64_19, n64_119, n64_255, n64_400, n64_3599, n64_1000000000, n64_1000000000000, n64_m1000000000000] at c0 c1 c2 c3 c4 b0 b1)
      first | contradiction | omega
  · intro c0 c1 ct2 ce2 ch2
    subst ce2
    refine K _ _ ⟨_, M27⟩ (fun Q2 K2 => ?_)
    refine s_X8_carried M27 M31 M33 hP ?_ ?_ ?_ ?_ ?_ ?_ ?_
    · intro b0 b1
      exfalso
      clear hI0 hM hX hW hY hT hE hD hU hS hB hG K M27 M28 M29 M30 M31 M32 M33 M34 M35 M36 M37 M38 M39 M40 M41 M42 M43 M44 M45 M46 M47 M48 M49 X0 X1 X2 X3 X4 X5 X6 X7 X8 X9 X10 X11 X12 X13 W0 W1 W2 Y0 Y1 Y2 Y3 Y4 Y5 Y6 Y7 Y8 Y9 K2
      (try simp only [Int32.lt_iff_toInt_lt, Int32.le_iff_toInt_le, Int64.lt_iff_toInt_lt, Int64.le_iff_toInt_le, Int32.toInt_toInt64, ← Int32.toInt_inj, ← Int64.toInt_inj, n32_0, n32_1, n32_2, n32_3, n32_4, n32_6, n32_8, n32_9, n32_10, n32_20, n32_100, n32_120, n32_255, n32_400, n32_3600, n32_m1, n64_0, n64_1, n64_2, n64_3, n64_4, n64_5, n64_9, n64_19, n64_119, n64_255, n64_400, n64_3599, n64_1000000000, n64_1000000000000, n64_m1000000000000] at c0 c1 b0 b1)
      first | contradiction | omega
    · intro b0 b1 b2
      exfalso
      clear hI0 hM hX hW hY hT hE hD hU hS hB hG K M27 M28 M29 M30 M31 M32 M33 M34 M35 M36 M37 M38 M39 M40 M41 M42 M43 M44 M45 M46 M47 M48 M49 X0 X1 X2 X3 X4 X5 X6 X7 X8 X9 X10 X11 X12 X13 W0 W1 W2 Y0 Y1 Y2 Y3 Y4 Y5 Y6 Y7 Y8 Y9 K2
      (try simp only [Int32.lt_iff_toInt_lt, Int32.le_iff_toInt_le, Int64.lt_iff_toInt_lt, Int64.le_iff_toInt_le, Int32.toInt_toInt64, ← Int32.toInt_inj, ← Int64.toInt_inj, n32_0, n32_1, n32_2, n32_3, n32_4, n32_6, n32_8, n32_9, n32_10, n32_20, n32_100, n32_120, n32_255, n32_400, n32_3600, n32_m1, n64_0, n64_1, n64_2, n64_3, n64_4, n64_5, n64_9, n64_19, n64_119, n64_255, n64_400, n64_3599, n64_1000000000, n64_1000000000000, n64_m1000000000000] at c0 c1 b0 b1 b2)
      first | contradiction | omega
    · intro b0 b1 b2
      exfalso
      clear hI0 hM hX hW hY hT hE hD hU hS hB hG K M27 M28 M29 M30 M31 M32 M33 M34 M35 M36 M37 M38 M39 M40 M41 M42 M43 M44 M45 M46 M47 M48 M49 X0 X1 X2 X3 X4 X5 X6 X7 X8 X9 X10 X11 X12 X13 W0 W1 W2 Y0 Y1 Y2 Y3 Y4 Y5 Y6 Y7 Y8 Y9 K2
      (try simp only [Int32.lt_iff_toInt_lt, Int32.le_iff_toInt_le, Int64.lt_iff_toInt_lt, Int64.le_iff_toInt_le, Int32.toInt_toInt64, ← Int32.toInt_inj, ← Int64.toInt_inj, n32_0, n32_1, n32_2, n32_3, n32_4, n32_6, n32_8, n32_9, n32_10, n32_20, n32_100, n32_120, n32_255, n32_400, n32_3600, n32_m1, n64_0, n64_1, n64_2, n64_3, n64_4, n64_5, n64_9, n64_19, n64_119, n64_255, n64_400, n64_3599, n64_1000000000, n64_1000000000000, n64_m1000000000000] at c0 c1 b0 b1 b2)
      first | contradiction | omega
    · intro b0 b1 b2
      exfalso
      clear hI0 hM hX hW hY hT hE hD hU hS hB hG K M27 M28 M29 M30 M31 M32 M33 M34 M35 M36 M37 M38 M39 M40 M41 M42 M43 M44 M45 M46 M47 M48 M49 X0 X1 X2 X3 X4 X5 X6 X7 X8 X9 X10 X11 X12 X13 W0 W1 W2 Y0 Y1 Y2 Y3 Y4 Y5 Y6 Y7 Y8 Y9 K2
      (try simp only [Int32.lt_iff_toInt_lt, Int32.le_iff_toInt_le, Int64.lt_iff_toInt_lt, Int64.le_iff_toInt_le, Int32.toInt_toInt64, ← Int32.toInt_inj, ← Int64.toInt_inj, n32_0, n32_1, n32_2, n32_3, n32_4, n32_6, n32_8, n32_9, n32_10, n32_20, n32_100, n32_120, n32_255, n32_400, n32_3600, n32_m1, n64_0, n64_1, n64_2, n64_3, n64_4, n64_5, n64_9, n64_19, n64_119, n64_255, n64_400, n64_3599, n64_1000000000, n64_1000000000000, n64_m1000000000000] at c0 c1 b0 b1 b2)
      first | contradiction | omega
    · intro b0 b1 b2 b3
      exfalso
      clear hI0 hM hX hW hY hT hE hD hU hS hB hG K M27 M28 M29 M30 M31 M32 M33 M34 M35 M36 M37 M38 M39 M40 M41 M42 M43 M44 M45 M46 M47 M48 M49 X0 X1 X2 X3 X4 X5 X6 X7 X8 X9 X10 X11 X12 X13 W0 W1 W2 Y0 Y1 Y2 Y3 Y4 Y5 Y6 Y7 Y8 Y9 K2
      (try simp only [Int32.lt_iff_toInt_lt, Int32.le_iff_toInt_le, Int64.lt_iff_toInt_lt, Int64.le_iff_toInt_le, Int32.toInt_toInt64, ← Int32.toInt_inj, ← Int64.toInt_inj, n32_0, n32_1, n32_2, n32_3, n32_4, n32_6, n32_8, n32_9, n32_10, n32_20, n32_100, n32_120, n32_255, n32_400, n32_3600, n32_m1, n64_0, n64_1, n64_2, n64_3, n64_4, n64_5, n64_9, n64_19, n64_119, n64_255, n64_400, n64_3599, n64_1000000000, n64_1000000000000, n64_m1000000000000] at c0 c1 b0 b1 b2 b3)
      first | contradiction | omega
    · intro b0 b1 b2 b3
      exfalso
      clear hI0 hM hX hW hY hT hE hD hU hS hB hG K M27 M28 M29 M30 M31 M32 M33 M34 M35 M36 M37 M38 M39 M40 M41 M42 M43 M44 M45 M46 M47 M48 M49 X0 X1 X2 X3 X4 X5 X6 X7 X8 X9 X10 X11 X12 X13 W0 W1 W2 Y0 Y1 Y2 Y3 Y4 Y5 Y6 Y7 Y8 Y9 K2
      (try simp only [Int32.lt_iff_toInt_lt, Int32.le_iff_toInt_le, Int64.lt_iff_toInt_lt, Int64.le_iff_toInt_le, Int32.toInt_toInt64, ← Int32.toInt_inj, ← Int64.toInt_inj, n32_0, n32_1, n32_2, n32_3, n32_4, n32_6, n32_8, n32_9, n32_10, n32_20, n32_100, n32_120, n32_255, n32_400, n32_3600, n32_m1, n64_0, n64_1, n64_2, n64_3, n64_4, n64_5, n64_9, n64_19, n64_119, n64_255, n64_400, n64_3599, n64_1000000000, n64_1000000000000, n64_m1000000000000] at c0 c1 b0 b1 b2 b3)
      first | contradiction | omega
    · intro b0 b1 bt2 be2 bh2
      obtain rfl : ct2 = bt2 := by have z := nI_inj2 be2 (by omega) (by omega); omega
      exact K2 _ (iV_up hI0)

set_option maxRecDepth 20000 in
theorem r_sums {l : Launch} {G : jG} {h : jH} {Q : Option Value → jH → Prop} {c : Nat} {t0 : Int32} (hc : c < 512) (hG : j_gok G) (hI : iV c h) (K : ∀ (vv : Int32) (h1 : jH), (∃ fs, h1.2 27 = some (jO 8 fs)) → (∀ Q2 : Option Value → jH → Prop, (∀ h2, iV (c + 1) h2 → Q2 (some (.int vv)) h2) → J l G mX8_sums 0 0 0 (lv_args 0 [.ref 27, .int t0]) [] h1 Q2) → Q (some (.int vv)) h1) : J l G mX7_sums 0 0 0 (lv_args 0 [.ref 0, .int t0]) [] h Q := by
  have hI0 := hI
  refine hI _ ?_
  clear hI
  intro L P T E C R R0 n ru dq dr op at_ fr wd ws we wn dd tx rs fs ro sh dy se ey er tk tn ac f1 f2 f3 f4 g1 g2 g3 g4 da lo ad sa co pa ss w1 w2 w3 am pw ps cu dm ta ea shp tb eb rr rn cst prt eam dys eac shs hM hX hW hY hT hE hD hN hU hS hB
  obtain ⟨M27, M28, M29, M30, M31, M32, M33, M34, M35, M36, M37, M38, M39, M40, M41, M42, M43, M44, M45, M46, M47, M48, M49⟩ := id hM
  obtain ⟨X0, X1, X2, X3, X4, X5, X6, X7, X8, X9, X10, X11, X12, X13⟩ := id hX
  obtain ⟨W0, W1, W2⟩ := id hW
  obtain ⟨Y0, Y1, Y2, Y3, Y4, Y5, Y6, Y7, Y8, Y9⟩ := id hY
  obtain ⟨hL, hP, hT20, hE60, hC, hR, hR0, hn, hrd, hop⟩ := id hN
  have hsm : ∀ t, t < T → j_ad (prt t 1 + prt t 2) (fun k => shs t 0 k + shs t 1 k) 12 = j_ad (pa (6 * t + 1) + pa (6 * t + 2)) (fun k => ss (48 * t + 4 * k) + ss (48 * t + 4 * k + 1)) 12 := by
    intro t ht
    obtain ⟨a1, a2, a3, a4, a5, a6, a7, a8, a9, b1⟩ := hS.1 t ht
    rw [a9 1 (by decide), a9 2 (by decide)]
    exact j_ad_eq (fun k hk => by rw [b1 k 0 hk (by decide), b1 k 1 hk (by decide)]; rfl)
  have hdm : ∀ t, t < T → j_ld ((sa t - prt t 4) + prt t 5) (cst t) 10 = j_ld ((sa t - pa (6 * t + 4)) + pa (6 * t + 5)) (fun k => co (10 * t + k)) 10 := by
    intro t ht
    obtain ⟨a1, a2, a3, a4, a5, a6, a7, a8, a9, b1⟩ := hS.1 t ht
    rw [a9 4 (by decide), a9 5 (by decide)]
    exact j_ld_eq (fun k hk => (a7 k hk).1)
  refine s_X7_sums X0 X7 (fun t ht => (hT t ht).1) (fun t ht => (hT t ht).2.1) (fun t ht => (hT t ht).2.2.2.1) (fun t ht => (hT t ht).2.2.2.2.1) (fun t ht => (hT t ht).2.2.2.2.2.1) (fun t ht => (hT t ht).2.2.2.2.2.2.1) hT20 (fun t ht => (hS.1 t ht).1) (fun t ht => j_rows_at (tb t + 5)) ?_ ?_ ?_ ?_ ?_
  · intro c0
    refine K _ _ ⟨_, M27⟩ (fun Q2 K2 => ?_)
    refine s_X8_sums M27 M38 M35 M36 M39 M40 hT20 ?_ ?_ ?_ ?_ ?_
    · intro b0
      exact K2 _ (iV_up hI0)
    · intro b0 b1
      exfalso
      clear hI0 hM hX hW hY hT hE hD hU hS hB hG K M27 M28 M29 M30 M31 M32 M33 M34 M35 M36 M37 M38 M39 M40 M41 M42 M43 M44 M45 M46 M47 M48 M49 X0 X1 X2 X3 X4 X5 X6 X7 X8 X9 X10 X11 X12 X13 W0 W1 W2 Y0 Y1 Y2 Y3 Y4 Y5 Y6 Y7 Y8 Y9 K2
      (try simp only [Int32.lt_iff_toInt_lt, Int32.le_iff_toInt_le, Int64.lt_iff_toInt_lt, Int64.le_iff_toInt_le, Int32.toInt_toInt64, ← Int32.toInt_inj, ← Int64.toInt_inj, n32_0, n32_1, n32_2, n32_3, n32_4, n32_6, n32_8, n32_9, n32_10, n32_20, n32_100, n32_120, n32_255, n32_400, n32_3600, n32_m1, n64_0, n64_1, n64_2, n64_3, n64_4, n64_5, n64_9, n64_19, n64_119, n64_255, n64_400, n64_3599, n64_1000000000, n64_1000000000000, n64_m1000000000000] at c0 b0 b1)
      first | contradiction | omega
    · intro b0 b1 bt2 be2 bh2 b3 b4
      exfalso
      clear hI0 hM hX hW hY hT hE hD hU hS hB hG K M27 M28 M29 M30 M31 M32 M33 M34 M35 M36 M37 M38 M39 M40 M41 M42 M43 M44 M45 M46 M47 M48 M49 X0 X1 X2 X3 X4 X5 X6 X7 X8 X9 X10 X11 X12 X13 W0 W1 W2 Y0 Y1 Y2 Y3 Y4 Y5 Y6 Y7 Y8 Y9 K2
      (try simp only [Int32.lt_iff_toInt_lt, Int32.le_iff_toInt_le, Int64.lt_iff_toInt_lt, Int64.le_iff_toInt_le, Int32.toInt_toInt64, ← Int32.toInt_inj, ← Int64.toInt_inj, n32_0, n32_1, n32_2, n32_3, n32_4, n32_6, n32_8, n32_9, n32_10, n32_20, n32_100, n32_120, n32_255, n32_400, n32_3600, n32_m1, n64_0, n64_1, n64_2, n64_3, n64_4, n64_5, n64_9, n64_19, n64_119, n64_255, n64_400, n64_3599, n64_1000000000, n64_1000000000000, n64_m1000000000000] at c0 b0 b1 b3 b4)
      first | contradiction | omega
    · intro b0 b1 bt2 be2 bh2 b3 b4
      exfalso
      clear hI0 hM hX hW hY hT hE hD hU hS hB hG K M27 M28 M29 M30 M31 M32 M33 M34 M35 M36 M37 M38 M39 M40 M41 M42 M43 M44 M45 M46 M47 M48 M49 X0 X1 X2 X3 X4 X5 X6 X7 X8 X9 X10 X11 X12 X13 W0 W1 W2 Y0 Y1 Y2 Y3 Y4 Y5 Y6 Y7 Y8 Y9 K2
      (try simp only [Int32.lt_iff_toInt_lt, Int32.le_iff_toInt_le, Int64.lt_iff_toInt_lt, Int64.le_iff_toInt_le, Int32.toInt_toInt64, ← Int32.toInt_inj, ← Int64.toInt_inj, n32_0, n32_1, n32_2, n32_3, n32_4, n32_6, n32_8, n32_9, n32_10, n32_20, n32_100, n32_120, n32_255, n32_400, n32_3600, n32_m1, n64_0, n64_1, n64_2, n64_3, n64_4, n64_5, n64_9, n64_19, n64_119, n64_255, n64_400, n64_3599, n64_1000000000, n64_1000000000000, n64_m1000000000000] at c0 b0 b1 b3 b4)
      first | contradiction | omega
    · intro b0 b1 bt2 be2 bh2 b3
      exfalso
      clear hI0 hM hX hW hY hT hE hD hU hS hB hG K M27 M28 M29 M30 M31 M32 M33 M34 M35 M36 M37 M38 M39 M40 M41 M42 M43 M44 M45 M46 M47 M48 M49 X0 X1 X2 X3 X4 X5 X6 X7 X8 X9 X10 X11 X12 X13 W0 W1 W2 Y0 Y1 Y2 Y3 Y4 Y5 Y6 Y7 Y8 Y9 K2
      (try simp only [Int32.lt_iff_toInt_lt, Int32.le_iff_toInt_le, Int64.lt_iff_toInt_lt, Int64.le_iff_toInt_le, Int32.toInt_toInt64, ← Int32.toInt_inj, ← Int64.toInt_inj, n32_0, n32_1, n32_2, n32_3, n32_4, n32_6, n32_8, n32_9, n32_10, n32_20, n32_100, n32_120, n32_255, n32_400, n32_3600, n32_m1, n64_0, n64_1, n64_2, n64_3, n64_4, n64_5, n64_9, n64_19, n64_119, n64_255, n64_400, n64_3599, n64_1000000000, n64_1000000000000, n64_m1000000000000] at c0 b0 b1 b3)
      first | contradiction | omega
  · intro c0 c1
    refine K _ _ ⟨_, M27⟩ (fun Q2 K2 => ?_)
    refine s_X8_sums M27 M38 M35 M36 M39 M40 hT20 ?_ ?_ ?_ ?_ ?_
    · intro b0
      exfalso
      clear hI0 hM hX hW hY hT hE hD hU hS hB hG K M27 M28 M29 M30 M31 M32 M33 M34 M35 M36 M37 M38 M39 M40 M41 M42 M43 M44 M45 M46 M47 M48 M49 X0 X1 X2 X3 X4 X5 X6 X7 X8 X9 X10 X11 X12 X13 W0 W1 W2 Y0 Y1 Y2 Y3 Y4 Y5 Y6 Y7 Y8 Y9 K2
      (try simp only [Int32.lt_iff_toInt_lt, Int32.le_iff_toInt_le, Int64.lt_iff_toInt_lt, Int64.le_iff_toInt_le, Int32.toInt_toInt64, ← Int32.toInt_inj, ← Int64.toInt_inj, n32_0, n32_1, n32_2, n32_3, n32_4, n32_6, n32_8, n32_9, n32_10, n32_20, n32_100, n32_120, n32_255, n32_400, n32_3600, n32_m1, n64_0, n64_1, n64_2, n64_3, n64_4, n64_5, n64_9, n64_19, n64_119, n64_255, n64_400, n64_3599, n64_1000000000, n64_1000000000000, n64_m1000000000000] at c0 c1 b0)
      first | contradiction | omega
    · intro b0 b1
      exact K2 _ (iV_up hI0)
    · intro b0 b1 bt2 be2 bh2 b3 b4
      exfalso
      clear hI0 hM hX hW hY hT hE hD hU hS hB hG K M27 M28 M29 M30 M31 M32 M33 M34 M35 M36 M37 M38 M39 M40 M41 M42 M43 M44 M45 M46 M47 M48 M49 X0 X1 X2 X3 X4 X5 X6 X7 X8 X9 X10 X11 X12 X13 W0 W1 W2 Y0 Y1 Y2 Y3 Y4 Y5 Y6 Y7 Y8 Y9 K2
      (try simp only [Int32.lt_iff_toInt_lt, Int32.le_iff_toInt_le, Int64.lt_iff_toInt_lt, Int64.le_iff_toInt_le, Int32.toInt_toInt64, ← Int32.toInt_inj, ← Int64.toInt_inj, n32_0, n32_1, n32_2, n32_3, n32_4, n32_6, n32_8, n32_9, n32_10, n32_20, n32_100, n32_120, n32_255, n32_400, n32_3600, n32_m1, n64_0, n64_1, n64_2, n64_3, n64_4, n64_5, n64_9, n64_19, n64_119, n64_255, n64_400, n64_3599, n64_1000000000, n64_1000000000000, n64_m1000000000000] at c0 c1 b0 b1 b3 b4)
      first | contradiction | omega
    · intro b0 b1 bt2 be2 bh2 b3 b4
      exfalso
      clear hI0 hM hX hW hY hT hE hD hU hS hB hG K M27 M28 M29 M30 M31 M32 M33 M34 M35 M36 M37 M38 M39 M40 M41 M42 M43 M44 M45 M46 M47 M48 M49 X0 X1 X2 X3 X4 X5 X6 X7 X8 X9 X10 X11 X12 X13 W0 W1 W2 Y0 Y1 Y2 Y3 Y4 Y5 Y6 Y7 Y8 Y9 K2
      (try simp only [Int32.lt_iff_toInt_lt, Int32.le_iff_toInt_le, Int64.lt_iff_toInt_lt, Int64.le_iff_toInt_le, Int32.toInt_toInt64, ← Int32.toInt_inj, ← Int64.toInt_inj, n32_0, n32_1, n32_2, n32_3, n32_4, n32_6, n32_8, n32_9, n32_10, n32_20, n32_100, n32_120, n32_255, n32_400, n32_3600, n32_m1, n64_0, n64_1, n64_2, n64_3, n64_4, n64_5, n64_9, n64_19, n64_119, n64_255, n64_400, n64_3599, n64_1000000000, n64_1000000000000, n64_m1000000000000] at c0 c1 b0 b1 b3 b4)
      first | contradiction | omega
    · intro b0 b1 bt2 be2 bh2 b3
      exfalso
      clear hI0 hM hX hW hY hT hE hD hU hS hB hG K M27 M28 M29 M30 M31 M32 M33 M34 M35 M36 M37 M38 M39 M40 M41 M42 M43 M44 M45 M46 M47 M48 M49 X0 X1 X2 X3 X4 X5 X6 X7 X8 X9 X10 X11 X12 X13 W0 W1 W2 Y0 Y1 Y2 Y3 Y4 Y5 Y6 Y7 Y8 Y9 K2
      (try simp only [Int32.lt_iff_toInt_lt, Int32.le_iff_toInt_le, Int64.lt_iff_toInt_lt, Int64.le_iff_toInt_le, Int32.toInt_toInt64, ← Int32.toInt_inj, ← Int64.toInt_inj, n32_0, n32_1, n32_2, n32_3, n32_4, n32_6, n32_8, n32_9, n32_10, n32_20, n32_100, n32_120, n32_255, n32_400, n32_3600, n32_m1, n64_0, n64_1, n64_2, n64_3, n64_4, n64_5, n64_9, n64_19, n64_119, n64_255, n64_400, n64_3599, n64_1000000000, n64_1000000000000, n64_m1000000000000] at c0 c1 b0 b1 b3)
      first | contradiction | omega
  · intro c0 c1 ct2 ce2 ch2 c3
    subst ce2
    refine K _ _ ⟨_, M27⟩ (fun Q2 K2 => ?_)
    refine s_X8_sums M27 M38 M35 M36 M39 M40 hT20 ?_ ?_ ?_ ?_ ?_
    · intro b0
      exfalso
      clear hI0 hM hX hW hY hT hE hD hU hS hB hG K M27 M28 M29 M30 M31 M32 M33 M34 M35 M36 M37 M38 M39 M40 M41 M42 M43 M44 M45 M46 M47 M48 M49 X0 X1 X2 X3 X4 X5 X6 X7 X8 X9 X10 X11 X12 X13 W0 W1 W2 Y0 Y1 Y2 Y3 Y4 Y5 Y6 Y7 Y8 Y9 K2
      (try simp only [Int32.lt_iff_toInt_lt, Int32.le_iff_toInt_le, Int64.lt_iff_toInt_lt, Int64.le_iff_toInt_le, Int32.toInt_toInt64, ← Int32.toInt_inj, ← Int64.toInt_inj, n32_0, n32_1, n32_2, n32_3, n32_4, n32_6, n32_8, n32_9, n32_10, n32_20, n32_100, n32_120, n32_255, n32_400, n32_3600, n32_m1, n64_0, n64_1, n64_2, n64_3, n64_4, n64_5, n64_9, n64_19, n64_119, n64_255, n64_400, n64_3599, n64_1000000000, n64_1000000000000, n64_m1000000000000] at c0 c1 c3 b0)
      first | contradiction | omega
    · intro b0 b1
      exfalso
      clear hI0 hM hX hW hY hT hE hD hU hS hB hG K M27 M28 M29 M30 M31 M32 M33 M34 M35 M36 M37 M38 M39 M40 M41 M42 M43 M44 M45 M46 M47 M48 M49 X0 X1 X2 X3 X4 X5 X6 X7 X8 X9 X10 X11 X12 X13 W0 W1 W2 Y0 Y1 Y2 Y3 Y4 Y5 Y6 Y7 Y8 Y9 K2
      (try simp only [Int32.lt_iff_toInt_lt, Int32.le_iff_toInt_le, Int64.lt_iff_toInt_lt, Int64.le_iff_toInt_le, Int32.toInt_toInt64, ← Int32.toInt_inj, ← Int64.toInt_inj, n32_0, n32_1, n32_2, n32_3, n32_4, n32_6, n32_8, n32_9, n32_10, n32_20, n32_100, n32_120, n32_255, n32_400, n32_3600, n32_m1, n64_0, n64_1, n64_2, n64_3, n64_4, n64_5, n64_9, n64_19, n64_119, n64_255, n64_400, n64_3599, n64_1000000000, n64_1000000000000, n64_m1000000000000] at c0 c1 c3 b0 b1)
      first | contradiction | omega
    · intro b0 b1 bt2 be2 bh2 b3 b4
      obtain rfl : ct2 = bt2 := by have z := nI_inj2 be2 (by omega) (by omega); omega
      exfalso
      clear hI0 hM hX hW hY hT hE hD hU hS hB hG K M27 M28 M29 M30 M31 M32 M33 M34 M35 M36 M37 M38 M39 M40 M41 M42 M43 M44 M45 M46 M47 M48 M49 X0 X1 X2 X3 X4 X5 X6 X7 X8 X9 X10 X11 X12 X13 W0 W1 W2 Y0 Y1 Y2 Y3 Y4 Y5 Y6 Y7 Y8 Y9 K2
      (try simp only [Int32.lt_iff_toInt_lt, Int32.le_iff_toInt_le, Int64.lt_iff_toInt_lt, Int64.le_iff_toInt_le, Int32.toInt_toInt64, ← Int32.toInt_inj, ← Int64.toInt_inj, n32_0, n32_1, n32_2, n32_3, n32_4, n32_6, n32_8, n32_9, n32_10, n32_20, n32_100, n32_120, n32_255, n32_400, n32_3600, n32_m1, n64_0, n64_1, n64_2, n64_3, n64_4, n64_5, n64_9, n64_19, n64_119, n64_255, n64_400, n64_3599, n64_1000000000, n64_1000000000000, n64_m1000000000000] at c0 c1 c3 b0 b1 b3 b4)
      first | contradiction | omega
    · intro b0 b1 bt2 be2 bh2 b3 b4
      obtain rfl : ct2 = bt2 := by have z := nI_inj2 be2 (by omega) (by omega); omega
      exfalso
      clear hI0 hM hX hW hY hT hE hD hU hS hB hG K M27 M28 M29 M30 M31 M32 M33 M34 M35 M36 M37 M38 M39 M40 M41 M42 M43 M44 M45 M46 M47 M48 M49 X0 X1 X2 X3 X4 X5 X6 X7 X8 X9 X10 X11 X12 X13 W0 W1 W2 Y0 Y1 Y2 Y3 Y4 Y5 Y6 Y7 Y8 Y9 K2
      (try simp only [Int32.lt_iff_toInt_lt, Int32.le_iff_toInt_le, Int64.lt_iff_toInt_lt, Int64.le_iff_toInt_le, Int32.toInt_toInt64, ← Int32.toInt_inj, ← Int64.toInt_inj, n32_0, n32_1, n32_2, n32_3, n32_4, n32_6, n32_8, n32_9, n32_10, n32_20, n32_100, n32_120, n32_255, n32_400, n32_3600, n32_m1, n64_0, n64_1, n64_2, n64_3, n64_4, n64_5, n64_9, n64_19, n64_119, n64_255, n64_400, n64_3599, n64_1000000000, n64_1000000000000, n64_m1000000000000] at c0 c1 c3 b0 b1 b3 b4)
      first | contradiction | omega
    · intro b0 b1 bt2 be2 bh2 b3
      obtain rfl : ct2 = bt2 := by have z := nI_inj2 be2 (by omega) (by omega); omega
      exact K2 _ (iV_up hI0)
  · intro c0 c1 ct2 ce2 ch2 c3 c4
    subst ce2
    rw [hsm ct2 ch2, hdm ct2 ch2] at c4
    refine K _ _ ⟨_, M27⟩ (fun Q2 K2 => ?_)
    refine s_X8_sums M27 M38 M35 M36 M39 M40 hT20 ?_ ?_ ?_ ?_ ?_
    · intro b0
      exfalso
      clear hI0 hM hX hW hY hT hE hD hU hS hB hG K M27 M28 M29 M30 M31 M32 M33 M34 M35 M36 M37 M38 M39 M40 M41 M42 M43 M44 M45 M46 M47 M48 M49 X0 X1 X2 X3 X4 X5 X6 X7 X8 X9 X10 X11 X12 X13 W0 W1 W2 Y0 Y1 Y2 Y3 Y4 Y5 Y6 Y7 Y8 Y9 K2
      (try simp only [Int32.lt_iff_toInt_lt, Int32.le_iff_toInt_le, Int64.lt_iff_toInt_lt, Int64.le_iff_toInt_le, Int32.toInt_toInt64, ← Int32.toInt_inj, ← Int64.toInt_inj, n32_0, n32_1, n32_2, n32_3, n32_4, n32_6, n32_8, n32_9, n32_10, n32_20, n32_100, n32_120, n32_255, n32_400, n32_3600, n32_m1, n64_0, n64_1, n64_2, n64_3, n64_4, n64_5, n64_9, n64_19, n64_119, n64_255, n64_400, n64_3599, n64_1000000000, n64_1000000000000, n64_m1000000000000] at c0 c1 c3 c4 b0)
      first | contradiction | omega
    · intro b0 b1
      exfalso
      clear hI0 hM hX hW hY hT hE hD hU hS hB hG K M27 M28 M29 M30 M31 M32 M33 M34 M35 M36 M37 M38 M39 M40 M41 M42 M43 M44 M45 M46 M47 M48 M49 X0 X1 X2 X3 X4 X5 X6 X7 X8 X9 X10 X11 X12 X13 W0 W1 W2 Y0 Y1 Y2 Y3 Y4 Y5 Y6 Y7 Y8 Y9 K2
      (try simp only [Int32.lt_iff_toInt_lt, Int32.le_iff_toInt_le, Int64.lt_iff_toInt_lt, Int64.le_iff_toInt_le, Int32.toInt_toInt64, ← Int32.toInt_inj, ← Int64.toInt_inj, n32_0, n32_1, n32_2, n32_3, n32_4, n32_6, n32_8, n32_9, n32_10, n32_20, n32_100, n32_120, n32_255, n32_400, n32_3600, n32_m1, n64_0, n64_1, n64_2, n64_3, n64_4, n64_5, n64_9, n64_19, n64_119, n64_255, n64_400, n64_3599, n64_1000000000, n64_1000000000000, n64_m1000000000000] at c0 c1 c3 c4 b0 b1)
      first | contradiction | omega
    · intro b0 b1 bt2 be2 bh2 b3 b4
      obtain rfl : ct2 = bt2 := by have z := nI_inj2 be2 (by omega) (by omega); omega
      exact K2 _ (iV_up hI0)
    · intro b0 b1 bt2 be2 bh2 b3 b4
      obtain rfl : ct2 = bt2 := by have z := nI_inj2 be2 (by omega) (by omega); omega
      exfalso
      clear hI0 hM hX hW hY hT hE hD hU hS hB hG K M27 M28 M29 M30 M31 M32 M33 M34 M35 M36 M37 M38 M39 M40 M41 M42 M43 M44 M45 M46 M47 M48 M49 X0 X1 X2 X3 X4 X5 X6 X7 X8 X9 X10 X11 X12 X13 W0 W1 W2 Y0 Y1 Y2 Y3 Y4 Y5 Y6 Y7 Y8 Y9 K2
      (try simp only [Int32.lt_iff_toInt_lt, Int32.le_iff_toInt_le, Int64.lt_iff_toInt_lt, Int64.le_iff_toInt_le, Int32.toInt_toInt64, ← Int32.toInt_inj, ← Int64.toInt_inj, n32_0, n32_1, n32_2, n32_3, n32_4, n32_6, n32_8, n32_9, n32_10, n32_20, n32_100, n32_120, n32_255, n32_400, n32_3600, n32_m1, n64_0, n64_1, n64_2, n64_3, n64_4, n64_5, n64_9, n64_19, n64_119, n64_255, n64_400, n64_3599, n64_1000000000, n64_1000000000000, n64_m1000000000000] at c0 c1 c3 c4 b0 b1 b3 b4)
      first | contradiction | omega
    · intro b0 b1 bt2 be2 bh2 b3
      obtain rfl : ct2 = bt2 := by have z := nI_inj2 be2 (by omega) (by omega); omega
      exfalso
      clear hI0 hM hX hW hY hT hE hD hU hS hB hG K M27 M28 M29 M30 M31 M32 M33 M34 M35 M36 M37 M38 M39 M40 M41 M42 M43 M44 M45 M46 M47 M48 M49 X0 X1 X2 X3 X4 X5 X6 X7 X8 X9 X10 X11 X12 X13 W0 W1 W2 Y0 Y1 Y2 Y3 Y4 Y5 Y6 Y7 Y8 Y9 K2
      (try simp only [Int32.lt_iff_toInt_lt, Int32.le_iff_toInt_le, Int64.lt_iff_toInt_lt, Int64.le_iff_toInt_le, Int32.toInt_toInt64, ← Int32.toInt_inj, ← Int64.toInt_inj, n32_0, n32_1, n32_2, n32_3, n32_4, n32_6, n32_8, n32_9, n32_10, n32_20, n32_100, n32_120, n32_255, n32_400, n32_3600, n32_m1, n64_0, n64_1, n64_2, n64_3, n64_4, n64_5, n64_9, n64_19, n64_119, n64_255, n64_400, n64_3599, n64_1000000000, n64_1000000000000, n64_m1000000000000] at c0 c1 c3 c4 b0 b1 b3)
      first | contradiction | omega
  · intro c0 c1 ct2 ce2 ch2 c3 c4
    subst ce2
    rw [hsm ct2 ch2, hdm ct2 ch2] at c4
    refine K _ _ ⟨_, M27⟩ (fun Q2 K2 => ?_)
    refine s_X8_sums M27 M38 M35 M36 M39 M40 hT20 ?_ ?_ ?_ ?_ ?_
    · intro b0
      exfalso
      clear hI0 hM hX hW hY hT hE hD hU hS hB hG K M27 M28 M29 M30 M31 M32 M33 M34 M35 M36 M37 M38 M39 M40 M41 M42 M43 M44 M45 M46 M47 M48 M49 X0 X1 X2 X3 X4 X5 X6 X7 X8 X9 X10 X11 X12 X13 W0 W1 W2 Y0 Y1 Y2 Y3 Y4 Y5 Y6 Y7 Y8 Y9 K2
      (try simp only [Int32.lt_iff_toInt_lt, Int32.le_iff_toInt_le, Int64.lt_iff_toInt_lt, Int64.le_iff_toInt_le, Int32.toInt_toInt64, ← Int32.toInt_inj, ← Int64.toInt_inj, n32_0, n32_1, n32_2, n32_3, n32_4, n32_6, n32_8, n32_9, n32_10, n32_20, n32_100, n32_120, n32_255, n32_400, n32_3600, n32_m1, n64_0, n64_1, n64_2, n64_3, n64_4, n64_5, n64_9, n64_19, n64_119, n64_255, n64_400, n64_3599, n64_1000000000, n64_1000000000000, n64_m1000000000000] at c0 c1 c3 c4 b0)
      first | contradiction | omega
    · intro b0 b1
      exfalso
      clear hI0 hM hX hW hY hT hE hD hU hS hB hG K M27 M28 M29 M30 M31 M32 M33 M34 M35 M36 M37 M38 M39 M40 M41 M42 M43 M44 M45 M46 M47 M48 M49 X0 X1 X2 X3 X4 X5 X6 X7 X8 X9 X10 X11 X12 X13 W0 W1 W2 Y0 Y1 Y2 Y3 Y4 Y5 Y6 Y7 Y8 Y9 K2
      (try simp only [Int32.lt_iff_toInt_lt, Int32.le_iff_toInt_le, Int64.lt_iff_toInt_lt, Int64.le_iff_toInt_le, Int32.toInt_toInt64, ← Int32.toInt_inj, ← Int64.toInt_inj, n32_0, n32_1, n32_2, n32_3, n32_4, n32_6, n32_8, n32_9, n32_10, n32_20, n32_100, n32_120, n32_255, n32_400, n32_3600, n32_m1, n64_0, n64_1, n64_2, n64_3, n64_4, n64_5, n64_9, n64_19, n64_119, n64_255, n64_400, n64_3599, n64_1000000000, n64_1000000000000, n64_m1000000000000] at c0 c1 c3 c4 b0 b1)
      first | contradiction | omega
    · intro b0 b1 bt2 be2 bh2 b3 b4
      obtain rfl : ct2 = bt2 := by have z := nI_inj2 be2 (by omega) (by omega); omega
      exfalso
      clear hI0 hM hX hW hY hT hE hD hU hS hB hG K M27 M28 M29 M30 M31 M32 M33 M34 M35 M36 M37 M38 M39 M40 M41 M42 M43 M44 M45 M46 M47 M48 M49 X0 X1 X2 X3 X4 X5 X6 X7 X8 X9 X10 X11 X12 X13 W0 W1 W2 Y0 Y1 Y2 Y3 Y4 Y5 Y6 Y7 Y8 Y9 K2
      (try simp only [Int32.lt_iff_toInt_lt, Int32.le_iff_toInt_le, Int64.lt_iff_toInt_lt, Int64.le_iff_toInt_le, Int32.toInt_toInt64, ← Int32.toInt_inj, ← Int64.toInt_inj, n32_0, n32_1, n32_2, n32_3, n32_4, n32_6, n32_8, n32_9, n32_10, n32_20, n32_100, n32_120, n32_255, n32_400, n32_3600, n32_m1, n64_0, n64_1, n64_2, n64_3, n64_4, n64_5, n64_9, n64_19, n64_119, n64_255, n64_400, n64_3599, n64_1000000000, n64_1000000000000, n64_m1000000000000] at c0 c1 c3 c4 b0 b1 b3 b4)
      first | contradiction | omega
    · intro b0 b1 bt2 be2 bh2 b3 b4
      obtain rfl : ct2 = bt2 := by have z := nI_inj2 be2 (by omega) (by omega); omega
      exact K2 _ (iV_up hI0)
    · intro b0 b1 bt2 be2 bh2 b3
      obtain rfl : ct2 = bt2 := by have z := nI_inj2 be2 (by omega) (by omega); omega
      exfalso
      clear hI0 hM hX hW hY hT hE hD hU hS hB hG K M27 M28 M29 M30 M31 M32 M33 M34 M35 M36 M37 M38 M39 M40 M41 M42 M43 M44 M45 M46 M47 M48 M49 X0 X1 X2 X3 X4 X5 X6 X7 X8 X9 X10 X11 X12 X13 W0 W1 W2 Y0 Y1 Y2 Y3 Y4 Y5 Y6 Y7 Y8 Y9 K2
      (try simp only [Int32.lt_iff_toInt_lt, Int32.le_iff_toInt_le, Int64.lt_iff_toInt_lt, Int64.le_iff_toInt_le, Int32.toInt_toInt64, ← Int32.toInt_inj, ← Int64.toInt_inj, n32_0, n32_1, n32_2, n32_3, n32_4, n32_6, n32_8, n32_9, n32_10, n32_20, n32_100, n32_120, n32_255, n32_400, n32_3600, n32_m1, n64_0, n64_1, n64_2, n64_3, n64_4, n64_5, n64_9, n64_19, n64_119, n64_255, n64_400, n64_3599, n64_1000000000, n64_1000000000000, n64_m1000000000000] at c0 c1 c3 c4 b0 b1 b3)
      first | contradiction | omega
