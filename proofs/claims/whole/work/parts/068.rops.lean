set_option maxRecDepth 20000 in
theorem r_enter {l : Launch} {G : jG} {h : jH} {Q : Option Value → jH → Prop} {c : Nat}  (hc : c < 512) (hG : j_gok G) (hI : iV c h) (K : ∀ (vv : Int32) (h1 : jH), (∃ fs, h1.2 27 = some (jO 8 fs)) → (∀ Q2 : Option Value → jH → Prop, (∀ h2, iV (c + 1) h2 → Q2 (some (.int vv)) h2) → J l G mX8_enter 0 0 0 (lv_args 0 [.ref 27]) [] h1 Q2) → Q (some (.int vv)) h1) : J l G mX7_enter 0 0 0 (lv_args 0 [.ref 0]) [] h Q := by
  have hI0 := hI
  refine hI _ ?_
  clear hI
  intro L P T E C R R0 n ru dq dr op at_ fr wd ws we wn dd tx rs fs ro sh dy se ey er tk tn ac f1 f2 f3 f4 g1 g2 g3 g4 da lo ad sa co pa ss w1 w2 w3 am pw ps cu dm ta ea shp tb eb rr rn cst prt eam dys eac shs hM hX hW hY hT hE hD hN hU hS hB
  obtain ⟨M27, M28, M29, M30, M31, M32, M33, M34, M35, M36, M37, M38, M39, M40, M41, M42, M43, M44, M45, M46, M47, M48, M49⟩ := id hM
  obtain ⟨X0, X1, X2, X3, X4, X5, X6, X7, X8, X9, X10, X11, X12, X13⟩ := id hX
  obtain ⟨W0, W1, W2⟩ := id hW
  obtain ⟨Y0, Y1, Y2, Y3, Y4, Y5, Y6, Y7, Y8, Y9⟩ := id hY
  obtain ⟨hL, hP, hT20, hE60, hC, hR, hR0, hn, hrd, hop⟩ := id hN
  have hnx : 50 ≤ h.1 := hD.1
  have hdn : dr + 3 ≤ h.1 := hD.2.2.2.2.2.2.2.1
  have hdx : dr = 14 ∨ 50 ≤ dr := hD.2.2.2.2.2.2.1
  refine s_X7_enter (da := da) X0 X12 X13 W0 W2 rfl hE60 (by have q := hD.2.2.2.2.2.2.1; omega) hR (by omega) ?_ ?_ ?_ ?_ ?_ ?_
  · intro c0 c1
    obtain ⟨hRR, hdd, hdm⟩ := hB.2.2 c0
    subst hRR
    subst hdd
    refine K _ _ ⟨_, M27⟩ (fun Q2 K2 => ?_)
    refine s_X8_enter M27 M44 M45 M46 M47 M48 M49 hE60 hB.2.1 hR0 ?_ ?_ ?_ ?_ ?_
    · intro b0 b1
      exact K2 _ (iV_up hI0)
    · intro b0 b1 b2
      exfalso
      clear hI0 hM hX hW hY hT hE hD hU hS hB hG K M27 M28 M29 M30 M31 M32 M33 M34 M35 M36 M37 M38 M39 M40 M41 M42 M43 M44 M45 M46 M47 M48 M49 X0 X1 X2 X3 X4 X5 X6 X7 X8 X9 X10 X11 X12 X13 W0 W1 W2 Y0 Y1 Y2 Y3 Y4 Y5 Y6 Y7 Y8 Y9 K2
      (try simp only [Int32.lt_iff_toInt_lt, Int32.le_iff_toInt_le, Int64.lt_iff_toInt_lt, Int64.le_iff_toInt_le, Int32.toInt_toInt64, ← Int32.toInt_inj, ← Int64.toInt_inj, n32_0, n32_1, n32_2, n32_3, n32_4, n32_6, n32_8, n32_9, n32_10, n32_20, n32_100, n32_120, n32_255, n32_400, n32_3600, n32_m1, n64_0, n64_1, n64_2, n64_3, n64_4, n64_5, n64_9, n64_19, n64_119, n64_255, n64_400, n64_3599, n64_1000000000, n64_1000000000000, n64_m1000000000000] at c0 c1 b0 b1 b2)
      first | contradiction | omega
    · intro b0 b1 b2 b3
      exfalso
      clear hI0 hM hX hW hY hT hE hD hU hS hB hG K M27 M28 M29 M30 M31 M32 M33 M34 M35 M36 M37 M38 M39 M40 M41 M42 M43 M44 M45 M46 M47 M48 M49 X0 X1 X2 X3 X4 X5 X6 X7 X8 X9 X10 X11 X12 X13 W0 W1 W2 Y0 Y1 Y2 Y3 Y4 Y5 Y6 Y7 Y8 Y9 K2
      (try simp only [Int32.lt_iff_toInt_lt, Int32.le_iff_toInt_le, Int64.lt_iff_toInt_lt, Int64.le_iff_toInt_le, Int32.toInt_toInt64, ← Int32.toInt_inj, ← Int64.toInt_inj, n32_0, n32_1, n32_2, n32_3, n32_4, n32_6, n32_8, n32_9, n32_10, n32_20, n32_100, n32_120, n32_255, n32_400, n32_3600, n32_m1, n64_0, n64_1, n64_2, n64_3, n64_4, n64_5, n64_9, n64_19, n64_119, n64_255, n64_400, n64_3599, n64_1000000000, n64_1000000000000, n64_m1000000000000] at c0 c1 b0 b1 b2 b3)
      first | contradiction | omega
    · intro b0 b1 b2 b3
      exfalso
      clear hI0 hM hX hW hY hT hE hD hU hS hB hG K M27 M28 M29 M30 M31 M32 M33 M34 M35 M36 M37 M38 M39 M40 M41 M42 M43 M44 M45 M46 M47 M48 M49 X0 X1 X2 X3 X4 X5 X6 X7 X8 X9 X10 X11 X12 X13 W0 W1 W2 Y0 Y1 Y2 Y3 Y4 Y5 Y6 Y7 Y8 Y9 K2
      (try simp only [Int32.lt_iff_toInt_lt, Int32.le_iff_toInt_le, Int64.lt_iff_toInt_lt, Int64.le_iff_toInt_le, Int32.toInt_toInt64, ← Int32.toInt_inj, ← Int64.toInt_inj, n32_0, n32_1, n32_2, n32_3, n32_4, n32_6, n32_8, n32_9, n32_10, n32_20, n32_100, n32_120, n32_255, n32_400, n32_3600, n32_m1, n64_0, n64_1, n64_2, n64_3, n64_4, n64_5, n64_9, n64_19, n64_119, n64_255, n64_400, n64_3599, n64_1000000000, n64_1000000000000, n64_m1000000000000] at c0 c1 b0 b1 b2 b3)
      first | contradiction | omega
    · intro b0
      exfalso
      clear hI0 hM hX hW hY hT hE hD hU hS hB hG K M27 M28 M29 M30 M31 M32 M33 M34 M35 M36 M37 M38 M39 M40 M41 M42 M43 M44 M45 M46 M47 M48 M49 X0 X1 X2 X3 X4 X5 X6 X7 X8 X9 X10 X11 X12 X13 W0 W1 W2 Y0 Y1 Y2 Y3 Y4 Y5 Y6 Y7 Y8 Y9 K2
      (try simp only [Int32.lt_iff_toInt_lt, Int32.le_iff_toInt_le, Int64.lt_iff_toInt_lt, Int64.le_iff_toInt_le, Int32.toInt_toInt64, ← Int32.toInt_inj, ← Int64.toInt_inj, n32_0, n32_1, n32_2, n32_3, n32_4, n32_6, n32_8, n32_9, n32_10, n32_20, n32_100, n32_120, n32_255, n32_400, n32_3600, n32_m1, n64_0, n64_1, n64_2, n64_3, n64_4, n64_5, n64_9, n64_19, n64_119, n64_255, n64_400, n64_3599, n64_1000000000, n64_1000000000000, n64_m1000000000000] at c0 c1 b0)
      first | contradiction | omega
  · intro c0 c1 c2
    obtain ⟨hRR, hdd, hdm⟩ := hB.2.2 c0
    subst hRR
    subst hdd
    have hsm : j_sm dm R = j_sm am R := j_sm_eq (fun k hk => (hdm k hk).2)
    rw [hsm] at c2
    refine K _ _ ⟨_, M27⟩ (fun Q2 K2 => ?_)
    refine s_X8_enter M27 M44 M45 M46 M47 M48 M49 hE60 hB.2.1 hR0 ?_ ?_ ?_ ?_ ?_
    · intro b0 b1
      exfalso
      clear hI0 hM hX hW hY hT hE hD hU hS hB hG K M27 M28 M29 M30 M31 M32 M33 M34 M35 M36 M37 M38 M39 M40 M41 M42 M43 M44 M45 M46 M47 M48 M49 X0 X1 X2 X3 X4 X5 X6 X7 X8 X9 X10 X11 X12 X13 W0 W1 W2 Y0 Y1 Y2 Y3 Y4 Y5 Y6 Y7 Y8 Y9 K2
      (try simp only [Int32.lt_iff_toInt_lt, Int32.le_iff_toInt_le, Int64.lt_iff_toInt_lt, Int64.le_iff_toInt_le, Int32.toInt_toInt64, ← Int32.toInt_inj, ← Int64.toInt_inj, n32_0, n32_1, n32_2, n32_3, n32_4, n32_6, n32_8, n32_9, n32_10, n32_20, n32_100, n32_120, n32_255, n32_400, n32_3600, n32_m1, n64_0, n64_1, n64_2, n64_3, n64_4, n64_5, n64_9, n64_19, n64_119, n64_255, n64_400, n64_3599, n64_1000000000, n64_1000000000000, n64_m1000000000000] at c0 c1 c2 b0 b1)
      first | contradiction | omega
    · intro b0 b1 b2
      exact K2 _ (iV_up hI0)
    · intro b0 b1 b2 b3
      exfalso
      clear hI0 hM hX hW hY hT hE hD hU hS hB hG K M27 M28 M29 M30 M31 M32 M33 M34 M35 M36 M37 M38 M39 M40 M41 M42 M43 M44 M45 M46 M47 M48 M49 X0 X1 X2 X3 X4 X5 X6 X7 X8 X9 X10 X11 X12 X13 W0 W1 W2 Y0 Y1 Y2 Y3 Y4 Y5 Y6 Y7 Y8 Y9 K2
      (try simp only [Int32.lt_iff_toInt_lt, Int32.le_iff_toInt_le, Int64.lt_iff_toInt_lt, Int64.le_iff_toInt_le, Int32.toInt_toInt64, ← Int32.toInt_inj, ← Int64.toInt_inj, n32_0, n32_1, n32_2, n32_3, n32_4, n32_6, n32_8, n32_9, n32_10, n32_20, n32_100, n32_120, n32_255, n32_400, n32_3600, n32_m1, n64_0, n64_1, n64_2, n64_3, n64_4, n64_5, n64_9, n64_19, n64_119, n64_255, n64_400, n64_3599, n64_1000000000, n64_1000000000000, n64_m1000000000000] at c0 c1 c2 b0 b1 b2 b3)
      first | contradiction | omega
    · intro b0 b1 b2 b3
      exfalso
      clear hI0 hM hX hW hY hT hE hD hU hS hB hG K M27 M28 M29 M30 M31 M32 M33 M34 M35 M36 M37 M38 M39 M40 M41 M42 M43 M44 M45 M46 M47 M48 M49 X0 X1 X2 X3 X4 X5 X6 X7 X8 X9 X10 X11 X12 X13 W0 W1 W2 Y0 Y1 Y2 Y3 Y4 Y5 Y6 Y7 Y8 Y9 K2
      (try simp only [Int32.lt_iff_toInt_lt, Int32.le_iff_toInt_le, Int64.lt_iff_toInt_lt, Int64.le_iff_toInt_le, Int32.toInt_toInt64, ← Int32.toInt_inj, ← Int64.toInt_inj, n32_0, n32_1, n32_2, n32_3, n32_4, n32_6, n32_8, n32_9, n32_10, n32_20, n32_100, n32_120, n32_255, n32_400, n32_3600, n32_m1, n64_0, n64_1, n64_2, n64_3, n64_4, n64_5, n64_9, n64_19, n64_119, n64_255, n64_400, n64_3599, n64_1000000000, n64_1000000000000, n64_m1000000000000] at c0 c1 c2 b0 b1 b2 b3)
      first | contradiction | omega
    · intro b0
      exfalso
      clear hI0 hM hX hW hY hT hE hD hU hS hB hG K M27 M28 M29 M30 M31 M32 M33 M34 M35 M36 M37 M38 M39 M40 M41 M42 M43 M44 M45 M46 M47 M48 M49 X0 X1 X2 X3 X4 X5 X6 X7 X8 X9 X10 X11 X12 X13 W0 W1 W2 Y0 Y1 Y2 Y3 Y4 Y5 Y6 Y7 Y8 Y9 K2
      (try simp only [Int32.lt_iff_toInt_lt, Int32.le_iff_toInt_le, Int64.lt_iff_toInt_lt, Int64.le_iff_toInt_le, Int32.toInt_toInt64, ← Int32.toInt_inj, ← Int64.toInt_inj, n32_0, n32_1, n32_2, n32_3, n32_4, n32_6, n32_8, n32_9, n32_10, n32_20, n32_100, n32_120, n32_255, n32_400, n32_3600, n32_m1, n64_0, n64_1, n64_2, n64_3, n64_4, n64_5, n64_9, n64_19, n64_119, n64_255, n64_400, n64_3599, n64_1000000000, n64_1000000000000, n64_m1000000000000] at c0 c1 c2 b0)
      first | contradiction | omega
  · intro c0 c1 c2 c3 c4
    exfalso
    clear hI0 hM hX hW hY hT hE hD hU hS hB hG K M27 M28 M29 M30 M31 M32 M33 M34 M35 M36 M37 M38 M39 M40 M41 M42 M43 M44 M45 M46 M47 M48 M49 X0 X1 X2 X3 X4 X5 X6 X7 X8 X9 X10 X11 X12 X13 W0 W1 W2 Y0 Y1 Y2 Y3 Y4 Y5 Y6 Y7 Y8 Y9
    (try simp only [Int32.lt_iff_toInt_lt, Int32.le_iff_toInt_le, Int64.lt_iff_toInt_lt, Int64.le_iff_toInt_le, Int32.toInt_toInt64, ← Int32.toInt_inj, ← Int64.toInt_inj, n32_0, n32_1, n32_2, n32_3, n32_4, n32_6, n32_8, n32_9, n32_10, n32_20, n32_100, n32_120, n32_255, n32_400, n32_3600, n32_m1, n64_0, n64_1, n64_2, n64_3, n64_4, n64_5, n64_9, n64_19, n64_119, n64_255, n64_400, n64_3599, n64_1000000000, n64_1000000000000, n64_m1000000000000] at c0 c1 c2 c3 c4)
    first | contradiction | omega
  · intro c0 c1 c2 c3 c4
    obtain ⟨hRR, hdd, hdm⟩ := hB.2.2 c0
    subst hRR
    subst hdd
    have hsm : j_sm dm R = j_sm am R := j_sm_eq (fun k hk => (hdm k hk).2)
    rw [hsm] at c2
    refine K _ _ ⟨_, (j_hn (by omega) (j_hn (by omega) (j_hn (by omega) (j_hn (by decide) (j_hn (by decide) M27)))))⟩ (fun Q2 K2 => ?_)
    refine s_X8_enter (j_hn (by omega) (j_hn (by omega) (j_hn (by omega) (j_hn (by decide) (j_hn (by decide) M27))))) (j_hn (by omega) (j_hn (by omega) (j_hn (by omega) (j_hn (by decide) (j_hn (by decide) M44))))) (j_hn (by omega) (j_hn (by omega) (j_hn (by omega) (j_hn (by decide) (j_hn (by decide) M45))))) (j_hn (by omega) (j_hn (by omega) (j_hn (by omega) (j_hn (by decide) (j_hn (by decide) M46))))) (j_hn (by omega) (j_hn (by omega) (j_hn (by omega) (j_hn (by decide) (j_hn (by decide) M47))))) (j_hn (by omega) (j_hn (by omega) (j_hn (by omega) (j_hn (by decide) (j_hn (by decide) M48))))) (j_hn (by omega) (j_hn (by omega) (j_hn (by omega) (j_hn (by decide) (j_hn (by decide) M49))))) hE60 hB.2.1 hR0 ?_ ?_ ?_ ?_ ?_
    · intro b0 b1
      exfalso
      clear hI0 hM hX hW hY hT hE hD hU hS hB hG K M27 M28 M29 M30 M31 M32 M33 M34 M35 M36 M37 M38 M39 M40 M41 M42 M43 M44 M45 M46 M47 M48 M49 X0 X1 X2 X3 X4 X5 X6 X7 X8 X9 X10 X11 X12 X13 W0 W1 W2 Y0 Y1 Y2 Y3 Y4 Y5 Y6 Y7 Y8 Y9 K2
      (try simp only [Int32.lt_iff_toInt_lt, Int32.le_iff_toInt_le, Int64.lt_iff_toInt_lt, Int64.le_iff_toInt_le, Int32.toInt_toInt64, ← Int32.toInt_inj, ← Int64.toInt_inj, n32_0, n32_1, n32_2, n32_3, n32_4, n32_6, n32_8, n32_9, n32_10, n32_20, n32_100, n32_120, n32_255, n32_400, n32_3600, n32_m1, n64_0, n64_1, n64_2, n64_3, n64_4, n64_5, n64_9, n64_19, n64_119, n64_255, n64_400, n64_3599, n64_1000000000, n64_1000000000000, n64_m1000000000000] at c0 c1 c2 c3 c4 b0 b1)
      first | contradiction | omega
    · intro b0 b1 b2
      exfalso
      clear hI0 hM hX hW hY hT hE hD hU hS hB hG K M27 M28 M29 M30 M31 M32 M33 M34 M35 M36 M37 M38 M39 M40 M41 M42 M43 M44 M45 M46 M47 M48 M49 X0 X1 X2 X3 X4 X5 X6 X7 X8 X9 X10 X11 X12 X13 W0 W1 W2 Y0 Y1 Y2 Y3 Y4 Y5 Y6 Y7 Y8 Y9 K2
      (try simp only [Int32.lt_iff_toInt_lt, Int32.le_iff_toInt_le, Int64.lt_iff_toInt_lt, Int64.le_iff_toInt_le, Int32.toInt_toInt64, ← Int32.toInt_inj, ← Int64.toInt_inj, n32_0, n32_1, n32_2, n32_3, n32_4, n32_6, n32_8, n32_9, n32_10, n32_20, n32_100, n32_120, n32_255, n32_400, n32_3600, n32_m1, n64_0, n64_1, n64_2, n64_3, n64_4, n64_5, n64_9, n64_19, n64_119, n64_255, n64_400, n64_3599, n64_1000000000, n64_1000000000000, n64_m1000000000000] at c0 c1 c2 c3 c4 b0 b1 b2)
      first | contradiction | omega
    · intro b0 b1 b2 b3
      refine K2 _ (fun X k => ?_)
      exact k L P T (E + 1) C 0 R n ru dq h.1 0 at_ fr wd ws we wn 0 tx rs fs ro sh dy se (va_up ey (E + 1) (ey 0)) (va_up er (E + 1) (er 0)) (va_up tk (E + 1) 0) (va_up tn (E + 1) 0) (j_fl ac (8 * (E + 1)) (fun k => ac (8 * 0 + k)) R) f1 f2 f3 f4 g1 g2 g3 g4 (fun _ => 0) lo ad sa co pa ss w1 w2 w3 (j_fl am (8 * (E + 1)) (fun k => 1 * am (8 * 0 + k)) R) pw ps cu (fun _ => 0) ta (va_up ea E (some dr)) shp tb (va_up eb E dr) (va_up rr E R) rn cst prt (va_up eam E dm) dys (va_up eac E da) shs (⟨(j_hn (by decide) (j_hn (by decide) (j_hn (by decide) (j_hn (by decide) (j_hn (by decide) (j_hn (by decide) j_hs)))))), (j_hn (by decide) (j_hn (by decide) (j_hn (by decide) (j_hn (by decide) (j_hn (by decide) (j_hn (by decide) (j_hn (by decide) (j_hn (by omega) (j_hn (by omega) (j_hn (by omega) (j_hn (by decide) (j_hn (by decide) M28)))))))))))), (j_hn (by decide) (j_hn (by decide) (j_hn (by decide) (j_hn (by decide) (j_hn (by decide) (j_hn (by decide) (j_hn (by decide) (j_hn (by omega) (j_hn (by omega) (j_hn (by omega) (j_hn (by decide) (j_hn (by decide) M29)))))))))))), (j_hn (by decide) (j_hn (by decide) (j_hn (by decide) (j_hn (by decide) (j_hn (by decide) (j_hn (by decide) (j_hn (by decide) (j_hn (by omega) (j_hn (by omega) (j_hn (by omega) (j_hn (by decide) (j_hn (by decide) M30)))))))))))), (j_hn (by decide) (j_hn (by decide) (j_hn (by decide) (j_hn (by decide) (j_hn (by decide) (j_hn (by decide) (j_hn (by decide) (j_hn (by omega) (j_hn (by omega) (j_hn (by omega) (j_hn (by decide) (j_hn (by decide) M31)))))))))))), (j_hn (by decide) (j_hn (by decide) (j_hn (by decide) (j_hn (by decide) (j_hn (by decide) (j_hn (by decide) (j_hn (by decide) (j_hn (by omega) (j_hn (by omega) (j_hn (by omega) (j_hn (by decide) (j_hn (by decide) M32)))))))))))), (j_hn (by decide) (j_hn (by decide) (j_hn (by decide) (j_hn (by decide) (j_hn (by decide) (j_hn (by decide) (j_hn (by decide) (j_hn (by omega) (j_hn (by omega) (j_hn (by omega) (j_hn (by decide) (j_hn (by decide) M33)))))))))))), (j_hn (by decide) (j_hn (by decide) (j_hn (by decide) (j_hn (by decide) (j_hn (by decide) (j_hn (by decide) (j_hn (by decide) (j_hn (by omega) (j_hn (by omega) (j_hn (by omega) (j_hn (by decide) (j_hn (by decide) M34)))))))))))), (j_hn (by decide) (j_hn (by decide) (j_hn (by decide) (j_hn (by decide) (j_hn (by decide) (j_hn (by decide) (j_hn (by decide) (j_hn (by omega) (j_hn (by omega) (j_hn (by omega) (j_hn (by decide) (j_hn (by decide) M35)))))))))))), (j_hn (by decide) (j_hn (by decide) (j_hn (by decide) (j_hn (by decide) (j_hn (by decide) (j_hn (by decide) (j_hn (by decide) (j_hn (by omega) (j_hn (by omega) (j_hn (by omega) (j_hn (by decide) (j_hn (by decide) M36)))))))))))), (j_hn (by decide) (j_hn (by decide) (j_hn (by decide) (j_hn (by decide) (j_hn (by decide) (j_hn (by decide) (j_hn (by decide) (j_hn (by omega) (j_hn (by omega) (j_hn (by omega) (j_hn (by decide) (j_hn (by decide) M37)))))))))))), (j_hn (by decide) (j_hn (by decide) (j_hn (by decide) (j_hn (by decide) (j_hn (by decide) (j_hn (by decide) (j_hn (by decide) (j_hn (by omega) (j_hn (by omega) (j_hn (by omega) (j_hn (by decide) (j_hn (by decide) M38)))))))))))), (j_hn (by decide) (j_hn (by decide) (j_hn (by decide) (j_hn (by decide) (j_hn (by decide) (j_hn (by decide) (j_hn (by decide) (j_hn (by omega) (j_hn (by omega) (j_hn (by omega) (j_hn (by decide) (j_hn (by decide) M39)))))))))))), (j_hn (by decide) (j_hn (by decide) (j_hn (by decide) (j_hn (by decide) (j_hn (by decide) (j_hn (by decide) (j_hn (by decide) (j_hn (by omega) (j_hn (by omega) (j_hn (by omega) (j_hn (by decide) (j_hn (by decide) M40)))))))))))), (j_hn (by decide) (j_hn (by decide) (j_hn (by decide) (j_hn (by decide) (j_hn (by decide) (j_hn (by decide) (j_hn (by decide) (j_hn (by omega) (j_hn (by omega) (j_hn (by omega) (j_hn (by decide) (j_hn (by decide) M41)))))))))))), (j_hn (by decide) (j_hn (by decide) (j_hn (by decide) (j_hn (by decide) (j_hn (by decide) (j_hn (by decide) (j_hn (by decide) (j_hn (by omega) (j_hn (by omega) (j_hn (by omega) (j_hn (by decide) (j_hn (by decide) M42)))))))))))), (j_hn (by decide) (j_hn (by decide) (j_hn (by decide) (j_hn (by decide) (j_hn (by decide) (j_hn (by decide) (j_hn (by decide) (j_hn (by omega) (j_hn (by omega) (j_hn (by omega) (j_hn (by decide) (j_hn (by decide) M43)))))))))))), (j_hn (by decide) (j_hn (by decide) (j_hn (by decide) (j_hn (by decide) (j_hn (by decide) j_hs))))), (j_hn (by decide) (j_hn (by decide) (j_hn (by decide) (j_hn (by decide) j_hs)))), (j_hn (by decide) (j_hn (by decide) (j_hn (by decide) j_hs))), (j_hn (by decide) (j_hn (by decide) j_hs)), (j_hn (by decide) j_hs), j_hs⟩) (⟨(j_hn (by decide) (j_hn (by decide) (j_hn (by decide) (j_hn (by decide) (j_hn (by decide) (j_hn (by decide) (j_hn (by decide) (j_hn (by omega) (j_hn (by omega) (j_hn (by omega) (j_hn (by decide) (j_hn (by decide) X0)))))))))))), (j_hn (by decide) (j_hn (by decide) (j_hn (by decide) (j_hn (by decide) (j_hn (by decide) (j_hn (by decide) (j_hn (by decide) (j_hn (by omega) (j_hn (by omega) (j_hn (by omega) (j_hn (by decide) (j_hn (by decide) X1)))))))))))), (j_hn (by decide) (j_hn (by decide) (j_hn (by decide) (j_hn (by decide) (j_hn (by decide) (j_hn (by decide) (j_hn (by decide) (j_hn (by omega) (j_hn (by omega) (j_hn (by omega) (j_hn (by decide) (j_hn (by decide) X2)))))))))))), (j_hn (by decide) (j_hn (by decide) (j_hn (by decide) (j_hn (by decide) (j_hn (by decide) (j_hn (by decide) (j_hn (by decide) (j_hn (by omega) (j_hn (by omega) (j_hn (by omega) (j_hn (by decide) (j_hn (by decide) X3)))))))))))), (j_hn (by decide) (j_hn (by decide) (j_hn (by decide) (j_hn (by decide) (j_hn (by decide) (j_hn (by decide) (j_hn (by decide) (j_hn (by omega) (j_hn (by omega) (j_hn (by omega) (j_hn (by decide) (j_hn (by decide) X4)))))))))))), (j_hn (by decide) (j_hn (by decide) (j_hn (by decide) (j_hn (by decide) (j_hn (by decide) (j_hn (by decide) (j_hn (by decide) (j_hn (by omega) (j_hn (by omega) (j_hn (by omega) (j_hn (by decide) (j_hn (by decide) X5)))))))))))), (j_hn (by decide) (j_hn (by decide) (j_hn (by decide) (j_hn (by decide) (j_hn (by decide) (j_hn (by decide) (j_hn (by decide) (j_hn (by omega) (j_hn (by omega) (j_hn (by omega) (j_hn (by decide) (j_hn (by decide) X6)))))))))))), (j_hn (by decide) (j_hn (by decide) (j_hn (by decide) (j_hn (by decide) (j_hn (by decide) (j_hn (by decide) (j_hn (by decide) (j_hn (by omega) (j_hn (by omega) (j_hn (by omega) (j_hn (by decide) (j_hn (by decide) X7)))))))))))), (j_hn (by decide) (j_hn (by decide) (j_hn (by decide) (j_hn (by decide) (j_hn (by decide) (j_hn (by decide) (j_hn (by decide) (j_hn (by omega) (j_hn (by omega) (j_hn (by omega) (j_hn (by decide) (j_hn (by decide) X8)))))))))))), (j_hn (by decide) (j_hn (by decide) (j_hn (by decide) (j_hn (by decide) (j_hn (by decide) (j_hn (by decide) (j_hn (by decide) (j_hn (by omega) (j_hn (by omega) (j_hn (by omega) (j_hn (by decide) (j_hn (by decide) X9)))))))))))), (j_hn (by decide) (j_hn (by decide) (j_hn (by decide) (j_hn (by decide) (j_hn (by decide) (j_hn (by decide) (j_hn (by decide) (j_hn (by omega) (j_hn (by omega) (j_hn (by omega) (j_hn (by decide) (j_hn (by decide) X10)))))))))))), (j_hn (by decide) (j_hn (by decide) (j_hn (by decide) (j_hn (by decide) (j_hn (by decide) (j_hn (by decide) (j_hn (by decide) (j_hn (by omega) (j_hn (by omega) (j_hn (by omega) (j_hn (by decide) (j_hn (by decide) X11)))))))))))), (j_hn (by decide) (j_hn (by decide) (j_hn (by decide) (j_hn (by decide) (j_hn (by decide) (j_hn (by decide) (j_hn (by decide) (j_hn (by omega) (j_hn (by omega) (j_hn (by omega) j_hs)))))))))), (j_hn (by decide) (j_hn (by decide) (j_hn (by decide) (j_hn (by decide) (j_hn (by decide) (j_hn (by decide) (j_hn (by decide) (j_hn (by omega) (j_hn (by omega) (j_hn (by omega) (j_hn (by decide) j_hs)))))))))))⟩) (⟨(j_hn (by omega) (j_hn (by omega) (j_hn (by omega) (j_hn (by omega) (j_hn (by omega) (j_hn (by omega) (j_hn (by omega) (j_hn (by omega) (j_hn (by omega) j_hs))))))))), (j_hn (by omega) (j_hn (by omega) (j_hn (by omega) (j_hn (by omega) (j_hn (by omega) (j_hn (by omega) (j_hn (by omega) (j_hn (by omega) j_hs)))))))), (j_hn (by omega) (j_hn (by omega) (j_hn (by omega) (j_hn (by omega) (j_hn (by omega) (j_hn (by omega) (j_hn (by omega) j_hs)))))))⟩) ((iY_set (iY_set (iY_set (iY_set (iY_set (iY_set (iY_set (iY_set (iY_set (iY_set (iY_set (iY_set hY hrd (by decide)) hrd (by decide)) hrd (by omega)) hrd (by omega)) hrd (by omega)) hrd (by decide)) hrd (by decide)) hrd (by decide)) hrd (by decide)) hrd (by decide)) hrd (by decide)) hrd (by decide))) ((iT_lo hD (by decide) (iT_lo hD (by decide) (iT_lo hD (by decide) (iT_lo hD (by decide) (iT_lo hD (by decide) (iT_lo hD (by decide) (iT_lo hD (by decide) (iT_set (iT_set (iT_set (iT_lo hD (by decide) (iT_lo hD (by decide) hT)) (fun t ht => by have q := (hD.2.1 t ht).2; omega)) (fun t ht => by have q := (hD.2.1 t ht).2; omega)) (fun t ht => by have q := (hD.2.1 t ht).2; omega)))))))))) (iE_add (iE_lo hD (by decide) (iE_lo hD (by decide) (iE_lo hD (by decide) (iE_lo hD (by decide) (iE_lo hD (by decide) (iE_lo hD (by decide) (iE_lo hD (by decide) (iE_set (iE_set (iE_set (iE_lo hD (by decide) (iE_lo hD (by decide) hE)) (fun e he => by have q := (hD.2.2.2.1 e he).2; omega)) (fun e he => by have q := (hD.2.2.2.1 e he).2; omega)) (fun e he => by have q := (hD.2.2.2.1 e he).2; omega))))))))) (j_hn (by omega) (j_hn (by omega) (j_hn (by omega) (j_hn (by omega) (j_hn (by omega) (j_hn (by omega) (j_hn (by omega) (j_hn (by omega) (j_hn (by omega) (j_hn (by omega) (j_hn (by omega) (j_hn (by omega) W0)))))))))))) (j_hn (by omega) (j_hn (by omega) (j_hn (by omega) (j_hn (by omega) (j_hn (by omega) (j_hn (by omega) (j_hn (by omega) (j_hn (by omega) (j_hn (by omega) (j_hn (by omega) (j_hn (by omega) (j_hn (by omega) W1)))))))))))) (j_hn (by omega) (j_hn (by omega) (j_hn (by omega) (j_hn (by omega) (j_hn (by omega) (j_hn (by omega) (j_hn (by omega) (j_hn (by omega) (j_hn (by omega) (j_hn (by omega) (j_hn (by omega) (j_hn (by omega) W2))))))))))))) (iD_enter hD) (⟨hL, hP, hT20, (by omega), hC, Nat.zero_le _, hR0, hn, hrd, Or.inl rfl⟩) (hU) (iS_up hS) (iB_enter hB c0 hR)
    · intro b0 b1 b2 b3
      exfalso
      clear hI0 hM hX hW hY hT hE hD hU hS hB hG K M27 M28 M29 M30 M31 M32 M33 M34 M35 M36 M37 M38 M39 M40 M41 M42 M43 M44 M45 M46 M47 M48 M49 X0 X1 X2 X3 X4 X5 X6 X7 X8 X9 X10 X11 X12 X13 W0 W1 W2 Y0 Y1 Y2 Y3 Y4 Y5 Y6 Y7 Y8 Y9 K2
      (try simp only [Int32.lt_iff_toInt_lt, Int32.le_iff_toInt_le, Int64.lt_iff_toInt_lt, Int64.le_iff_toInt_le, Int32.toInt_toInt64, ← Int32.toInt_inj, ← Int64.toInt_inj, n32_0, n32_1, n32_2, n32_3, n32_4, n32_6, n32_8, n32_9, n32_10, n32_20, n32_100, n32_120, n32_255, n32_400, n32_3600, n32_m1, n64_0, n64_1, n64_2, n64_3, n64_4, n64_5, n64_9, n64_19, n64_119, n64_255, n64_400, n64_3599, n64_1000000000, n64_1000000000000, n64_m1000000000000] at c0 c1 c2 c3 c4 b0 b1 b2 b3)
      first | contradiction | omega
    · intro b0
      exfalso
      clear hI0 hM hX hW hY hT hE hD hU hS hB hG K M27 M28 M29 M30 M31 M32 M33 M34 M35 M36 M37 M38 M39 M40 M41 M42 M43 M44 M45 M46 M47 M48 M49 X0 X1 X2 X3 X4 X5 X6 X7 X8 X9 X10 X11 X12 X13 W0 W1 W2 Y0 Y1 Y2 Y3 Y4 Y5 Y6 Y7 Y8 Y9 K2
      (try simp only [Int32.lt_iff_toInt_lt, Int32.le_iff_toInt_le, Int64.lt_iff_toInt_lt, Int64.le_iff_toInt_le, Int32.toInt_toInt64, ← Int32.toInt_inj, ← Int64.toInt_inj, n32_0, n32_1, n32_2, n32_3, n32_4, n32_6, n32_8, n32_9, n32_10, n32_20, n32_100, n32_120, n32_255, n32_400, n32_3600, n32_m1, n64_0, n64_1, n64_2, n64_3, n64_4, n64_5, n64_9, n64_19, n64_119, n64_255, n64_400, n64_3599, n64_1000000000, n64_1000000000000, n64_m1000000000000] at c0 c1 c2 c3 c4 b0)
      first | contradiction | omega
  · intro c0 c1 c2 c3
    obtain ⟨hRR, hdd, hdm⟩ := hB.2.2 c0
    subst hRR
    subst hdd
    have hsm : j_sm dm R = j_sm am R := j_sm_eq (fun k hk => (hdm k hk).2)
    rw [hsm] at c2
    refine K _ _ ⟨_, M27⟩ (fun Q2 K2 => ?_)
    refine s_X8_enter M27 M44 M45 M46 M47 M48 M49 hE60 hB.2.1 hR0 ?_ ?_ ?_ ?_ ?_
    · intro b0 b1
      exfalso
      clear hI0 hM hX hW hY hT hE hD hU hS hB hG K M27 M28 M29 M30 M31 M32 M33 M34 M35 M36 M37 M38 M39 M40 M41 M42 M43 M44 M45 M46 M47 M48 M49 X0 X1 X2 X3 X4 X5 X6 X7 X8 X9 X10 X11 X12 X13 W0 W1 W2 Y0 Y1 Y2 Y3 Y4 Y5 Y6 Y7 Y8 Y9 K2
      (try simp only [Int32.lt_iff_toInt_lt, Int32.le_iff_toInt_le, Int64.lt_iff_toInt_lt, Int64.le_iff_toInt_le, Int32.toInt_toInt64, ← Int32.toInt_inj, ← Int64.toInt_inj, n32_0, n32_1, n32_2, n32_3, n32_4, n32_6, n32_8, n32_9, n32_10, n32_20, n32_100, n32_120, n32_255, n32_400, n32_3600, n32_m1, n64_0, n64_1, n64_2, n64_3, n64_4, n64_5, n64_9, n64_19, n64_119, n64_255, n64_400, n64_3599, n64_1000000000, n64_1000000000000, n64_m1000000000000] at c0 c1 c2 c3 b0 b1)
      first | contradiction | omega
    · intro b0 b1 b2
      exfalso
      clear hI0 hM hX hW hY hT hE hD hU hS hB hG K M27 M28 M29 M30 M31 M32 M33 M34 M35 M36 M37 M38 M39 M40 M41 M42 M43 M44 M45 M46 M47 M48 M49 X0 X1 X2 X3 X4 X5 X6 X7 X8 X9 X10 X11 X12 X13 W0 W1 W2 Y0 Y1 Y2 Y3 Y4 Y5 Y6 Y7 Y8 Y9 K2
      (try simp only [Int32.lt_iff_toInt_lt, Int32.le_iff_toInt_le, Int64.lt_iff_toInt_lt, Int64.le_iff_toInt_le, Int32.toInt_toInt64, ← Int32.toInt_inj, ← Int64.toInt_inj, n32_0, n32_1, n32_2, n32_3, n32_4, n32_6, n32_8, n32_9, n32_10, n32_20, n32_100, n32_120, n32_255, n32_400, n32_3600, n32_m1, n64_0, n64_1, n64_2, n64_3, n64_4, n64_5, n64_9, n64_19, n64_119, n64_255, n64_400, n64_3599, n64_1000000000, n64_1000000000000, n64_m1000000000000] at c0 c1 c2 c3 b0 b1 b2)
      first | contradiction | omega
    · intro b0 b1 b2 b3
      exfalso
      clear hI0 hM hX hW hY hT hE hD hU hS hB hG K M27 M28 M29 M30 M31 M32 M33 M34 M35 M36 M37 M38 M39 M40 M41 M42 M43 M44 M45 M46 M47 M48 M49 X0 X1 X2 X3 X4 X5 X6 X7 X8 X9 X10 X11 X12 X13 W0 W1 W2 Y0 Y1 Y2 Y3 Y4 Y5 Y6 Y7 Y8 Y9 K2
      (try simp only [Int32.lt_iff_toInt_lt, Int32.le_iff_toInt_le, Int64.lt_iff_toInt_lt, Int64.le_iff_toInt_le, Int32.toInt_toInt64, ← Int32.toInt_inj, ← Int64.toInt_inj, n32_0, n32_1, n32_2, n32_3, n32_4, n32_6, n32_8, n32_9, n32_10, n32_20, n32_100, n32_120, n32_255, n32_400, n32_3600, n32_m1, n64_0, n64_1, n64_2, n64_3, n64_4, n64_5, n64_9, n64_19, n64_119, n64_255, n64_400, n64_3599, n64_1000000000, n64_1000000000000, n64_m1000000000000] at c0 c1 c2 c3 b0 b1 b2 b3)
      first | contradiction | omega
    · intro b0 b1 b2 b3
      exact K2 _ (iV_up hI0)
    · intro b0
      exfalso
      clear hI0 hM hX hW hY hT hE hD hU hS hB hG K M27 M28 M29 M30 M31 M32 M33 M34 M35 M36 M37 M38 M39 M40 M41 M42 M43 M44 M45 M46 M47 M48 M49 X0 X1 X2 X3 X4 X5 X6 X7 X8 X9 X10 X11 X12 X13 W0 W1 W2 Y0 Y1 Y2 Y3 Y4 Y5 Y6 Y7 Y8 Y9 K2
      (try simp only [Int32.lt_iff_toInt_lt, Int32.le_iff_toInt_le, Int64.lt_iff_toInt_lt, Int64.le_iff_toInt_le, Int32.toInt_toInt64, ← Int32.toInt_inj, ← Int64.toInt_inj, n32_0, n32_1, n32_2, n32_3, n32_4, n32_6, n32_8, n32_9, n32_10, n32_20, n32_100, n32_120, n32_255, n32_400, n32_3600, n32_m1, n64_0, n64_1, n64_2, n64_3, n64_4, n64_5, n64_9, n64_19, n64_119, n64_255, n64_400, n64_3599, n64_1000000000, n64_1000000000000, n64_m1000000000000] at c0 c1 c2 c3 b0)
      first | contradiction | omega
  · intro c0
    refine K _ _ ⟨_, M27⟩ (fun Q2 K2 => ?_)
    refine s_X8_enter M27 M44 M45 M46 M47 M48 M49 hE60 hB.2.1 hR0 ?_ ?_ ?_ ?_ ?_
    · intro b0 b1
      exfalso
      clear hI0 hM hX hW hY hT hE hD hU hS hB hG K M27 M28 M29 M30 M31 M32 M33 M34 M35 M36 M37 M38 M39 M40 M41 M42 M43 M44 M45 M46 M47 M48 M49 X0 X1 X2 X3 X4 X5 X6 X7 X8 X9 X10 X11 X12 X13 W0 W1 W2 Y0 Y1 Y2 Y3 Y4 Y5 Y6 Y7 Y8 Y9 K2
      (try simp only [Int32.lt_iff_toInt_lt, Int32.le_iff_toInt_le, Int64.lt_iff_toInt_lt, Int64.le_iff_toInt_le, Int32.toInt_toInt64, ← Int32.toInt_inj, ← Int64.toInt_inj, n32_0, n32_1, n32_2, n32_3, n32_4, n32_6, n32_8, n32_9, n32_10, n32_20, n32_100, n32_120, n32_255, n32_400, n32_3600, n32_m1, n64_0, n64_1, n64_2, n64_3, n64_4, n64_5, n64_9, n64_19, n64_119, n64_255, n64_400, n64_3599, n64_1000000000, n64_1000000000000, n64_m1000000000000] at c0 b0 b1)
      first | contradiction | omega
    · intro b0 b1 b2
      exfalso
      clear hI0 hM hX hW hY hT hE hD hU hS hB hG K M27 M28 M29 M30 M31 M32 M33 M34 M35 M36 M37 M38 M39 M40 M41 M42 M43 M44 M45 M46 M47 M48 M49 X0 X1 X2 X3 X4 X5 X6 X7 X8 X9 X10 X11 X12 X13 W0 W1 W2 Y0 Y1 Y2 Y3 Y4 Y5 Y6 Y7 Y8 Y9 K2
      (try simp only [Int32.lt_iff_toInt_lt, Int32.le_iff_toInt_le, Int64.lt_iff_toInt_lt, Int64.le_iff_toInt_le, Int32.toInt_toInt64, ← Int32.toInt_inj, ← Int64.toInt_inj, n32_0, n32_1, n32_2, n32_3, n32_4, n32_6, n32_8, n32_9, n32_10, n32_20, n32_100, n32_120, n32_255, n32_400, n32_3600, n32_m1, n64_0, n64_1, n64_2, n64_3, n64_4, n64_5, n64_9, n64_19, n64_119, n64_255, n64_400, n64_3599, n64_1000000000, n64_1000000000000, n64_m1000000000000] at c0 b0 b1 b2)
      first | contradiction | omega
    · intro b0 b1 b2 b3
      exfalso
      clear hI0 hM hX hW hY hT hE hD hU hS hB hG K M27 M28 M29 M30 M31 M32 M33 M34 M35 M36 M37 M38 M39 M40 M41 M42 M43 M44 M45 M46 M47 M48 M49 X0 X1 X2 X3 X4 X5 X6 X7 X8 X9 X10 X11 X12 X13 W0 W1 W2 Y0 Y1 Y2 Y3 Y4 Y5 Y6 Y7 Y8 Y9 K2
      (try simp only [Int32.lt_iff_toInt_lt, Int32.le_iff_toInt_le, Int64.lt_iff_toInt_lt, Int64.le_iff_toInt_le, Int32.toInt_toInt64, ← Int32.toInt_inj, ← Int64.toInt_inj, n32_0, n32_1, n32_2, n32_3, n32_4, n32_6, n32_8, n32_9, n32_10, n32_20, n32_100, n32_120, n32_255, n32_400, n32_3600, n32_m1, n64_0, n64_1, n64_2, n64_3, n64_4, n64_5, n64_9, n64_19, n64_119, n64_255, n64_400, n64_3599, n64_1000000000, n64_1000000000000, n64_m1000000000000] at c0 b0 b1 b2 b3)
      first | contradiction | omega
    · intro b0 b1 b2 b3
      exfalso
      clear hI0 hM hX hW hY hT hE hD hU hS hB hG K M27 M28 M29 M30 M31 M32 M33 M34 M35 M36 M37 M38 M39 M40 M41 M42 M43 M44 M45 M46 M47 M48 M49 X0 X1 X2 X3 X4 X5 X6 X7 X8 X9 X10 X11 X12 X13 W0 W1 W2 Y0 Y1 Y2 Y3 Y4 Y5 Y6 Y7 Y8 Y9 K2
      (try simp only [Int32.lt_iff_toInt_lt, Int32.le_iff_toInt_le, Int64.lt_iff_toInt_lt, Int64.le_iff_toInt_le, Int32.toInt_toInt64, ← Int32.toInt_inj, ← Int64.toInt_inj, n32_0, n32_1, n32_2, n32_3, n32_4, n32_6, n32_8, n32_9, n32_10, n32_20, n32_100, n32_120, n32_255, n32_400, n32_3600, n32_m1, n64_0, n64_1, n64_2, n64_3, n64_4, n64_5, n64_9, n64_19, n64_119, n64_255, n64_400, n64_3599, n64_1000000000, n64_1000000000000, n64_m1000000000000] at c0 b0 b1 b2 b3)
      first | contradiction | omega
    · intro b0
      exact K2 _ (iV_up hI0)

set_option maxRecDepth 20000 in
theorem r_correct {l : Launch} {G : jG} {h : jH} {Q : Option Value → jH → Prop} {c : Nat} {n0 : Int32} {d0 : Int32} (hc : c < 512) (hG : j_gok G) (hI : iV c h) (K : ∀ (vv : Int32) (h1 : jH), (∃ fs, h1.2 27 = some (jO 8 fs)) → (∀ Q2 : Option Value → jH → Prop, (∀ h2, iV (c + 1) h2 → Q2 (some (.int vv)) h2) → J l G mX8_correct 0 0 0 (lv_args 0 [.ref 27, .int n0, .int d0]) [] h1 Q2) → Q (some (.int vv)) h1) : J l G mX7_correct 0 0 0 (lv_args 0 [.ref 0, .int n0, .int d0]) [] h Q := by
  have hI0 := hI
  refine hI _ ?_
  clear hI
  intro L P T E C R R0 n ru dq dr op at_ fr wd ws we wn dd tx rs fs ro sh dy se ey er tk tn ac f1 f2 f3 f4 g1 g2 g3 g4 da lo ad sa co pa ss w1 w2 w3 am pw ps cu dm ta ea shp tb eb rr rn cst prt eam dys eac shs hM hX hW hY hT hE hD hN hU hS hB
  obtain ⟨M27, M28, M29, M30, M31, M32, M33, M34, M35, M36, M37, M38, M39, M40, M41, M42, M43, M44, M45, M46, M47, M48, M49⟩ := id hM
  obtain ⟨X0, X1, X2, X3, X4, X5, X6, X7, X8, X9, X10, X11, X12, X13⟩ := id hX
  obtain ⟨W0, W1, W2⟩ := id hW
  obtain ⟨Y0, Y1, Y2, Y3, Y4, Y5, Y6, Y7, Y8, Y9⟩ := id hY
  obtain ⟨hL, hP, hT20, hE60, hC, hR, hR0, hn, hrd, hop⟩ := id hN
  have hnx : 50 ≤ h.1 := hD.1
  have hdn : dr + 3 ≤ h.1 := hD.2.2.2.2.2.2.2.1
  have hdx : dr = 14 ∨ 50 ≤ dr := hD.2.2.2.2.2.2.1
  refine s_X7_correct X0 X12 X13 (fun e he => (hE e he).1) (fun e he => (hE e he).2.1) (fun e he => (hE e he).2.2) rfl hE60 (fun e he => (hB.1 e he).1) (fun e he => (hB.1 e he).2.2.1) (fun e he => ⟨by have q := (hD.2.2.2.1 e he).1; omega, (hD.2.2.2.1 e he).2⟩) hD.1 ?_ ?_ ?_ ?_ ?_ ?_ ?_ ?_ ?_ ?_
  · intro c0
    refine K _ _ ⟨_, M27⟩ (fun Q2 K2 => ?_)
    refine s_X8_correct M27 M44 M45 M46 M47 M48 M49 hE60 (fun e he => ⟨(hB.1 e he).2.1, (hB.1 e he).2.2.1⟩) ?_ ?_ ?_ ?_ ?_ ?_ ?_ ?_ ?_ ?_
    · intro b0
      exact K2 _ (iV_up hI0)
    · intro b0 b1
      exfalso
      clear hI0 hM hX hW hY hT hE hD hU hS hB hG K M27 M28 M29 M30 M31 M32 M33 M34 M35 M36 M37 M38 M39 M40 M41 M42 M43 M44 M45 M46 M47 M48 M49 X0 X1 X2 X3 X4 X5 X6 X7 X8 X9 X10 X11 X12 X13 W0 W1 W2 Y0 Y1 Y2 Y3 Y4 Y5 Y6 Y7 Y8 Y9 K2
      (try simp only [Int32.lt_iff_toInt_lt, Int32.le_iff_toInt_le, Int64.lt_iff_toInt_lt, Int64.le_iff_toInt_le, Int32.toInt_toInt64, ← Int32.toInt_inj, ← Int64.toInt_inj, n32_0, n32_1, n32_2, n32_3, n32_4, n32_6, n32_8, n32_9, n32_10, n32_20, n32_100, n32_120, n32_255, n32_400, n32_3600, n32_m1, n64_0, n64_1, n64_2, n64_3, n64_4, n64_5, n64_9, n64_19, n64_119, n64_255, n64_400, n64_3599, n64_1000000000, n64_1000000000000, n64_m1000000000000] at c0 b0 b1)
      first | contradiction | omega
    · intro b0 b1 bt2 be2 bh2 b3
      exfalso
      clear hI0 hM hX hW hY hT hE hD hU hS hB hG K M27 M28 M29 M30 M31 M32 M33 M34 M35 M36 M37 M38 M39 M40 M41 M42 M43 M44 M45 M46 M47 M48 M49 X0 X1 X2 X3 X4 X5 X6 X7 X8 X9 X10 X11 X12 X13 W0 W1 W2 Y0 Y1 Y2 Y3 Y4 Y5 Y6 Y7 Y8 Y9 K2
      (try simp only [Int32.lt_iff_toInt_lt, Int32.le_iff_toInt_le, Int64.lt_iff_toInt_lt, Int64.le_iff_toInt_le, Int32.toInt_toInt64, ← Int32.toInt_inj, ← Int64.toInt_inj, n32_0, n32_1, n32_2, n32_3, n32_4, n32_6, n32_8, n32_9, n32_10, n32_20, n32_100, n32_120, n32_255, n32_400, n32_3600, n32_m1, n64_0, n64_1, n64_2, n64_3, n64_4, n64_5, n64_9, n64_19, n64_119, n64_255, n64_400, n64_3599, n64_1000000000, n64_1000000000000, n64_m1000000000000] at c0 b0 b1 b3)
      first | contradiction | omega
    · intro b0 b1 bt2 be2 bh2 b3 b4
      exfalso
      clear hI0 hM hX hW hY hT hE hD hU hS hB hG K M27 M28 M29 M30 M31 M32 M33 M34 M35 M36 M37 M38 M39 M40 M41 M42 M43 M44 M45 M46 M47 M48 M49 X0 X1 X2 X3 X4 X5 X6 X7 X8 X9 X10 X11 X12 X13 W0 W1 W2 Y0 Y1 Y2 Y3 Y4 Y5 Y6 Y7 Y8 Y9 K2
      (try simp only [Int32.lt_iff_toInt_lt, Int32.le_iff_toInt_le, Int64.lt_iff_toInt_lt, Int64.le_iff_toInt_le, Int32.toInt_toInt64, ← Int32.toInt_inj, ← Int64.toInt_inj, n32_0, n32_1, n32_2, n32_3, n32_4, n32_6, n32_8, n32_9, n32_10, n32_20, n32_100, n32_120, n32_255, n32_400, n32_3600, n32_m1, n64_0, n64_1, n64_2, n64_3, n64_4, n64_5, n64_9, n64_19, n64_119, n64_255, n64_400, n64_3599, n64_1000000000, n64_1000000000000, n64_m1000000000000] at c0 b0 b1 b3 b4)
      first | contradiction | omega
    · intro b0 b1 bt2 be2 bh2 b3 b4 b5 b6
      exfalso
      clear hI0 hM hX hW hY hT hE hD hU hS hB hG K M27 M28 M29 M30 M31 M32 M33 M34 M35 M36 M37 M38 M39 M40 M41 M42 M43 M44 M45 M46 M47 M48 M49 X0 X1 X2 X3 X4 X5 X6 X7 X8 X9 X10 X11 X12 X13 W0 W1 W2 Y0 Y1 Y2 Y3 Y4 Y5 Y6 Y7 Y8 Y9 K2
      (try simp only [Int32.lt_iff_toInt_lt, Int32.le_iff_toInt_le, Int64.lt_iff_toInt_lt, Int64.le_iff_toInt_le, Int32.toInt_toInt64, ← Int32.toInt_inj, ← Int64.toInt_inj, n32_0, n32_1, n32_2, n32_3, n32_4, n32_6, n32_8, n32_9, n32_10, n32_20, n32_100, n32_120, n32_255, n32_400, n32_3600, n32_m1, n64_0, n64_1, n64_2, n64_3, n64_4, n64_5, n64_9, n64_19, n64_119, n64_255, n64_400, n64_3599, n64_1000000000, n64_1000000000000, n64_m1000000000000] at c0 b0 b1 b3 b4 b5 b6)
      first | contradiction | omega
    · intro b0 b1 bt2 be2 bh2 b3 b4 b5 b6 b7
      exfalso
      clear hI0 hM hX hW hY hT hE hD hU hS hB hG K M27 M28 M29 M30 M31 M32 M33 M34 M35 M36 M37 M38 M39 M40 M41 M42 M43 M44 M45 M46 M47 M48 M49 X0 X1 X2 X3 X4 X5 X6 X7 X8 X9 X10 X11 X12 X13 W0 W1 W2 Y0 Y1 Y2 Y3 Y4 Y5 Y6 Y7 Y8 Y9 K2
      (try simp only [Int32.lt_iff_toInt_lt, Int32.le_iff_toInt_le, Int64.lt_iff_toInt_lt, Int64.le_iff_toInt_le, Int32.toInt_toInt64, ← Int32.toInt_inj, ← Int64.toInt_inj, n32_0, n32_1, n32_2, n32_3, n32_4, n32_6, n32_8, n32_9, n32_10, n32_20, n32_100, n32_120, n32_255, n32_400, n32_3600, n32_m1, n64_0, n64_1, n64_2, n64_3, n64_4, n64_5, n64_9, n64_19, n64_119, n64_255, n64_400, n64_3599, n64_1000000000, n64_1000000000000, n64_m1000000000000] at c0 b0 b1 b3 b4 b5 b6 b7)
      first | contradiction | omega
    · intro b0 b1 bt2 be2 bh2 b3 b4 b5 b6 b7 b8
      exfalso
      clear hI0 hM hX hW hY hT hE hD hU hS hB hG K M27 M28 M29 M30 M31 M32 M33 M34 M35 M36 M37 M38 M39 M40 M41 M42 M43 M44 M45 M46 M47 M48 M49 X0 X1 X2 X3 X4 X5 X6 X7 X8 X9 X10 X11 X12 X13 W0 W1 W2 Y0 Y1 Y2 Y3 Y4 Y5 Y6 Y7 Y8 Y9 K2
      (try simp only [Int32.lt_iff_toInt_lt, Int32.le_iff_toInt_le, Int64.lt_iff_toInt_lt, Int64.le_iff_toInt_le, Int32.toInt_toInt64, ← Int32.toInt_inj, ← Int64.toInt_inj, n32_0, n32_1, n32_2, n32_3, n32_4, n32_6, n32_8, n32_9, n32_10, n32_20, n32_100, n32_120, n32_255, n32_400, n32_3600, n32_m1, n64_0, n64_1, n64_2, n64_3, n64_4, n64_5, n64_9, n64_19, n64_119, n64_255, n64_400, n64_3599, n64_1000000000, n64_1000000000000, n64_m1000000000000] at c0 b0 b1 b3 b4 b5 b6 b7 b8)
      first | contradiction | omega
    · intro b0 b1 bt2 be2 bh2 b3 b4 b5 b6 b7 b8 b9
      exfalso
      clear hI0 hM hX hW hY hT hE hD hU hS hB hG K M27 M28 M29 M30 M31 M32 M33 M34 M35 M36 M37 M38 M39 M40 M41 M42 M43 M44 M45 M46 M47 M48 M49 X0 X1 X2 X3 X4 X5 X6 X7 X8 X9 X10 X11 X12 X13 W0 W1 W2 Y0 Y1 Y2 Y3 Y4 Y5 Y6 Y7 Y8 Y9 K2
      (try simp only [Int32.lt_iff_toInt_lt, Int32.le_iff_toInt_le, Int64.lt_iff_toInt_lt, Int64.le_iff_toInt_le, Int32.toInt_toInt64, ← Int32.toInt_inj, ← Int64.toInt_inj, n32_0, n32_1, n32_2, n32_3, n32_4, n32_6, n32_8, n32_9, n32_10, n32_20, n32_100, n32_120, n32_255, n32_400, n32_3600, n32_m1, n64_0, n64_1, n64_2, n64_3, n64_4, n64_5, n64_9, n64_19, n64_119, n64_255, n64_400, n64_3599, n64_1000000000, n64_1000000000000, n64_m1000000000000] at c0 b0 b1 b3 b4 b5 b6 b7 b8 b9)
      first | contradiction | omega
    · intro b0 b1 bt2 be2 bh2 b3 b4 b5 b6 b7 b8 b9
      exfalso
      clear hI0 hM hX hW hY hT hE hD hU hS hB hG K M27 M28 M29 M30 M31 M32 M33 M34 M35 M36 M37 M38 M39 M40 M41 M42 M43 M44 M45 M46 M47 M48 M49 X0 X1 X2 X3 X4 X5 X6 X7 X8 X9 X10 X11 X12 X13 W0 W1 W2 Y0 Y1 Y2 Y3 Y4 Y5 Y6 Y7 Y8 Y9 K2
      (try simp only [Int32.lt_iff_toInt_lt, Int32.le_iff_toInt_le, Int64.lt_iff_toInt_lt, Int64.le_iff_toInt_le, Int32.toInt_toInt64, ← Int32.toInt_inj, ← Int64.toInt_inj, n32_0, n32_1, n32_2, n32_3, n32_4, n32_6, n32_8, n32_9, n32_10, n32_20, n32_100, n32_120, n32_255, n32_400, n32_3600, n32_m1, n64_0, n64_1, n64_2, n64_3, n64_4, n64_5, n64_9, n64_19, n64_119, n64_255, n64_400, n64_3599, n64_1000000000, n64_1000000000000, n64_m1000000000000] at c0 b0 b1 b3 b4 b5 b6 b7 b8 b9)
      first | contradiction | omega
    · intro b0 b1 bt2 be2 bh2 b3 b4 b5
      exfalso
      clear hI0 hM hX hW hY hT hE hD hU hS hB hG K M27 M28 M29 M30 M31 M32 M33 M34 M35 M36 M37 M38 M39 M40 M41 M42 M43 M44 M45 M46 M47 M48 M49 X0 X1 X2 X3 X4 X5 X6 X7 X8 X9 X10 X11 X12 X13 W0 W1 W2 Y0 Y1 Y2 Y3 Y4 Y5 Y6 Y7 Y8 Y9 K2
      (try simp only [Int32.lt_iff_toInt_lt, Int32.le_iff_toInt_le, Int64.lt_iff_toInt_lt, Int64.le_iff_toInt_le, Int32.toInt_toInt64, ← Int32.toInt_inj, ← Int64.toInt_inj, n32_0, n32_1, n32_2, n32_3, n32_4, n32_6, n32_8, n32_9, n32_10, n32_20, n32_100, n32_120, n32_255, n32_400, n32_3600, n32_m1, n64_0, n64_1, n64_2, n64_3, n64_4, n64_5, n64_9, n64_19, n64_119, n64_255, n64_400, n64_3599, n64_1000000000, n64_1000000000000, n64_m1000000000000] at c0 b0 b1 b3 b4 b5)
      first | contradiction | omega
  · intro c0 c1
    refine K _ _ ⟨_, M27⟩ (fun Q2 K2 => ?_)
    refine s_X8_correct M27 M44 M45 M46 M47 M48 M49 hE60 (fun e he => ⟨(hB.1 e he).2.1, (hB.1 e he).2.2.1⟩) ?_ ?_ ?_ ?_ ?_ ?_ ?_ ?_ ?_ ?_
    · intro b0
      exfalso
      clear hI0 hM hX hW hY hT hE hD hU hS hB hG K M27 M28 M29 M30 M31 M32 M33 M34 M35 M36 M37 M38 M39 M40 M41 M42 M43 M44 M45 M46 M47 M48 M49 X0 X1 X2 X3 X4 X5 X6 X7 X8 X9 X10 X11 X12 X13 W0 W1 W2 Y0 Y1 Y2 Y3 Y4 Y5 Y6 Y7 Y8 Y9 K2
      (try simp only [Int32.lt_iff_toInt_lt, Int32.le_iff_toInt_le, Int64.lt_iff_toInt_lt, Int64.le_iff_toInt_le, Int32.toInt_toInt64, ← Int32.toInt_inj, ← Int64.toInt_inj, n32_0, n32_1, n32_2, n32_3, n32_4, n32_6, n32_8, n32_9, n32_10, n32_20, n32_100, n32_120, n32_255, n32_400, n32_3600, n32_m1, n64_0, n64_1, n64_2, n64_3, n64_4, n64_5, n64_9, n64_19, n64_119, n64_255, n64_400, n64_3599, n64_1000000000, n64_1000000000000, n64_m1000000000000] at c0 c1 b0)
      first | contradiction | omega
    · intro b0 b1
      exact K2 _ (iV_up hI0)
    · intro b0 b1 bt2 be2 bh2 b3
      exfalso
      clear hI0 hM hX hW hY hT hE hD hU hS hB hG K M27 M28 M29 M30 M31 M32 M33 M34 M35 M36 M37 M38 M39 M40 M41 M42 M43 M44 M45 M46 M47 M48 M49 X0 X1 X2 X3 X4 X5 X6 X7 X8 X9 X10 X11 X12 X13 W0 W1 W2 Y0 Y1 Y2 Y3 Y4 Y5 Y6 Y7 Y8 Y9 K2
      (try simp only [Int32.lt_iff_toInt_lt, Int32.le_iff_toInt_le, Int64.lt_iff_toInt_lt, Int64.le_iff_toInt_le, Int32.toInt_toInt64, ← Int32.toInt_inj, ← Int64.toInt_inj, n32_0, n32_1, n32_2, n32_3, n32_4, n32_6, n32_8, n32_9, n32_10, n32_20, n32_100, n32_120, n32_255, n32_400, n32_3600, n32_m1, n64_0, n64_1, n64_2, n64_3, n64_4, n64_5, n64_9, n64_19, n64_119, n64_255, n64_400, n64_3599, n64_1000000000, n64_1000000000000, n64_m1000000000000] at c0 c1 b0 b1 b3)
      first | contradiction | omega
    · intro b0 b1 bt2 be2 bh2 b3 b4
      exfalso
      clear hI0 hM hX hW hY hT hE hD hU hS hB hG K M27 M28 M29 M30 M31 M32 M33 M34 M35 M36 M37 M38 M39 M40 M41 M42 M43 M44 M45 M46 M47 M48 M49 X0 X1 X2 X3 X4 X5 X6 X7 X8 X9 X10 X11 X12 X13 W0 W1 W2 Y0 Y1 Y2 Y3 Y4 Y5 Y6 Y7 Y8 Y9 K2
      (try simp only [Int32.lt_iff_toInt_lt, Int32.le_iff_toInt_le, Int64.lt_iff_toInt_lt, Int64.le_iff_toInt_le, Int32.toInt_toInt64, ← Int32.toInt_inj, ← Int64.toInt_inj, n32_0, n32_1, n32_2, n32_3, n32_4, n32_6, n32_8, n32_9, n32_10, n32_20, n32_100, n32_120, n32_255, n32_400, n32_3600, n32_m1, n64_0, n64_1, n64_2, n64_3, n64_4, n64_5, n64_9, n64_19, n64_119, n64_255, n64_400, n64_3599, n64_1000000000, n64_1000000000000, n64_m1000000000000] at c0 c1 b0 b1 b3 b4)
      first | contradiction | omega
    · intro b0 b1 bt2 be2 bh2 b3 b4 b5 b6
      exfalso
      clear hI0 hM hX hW hY hT hE hD hU hS hB hG K M27 M28 M29 M30 M31 M32 M33 M34 M35 M36 M37 M38 M39 M40 M41 M42 M43 M44 M45 M46 M47 M48 M49 X0 X1 X2 X3 X4 X5 X6 X7 X8 X9 X10 X11 X12 X13 W0 W1 W2 Y0 Y1 Y2 Y3 Y4 Y5 Y6 Y7 Y8 Y9 K2
      (try simp only [Int32.lt_iff_toInt_lt, Int32.le_iff_toInt_le, Int64.lt_iff_toInt_lt, Int64.le_iff_toInt_le, Int32.toInt_toInt64, ← Int32.toInt_inj, ← Int64.toInt_inj, n32_0, n32_1, n32_2, n32_3, n32_4, n32_6, n32_8, n32_9, n32_10, n32_20, n32_100, n32_120, n32_255, n32_400, n32_3600, n32_m1, n64_0, n64_1, n64_2, n64_3, n64_4, n64_5, n64_9, n64_19, n64_119, n64_255, n64_400, n64_3599, n64_1000000000, n64_1000000000000, n64_m1000000000000] at c0 c1 b0 b1 b3 b4 b5 b6)
      first | contradiction | omega
    · intro b0 b1 bt2 be2 bh2 b3 b4 b5 b6 b7
      exfalso
      clear hI0 hM hX hW hY hT hE hD hU hS hB hG K M27 M28 M29 M30 M31 M32 M33 M34 M35 M36 M37 M38 M39 M40 M41 M42 M43 M44 M45 M46 M47 M48 M49 X0 X1 X2 X3 X4 X5 X6 X7 X8 X9 X10 X11 X12 X13 W0 W1 W2 Y0 Y1 Y2 Y3 Y4 Y5 Y6 Y7 Y8 Y9 K2
      (try simp only [Int32.lt_iff_toInt_lt, Int32.le_iff_toInt_le, Int64.lt_iff_toInt_lt, Int64.le_iff_toInt_le, Int32.toInt_toInt64, ← Int32.toInt_inj, ← Int64.toInt_inj, n32_0, n32_1, n32_2, n32_3, n32_4, n32_6, n32_8, n32_9, n32_10, n32_20, n32_100, n32_120, n32_255, n32_400, n32_3600, n32_m1, n64_0, n64_1, n64_2, n64_3, n64_4, n64_5, n64_9, n64_19, n64_119, n64_255, n64_400, n64_3599, n64_1000000000, n64_1000000000000, n64_m1000000000000] at c0 c1 b0 b1 b3 b4 b5 b6 b7)
      first | contradiction | omega
    · intro b0 b1 bt2 be2 bh2 b3 b4 b5 b6 b7 b8
      exfalso
      clear hI0 hM hX hW hY hT hE hD hU hS hB hG K M27 M28 M29 M30 M31 M32 M33 M34 M35 M36 M37 M38 M39 M40 M41 M42 M43 M44 M45 M46 M47 M48 M49 X0 X1 X2 X3 X4 X5 X6 X7 X8 X9 X10 X11 X12 X13 W0 W1 W2 Y0 Y1 Y2 Y3 Y4 Y5 Y6 Y7 Y8 Y9 K2
      (try simp only [Int32.lt_iff_toInt_lt, Int32.le_iff_toInt_le, Int64.lt_iff_toInt_lt, Int64.le_iff_toInt_le, Int32.toInt_toInt64, ← Int32.toInt_inj, ← Int64.toInt_inj, n32_0, n32_1, n32_2, n32_3, n32_4, n32_6, n32_8, n32_9, n32_10, n32_20, n32_100, n32_120, n32_255, n32_400, n32_3600, n32_m1, n64_0, n64_1, n64_2, n64_3, n64_4, n64_5, n64_9, n64_19, n64_119, n64_255, n64_400, n64_3599, n64_1000000000, n64_1000000000000, n64_m1000000000000] at c0 c1 b0 b1 b3 b4 b5 b6 b7 b8)
      first | contradiction | omega
    · intro b0 b1 bt2 be2 bh2 b3 b4 b5 b6 b7 b8 b9
      exfalso
      clear hI0 hM hX hW hY hT hE hD hU hS hB hG K M27 M28 M29 M30 M31 M32 M33 M34 M35 M36 M37 M38 M39 M40 M41 M42 M43 M44 M45 M46 M47 M48 M49 X0 X1 X2 X3 X4 X5 X6 X7 X8 X9 X10 X11 X12 X13 W0 W1 W2 Y0 Y1 Y2 Y3 Y4 Y5 Y6 Y7 Y8 Y9 K2
      (try simp only [Int32.lt_iff_toInt_lt, Int32.le_iff_toInt_le, Int64.lt_iff_toInt_lt, Int64.le_iff_toInt_le, Int32.toInt_toInt64, ← Int32.toInt_inj, ← Int64.toInt_inj, n32_0, n32_1, n32_2, n32_3, n32_4, n32_6, n32_8, n32_9, n32_10, n32_20, n32_100, n32_120, n32_255, n32_400, n32_3600, n32_m1, n64_0, n64_1, n64_2, n64_3, n64_4, n64_5, n64_9, n64_19, n64_119, n64_255, n64_400, n64_3599, n64_1000000000, n64_1000000000000, n64_m1000000000000] at c0 c1 b0 b1 b3 b4 b5 b6 b7 b8 b9)
      first | contradiction | omega
    · intro b0 b1 bt2 be2 bh2 b3 b4 b5 b6 b7 b8 b9
      exfalso
      clear hI0 hM hX hW hY hT hE hD hU hS hB hG K M27 M28 M29 M30 M31 M32 M33 M34 M35 M36 M37 M38 M39 M40 M41 M42 M43 M44 M45 M46 M47 M48 M49 X0 X1 X2 X3 X4 X5 X6 X7 X8 X9 X10 X11 X12 X13 W0 W1 W2 Y0 Y1 Y2 Y3 Y4 Y5 Y6 Y7 Y8 Y9 K2
      (try simp only [Int32.lt_iff_toInt_lt, Int32.le_iff_toInt_le, Int64.lt_iff_toInt_lt, Int64.le_iff_toInt_le, Int32.toInt_toInt64, ← Int32.toInt_inj, ← Int64.toInt_inj, n32_0, n32_1, n32_2, n32_3, n32_4, n32_6, n32_8, n32_9, n32_10, n32_20, n32_100, n32_120, n32_255, n32_400, n32_3600, n32_m1, n64_0, n64_1, n64_2, n64_3, n64_4, n64_5, n64_9, n64_19, n64_119, n64_255, n64_400, n64_3599, n64_1000000000, n64_1000000000000, n64_m1000000000000] at c0 c1 b0 b1 b3 b4 b5 b6 b7 b8 b9)
      first | contradiction | omega
    · intro b0 b1 bt2 be2 bh2 b3 b4 b5
      exfalso
      clear hI0 hM hX hW hY hT hE hD hU hS hB hG K M27 M28 M29 M30 M31 M32 M33 M34 M35 M36 M37 M38 M39 M40 M41 M42 M43 M44 M45 M46 M47 M48 M49 X0 X1 X2 X3 X4 X5 X6 X7 X8 X9 X10 X11 X12 X13 W0 W1 W2 Y0 Y1 Y2 Y3 Y4 Y5 Y6 Y7 Y8 Y9 K2
      (try simp only [Int32.lt_iff_toInt_lt, Int32.le_iff_toInt_le, Int64.lt_iff_toInt_lt, Int64.le_iff_toInt_le, Int32.toInt_toInt64, ← Int32.toInt_inj, ← Int64.toInt_inj, n32_0, n32_1, n32_2, n32_3, n32_4, n32_6, n32_8, n32_9, n32_10, n32_20, n32_100, n32_120, n32_255, n32_400, n32_3600, n32_m1, n64_0, n64_1, n64_2, n64_3, n64_4, n64_5, n64_9, n64_19, n64_119, n64_255, n64_400, n64_3599, n64_1000000000, n64_1000000000000, n64_m1000000000000] at c0 c1 b0 b1 b3 b4 b5)
      first | contradiction | omega
  · intro c0 c1 ct2 ce2 ch2 c3
    subst ce2
    have hk1 := (hB.1 ct2 ch2).2.2.2.1
    have hn1 := (hB.1 ct2 ch2).2.2.2.2.1
    simp only [Int32.lt_iff_toInt_lt, Int32.le_iff_toInt_le, Int64.lt_iff_toInt_lt, Int64.le_iff_toInt_le, Int32.toInt_toInt64, ← Int32.toInt_inj, ← Int64.toInt_inj, n32_0, n32_1, n32_2, n32_3, n32_4, n32_6, n32_8, n32_9, n32_10, n32_20, n32_100, n32_120, n32_255, n32_400, n32_3600, n32_m1, n64_0, n64_1, n64_2, n64_3, n64_4, n64_5, n64_9, n64_19, n64_119, n64_255, n64_400, n64_3599, n64_1000000000, n64_1000000000000, n64_m1000000000000] at hk1 hn1
    refine K _ _ ⟨_, M27⟩ (fun Q2 K2 => ?_)
    refine s_X8_correct M27 M44 M45 M46 M47 M48 M49 hE60 (fun e he => ⟨(hB.1 e he).2.1, (hB.1 e he).2.2.1⟩) ?_ ?_ ?_ ?_ ?_ ?_ ?_ ?_ ?_ ?_
    · intro b0
      exfalso
      clear hI0 hM hX hW hY hT hE hD hU hS hB hG K M27 M28 M29 M30 M31 M32 M33 M34 M35 M36 M37 M38 M39 M40 M41 M42 M43 M44 M45 M46 M47 M48 M49 X0 X1 X2 X3 X4 X5 X6 X7 X8 X9 X10 X11 X12 X13 W0 W1 W2 Y0 Y1 Y2 Y3 Y4 Y5 Y6 Y7 Y8 Y9 K2
      (try simp only [Int32.lt_iff_toInt_lt, Int32.le_iff_toInt_le, Int64.lt_iff_toInt_lt, Int64.le_iff_toInt_le, Int32.toInt_toInt64, ← Int32.toInt_inj, ← Int64.toInt_inj, n32_0, n32_1, n32_2, n32_3, n32_4, n32_6, n32_8, n32_9, n32_10, n32_20, n32_100, n32_120, n32_255, n32_400, n32_3600, n32_m1, n64_0, n64_1, n64_2, n64_3, n64_4, n64_5, n64_9, n64_19, n64_119, n64_255, n64_400, n64_3599, n64_1000000000, n64_1000000000000, n64_m1000000000000] at c0 c1 c3 b0)
      first | contradiction | omega
    · intro b0 b1
      exfalso
      clear hI0 hM hX hW hY hT hE hD hU hS hB hG K M27 M28 M29 M30 M31 M32 M33 M34 M35 M36 M37 M38 M39 M40 M41 M42 M43 M44 M45 M46 M47 M48 M49 X0 X1 X2 X3 X4 X5 X6 X7 X8 X9 X10 X11 X12 X13 W0 W1 W2 Y0 Y1 Y2 Y3 Y4 Y5 Y6 Y7 Y8 Y9 K2
      (try simp only [Int32.lt_iff_toInt_lt, Int32.le_iff_toInt_le, Int64.lt_iff_toInt_lt, Int64.le_iff_toInt_le, Int32.toInt_toInt64, ← Int32.toInt_inj, ← Int64.toInt_inj, n32_0, n32_1, n32_2, n32_3, n32_4, n32_6, n32_8, n32_9, n32_10, n32_20, n32_100, n32_120, n32_255, n32_400, n32_3600, n32_m1, n64_0, n64_1, n64_2, n64_3, n64_4, n64_5, n64_9, n64_19, n64_119, n64_255, n64_400, n64_3599, n64_1000000000, n64_1000000000000, n64_m1000000000000] at c0 c1 c3 b0 b1)
      first | contradiction | omega
    · intro b0 b1 bt2 be2 bh2 b3
      obtain rfl : ct2 = bt2 := by have z := nI_inj2 be2 (by omega) (by omega); omega
      exact K2 _ (iV_up hI0)
    · intro b0 b1 bt2 be2 bh2 b3 b4
      obtain rfl : ct2 = bt2 := by have z := nI_inj2 be2 (by omega) (by omega); omega
      exfalso
      clear hI0 hM hX hW hY hT hE hD hU hS hB hG K M27 M28 M29 M30 M31 M32 M33 M34 M35 M36 M37 M38 M39 M40 M41 M42 M43 M44 M45 M46 M47 M48 M49 X0 X1 X2 X3 X4 X5 X6 X7 X8 X9 X10 X11 X12 X13 W0 W1 W2 Y0 Y1 Y2 Y3 Y4 Y5 Y6 Y7 Y8 Y9 K2
      (try simp only [Int32.lt_iff_toInt_lt, Int32.le_iff_toInt_le, Int64.lt_iff_toInt_lt, Int64.le_iff_toInt_le, Int32.toInt_toInt64, ← Int32.toInt_inj, ← Int64.toInt_inj, n32_0, n32_1, n32_2, n32_3, n32_4, n32_6, n32_8, n32_9, n32_10, n32_20, n32_100, n32_120, n32_255, n32_400, n32_3600, n32_m1, n64_0, n64_1, n64_2, n64_3, n64_4, n64_5, n64_9, n64_19, n64_119, n64_255, n64_400, n64_3599, n64_1000000000, n64_1000000000000, n64_m1000000000000] at c0 c1 c3 b0 b1 b3 b4)
      first | contradiction | omega
    · intro b0 b1 bt2 be2 bh2 b3 b4 b5 b6
      obtain rfl : ct2 = bt2 := by have z := nI_inj2 be2 (by omega) (by omega); omega
      exfalso
      clear hI0 hM hX hW hY hT hE hD hU hS hB hG K M27 M28 M29 M30 M31 M32 M33 M34 M35 M36 M37 M38 M39 M40 M41 M42 M43 M44 M45 M46 M47 M48 M49 X0 X1 X2 X3 X4 X5 X6 X7 X8 X9 X10 X11 X12 X13 W0 W1 W2 Y0 Y1 Y2 Y3 Y4 Y5 Y6 Y7 Y8 Y9 K2
      (try simp only [Int32.lt_iff_toInt_lt, Int32.le_iff_toInt_le, Int64.lt_iff_toInt_lt, Int64.le_iff_toInt_le, Int32.toInt_toInt64, ← Int32.toInt_inj, ← Int64.toInt_inj, n32_0, n32_1, n32_2, n32_3, n32_4, n32_6, n32_8, n32_9, n32_10, n32_20, n32_100, n32_120, n32_255, n32_400, n32_3600, n32_m1, n64_0, n64_1, n64_2, n64_3, n64_4, n64_5, n64_9, n64_19, n64_119, n64_255, n64_400, n64_3599, n64_1000000000, n64_1000000000000, n64_m1000000000000] at c0 c1 c3 b0 b1 b3 b4 b5 b6)
      first | contradiction | omega
    · intro b0 b1 bt2 be2 bh2 b3 b4 b5 b6 b7
      obtain rfl : ct2 = bt2 := by have z := nI_inj2 be2 (by omega) (by omega); omega
      exfalso
      clear hI0 hM hX hW hY hT hE hD hU hS hB hG K M27 M28 M29 M30 M31 M32 M33 M34 M35 M36 M37 M38 M39 M40 M41 M42 M43 M44 M45 M46 M47 M48 M49 X0 X1 X2 X3 X4 X5 X6 X7 X8 X9 X10 X11 X12 X13 W0 W1 W2 Y0 Y1 Y2 Y3 Y4 Y5 Y6 Y7 Y8 Y9 K2
      (try simp only [Int32.lt_iff_toInt_lt, Int32.le_iff_toInt_le, Int64.lt_iff_toInt_lt, Int64.le_iff_toInt_le, Int32.toInt_toInt64, ← Int32.toInt_inj, ← Int64.toInt_inj, n32_0, n32_1, n32_2, n32_3, n32_4, n32_6, n32_8, n32_9, n32_10, n32_20, n32_100, n32_120, n32_255, n32_400, n32_3600, n32_m1, n64_0, n64_1, n64_2, n64_3, n64_4, n64_5, n64_9, n64_19, n64_119, n64_255, n64_400, n64_3599, n64_1000000000, n64_1000000000000, n64_m1000000000000] at c0 c1 c3 b0 b1 b3 b4 b5 b6 b7)
      first | contradiction | omega
    · intro b0 b1 bt2 be2 bh2 b3 b4 b5 b6 b7 b8
      obtain rfl : ct2 = bt2 := by have z := nI_inj2 be2 (by omega) (by omega); omega
      exfalso
      clear hI0 hM hX hW hY hT hE hD hU hS hB hG K M27 M28 M29 M30 M31 M32 M33 M34 M35 M36 M37 M38 M39 M40 M41 M42 M43 M44 M45 M46 M47 M48 M49 X0 X1 X2 X3 X4 X5 X6 X7 X8 X9 X10 X11 X12 X13 W0 W1 W2 Y0 Y1 Y2 Y3 Y4 Y5 Y6 Y7 Y8 Y9 K2
      (try simp only [Int32.lt_iff_toInt_lt, Int32.le_iff_toInt_le, Int64.lt_iff_toInt_lt, Int64.le_iff_toInt_le, Int32.toInt_toInt64, ← Int32.toInt_inj, ← Int64.toInt_inj, n32_0, n32_1, n32_2, n32_3, n32_4, n32_6, n32_8, n32_9, n32_10, n32_20, n32_100, n32_120, n32_255, n32_400, n32_3600, n32_m1, n64_0, n64_1, n64_2, n64_3, n64_4, n64_5, n64_9, n64_19, n64_119, n64_255, n64_400, n64_3599, n64_1000000000, n64_1000000000000, n64_m1000000000000] at c0 c1 c3 b0 b1 b3 b4 b5 b6 b7 b8)
      first | contradiction | omega
    · intro b0 b1 bt2 be2 bh2 b3 b4 b5 b6 b7 b8 b9
      obtain rfl : ct2 = bt2 := by have z := nI_inj2 be2 (by omega) (by omega); omega
      exfalso
      clear hI0 hM hX hW hY hT hE hD hU hS hB hG K M27 M28 M29 M30 M31 M32 M33 M34 M35 M36 M37 M38 M39 M40 M41 M42 M43 M44 M45 M46 M47 M48 M49 X0 X1 X2 X3 X4 X5 X6 X7 X8 X9 X10 X11 X12 X13 W0 W1 W2 Y0 Y1 Y2 Y3 Y4 Y5 Y6 Y7 Y8 Y9 K2
      (try simp only [Int32.lt_iff_toInt_lt, Int32.le_iff_toInt_le, Int64.lt_iff_toInt_lt, Int64.le_iff_toInt_le, Int32.toInt_toInt64, ← Int32.toInt_inj, ← Int64.toInt_inj, n32_0, n32_1, n32_2, n32_3, n32_4, n32_6, n32_8, n32_9, n32_10, n32_20, n32_100, n32_120, n32_255, n32_400, n32_3600, n32_m1, n64_0, n64_1, n64_2, n64_3, n64_4, n64_5, n64_9, n64_19, n64_119, n64_255, n64_400, n64_3599, n64_1000000000, n64_1000000000000, n64_m1000000000000] at c0 c1 c3 b0 b1 b3 b4 b5 b6 b7 b8 b9)
      first | contradiction | omega
    · intro b0 b1 bt2 be2 bh2 b3 b4 b5 b6 b7 b8 b9
      obtain rfl : ct2 = bt2 := by have z := nI_inj2 be2 (by omega) (by omega); omega
      exfalso
      clear hI0 hM hX hW hY hT hE hD hU hS hB hG K M27 M28 M29 M30 M31 M32 M33 M34 M35 M36 M37 M38 M39 M40 M41 M42 M43 M44 M45 M46 M47 M48 M49 X0 X1 X2 X3 X4 X5 X6 X7 X8 X9 X10 X11 X12 X13 W0 W1 W2 Y0 Y1 Y2 Y3 Y4 Y5 Y6 Y7 Y8 Y9 K2
      (try simp only [Int32.lt_iff_toInt_lt, Int32.le_iff_toInt_le, Int64.lt_iff_toInt_lt, Int64.le_iff_toInt_le, Int32.toInt_toInt64, ← Int32.toInt_inj, ← Int64.toInt_inj, n32_0, n32_1, n32_2, n32_3, n32_4, n32_6, n32_8, n32_9, n32_10, n32_20, n32_100, n32_120, n32_255, n32_400, n32_3600, n32_m1, n64_0, n64_1, n64_2, n64_3, n64_4, n64_5, n64_9, n64_19, n64_119, n64_255, n64_400, n64_3599, n64_1000000000, n64_1000000000000, n64_m1000000000000] at c0 c1 c3 b0 b1 b3 b4 b5 b6 b7 b8 b9)
      first | contradiction | omega
    · intro b0 b1 bt2 be2 bh2 b3 b4 b5
      obtain rfl : ct2 = bt2 := by have z := nI_inj2 be2 (by omega) (by omega); omega
      exfalso
      clear hI0 hM hX hW hY hT hE hD hU hS hB hG K M27 M28 M29 M30 M31 M32 M33 M34 M35 M36 M37 M38 M39 M40 M41 M42 M43 M44 M45 M46 M47 M48 M49 X0 X1 X2 X3 X4 X5 X6 X7 X8 X9 X10 X11 X12 X13 W0 W1 W2 Y0 Y1 Y2 Y3 Y4 Y5 Y6 Y7 Y8 Y9 K2
      (try simp only [Int32.lt_iff_toInt_lt, Int32.le_iff_toInt_le, Int64.lt_iff_toInt_lt, Int64.le_iff_toInt_le, Int32.toInt_toInt64, ← Int32.toInt_inj, ← Int64.toInt_inj, n32_0, n32_1, n32_2, n32_3, n32_4, n32_6, n32_8, n32_9, n32_10, n32_20, n32_100, n32_120, n32_255, n32_400, n32_3600, n32_m1, n64_0, n64_1, n64_2, n64_3, n64_4, n64_5, n64_9, n64_19, n64_119, n64_255, n64_400, n64_3599, n64_1000000000, n64_1000000000000, n64_m1000000000000] at c0 c1 c3 b0 b1 b3 b4 b5)
      first | contradiction | omega
  · intro c0 c1 ct2 ce2 ch2 c3 c4 c5 c6
    subst ce2
    have hk1 := (hB.1 ct2 ch2).2.2.2.1
    have hn1 := (hB.1 ct2 ch2).2.2.2.2.1
    simp only [Int32.lt_iff_toInt_lt, Int32.le_iff_toInt_le, Int64.lt_iff_toInt_lt, Int64.le_iff_toInt_le, Int32.toInt_toInt64, ← Int32.toInt_inj, ← Int64.toInt_inj, n32_0, n32_1, n32_2, n32_3, n32_4, n32_6, n32_8, n32_9, n32_10, n32_20, n32_100, n32_120, n32_255, n32_400, n32_3600, n32_m1, n64_0, n64_1, n64_2, n64_3, n64_4, n64_5, n64_9, n64_19, n64_119, n64_255, n64_400, n64_3599, n64_1000000000, n64_1000000000000, n64_m1000000000000] at hk1 hn1
    refine K _ _ ⟨_, M27⟩ (fun Q2 K2 => ?_)
    refine s_X8_correct M27 M44 M45 M46 M47 M48 M49 hE60 (fun e he => ⟨(hB.1 e he).2.1, (hB.1 e he).2.2.1⟩) ?_ ?_ ?_ ?_ ?_ ?_ ?_ ?_ ?_ ?_
    · intro b0
      exfalso
      clear hI0 hM hX hW hY hT hE hD hU hS hB hG K M27 M28 M29 M30 M31 M32 M33 M34 M35 M36 M37 M38 M39 M40 M41 M42 M43 M44 M45 M46 M47 M48 M49 X0 X1 X2 X3 X4 X5 X6 X7 X8 X9 X10 X11 X12 X13 W0 W1 W2 Y0 Y1 Y2 Y3 Y4 Y5 Y6 Y7 Y8 Y9 K2
      (try simp only [Int32.lt_iff_toInt_lt, Int32.le_iff_toInt_le, Int64.lt_iff_toInt_lt, Int64.le_iff_toInt_le, Int32.toInt_toInt64, ← Int32.toInt_inj, ← Int64.toInt_inj, n32_0, n32_1, n32_2, n32_3, n32_4, n32_6, n32_8, n32_9, n32_10, n32_20, n32_100, n32_120, n32_255, n32_400, n32_3600, n32_m1, n64_0, n64_1, n64_2, n64_3, n64_4, n64_5, n64_9, n64_19, n64_119, n64_255, n64_400, n64_3599, n64_1000000000, n64_1000000000000, n64_m1000000000000] at c0 c1 c3 c4 c5 c6 b0)
      first | contradiction | omega
    · intro b0 b1
      exfalso
      clear hI0 hM hX hW hY hT hE hD hU hS hB hG K M27 M28 M29 M30 M31 M32 M33 M34 M35 M36 M37 M38 M39 M40 M41 M42 M43 M44 M45 M46 M47 M48 M49 X0 X1 X2 X3 X4 X5 X6 X7 X8 X9 X10 X11 X12 X13 W0 W1 W2 Y0 Y1 Y2 Y3 Y4 Y5 Y6 Y7 Y8 Y9 K2
      (try simp only [Int32.lt_iff_toInt_lt, Int32.le_iff_toInt_le, Int64.lt_iff_toInt_lt, Int64.le_iff_toInt_le, Int32.toInt_toInt64, ← Int32.toInt_inj, ← Int64.toInt_inj, n32_0, n32_1, n32_2, n32_3, n32_4, n32_6, n32_8, n32_9, n32_10, n32_20, n32_100, n32_120, n32_255, n32_400, n32_3600, n32_m1, n64_0, n64_1, n64_2, n64_3, n64_4, n64_5, n64_9, n64_19, n64_119, n64_255, n64_400, n64_3599, n64_1000000000, n64_1000000000000, n64_m1000000000000] at c0 c1 c3 c4 c5 c6 b0 b1)
      first | contradiction | omega
    · intro b0 b1 bt2 be2 bh2 b3
      obtain rfl : ct2 = bt2 := by have z := nI_inj2 be2 (by omega) (by omega); omega
      exfalso
      clear hI0 hM hX hW hY hT hE hD hU hS hB hG K M27 M28 M29 M30 M31 M32 M33 M34 M35 M36 M37 M38 M39 M40 M41 M42 M43 M44 M45 M46 M47 M48 M49 X0 X1 X2 X3 X4 X5 X6 X7 X8 X9 X10 X11 X12 X13 W0 W1 W2 Y0 Y1 Y2 Y3 Y4 Y5 Y6 Y7 Y8 Y9 K2
      (try simp only [Int32.lt_iff_toInt_lt, Int32.le_iff_toInt_le, Int64.lt_iff_toInt_lt, Int64.le_iff_toInt_le, Int32.toInt_toInt64, ← Int32.toInt_inj, ← Int64.toInt_inj, n32_0, n32_1, n32_2, n32_3, n32_4, n32_6, n32_8, n32_9, n32_10, n32_20, n32_100, n32_120, n32_255, n32_400, n32_3600, n32_m1, n64_0, n64_1, n64_2, n64_3, n64_4, n64_5, n64_9, n64_19, n64_119, n64_255, n64_400, n64_3599, n64_1000000000, n64_1000000000000, n64_m1000000000000] at c0 c1 c3 c4 c5 c6 b0 b1 b3)
      first | contradiction | omega
    · intro b0 b1 bt2 be2 bh2 b3 b4
      obtain rfl : ct2 = bt2 := by have z := nI_inj2 be2 (by omega) (by omega); omega
      exfalso
      clear hI0 hM hX hW hY hT hE hD hU hS hB hG K M27 M28 M29 M30 M31 M32 M33 M34 M35 M36 M37 M38 M39 M40 M41 M42 M43 M44 M45 M46 M47 M48 M49 X0 X1 X2 X3 X4 X5 X6 X7 X8 X9 X10 X11 X12 X13 W0 W1 W2 Y0 Y1 Y2 Y3 Y4 Y5 Y6 Y7 Y8 Y9 K2
      (try simp only [Int32.lt_iff_toInt_lt, Int32.le_iff_toInt_le, Int64.lt_iff_toInt_lt, Int64.le_iff_toInt_le, Int32.toInt_toInt64, ← Int32.toInt_inj, ← Int64.toInt_inj, n32_0, n32_1, n32_2, n32_3, n32_4, n32_6, n32_8, n32_9, n32_10, n32_20, n32_100, n32_120, n32_255, n32_400, n32_3600, n32_m1, n64_0, n64_1, n64_2, n64_3, n64_4, n64_5, n64_9, n64_19, n64_119, n64_255, n64_400, n64_3599, n64_1000000000, n64_1000000000000, n64_m1000000000000] at c0 c1 c3 c4 c5 c6 b0 b1 b3 b4)
      first | contradiction | omega
    · intro b0 b1 bt2 be2 bh2 b3 b4 b5 b6
      obtain rfl : ct2 = bt2 := by have z := nI_inj2 be2 (by omega) (by omega); omega
      exact K2 _ (iV_up hI0)
    · intro b0 b1 bt2 be2 bh2 b3 b4 b5 b6 b7
      obtain rfl : ct2 = bt2 := by have z := nI_inj2 be2 (by omega) (by omega); omega
      exfalso
      clear hI0 hM hX hW hY hT hE hD hU hS hB hG K M27 M28 M29 M30 M31 M32 M33 M34 M35 M36 M37 M38 M39 M40 M41 M42 M43 M44 M45 M46 M47 M48 M49 X0 X1 X2 X3 X4 X5 X6 X7 X8 X9 X10 X11 X12 X13 W0 W1 W2 Y0 Y1 Y2 Y3 Y4 Y5 Y6 Y7 Y8 Y9 K2
      (try simp only [Int32.lt_iff_toInt_lt, Int32.le_iff_toInt_le, Int64.lt_iff_toInt_lt, Int64.le_iff_toInt_le, Int32.toInt_toInt64, ← Int32.toInt_inj, ← Int64.toInt_inj, n32_0, n32_1, n32_2, n32_3, n32_4, n32_6, n32_8, n32_9, n32_10, n32_20, n32_100, n32_120, n32_255, n32_400, n32_3600, n32_m1, n64_0, n64_1, n64_2, n64_3, n64_4, n64_5, n64_9, n64_19, n64_119, n64_255, n64_400, n64_3599, n64_1000000000, n64_1000000000000, n64_m1000000000000] at c0 c1 c3 c4 c5 c6 b0 b1 b3 b4 b5 b6 b7)
      first | contradiction | omega
    · intro b0 b1 bt2 be2 bh2 b3 b4 b5 b6 b7 b8
      obtain rfl : ct2 = bt2 := by have z := nI_inj2 be2 (by omega) (by omega); omega
      exfalso
      clear hI0 hM hX hW hY hT hE hD hU hS hB hG K M27 M28 M29 M30 M31 M32 M33 M34 M35 M36 M37 M38 M39 M40 M41 M42 M43 M44 M45 M46 M47 M48 M49 X0 X1 X2 X3 X4 X5 X6 X7 X8 X9 X10 X11 X12 X13 W0 W1 W2 Y0 Y1 Y2 Y3 Y4 Y5 Y6 Y7 Y8 Y9 K2
      (try simp only [Int32.lt_iff_toInt_lt, Int32.le_iff_toInt_le, Int64.lt_iff_toInt_lt, Int64.le_iff_toInt_le, Int32.toInt_toInt64, ← Int32.toInt_inj, ← Int64.toInt_inj, n32_0, n32_1, n32_2, n32_3, n32_4, n32_6, n32_8, n32_9, n32_10, n32_20, n32_100, n32_120, n32_255, n32_400, n32_3600, n32_m1, n64_0, n64_1, n64_2, n64_3, n64_4, n64_5, n64_9, n64_19, n64_119, n64_255, n64_400, n64_3599, n64_1000000000, n64_1000000000000, n64_m1000000000000] at c0 c1 c3 c4 c5 c6 b0 b1 b3 b4 b5 b6 b7 b8)
      first | contradiction | omega
    · intro b0 b1 bt2 be2 bh2 b3 b4 b5 b6 b7 b8 b9
      obtain rfl : ct2 = bt2 := by have z := nI_inj2 be2 (by omega) (by omega); omega
      exfalso
      clear hI0 hM hX hW hY hT hE hD hU hS hB hG K M27 M28 M29 M30 M31 M32 M33 M34 M35 M36 M37 M38 M39 M40 M41 M42 M43 M44 M45 M46 M47 M48 M49 X0 X1 X2 X3 X4 X5 X6 X7 X8 X9 X10 X11 X12 X13 W0 W1 W2 Y0 Y1 Y2 Y3 Y4 Y5 Y6 Y7 Y8 Y9 K2
      (try simp only [Int32.lt_iff_toInt_lt, Int32.le_iff_toInt_le, Int64.lt_iff_toInt_lt, Int64.le_iff_toInt_le, Int32.toInt_toInt64, ← Int32.toInt_inj, ← Int64.toInt_inj, n32_0, n32_1, n32_2, n32_3, n32_4, n32_6, n32_8, n32_9, n32_10, n32_20, n32_100, n32_120, n32_255, n32_400, n32_3600, n32_m1, n64_0, n64_1, n64_2, n64_3, n64_4, n64_5, n64_9, n64_19, n64_119, n64_255, n64_400, n64_3599, n64_1000000000, n64_1000000000000, n64_m1000000000000] at c0 c1 c3 c4 c5 c6 b0 b1 b3 b4 b5 b6 b7 b8 b9)
      first | contradiction | omega
    · intro b0 b1 bt2 be2 bh2 b3 b4 b5 b6 b7 b8 b9
      obtain rfl : ct2 = bt2 := by have z := nI_inj2 be2 (by omega) (by omega); omega
      exfalso
      clear hI0 hM hX hW hY hT hE hD hU hS hB hG K M27 M28 M29 M30 M31 M32 M33 M34 M35 M36 M37 M38 M39 M40 M41 M42 M43 M44 M45 M46 M47 M48 M49 X0 X1 X2 X3 X4 X5 X6 X7 X8 X9 X10 X11 X12 X13 W0 W1 W2 Y0 Y1 Y2 Y3 Y4 Y5 Y6 Y7 Y8 Y9 K2
      (try simp only [Int32.lt_iff_toInt_lt, Int32.le_iff_toInt_le, Int64.lt_iff_toInt_lt, Int64.le_iff_toInt_le, Int32.toInt_toInt64, ← Int32.toInt_inj, ← Int64.toInt_inj, n32_0, n32_1, n32_2, n32_3, n32_4, n32_6, n32_8, n32_9, n32_10, n32_20, n32_100, n32_120, n32_255, n32_400, n32_3600, n32_m1, n64_0, n64_1, n64_2, n64_3, n64_4, n64_5, n64_9, n64_19, n64_119, n64_255, n64_400, n64_3599, n64_1000000000, n64_1000000000000, n64_m1000000000000] at c0 c1 c3 c4 c5 c6 b0 b1 b3 b4 b5 b6 b7 b8 b9)
      first | contradiction | omega
    · intro b0 b1 bt2 be2 bh2 b3 b4 b5
      obtain rfl : ct2 = bt2 := by have z := nI_inj2 be2 (by omega) (by omega); omega
      exfalso
      clear hI0 hM hX hW hY hT hE hD hU hS hB hG K M27 M28 M29 M30 M31 M32 M33 M34 M35 M36 M37 M38 M39 M40 M41 M42 M43 M44 M45 M46 M47 M48 M49 X0 X1 X2 X3 X4 X5 X6 X7 X8 X9 X10 X11 X12 X13 W0 W1 W2 Y0 Y1 Y2 Y3 Y4 Y5 Y6 Y7 Y8 Y9 K2
      (try simp only [Int32.lt_iff_toInt_lt, Int32.le_iff_toInt_le, Int64.lt_iff_toInt_lt, Int64.le_iff_toInt_le, Int32.toInt_toInt64, ← Int32.toInt_inj, ← Int64.toInt_inj, n32_0, n32_1, n32_2, n32_3, n32_4, n32_6, n32_8, n32_9, n32_10, n32_20, n32_100, n32_120, n32_255, n32_400, n32_3600, n32_m1, n64_0, n64_1, n64_2, n64_3, n64_4, n64_5, n64_9, n64_19, n64_119, n64_255, n64_400, n64_3599, n64_1000000000, n64_1000000000000, n64_m1000000000000] at c0 c1 c3 c4 c5 c6 b0 b1 b3 b4 b5)
      first | contradiction | omega
  · intro c0 c1 ct2 ce2 ch2 c3 c4 c5 c6 c7
    subst ce2
    have hk1 := (hB.1 ct2 ch2).2.2.2.1
    have hn1 := (hB.1 ct2 ch2).2.2.2.2.1
    simp only [Int32.lt_iff_toInt_lt, Int32.le_iff_toInt_le, Int64.lt_iff_toInt_lt, Int64.le_iff_toInt_le, Int32.toInt_toInt64, ← Int32.toInt_inj, ← Int64.toInt_inj, n32_0, n32_1, n32_2, n32_3, n32_4, n32_6, n32_8, n32_9, n32_10, n32_20, n32_100, n32_120, n32_255, n32_400, n32_3600, n32_m1, n64_0, n64_1, n64_2, n64_3, n64_4, n64_5, n64_9, n64_19, n64_119, n64_255, n64_400, n64_3599, n64_1000000000, n64_1000000000000, n64_m1000000000000] at hk1 hn1
    refine K _ _ ⟨_, M27⟩ (fun Q2 K2 => ?_)
    refine s_X8_correct M27 M44 M45 M46 M47 M48 M49 hE60 (fun e he => ⟨(hB.1 e he).2.1, (hB.1 e he).2.2.1⟩) ?_ ?_ ?_ ?_ ?_ ?_ ?_ ?_ ?_ ?_
    · intro b0
      exfalso
      clear hI0 hM hX hW hY hT hE hD hU hS hB hG K M27 M28 M29 M30 M31 M32 M33 M34 M35 M36 M37 M38 M39 M40 M41 M42 M43 M44 M45 M46 M47 M48 M49 X0 X1 X2 X3 X4 X5 X6 X7 X8 X9 X10 X11 X12 X13 W0 W1 W2 Y0 Y1 Y2 Y3 Y4 Y5 Y6 Y7 Y8 Y9 K2
      (try simp only [Int32.lt_iff_toInt_lt, Int32.le_iff_toInt_le, Int64.lt_iff_toInt_lt, Int64.le_iff_toInt_le, Int32.toInt_toInt64, ← Int32.toInt_inj, ← Int64.toInt_inj, n32_0, n32_1, n32_2, n32_3, n32_4, n32_6, n32_8, n32_9, n32_10, n32_20, n32_100, n32_120, n32_255, n32_400, n32_3600, n32_m1, n64_0, n64_1, n64_2, n64_3, n64_4, n64_5, n64_9, n64_19, n64_119, n64_255, n64_400, n64_3599, n64_1000000000, n64_1000000000000, n64_m1000000000000] at c0 c1 c3 c4 c5 c6 c7 b0)
      first | contradiction | omega
    · intro b0 b1
      exfalso
      clear hI0 hM hX hW hY hT hE hD hU hS hB hG K M27 M28 M29 M30 M31 M32 M33 M34 M35 M36 M37 M38 M39 M40 M41 M42 M43 M44 M45 M46 M47 M48 M49 X0 X1 X2 X3 X4 X5 X6 X7 X8 X9 X10 X11 X12 X13 W0 W1 W2 Y0 Y1 Y2 Y3 Y4 Y5 Y6 Y7 Y8 Y9 K2
      (try simp only [Int32.lt_iff_toInt_lt, Int32.le_iff_toInt_le, Int64.lt_iff_toInt_lt, Int64.le_iff_toInt_le, Int32.toInt_toInt64, ← Int32.toInt_inj, ← Int64.toInt_inj, n32_0, n32_1, n32_2, n32_3, n32_4, n32_6, n32_8, n32_9, n32_10, n32_20, n32_100, n32_120, n32_255, n32_400, n32_3600, n32_m1, n64_0, n64_1, n64_2, n64_3, n64_4, n64_5, n64_9, n64_19, n64_119, n64_255, n64_400, n64_3599, n64_1000000000, n64_1000000000000, n64_m1000000000000] at c0 c1 c3 c4 c5 c6 c7 b0 b1)
      first | contradiction | omega
    · intro b0 b1 bt2 be2 bh2 b3
      obtain rfl : ct2 = bt2 := by have z := nI_inj2 be2 (by omega) (by omega); omega
      exfalso
      clear hI0 hM hX hW hY hT hE hD hU hS hB hG K M27 M28 M29 M30 M31 M32 M33 M34 M35 M36 M37 M38 M39 M40 M41 M42 M43 M44 M45 M46 M47 M48 M49 X0 X1 X2 X3 X4 X5 X6 X7 X8 X9 X10 X11 X12 X13 W0 W1 W2 Y0 Y1 Y2 Y3 Y4 Y5 Y6 Y7 Y8 Y9 K2
      (try simp only [Int32.lt_iff_toInt_lt, Int32.le_iff_toInt_le, Int64.lt_iff_toInt_lt, Int64.le_iff_toInt_le, Int32.toInt_toInt64, ← Int32.toInt_inj, ← Int64.toInt_inj, n32_0, n32_1, n32_2, n32_3, n32_4, n32_6, n32_8, n32_9, n32_10, n32_20, n32_100, n32_120, n32_255, n32_400, n32_3600, n32_m1, n64_0, n64_1, n64_2, n64_3, n64_4, n64_5, n64_9, n64_19, n64_119, n64_255, n64_400, n64_3599, n64_1000000000, n64_1000000000000, n64_m1000000000000] at c0 c1 c3 c4 c5 c6 c7 b0 b1 b3)
      first | contradiction | omega
    · intro b0 b1 bt2 be2 bh2 b3 b4
      obtain rfl : ct2 = bt2 := by have z := nI_inj2 be2 (by omega) (by omega); omega
      exfalso
      clear hI0 hM hX hW hY hT hE hD hU hS hB hG K M27 M28 M29 M30 M31 M32 M33 M34 M35 M36 M37 M38 M39 M40 M41 M42 M43 M44 M45 M46 M47 M48 M49 X0 X1 X2 X3 X4 X5 X6 X7 X8 X9 X10 X11 X12 X13 W0 W1 W2 Y0 Y1 Y2 Y3 Y4 Y5 Y6 Y7 Y8 Y9 K2
      (try simp only [Int32.lt_iff_toInt_lt, Int32.le_iff_toInt_le, Int64.lt_iff_toInt_lt, Int64.le_iff_toInt_le, Int32.toInt_toInt64, ← Int32.toInt_inj, ← Int64.toInt_inj, n32_0, n32_1, n32_2, n32_3, n32_4, n32_6, n32_8, n32_9, n32_10, n32_20, n32_100, n32_120, n32_255, n32_400, n32_3600, n32_m1, n64_0, n64_1, n64_2, n64_3, n64_4, n64_5, n64_9, n64_19, n64_119, n64_255, n64_400, n64_3599, n64_1000000000, n64_1000000000000, n64_m1000000000000] at c0 c1 c3 c4 c5 c6 c7 b0 b1 b3 b4)
      first | contradiction | omega
    · intro b0 b1 bt2 be2 bh2 b3 b4 b5 b6
      obtain rfl : ct2 = bt2 := by have z := nI_inj2 be2 (by omega) (by omega); omega
      exfalso
      clear hI0 hM hX hW hY hT hE hD hU hS hB hG K M27 M28 M29 M30 M31 M32 M33 M34 M35 M36 M37 M38 M39 M40 M41 M42 M43 M44 M45 M46 M47 M48 M49 X0 X1 X2 X3 X4 X5 X6 X7 X8 X9 X10 X11 X12 X13 W0 W1 W2 Y0 Y1 Y2 Y3 Y4 Y5 Y6 Y7 Y8 Y9 K2
      (try simp only [Int32.lt_iff_toInt_lt, Int32.le_iff_toInt_le, Int64.lt_iff_toInt_lt, Int64.le_iff_toInt_le, Int32.toInt_toInt64, ← Int32.toInt_inj, ← Int64.toInt_inj, n32_0, n32_1, n32_2, n32_3, n32_4, n32_6, n32_8, n32_9, n32_10, n32_20, n32_100, n32_120, n32_255, n32_400, n32_3600, n32_m1, n64_0, n64_1, n64_2, n64_3, n64_4, n64_5, n64_9, n64_19, n64_119, n64_255, n64_400, n64_3599, n64_1000000000, n64_1000000000000, n64_m1000000000000] at c0 c1 c3 c4 c5 c6 c7 b0 b1 b3 b4 b5 b6)
      first | contradiction | omega
    · intro b0 b1 bt2 be2 bh2 b3 b4 b5 b6 b7
      obtain rfl : ct2 = bt2 := by have z := nI_inj2 be2 (by omega) (by omega); omega
      exact K2 _ (iV_up hI0)
    · intro b0 b1 bt2 be2 bh2 b3 b4 b5 b6 b7 b8
      obtain rfl : ct2 = bt2 := by have z := nI_inj2 be2 (by omega) (by omega); omega
      exfalso
      clear hI0 hM hX hW hY hT hE hD hU hS hB hG K M27 M28 M29 M30 M31 M32 M33 M34 M35 M36 M37 M38 M39 M40 M41 M42 M43 M44 M45 M46 M47 M48 M49 X0 X1 X2 X3 X4 X5 X6 X7 X8 X9 X10 X11 X12 X13 W0 W1 W2 Y0 Y1 Y2 Y3 Y4 Y5 Y6 Y7 Y8 Y9 K2
      (try simp only [Int32.lt_iff_toInt_lt, Int32.le_iff_toInt_le, Int64.lt_iff_toInt_lt, Int64.le_iff_toInt_le, Int32.toInt_toInt64, ← Int32.toInt_inj, ← Int64.toInt_inj, n32_0, n32_1, n32_2, n32_3, n32_4, n32_6, n32_8, n32_9, n32_10, n32_20, n32_100, n32_120, n32_255, n32_400, n32_3600, n32_m1, n64_0, n64_1, n64_2, n64_3, n64_4, n64_5, n64_9, n64_19, n64_119, n64_255, n64_400, n64_3599, n64_1000000000, n64_1000000000000, n64_m1000000000000] at c0 c1 c3 c4 c5 c6 c7 b0 b1 b3 b4 b5 b6 b7 b8)
      first | contradiction | omega
    · intro b0 b1 bt2 be2 bh2 b3 b4 b5 b6 b7 b8 b9
      obtain rfl : ct2 = bt2 := by have z := nI_inj2 be2 (by omega) (by omega); omega
      exfalso
      clear hI0 hM hX hW hY hT hE hD hU hS hB hG K M27 M28 M29 M30 M31 M32 M33 M34 M35 M36 M37 M38 M39 M40 M41 M42 M43 M44 M45 M46 M47 M48 M49 X0 X1 X2 X3 X4 X5 X6 X7 X8 X9 X10 X11 X12 X13 W0 W1 W2 Y0 Y1 Y2 Y3 Y4 Y5 Y6 Y7 Y8 Y9 K2
      (try simp only [Int32.lt_iff_toInt_lt, Int32.le_iff_toInt_le, Int64.lt_iff_toInt_lt, Int64.le_iff_toInt_le, Int32.toInt_toInt64, ← Int32.toInt_inj, ← Int64.toInt_inj, n32_0, n32_1, n32_2, n32_3, n32_4, n32_6, n32_8, n32_9, n32_10, n32_20, n32_100, n32_120, n32_255, n32_400, n32_3600, n32_m1, n64_0, n64_1, n64_2, n64_3, n64_4, n64_5, n64_9, n64_19, n64_119, n64_255, n64_400, n64_3599, n64_1000000000, n64_1000000000000, n64_m1000000000000] at c0 c1 c3 c4 c5 c6 c7 b0 b1 b3 b4 b5 b6 b7 b8 b9)
      first | contradiction | omega
    · intro b0 b1 bt2 be2 bh2 b3 b4 b5 b6 b7 b8 b9
      obtain rfl : ct2 = bt2 := by have z := nI_inj2 be2 (by omega) (by omega); omega
      exfalso
      clear hI0 hM hX hW hY hT hE hD hU hS hB hG K M27 M28 M29 M30 M31 M32 M33 M34 M35 M36 M37 M38 M39 M40 M41 M42 M43 M44 M45 M46 M47 M48 M49 X0 X1 X2 X3 X4 X5 X6 X7 X8 X9 X10 X11 X12 X13 W0 W1 W2 Y0 Y1 Y2 Y3 Y4 Y5 Y6 Y7 Y8 Y9 K2
      (try simp only [Int32.lt_iff_toInt_lt, Int32.le_iff_toInt_le, Int64.lt_iff_toInt_lt, Int64.le_iff_toInt_le, Int32.toInt_toInt64, ← Int32.toInt_inj, ← Int64.toInt_inj, n32_0, n32_1, n32_2, n32_3, n32_4, n32_6, n32_8, n32_9, n32_10, n32_20, n32_100, n32_120, n32_255, n32_400, n32_3600, n32_m1, n64_0, n64_1, n64_2, n64_3, n64_4, n64_5, n64_9, n64_19, n64_119, n64_255, n64_400, n64_3599, n64_1000000000, n64_1000000000000, n64_m1000000000000] at c0 c1 c3 c4 c5 c6 c7 b0 b1 b3 b4 b5 b6 b7 b8 b9)
      first | contradiction | omega
    · intro b0 b1 bt2 be2 bh2 b3 b4 b5
      obtain rfl : ct2 = bt2 := by have z := nI_inj2 be2 (by omega) (by omega); omega
      exfalso
      clear hI0 hM hX hW hY hT hE hD hU hS hB hG K M27 M28 M29 M30 M31 M32 M33 M34 M35 M36 M37 M38 M39 M40 M41 M42 M43 M44 M45 M46 M47 M48 M49 X0 X1 X2 X3 X4 X5 X6 X7 X8 X9 X10 X11 X12 X13 W0 W1 W2 Y0 Y1 Y2 Y3 Y4 Y5 Y6 Y7 Y8 Y9 K2
      (try simp only [Int32.lt_iff_toInt_lt, Int32.le_iff_toInt_le, Int64.lt_iff_toInt_lt, Int64.le_iff_toInt_le, Int32.toInt_toInt64, ← Int32.toInt_inj, ← Int64.toInt_inj, n32_0, n32_1, n32_2, n32_3, n32_4, n32_6, n32_8, n32_9, n32_10, n32_20, n32_100, n32_120, n32_255, n32_400, n32_3600, n32_m1, n64_0, n64_1, n64_2, n64_3, n64_4, n64_5, n64_9, n64_19, n64_119, n64_255, n64_400, n64_3599, n64_1000000000, n64_1000000000000, n64_m1000000000000] at c0 c1 c3 c4 c5 c6 c7 b0 b1 b3 b4 b5)
      first | contradiction | omega
  · intro c0 c1 ct2 ce2 ch2 c3 c4 c5 c6 c7 c8 c9 c10
    subst ce2
    have hk1 := (hB.1 ct2 ch2).2.2.2.1
    have hn1 := (hB.1 ct2 ch2).2.2.2.2.1
    simp only [Int32.lt_iff_toInt_lt, Int32.le_iff_toInt_le, Int64.lt_iff_toInt_lt, Int64.le_iff_toInt_le, Int32.toInt_toInt64, ← Int32.toInt_inj, ← Int64.toInt_inj, n32_0, n32_1, n32_2, n32_3, n32_4, n32_6, n32_8, n32_9, n32_10, n32_20, n32_100, n32_120, n32_255, n32_400, n32_3600, n32_m1, n64_0, n64_1, n64_2, n64_3, n64_4, n64_5, n64_9, n64_19, n64_119, n64_255, n64_400, n64_3599, n64_1000000000, n64_1000000000000, n64_m1000000000000] at hk1 hn1
    have hbt := hD.2.2.2.1 ct2 ch2
    have hbd := hD.2.2.2.2.2.2.2.2.1 ct2 ch2
    refine K _ _ ⟨_, (j_hn (by omega) (j_hn (by decide) (j_hn (by decide) (j_hn (by omega) (j_hn (by omega) (j_hn (by omega) M27))))))⟩ (fun Q2 K2 => ?_)
    refine s_X8_correct (j_hn (by omega) (j_hn (by decide) (j_hn (by decide) (j_hn (by omega) (j_hn (by omega) (j_hn (by omega) M27)))))) (j_hn (by omega) (j_hn (by decide) (j_hn (by decide) (j_hn (by omega) (j_hn (by omega) (j_hn (by omega) M44)))))) (j_hn (by omega) (j_hn (by decide) (j_hn (by decide) (j_hn (by omega) (j_hn (by omega) (j_hn (by omega) M45)))))) (j_hn (by omega) (j_hn (by decide) (j_hn (by decide) (j_hn (by omega) (j_hn (by omega) (j_hn (by omega) M46)))))) (j_hn (by omega) (j_hn (by decide) (j_hn (by decide) (j_hn (by omega) (j_hn (by omega) (j_hn (by omega) M47)))))) (j_hn (by omega) (j_hn (by decide) (j_hn (by decide) (j_hn (by omega) (j_hn (by omega) (j_hn (by omega) M48)))))) (j_hn (by omega) (j_hn (by decide) (j_hn (by decide) (j_hn (by omega) (j_hn (by omega) (j_hn (by omega) M49)))))) hE60 (fun e he => ⟨(hB.1 e he).2.1, (hB.1 e he).2.2.1⟩) ?_ ?_ ?_ ?_ ?_ ?_ ?_ ?_ ?_ ?_
    · intro b0
      exfalso
      clear hI0 hM hX hW hY hT hE hD hU hS hB hG K M27 M28 M29 M30 M31 M32 M33 M34 M35 M36 M37 M38 M39 M40 M41 M42 M43 M44 M45 M46 M47 M48 M49 X0 X1 X2 X3 X4 X5 X6 X7 X8 X9 X10 X11 X12 X13 W0 W1 W2 Y0 Y1 Y2 Y3 Y4 Y5 Y6 Y7 Y8 Y9 K2
      (try simp only [Int32.lt_iff_toInt_lt, Int32.le_iff_toInt_le, Int64.lt_iff_toInt_lt, Int64.le_iff_toInt_le, Int32.toInt_toInt64, ← Int32.toInt_inj, ← Int64.toInt_inj, n32_0, n32_1, n32_2, n32_3, n32_4, n32_6, n32_8, n32_9, n32_10, n32_20, n32_100, n32_120, n32_255, n32_400, n32_3600, n32_m1, n64_0, n64_1, n64_2, n64_3, n64_4, n64_5, n64_9, n64_19, n64_119, n64_255, n64_400, n64_3599, n64_1000000000, n64_1000000000000, n64_m1000000000000] at c0 c1 c3 c4 c5 c6 c7 c8 c9 c10 b0)
      first | contradiction | omega
    · intro b0 b1
      exfalso
      clear hI0 hM hX hW hY hT hE hD hU hS hB hG K M27 M28 M29 M30 M31 M32 M33 M34 M35 M36 M37 M38 M39 M40 M41 M42 M43 M44 M45 M46 M47 M48 M49 X0 X1 X2 X3 X4 X5 X6 X7 X8 X9 X10 X11 X12 X13 W0 W1 W2 Y0 Y1 Y2 Y3 Y4 Y5 Y6 Y7 Y8 Y9 K2
      (try simp only [Int32.lt_iff_toInt_lt, Int32.le_iff_toInt_le, Int64.lt_iff_toInt_lt, Int64.le_iff_toInt_le, Int32.toInt_toInt64, ← Int32.toInt_inj, ← Int64.toInt_inj, n32_0, n32_1, n32_2, n32_3, n32_4, n32_6, n32_8, n32_9, n32_10, n32_20, n32_100, n32_120, n32_255, n32_400, n32_3600, n32_m1, n64_0, n64_1, n64_2, n64_3, n64_4, n64_5, n64_9, n64_19, n64_119, n64_255, n64_400, n64_3599, n64_1000000000, n64_1000000000000, n64_m1000000000000] at c0 c1 c3 c4 c5 c6 c7 c8 c9 c10 b0 b1)
      first | contradiction | omega
    · intro b0 b1 bt2 be2 bh2 b3
      obtain rfl : ct2 = bt2 := by have z := nI_inj2 be2 (by omega) (by omega); omega
      exfalso
      clear hI0 hM hX hW hY hT hE hD hU hS hB hG K M27 M28 M29 M30 M31 M32 M33 M34 M35 M36 M37 M38 M39 M40 M41 M42 M43 M44 M45 M46 M47 M48 M49 X0 X1 X2 X3 X4 X5 X6 X7 X8 X9 X10 X11 X12 X13 W0 W1 W2 Y0 Y1 Y2 Y3 Y4 Y5 Y6 Y7 Y8 Y9 K2
      (try simp only [Int32.lt_iff_toInt_lt, Int32.le_iff_toInt_le, Int64.lt_iff_toInt_lt, Int64.le_iff_toInt_le, Int32.toInt_toInt64, ← Int32.toInt_inj, ← Int64.toInt_inj, n32_0, n32_1, n32_2, n32_3, n32_4, n32_6, n32_8, n32_9, n32_10, n32_20, n32_100, n32_120, n32_255, n32_400, n32_3600, n32_m1, n64_0, n64_1, n64_2, n64_3, n64_4, n64_5, n64_9, n64_19, n64_119, n64_255, n64_400, n64_3599, n64_1000000000, n64_1000000000000, n64_m1000000000000] at c0 c1 c3 c4 c5 c6 c7 c8 c9 c10 b0 b1 b3)
      first | contradiction | omega
    · intro b0 b1 bt2 be2 bh2 b3 b4
      obtain rfl : ct2 = bt2 := by have z := nI_inj2 be2 (by omega) (by omega); omega
      exfalso
      clear hI0 hM hX hW hY hT hE hD hU hS hB hG K M27 M28 M29 M30 M31 M32 M33 M34 M35 M36 M37 M38 M39 M40 M41 M42 M43 M44 M45 M46 M47 M48 M49 X0 X1 X2 X3 X4 X5 X6 X7 X8 X9 X10 X11 X12 X13 W0 W1 W2 Y0 Y1 Y2 Y3 Y4 Y5 Y6 Y7 Y8 Y9 K2
      (try simp only [Int32.lt_iff_toInt_lt, Int32.le_iff_toInt_le, Int64.lt_iff_toInt_lt, Int64.le_iff_toInt_le, Int32.toInt_toInt64, ← Int32.toInt_inj, ← Int64.toInt_inj, n32_0, n32_1, n32_2, n32_3, n32_4, n32_6, n32_8, n32_9, n32_10, n32_20, n32_100, n32_120, n32_255, n32_400, n32_3600, n32_m1, n64_0, n64_1, n64_2, n64_3, n64_4, n64_5, n64_9, n64_19, n64_119, n64_255, n64_400, n64_3599, n64_1000000000, n64_1000000000000, n64_m1000000000000] at c0 c1 c3 c4 c5 c6 c7 c8 c9 c10 b0 b1 b3 b4)
      first | contradiction | omega
    · intro b0 b1 bt2 be2 bh2 b3 b4 b5 b6
      obtain rfl : ct2 = bt2 := by have z := nI_inj2 be2 (by omega) (by omega); omega
      exfalso
      clear hI0 hM hX hW hY hT hE hD hU hS hB hG K M27 M28 M29 M30 M31 M32 M33 M34 M35 M36 M37 M38 M39 M40 M41 M42 M43 M44 M45 M46 M47 M48 M49 X0 X1 X2 X3 X4 X5 X6 X7 X8 X9 X10 X11 X12 X13 W0 W1 W2 Y0 Y1 Y2 Y3 Y4 Y5 Y6 Y7 Y8 Y9 K2
      (try simp only [Int32.lt_iff_toInt_lt, Int32.le_iff_toInt_le, Int64.lt_iff_toInt_lt, Int64.le_iff_toInt_le, Int32.toInt_toInt64, ← Int32.toInt_inj, ← Int64.toInt_inj, n32_0, n32_1, n32_2, n32_3, n32_4, n32_6, n32_8, n32_9, n32_10, n32_20, n32_100, n32_120, n32_255, n32_400, n32_3600, n32_m1, n64_0, n64_1, n64_2, n64_3, n64_4, n64_5, n64_9, n64_19, n64_119, n64_255, n64_400, n64_3599, n64_1000000000, n64_1000000000000, n64_m1000000000000] at c0 c1 c3 c4 c5 c6 c7 c8 c9 c10 b0 b1 b3 b4 b5 b6)
      first | contradiction | omega
    · intro b0 b1 bt2 be2 bh2 b3 b4 b5 b6 b7
      obtain rfl : ct2 = bt2 := by have z := nI_inj2 be2 (by omega) (by omega); omega
      exfalso
      clear hI0 hM hX hW hY hT hE hD hU hS hB hG K M27 M28 M29 M30 M31 M32 M33 M34 M35 M36 M37 M38 M39 M40 M41 M42 M43 M44 M45 M46 M47 M48 M49 X0 X1 X2 X3 X4 X5 X6 X7 X8 X9 X10 X11 X12 X13 W0 W1 W2 Y0 Y1 Y2 Y3 Y4 Y5 Y6 Y7 Y8 Y9 K2
      (try simp only [Int32.lt_iff_toInt_lt, Int32.le_iff_toInt_le, Int64.lt_iff_toInt_lt, Int64.le_iff_toInt_le, Int32.toInt_toInt64, ← Int32.toInt_inj, ← Int64.toInt_inj, n32_0, n32_1, n32_2, n32_3, n32_4, n32_6, n32_8, n32_9, n32_10, n32_20, n32_100, n32_120, n32_255, n32_400, n32_3600, n32_m1, n64_0, n64_1, n64_2, n64_3, n64_4, n64_5, n64_9, n64_19, n64_119, n64_255, n64_400, n64_3599, n64_1000000000, n64_1000000000000, n64_m1000000000000] at c0 c1 c3 c4 c5 c6 c7 c8 c9 c10 b0 b1 b3 b4 b5 b6 b7)
      first | contradiction | omega
    · intro b0 b1 bt2 be2 bh2 b3 b4 b5 b6 b7 b8
      obtain rfl : ct2 = bt2 := by have z := nI_inj2 be2 (by omega) (by omega); omega
      exfalso
      clear hI0 hM hX hW hY hT hE hD hU hS hB hG K M27 M28 M29 M30 M31 M32 M33 M34 M35 M36 M37 M38 M39 M40 M41 M42 M43 M44 M45 M46 M47 M48 M49 X0 X1 X2 X3 X4 X5 X6 X7 X8 X9 X10 X11 X12 X13 W0 W1 W2 Y0 Y1 Y2 Y3 Y4 Y5 Y6 Y7 Y8 Y9 K2
      (try simp only [Int32.lt_iff_toInt_lt, Int32.le_iff_toInt_le, Int64.lt_iff_toInt_lt, Int64.le_iff_toInt_le, Int32.toInt_toInt64, ← Int32.toInt_inj, ← Int64.toInt_inj, n32_0, n32_1, n32_2, n32_3, n32_4, n32_6, n32_8, n32_9, n32_10, n32_20, n32_100, n32_120, n32_255, n32_400, n32_3600, n32_m1, n64_0, n64_1, n64_2, n64_3, n64_4, n64_5, n64_9, n64_19, n64_119, n64_255, n64_400, n64_3599, n64_1000000000, n64_1000000000000, n64_m1000000000000] at c0 c1 c3 c4 c5 c6 c7 c8 c9 c10 b0 b1 b3 b4 b5 b6 b7 b8)
      first | contradiction | omega
    · intro b0 b1 bt2 be2 bh2 b3 b4 b5 b6 b7 b8 b9
      obtain rfl : ct2 = bt2 := by have z := nI_inj2 be2 (by omega) (by omega); omega
      rw [va_up_up]
      refine K2 _ (fun X k => ?_)
      exact k L P T (E + 1) C R R0 n ru dq dr op at_ fr wd ws we wn dd tx rs fs ro sh dy se (va_up ey (E + 1) d0) (va_up er (E + 1) (er (ct2 + 1))) (va_up tk (E + 1) (nI (ct2 + 1))) (va_up (va_up tn (E + 1) 0) (ct2 + 1) (nI (E + 1))) (j_fl ac (8 * (E + 1)) (fun k => ac (8 * (ct2 + 1) + k)) (rr ct2)) f1 f2 f3 f4 g1 g2 g3 g4 da lo ad sa co pa ss w1 w2 w3 (j_fl am (8 * (E + 1)) (fun k => (-1) * am (8 * (ct2 + 1) + k)) (rr ct2)) pw ps cu dm ta (va_up ea E (some h.1)) shp tb (va_up eb E h.1) (va_up rr E (rr ct2)) rn cst prt (va_up eam E (j_f0 (fun _ => 0) (fun k => -(eam ct2 k)) (rr ct2))) dys (va_up eac E (j_f0 (fun _ => 0) (eac ct2) (rr ct2))) shs (⟨(j_hn (by decide) (j_hn (by decide) (j_hn (by decide) (j_hn (by decide) (j_hn (by decide) (j_hn (by decide) j_hs)))))), (j_hn (by decide) (j_hn (by decide) (j_hn (by decide) (j_hn (by decide) (j_hn (by decide) (j_hn (by decide) (j_hn (by decide) (j_hn (by omega) (j_hn (by decide) (j_hn (by decide) (j_hn (by omega) (j_hn (by omega) (j_hn (by omega) M28))))))))))))), (j_hn (by decide) (j_hn (by decide) (j_hn (by decide) (j_hn (by decide) (j_hn (by decide) (j_hn (by decide) (j_hn (by decide) (j_hn (by omega) (j_hn (by decide) (j_hn (by decide) (j_hn (by omega) (j_hn (by omega) (j_hn (by omega) M29))))))))))))), (j_hn (by decide) (j_hn (by decide) (j_hn (by decide) (j_hn (by decide) (j_hn (by decide) (j_hn (by decide) (j_hn (by decide) (j_hn (by omega) (j_hn (by decide) (j_hn (by decide) (j_hn (by omega) (j_hn (by omega) (j_hn (by omega) M30))))))))))))), (j_hn (by decide) (j_hn (by decide) (j_hn (by decide) (j_hn (by decide) (j_hn (by decide) (j_hn (by decide) (j_hn (by decide) (j_hn (by omega) (j_hn (by decide) (j_hn (by decide) (j_hn (by omega) (j_hn (by omega) (j_hn (by omega) M31))))))))))))), (j_hn (by decide) (j_hn (by decide) (j_hn (by decide) (j_hn (by decide) (j_hn (by decide) (j_hn (by decide) (j_hn (by decide) (j_hn (by omega) (j_hn (by decide) (j_hn (by decide) (j_hn (by omega) (j_hn (by omega) (j_hn (by omega) M32))))))))))))), (j_hn (by decide) (j_hn (by decide) (j_hn (by decide) (j_hn (by decide) (j_hn (by decide) (j_hn (by decide) (j_hn (by decide) (j_hn (by omega) (j_hn (by decide) (j_hn (by decide) (j_hn (by omega) (j_hn (by omega) (j_hn (by omega) M33))))))))))))), (j_hn (by decide) (j_hn (by decide) (j_hn (by decide) (j_hn (by decide) (j_hn (by decide) (j_hn (by decide) (j_hn (by decide) (j_hn (by omega) (j_hn (by decide) (j_hn (by decide) (j_hn (by omega) (j_hn (by omega) (j_hn (by omega) M34))))))))))))), (j_hn (by decide) (j_hn (by decide) (j_hn (by decide) (j_hn (by decide) (j_hn (by decide) (j_hn (by decide) (j_hn (by decide) (j_hn (by omega) (j_hn (by decide) (j_hn (by decide) (j_hn (by omega) (j_hn (by omega) (j_hn (by omega) M35))))))))))))), (j_hn (by decide) (j_hn (by decide) (j_hn (by decide) (j_hn (by decide) (j_hn (by decide) (j_hn (by decide) (j_hn (by decide) (j_hn (by omega) (j_hn (by decide) (j_hn (by decide) (j_hn (by omega) (j_hn (by omega) (j_hn (by omega) M36))))))))))))), (j_hn (by decide) (j_hn (by decide) (j_hn (by decide) (j_hn (by decide) (j_hn (by decide) (j_hn (by decide) (j_hn (by decide) (j_hn (by omega) (j_hn (by decide) (j_hn (by decide) (j_hn (by omega) (j_hn (by omega) (j_hn (by omega) M37))))))))))))), (j_hn (by decide) (j_hn (by decide) (j_hn (by decide) (j_hn (by decide) (j_hn (by decide) (j_hn (by decide) (j_hn (by decide) (j_hn (by omega) (j_hn (by decide) (j_hn (by decide) (j_hn (by omega) (j_hn (by omega) (j_hn (by omega) M38))))))))))))), (j_hn (by decide) (j_hn (by decide) (j_hn (by decide) (j_hn (by decide) (j_hn (by decide) (j_hn (by decide) (j_hn (by decide) (j_hn (by omega) (j_hn (by decide) (j_hn (by decide) (j_hn (by omega) (j_hn (by omega) (j_hn (by omega) M39))))))))))))), (j_hn (by decide) (j_hn (by decide) (j_hn (by decide) (j_hn (by decide) (j_hn (by decide) (j_hn (by decide) (j_hn (by decide) (j_hn (by omega) (j_hn (by decide) (j_hn (by decide) (j_hn (by omega) (j_hn (by omega) (j_hn (by omega) M40))))))))))))), (j_hn (by decide) (j_hn (by decide) (j_hn (by decide) (j_hn (by decide) (j_hn (by decide) (j_hn (by decide) (j_hn (by decide) (j_hn (by omega) (j_hn (by decide) (j_hn (by decide) (j_hn (by omega) (j_hn (by omega) (j_hn (by omega) M41))))))))))))), (j_hn (by decide) (j_hn (by decide) (j_hn (by decide) (j_hn (by decide) (j_hn (by decide) (j_hn (by decide) (j_hn (by decide) (j_hn (by omega) (j_hn (by decide) (j_hn (by decide) (j_hn (by omega) (j_hn (by omega) (j_hn (by omega) M42))))))))))))), (j_hn (by decide) (j_hn (by decide) (j_hn (by decide) (j_hn (by decide) (j_hn (by decide) (j_hn (by decide) (j_hn (by decide) (j_hn (by omega) (j_hn (by decide) (j_hn (by decide) (j_hn (by omega) (j_hn (by omega) (j_hn (by omega) M43))))))))))))), (j_hn (by decide) (j_hn (by decide) (j_hn (by decide) (j_hn (by decide) (j_hn (by decide) j_hs))))), (j_hn (by decide) (j_hn (by decide) (j_hn (by decide) (j_hn (by decide) j_hs)))), (j_hn (by decide) (j_hn (by decide) (j_hn (by decide) j_hs))), (j_hn (by decide) (j_hn (by decide) j_hs)), (j_hn (by decide) j_hs), j_hs⟩) (⟨(j_hn (by decide) (j_hn (by decide) (j_hn (by decide) (j_hn (by decide) (j_hn (by decide) (j_hn (by decide) (j_hn (by decide) (j_hn (by omega) (j_hn (by decide) (j_hn (by decide) (j_hn (by omega) (j_hn (by omega) (j_hn (by omega) X0))))))))))))), (j_hn (by decide) (j_hn (by decide) (j_hn (by decide) (j_hn (by decide) (j_hn (by decide) (j_hn (by decide) (j_hn (by decide) (j_hn (by omega) (j_hn (by decide) (j_hn (by decide) (j_hn (by omega) (j_hn (by omega) (j_hn (by omega) X1))))))))))))), (j_hn (by decide) (j_hn (by decide) (j_hn (by decide) (j_hn (by decide) (j_hn (by decide) (j_hn (by decide) (j_hn (by decide) (j_hn (by omega) (j_hn (by decide) (j_hn (by decide) (j_hn (by omega) (j_hn (by omega) (j_hn (by omega) X2))))))))))))), (j_hn (by decide) (j_hn (by decide) (j_hn (by decide) (j_hn (by decide) (j_hn (by decide) (j_hn (by decide) (j_hn (by decide) (j_hn (by omega) (j_hn (by decide) (j_hn (by decide) (j_hn (by omega) (j_hn (by omega) (j_hn (by omega) X3))))))))))))), (j_hn (by decide) (j_hn (by decide) (j_hn (by decide) (j_hn (by decide) (j_hn (by decide) (j_hn (by decide) (j_hn (by decide) (j_hn (by omega) (j_hn (by decide) (j_hn (by decide) (j_hn (by omega) (j_hn (by omega) (j_hn (by omega) X4))))))))))))), (j_hn (by decide) (j_hn (by decide) (j_hn (by decide) (j_hn (by decide) (j_hn (by decide) (j_hn (by decide) (j_hn (by decide) (j_hn (by omega) (j_hn (by decide) (j_hn (by decide) (j_hn (by omega) (j_hn (by omega) (j_hn (by omega) X5))))))))))))), (j_hn (by decide) (j_hn (by decide) (j_hn (by decide) (j_hn (by decide) (j_hn (by decide) (j_hn (by decide) (j_hn (by decide) (j_hn (by omega) (j_hn (by decide) (j_hn (by decide) (j_hn (by omega) (j_hn (by omega) (j_hn (by omega) X6))))))))))))), (j_hn (by decide) (j_hn (by decide) (j_hn (by decide) (j_hn (by decide) (j_hn (by decide) (j_hn (by decide) (j_hn (by decide) (j_hn (by omega) (j_hn (by decide) (j_hn (by decide) (j_hn (by omega) (j_hn (by omega) (j_hn (by omega) X7))))))))))))), (j_hn (by decide) (j_hn (by decide) (j_hn (by decide) (j_hn (by decide) (j_hn (by decide) (j_hn (by decide) (j_hn (by decide) (j_hn (by omega) (j_hn (by decide) (j_hn (by decide) (j_hn (by omega) (j_hn (by omega) (j_hn (by omega) X8))))))))))))), (j_hn (by decide) (j_hn (by decide) (j_hn (by decide) (j_hn (by decide) (j_hn (by decide) (j_hn (by decide) (j_hn (by decide) (j_hn (by omega) (j_hn (by decide) (j_hn (by decide) (j_hn (by omega) (j_hn (by omega) (j_hn (by omega) X9))))))))))))), (j_hn (by decide) (j_hn (by decide) (j_hn (by decide) (j_hn (by decide) (j_hn (by decide) (j_hn (by decide) (j_hn (by decide) (j_hn (by omega) (j_hn (by decide) (j_hn (by decide) (j_hn (by omega) (j_hn (by omega) (j_hn (by omega) X10))))))))))))), (j_hn (by decide) (j_hn (by decide) (j_hn (by decide) (j_hn (by decide) (j_hn (by decide) (j_hn (by decide) (j_hn (by decide) (j_hn (by omega) (j_hn (by decide) (j_hn (by decide) (j_hn (by omega) (j_hn (by omega) (j_hn (by omega) X11))))))))))))), (j_hn (by decide) (j_hn (by decide) (j_hn (by decide) (j_hn (by decide) (j_hn (by decide) (j_hn (by decide) (j_hn (by decide) (j_hn (by omega) j_hs)))))))), (j_hn (by decide) (j_hn (by decide) (j_hn (by decide) (j_hn (by decide) (j_hn (by decide) (j_hn (by decide) (j_hn (by decide) (j_hn (by omega) (j_hn (by decide) j_hs)))))))))⟩) ((iW_lo hD (by decide) (iW_lo hD (by decide) (iW_lo hD (by decide) (iW_lo hD (by decide) (iW_lo hD (by decide) (iW_lo hD (by decide) (iW_lo hD (by decide) (iW_set (iW_lo hD (by decide) (iW_lo hD (by decide) (iW_set (iW_set (iW_set hW (by omega)) (by omega)) (by omega)))) (by omega)))))))))) ((iY_set (iY_set (iY_set (iY_set (iY_set (iY_set (iY_set (iY_set (iY_set (iY_set (iY_set (iY_set (iY_set hY hrd (by omega)) hrd (by omega)) hrd (by omega)) hrd (by decide)) hrd (by decide)) hrd (by omega)) hrd (by decide)) hrd (by decide)) hrd (by decide)) hrd (by decide)) hrd (by decide)) hrd (by decide)) hrd (by decide))) ((iT_lo hD (by decide) (iT_lo hD (by decide) (iT_lo hD (by decide) (iT_lo hD (by decide) (iT_lo hD (by decide) (iT_lo hD (by decide) (iT_lo hD (by decide) (iT_set (iT_lo hD (by decide) (iT_lo hD (by decide) (iT_set (iT_set (iT_set hT (fun t ht => by have q := (hD.2.1 t ht).2; omega)) (fun t ht => by have q := (hD.2.1 t ht).2; omega)) (fun t ht => by have q := (hD.2.1 t ht).2; omega)))) (fun t ht => by have q := hD.2.2.2.2.2.1 ct2 t ch2 ht; omega)))))))))) ((iE_lo (iD_correct hD) (by decide) (iE_lo (iD_correct hD) (by decide) (iE_lo (iD_correct hD) (by decide) (iE_lo (iD_correct hD) (by decide) (iE_lo (iD_correct hD) (by decide) (iE_lo (iD_correct hD) (by decide) (iE_lo (iD_correct hD) (by decide) (iE_tn (iE_add (iE_lo hD (by decide) (iE_lo hD (by decide) (iE_set (iE_set (iE_set hE (fun e he => by have q := (hD.2.2.2.1 e he).2; omega)) (fun e he => by have q := (hD.2.2.2.1 e he).2; omega)) (fun e he => by have q := (hD.2.2.2.1 e he).2; omega)))) (j_hn (by omega) (j_hn (by omega) (j_hn (by omega) (j_hn (by omega) j_hs)))) (j_hn (by omega) (j_hn (by omega) (j_hn (by omega) j_hs))) (j_hn (by omega) (j_hn (by omega) j_hs))) (Nat.lt_succ_of_lt ch2) (va_up_n _ _ (by omega)) (by rw [va_up_n _ _ (by omega)]) (by rw [va_up_n _ _ (by omega)]) (by rw [va_up_n _ _ (by omega)]) (fun e he hne => by have q := (iD_correct hD).2.2.2.2.1 e ct2 he (by omega) hne; rw [va_up_n (j := ct2) _ _ (by omega)] at q; omega)))))))))) (iD_correct hD) (⟨hL, hP, hT20, (by omega), hC, hR, hR0, hn, hrd, hop⟩) (hU) (iS_up hS) (iB_correct hB ch2 (by omega) hR)
    · intro b0 b1 bt2 be2 bh2 b3 b4 b5 b6 b7 b8 b9
      obtain rfl : ct2 = bt2 := by have z := nI_inj2 be2 (by omega) (by omega); omega
      exfalso
      clear hI0 hM hX hW hY hT hE hD hU hS hB hG K M27 M28 M29 M30 M31 M32 M33 M34 M35 M36 M37 M38 M39 M40 M41 M42 M43 M44 M45 M46 M47 M48 M49 X0 X1 X2 X3 X4 X5 X6 X7 X8 X9 X10 X11 X12 X13 W0 W1 W2 Y0 Y1 Y2 Y3 Y4 Y5 Y6 Y7 Y8 Y9 K2
      (try simp only [Int32.lt_iff_toInt_lt, Int32.le_iff_toInt_le, Int64.lt_iff_toInt_lt, Int64.le_iff_toInt_le, Int32.toInt_toInt64, ← Int32.toInt_inj, ← Int64.toInt_inj, n32_0, n32_1, n32_2, n32_3, n32_4, n32_6, n32_8, n32_9, n32_10, n32_20, n32_100, n32_120, n32_255, n32_400, n32_3600, n32_m1, n64_0, n64_1, n64_2, n64_3, n64_4, n64_5, n64_9, n64_19, n64_119, n64_255, n64_400, n64_3599, n64_1000000000, n64_1000000000000, n64_m1000000000000] at c0 c1 c3 c4 c5 c6 c7 c8 c9 c10 b0 b1 b3 b4 b5 b6 b7 b8 b9)
      first | contradiction | omega
    · intro b0 b1 bt2 be2 bh2 b3 b4 b5
      obtain rfl : ct2 = bt2 := by have z := nI_inj2 be2 (by omega) (by omega); omega
      exfalso
      clear hI0 hM hX hW hY hT hE hD hU hS hB hG K M27 M28 M29 M30 M31 M32 M33 M34 M35 M36 M37 M38 M39 M40 M41 M42 M43 M44 M45 M46 M47 M48 M49 X0 X1 X2 X3 X4 X5 X6 X7 X8 X9 X10 X11 X12 X13 W0 W1 W2 Y0 Y1 Y2 Y3 Y4 Y5 Y6 Y7 Y8 Y9 K2
      (try simp only [Int32.lt_iff_toInt_lt, Int32.le_iff_toInt_le, Int64.lt_iff_toInt_lt, Int64.le_iff_toInt_le, Int32.toInt_toInt64, ← Int32.toInt_inj, ← Int64.toInt_inj, n32_0, n32_1, n32_2, n32_3, n32_4, n32_6, n32_8, n32_9, n32_10, n32_20, n32_100, n32_120, n32_255, n32_400, n32_3600, n32_m1, n64_0, n64_1, n64_2, n64_3, n64_4, n64_5, n64_9, n64_19, n64_119, n64_255, n64_400, n64_3599, n64_1000000000, n64_1000000000000, n64_m1000000000000] at c0 c1 c3 c4 c5 c6 c7 c8 c9 c10 b0 b1 b3 b4 b5)
      first | contradiction | omega
  · intro c0 c1 ct2 ce2 ch2 c3 c4 c5 c6 c7 c8 c9
    subst ce2
    have hk1 := (hB.1 ct2 ch2).2.2.2.1
    have hn1 := (hB.1 ct2 ch2).2.2.2.2.1
    simp only [Int32.lt_iff_toInt_lt, Int32.le_iff_toInt_le, Int64.lt_iff_toInt_lt, Int64.le_iff_toInt_le, Int32.toInt_toInt64, ← Int32.toInt_inj, ← Int64.toInt_inj, n32_0, n32_1, n32_2, n32_3, n32_4, n32_6, n32_8, n32_9, n32_10, n32_20, n32_100, n32_120, n32_255, n32_400, n32_3600, n32_m1, n64_0, n64_1, n64_2, n64_3, n64_4, n64_5, n64_9, n64_19, n64_119, n64_255, n64_400, n64_3599, n64_1000000000, n64_1000000000000, n64_m1000000000000] at hk1 hn1
    refine K _ _ ⟨_, M27⟩ (fun Q2 K2 => ?_)
    refine s_X8_correct M27 M44 M45 M46 M47 M48 M49 hE60 (fun e he => ⟨(hB.1 e he).2.1, (hB.1 e he).2.2.1⟩) ?_ ?_ ?_ ?_ ?_ ?_ ?_ ?_ ?_ ?_
    · intro b0
      exfalso
      clear hI0 hM hX hW hY hT hE hD hU hS hB hG K M27 M28 M29 M30 M31 M32 M33 M34 M35 M36 M37 M38 M39 M40 M41 M42 M43 M44 M45 M46 M47 M48 M49 X0 X1 X2 X3 X4 X5 X6 X7 X8 X9 X10 X11 X12 X13 W0 W1 W2 Y0 Y1 Y2 Y3 Y4 Y5 Y6 Y7 Y8 Y9 K2
      (try simp only [Int32.lt_iff_toInt_lt, Int32.le_iff_toInt_le, Int64.lt_iff_toInt_lt, Int64.le_iff_toInt_le, Int32.toInt_toInt64, ← Int32.toInt_inj, ← Int64.toInt_inj, n32_0, n32_1, n32_2, n32_3, n32_4, n32_6, n32_8, n32_9, n32_10, n32_20, n32_100, n32_120, n32_255, n32_400, n32_3600, n32_m1, n64_0, n64_1, n64_2, n64_3, n64_4, n64_5, n64_9, n64_19, n64_119, n64_255, n64_400, n64_3599, n64_1000000000, n64_1000000000000, n64_m1000000000000] at c0 c1 c3 c4 c5 c6 c7 c8 c9 b0)
      first | contradiction | omega
    · intro b0 b1
      exfalso
      clear hI0 hM hX hW hY hT hE hD hU hS hB hG K M27 M28 M29 M30 M31 M32 M33 M34 M35 M36 M37 M38 M39 M40 M41 M42 M43 M44 M45 M46 M47 M48 M49 X0 X1 X2 X3 X4 X5 X6 X7 X8 X9 X10 X11 X12 X13 W0 W1 W2 Y0 Y1 Y2 Y3 Y4 Y5 Y6 Y7 Y8 Y9 K2
      (try simp only [Int32.lt_iff_toInt_lt, Int32.le_iff_toInt_le, Int64.lt_iff_toInt_lt, Int64.le_iff_toInt_le, Int32.toInt_toInt64, ← Int32.toInt_inj, ← Int64.toInt_inj, n32_0, n32_1, n32_2, n32_3, n32_4, n32_6, n32_8, n32_9, n32_10, n32_20, n32_100, n32_120, n32_255, n32_400, n32_3600, n32_m1, n64_0, n64_1, n64_2, n64_3, n64_4, n64_5, n64_9, n64_19, n64_119, n64_255, n64_400, n64_3599, n64_1000000000, n64_1000000000000, n64_m1000000000000] at c0 c1 c3 c4 c5 c6 c7 c8 c9 b0 b1)
      first | contradiction | omega
    · intro b0 b1 bt2 be2 bh2 b3
      obtain rfl : ct2 = bt2 := by have z := nI_inj2 be2 (by omega) (by omega); omega
      exfalso
      clear hI0 hM hX hW hY hT hE hD hU hS hB hG K M27 M28 M29 M30 M31 M32 M33 M34 M35 M36 M37 M38 M39 M40 M41 M42 M43 M44 M45 M46 M47 M48 M49 X0 X1 X2 X3 X4 X5 X6 X7 X8 X9 X10 X11 X12 X13 W0 W1 W2 Y0 Y1 Y2 Y3 Y4 Y5 Y6 Y7 Y8 Y9 K2
      (try simp only [Int32.lt_iff_toInt_lt, Int32.le_iff_toInt_le, Int64.lt_iff_toInt_lt, Int64.le_iff_toInt_le, Int32.toInt_toInt64, ← Int32.toInt_inj, ← Int64.toInt_inj, n32_0, n32_1, n32_2, n32_3, n32_4, n32_6, n32_8, n32_9, n32_10, n32_20, n32_100, n32_120, n32_255, n32_400, n32_3600, n32_m1, n64_0, n64_1, n64_2, n64_3, n64_4, n64_5, n64_9, n64_19, n64_119, n64_255, n64_400, n64_3599, n64_1000000000, n64_1000000000000, n64_m1000000000000] at c0 c1 c3 c4 c5 c6 c7 c8 c9 b0 b1 b3)
      first | contradiction | omega
    · intro b0 b1 bt2 be2 bh2 b3 b4
      obtain rfl : ct2 = bt2 := by have z := nI_inj2 be2 (by omega) (by omega); omega
      exfalso
      clear hI0 hM hX hW hY hT hE hD hU hS hB hG K M27 M28 M29 M30 M31 M32 M33 M34 M35 M36 M37 M38 M39 M40 M41 M42 M43 M44 M45 M46 M47 M48 M49 X0 X1 X2 X3 X4 X5 X6 X7 X8 X9 X10 X11 X12 X13 W0 W1 W2 Y0 Y1 Y2 Y3 Y4 Y5 Y6 Y7 Y8 Y9 K2
      (try simp only [Int32.lt_iff_toInt_lt, Int32.le_iff_toInt_le, Int64.lt_iff_toInt_lt, Int64.le_iff_toInt_le, Int32.toInt_toInt64, ← Int32.toInt_inj, ← Int64.toInt_inj, n32_0, n32_1, n32_2, n32_3, n32_4, n32_6, n32_8, n32_9, n32_10, n32_20, n32_100, n32_120, n32_255, n32_400, n32_3600, n32_m1, n64_0, n64_1, n64_2, n64_3, n64_4, n64_5, n64_9, n64_19, n64_119, n64_255, n64_400, n64_3599, n64_1000000000, n64_1000000000000, n64_m1000000000000] at c0 c1 c3 c4 c5 c6 c7 c8 c9 b0 b1 b3 b4)
      first | contradiction | omega
    · intro b0 b1 bt2 be2 bh2 b3 b4 b5 b6
      obtain rfl : ct2 = bt2 := by have z := nI_inj2 be2 (by omega) (by omega); omega
      exfalso
      clear hI0 hM hX hW hY hT hE hD hU hS hB hG K M27 M28 M29 M30 M31 M32 M33 M34 M35 M36 M37 M38 M39 M40 M41 M42 M43 M44 M45 M46 M47 M48 M49 X0 X1 X2 X3 X4 X5 X6 X7 X8 X9 X10 X11 X12 X13 W0 W1 W2 Y0 Y1 Y2 Y3 Y4 Y5 Y6 Y7 Y8 Y9 K2
      (try simp only [Int32.lt_iff_toInt_lt, Int32.le_iff_toInt_le, Int64.lt_iff_toInt_lt, Int64.le_iff_toInt_le, Int32.toInt_toInt64, ← Int32.toInt_inj, ← Int64.toInt_inj, n32_0, n32_1, n32_2, n32_3, n32_4, n32_6, n32_8, n32_9, n32_10, n32_20, n32_100, n32_120, n32_255, n32_400, n32_3600, n32_m1, n64_0, n64_1, n64_2, n64_3, n64_4, n64_5, n64_9, n64_19, n64_119, n64_255, n64_400, n64_3599, n64_1000000000, n64_1000000000000, n64_m1000000000000] at c0 c1 c3 c4 c5 c6 c7 c8 c9 b0 b1 b3 b4 b5 b6)
      first | contradiction | omega
    · intro b0 b1 bt2 be2 bh2 b3 b4 b5 b6 b7
      obtain rfl : ct2 = bt2 := by have z := nI_inj2 be2 (by omega) (by omega); omega
      exfalso
      clear hI0 hM hX hW hY hT hE hD hU hS hB hG K M27 M28 M29 M30 M31 M32 M33 M34 M35 M36 M37 M38 M39 M40 M41 M42 M43 M44 M45 M46 M47 M48 M49 X0 X1 X2 X3 X4 X5 X6 X7 X8 X9 X10 X11 X12 X13 W0 W1 W2 Y0 Y1 Y2 Y3 Y4 Y5 Y6 Y7 Y8 Y9 K2
      (try simp only [Int32.lt_iff_toInt_lt, Int32.le_iff_toInt_le, Int64.lt_iff_toInt_lt, Int64.le_iff_toInt_le, Int32.toInt_toInt64, ← Int32.toInt_inj, ← Int64.toInt_inj, n32_0, n32_1, n32_2, n32_3, n32_4, n32_6, n32_8, n32_9, n32_10, n32_20, n32_100, n32_120, n32_255, n32_400, n32_3600, n32_m1, n64_0, n64_1, n64_2, n64_3, n64_4, n64_5, n64_9, n64_19, n64_119, n64_255, n64_400, n64_3599, n64_1000000000, n64_1000000000000, n64_m1000000000000] at c0 c1 c3 c4 c5 c6 c7 c8 c9 b0 b1 b3 b4 b5 b6 b7)
      first | contradiction | omega
    · intro b0 b1 bt2 be2 bh2 b3 b4 b5 b6 b7 b8
      obtain rfl : ct2 = bt2 := by have z := nI_inj2 be2 (by omega) (by omega); omega
      exfalso
      clear hI0 hM hX hW hY hT hE hD hU hS hB hG K M27 M28 M29 M30 M31 M32 M33 M34 M35 M36 M37 M38 M39 M40 M41 M42 M43 M44 M45 M46 M47 M48 M49 X0 X1 X2 X3 X4 X5 X6 X7 X8 X9 X10 X11 X12 X13 W0 W1 W2 Y0 Y1 Y2 Y3 Y4 Y5 Y6 Y7 Y8 Y9 K2
      (try simp only [Int32.lt_iff_toInt_lt, Int32.le_iff_toInt_le, Int64.lt_iff_toInt_lt, Int64.le_iff_toInt_le, Int32.toInt_toInt64, ← Int32.toInt_inj, ← Int64.toInt_inj, n32_0, n32_1, n32_2, n32_3, n32_4, n32_6, n32_8, n32_9, n32_10, n32_20, n32_100, n32_120, n32_255, n32_400, n32_3600, n32_m1, n64_0, n64_1, n64_2, n64_3, n64_4, n64_5, n64_9, n64_19, n64_119, n64_255, n64_400, n64_3599, n64_1000000000, n64_1000000000000, n64_m1000000000000] at c0 c1 c3 c4 c5 c6 c7 c8 c9 b0 b1 b3 b4 b5 b6 b7 b8)
      first | contradiction | omega
    · intro b0 b1 bt2 be2 bh2 b3 b4 b5 b6 b7 b8 b9
      obtain rfl : ct2 = bt2 := by have z := nI_inj2 be2 (by omega) (by omega); omega
      exfalso
      clear hI0 hM hX hW hY hT hE hD hU hS hB hG K M27 M28 M29 M30 M31 M32 M33 M34 M35 M36 M37 M38 M39 M40 M41 M42 M43 M44 M45 M46 M47 M48 M49 X0 X1 X2 X3 X4 X5 X6 X7 X8 X9 X10 X11 X12 X13 W0 W1 W2 Y0 Y1 Y2 Y3 Y4 Y5 Y6 Y7 Y8 Y9 K2
      (try simp only [Int32.lt_iff_toInt_lt, Int32.le_iff_toInt_le, Int64.lt_iff_toInt_lt, Int64.le_iff_toInt_le, Int32.toInt_toInt64, ← Int32.toInt_inj, ← Int64.toInt_inj, n32_0, n32_1, n32_2, n32_3, n32_4, n32_6, n32_8, n32_9, n32_10, n32_20, n32_100, n32_120, n32_255, n32_400, n32_3600, n32_m1, n64_0, n64_1, n64_2, n64_3, n64_4, n64_5, n64_9, n64_19, n64_119, n64_255, n64_400, n64_3599, n64_1000000000, n64_1000000000000, n64_m1000000000000] at c0 c1 c3 c4 c5 c6 c7 c8 c9 b0 b1 b3 b4 b5 b6 b7 b8 b9)
      first | contradiction | omega
    · intro b0 b1 bt2 be2 bh2 b3 b4 b5 b6 b7 b8 b9
      obtain rfl : ct2 = bt2 := by have z := nI_inj2 be2 (by omega) (by omega); omega
      exact K2 _ (iV_up hI0)
    · intro b0 b1 bt2 be2 bh2 b3 b4 b5
      obtain rfl : ct2 = bt2 := by have z := nI_inj2 be2 (by omega) (by omega); omega
      exfalso
      clear hI0 hM hX hW hY hT hE hD hU hS hB hG K M27 M28 M29 M30 M31 M32 M33 M34 M35 M36 M37 M38 M39 M40 M41 M42 M43 M44 M45 M46 M47 M48 M49 X0 X1 X2 X3 X4 X5 X6 X7 X8 X9 X10 X11 X12 X13 W0 W1 W2 Y0 Y1 Y2 Y3 Y4 Y5 Y6 Y7 Y8 Y9 K2
      (try simp only [Int32.lt_iff_toInt_lt, Int32.le_iff_toInt_le, Int64.lt_iff_toInt_lt, Int64.le_iff_toInt_le, Int32.toInt_toInt64, ← Int32.toInt_inj, ← Int64.toInt_inj, n32_0, n32_1, n32_2, n32_3, n32_4, n32_6, n32_8, n32_9, n32_10, n32_20, n32_100, n32_120, n32_255, n32_400, n32_3600, n32_m1, n64_0, n64_1, n64_2, n64_3, n64_4, n64_5, n64_9, n64_19, n64_119, n64_255, n64_400, n64_3599, n64_1000000000, n64_1000000000000, n64_m1000000000000] at c0 c1 c3 c4 c5 c6 c7 c8 c9 b0 b1 b3 b4 b5)
      first | contradiction | omega
  · intro c0 c1 ct2 ce2 ch2 c3 c4 c5 c6 c7 c8
    subst ce2
    have hk1 := (hB.1 ct2 ch2).2.2.2.1
    have hn1 := (hB.1 ct2 ch2).2.2.2.2.1
    simp only [Int32.lt_iff_toInt_lt, Int32.le_iff_toInt_le, Int64.lt_iff_toInt_lt, Int64.le_iff_toInt_le, Int32.toInt_toInt64, ← Int32.toInt_inj, ← Int64.toInt_inj, n32_0, n32_1, n32_2, n32_3, n32_4, n32_6, n32_8, n32_9, n32_10, n32_20, n32_100, n32_120, n32_255, n32_400, n32_3600, n32_m1, n64_0, n64_1, n64_2, n64_3, n64_4, n64_5, n64_9, n64_19, n64_119, n64_255, n64_400, n64_3599, n64_1000000000, n64_1000000000000, n64_m1000000000000] at hk1 hn1
    refine K _ _ ⟨_, M27⟩ (fun Q2 K2 => ?_)
    refine s_X8_correct M27 M44 M45 M46 M47 M48 M49 hE60 (fun e he => ⟨(hB.1 e he).2.1, (hB.1 e he).2.2.1⟩) ?_ ?_ ?_ ?_ ?_ ?_ ?_ ?_ ?_ ?_
    · intro b0
      exfalso
      clear hI0 hM hX hW hY hT hE hD hU hS hB hG K M27 M28 M29 M30 M31 M32 M33 M34 M35 M36 M37 M38 M39 M40 M41 M42 M43 M44 M45 M46 M47 M48 M49 X0 X1 X2 X3 X4 X5 X6 X7 X8 X9 X10 X11 X12 X13 W0 W1 W2 Y0 Y1 Y2 Y3 Y4 Y5 Y6 Y7 Y8 Y9 K2
      (try simp only [Int32.lt_iff_toInt_lt, Int32.le_iff_toInt_le, Int64.lt_iff_toInt_lt, Int64.le_iff_toInt_le, Int32.toInt_toInt64, ← Int32.toInt_inj, ← Int64.toInt_inj, n32_0, n32_1, n32_2, n32_3, n32_4, n32_6, n32_8, n32_9, n32_10, n32_20, n32_100, n32_120, n32_255, n32_400, n32_3600, n32_m1, n64_0, n64_1, n64_2, n64_3, n64_4, n64_5, n64_9, n64_19, n64_119, n64_255, n64_400, n64_3599, n64_1000000000, n64_1000000000000, n64_m1000000000000] at c0 c1 c3 c4 c5 c6 c7 c8 b0)
      first | contradiction | omega
    · intro b0 b1
      exfalso
      clear hI0 hM hX hW hY hT hE hD hU hS hB hG K M27 M28 M29 M30 M31 M32 M33 M34 M35 M36 M37 M38 M39 M40 M41 M42 M43 M44 M45 M46 M47 M48 M49 X0 X1 X2 X3 X4 X5 X6 X7 X8 X9 X10 X11 X12 X13 W0 W1 W2 Y0 Y1 Y2 Y3 Y4 Y5 Y6 Y7 Y8 Y9 K2
      (try simp only [Int32.lt_iff_toInt_lt, Int32.le_iff_toInt_le, Int64.lt_iff_toInt_lt, Int64.le_iff_toInt_le, Int32.toInt_toInt64, ← Int32.toInt_inj, ← Int64.toInt_inj, n32_0, n32_1, n32_2, n32_3, n32_4, n32_6, n32_8, n32_9, n32_10, n32_20, n32_100, n32_120, n32_255, n32_400, n32_3600, n32_m1, n64_0, n64_1, n64_2, n64_3, n64_4, n64_5, n64_9, n64_19, n64_119, n64_255, n64_400, n64_3599, n64_1000000000, n64_1000000000000, n64_m1000000000000] at c0 c1 c3 c4 c5 c6 c7 c8 b0 b1)
      first | contradiction | omega
    · intro b0 b1 bt2 be2 bh2 b3
      obtain rfl : ct2 = bt2 := by have z := nI_inj2 be2 (by omega) (by omega); omega
      exfalso
      clear hI0 hM hX hW hY hT hE hD hU hS hB hG K M27 M28 M29 M30 M31 M32 M33 M34 M35 M36 M37 M38 M39 M40 M41 M42 M43 M44 M45 M46 M47 M48 M49 X0 X1 X2 X3 X4 X5 X6 X7 X8 X9 X10 X11 X12 X13 W0 W1 W2 Y0 Y1 Y2 Y3 Y4 Y5 Y6 Y7 Y8 Y9 K2
      (try simp only [Int32.lt_iff_toInt_lt, Int32.le_iff_toInt_le, Int64.lt_iff_toInt_lt, Int64.le_iff_toInt_le, Int32.toInt_toInt64, ← Int32.toInt_inj, ← Int64.toInt_inj, n32_0, n32_1, n32_2, n32_3, n32_4, n32_6, n32_8, n32_9, n32_10, n32_20, n32_100, n32_120, n32_255, n32_400, n32_3600, n32_m1, n64_0, n64_1, n64_2, n64_3, n64_4, n64_5, n64_9, n64_19, n64_119, n64_255, n64_400, n64_3599, n64_1000000000, n64_1000000000000, n64_m1000000000000] at c0 c1 c3 c4 c5 c6 c7 c8 b0 b1 b3)
      first | contradiction | omega
    · intro b0 b1 bt2 be2 bh2 b3 b4
      obtain rfl : ct2 = bt2 := by have z := nI_inj2 be2 (by omega) (by omega); omega
      exfalso
      clear hI0 hM hX hW hY hT hE hD hU hS hB hG K M27 M28 M29 M30 M31 M32 M33 M34 M35 M36 M37 M38 M39 M40 M41 M42 M43 M44 M45 M46 M47 M48 M49 X0 X1 X2 X3 X4 X5 X6 X7 X8 X9 X10 X11 X12 X13 W0 W1 W2 Y0 Y1 Y2 Y3 Y4 Y5 Y6 Y7 Y8 Y9 K2
      (try simp only [Int32.lt_iff_toInt_lt, Int32.le_iff_toInt_le, Int64.lt_iff_toInt_lt, Int64.le_iff_toInt_le, Int32.toInt_toInt64, ← Int32.toInt_inj, ← Int64.toInt_inj, n32_0, n32_1, n32_2, n32_3, n32_4, n32_6, n32_8, n32_9, n32_10, n32_20, n32_100, n32_120, n32_255, n32_400, n32_3600, n32_m1, n64_0, n64_1, n64_2, n64_3, n64_4, n64_5, n64_9, n64_19, n64_119, n64_255, n64_400, n64_3599, n64_1000000000, n64_1000000000000, n64_m1000000000000] at c0 c1 c3 c4 c5 c6 c7 c8 b0 b1 b3 b4)
      first | contradiction | omega
    · intro b0 b1 bt2 be2 bh2 b3 b4 b5 b6
      obtain rfl : ct2 = bt2 := by have z := nI_inj2 be2 (by omega) (by omega); omega
      exfalso
      clear hI0 hM hX hW hY hT hE hD hU hS hB hG K M27 M28 M29 M30 M31 M32 M33 M34 M35 M36 M37 M38 M39 M40 M41 M42 M43 M44 M45 M46 M47 M48 M49 X0 X1 X2 X3 X4 X5 X6 X7 X8 X9 X10 X11 X12 X13 W0 W1 W2 Y0 Y1 Y2 Y3 Y4 Y5 Y6 Y7 Y8 Y9 K2
      (try simp only [Int32.lt_iff_toInt_lt, Int32.le_iff_toInt_le, Int64.lt_iff_toInt_lt, Int64.le_iff_toInt_le, Int32.toInt_toInt64, ← Int32.toInt_inj, ← Int64.toInt_inj, n32_0, n32_1, n32_2, n32_3, n32_4, n32_6, n32_8, n32_9, n32_10, n32_20, n32_100, n32_120, n32_255, n32_400, n32_3600, n32_m1, n64_0, n64_1, n64_2, n64_3, n64_4, n64_5, n64_9, n64_19, n64_119, n64_255, n64_400, n64_3599, n64_1000000000, n64_1000000000000, n64_m1000000000000] at c0 c1 c3 c4 c5 c6 c7 c8 b0 b1 b3 b4 b5 b6)
      first | contradiction | omega
    · intro b0 b1 bt2 be2 bh2 b3 b4 b5 b6 b7
      obtain rfl : ct2 = bt2 := by have z := nI_inj2 be2 (by omega) (by omega); omega
      exfalso
      clear hI0 hM hX hW hY hT hE hD hU hS hB hG K M27 M28 M29 M30 M31 M32 M33 M34 M35 M36 M37 M38 M39 M40 M41 M42 M43 M44 M45 M46 M47 M48 M49 X0 X1 X2 X3 X4 X5 X6 X7 X8 X9 X10 X11 X12 X13 W0 W1 W2 Y0 Y1 Y2 Y3 Y4 Y5 Y6 Y7 Y8 Y9 K2
      (try simp only [Int32.lt_iff_toInt_lt, Int32.le_iff_toInt_le, Int64.lt_iff_toInt_lt, Int64.le_iff_toInt_le, Int32.toInt_toInt64, ← Int32.toInt_inj, ← Int64.toInt_inj, n32_0, n32_1, n32_2, n32_3, n32_4, n32_6, n32_8, n32_9, n32_10, n32_20, n32_100, n32_120, n32_255, n32_400, n32_3600, n32_m1, n64_0, n64_1, n64_2, n64_3, n64_4, n64_5, n64_9, n64_19, n64_119, n64_255, n64_400, n64_3599, n64_1000000000, n64_1000000000000, n64_m1000000000000] at c0 c1 c3 c4 c5 c6 c7 c8 b0 b1 b3 b4 b5 b6 b7)
      first | contradiction | omega
    · intro b0 b1 bt2 be2 bh2 b3 b4 b5 b6 b7 b8
      obtain rfl : ct2 = bt2 := by have z := nI_inj2 be2 (by omega) (by omega); omega
      exact K2 _ (iV_up hI0)
    · intro b0 b1 bt2 be2 bh2 b3 b4 b5 b6 b7 b8 b9
      obtain rfl : ct2 = bt2 := by have z := nI_inj2 be2 (by omega) (by omega); omega
      exfalso
      clear hI0 hM hX hW hY hT hE hD hU hS hB hG K M27 M28 M29 M30 M31 M32 M33 M34 M35 M36 M37 M38 M39 M40 M41 M42 M43 M44 M45 M46 M47 M48 M49 X0 X1 X2 X3 X4 X5 X6 X7 X8 X9 X10 X11 X12 X13 W0 W1 W2 Y0 Y1 Y2 Y3 Y4 Y5 Y6 Y7 Y8 Y9 K2
      (try simp only [Int32.lt_iff_toInt_lt, Int32.le_iff_toInt_le, Int64.lt_iff_toInt_lt, Int64.le_iff_toInt_le, Int32.toInt_toInt64, ← Int32.toInt_inj, ← Int64.toInt_inj, n32_0, n32_1, n32_2, n32_3, n32_4, n32_6, n32_8, n32_9, n32_10, n32_20, n32_100, n32_120, n32_255, n32_400, n32_3600, n32_m1, n64_0, n64_1, n64_2, n64_3, n64_4, n64_5, n64_9, n64_19, n64_119, n64_255, n64_400, n64_3599, n64_1000000000, n64_1000000000000, n64_m1000000000000] at c0 c1 c3 c4 c5 c6 c7 c8 b0 b1 b3 b4 b5 b6 b7 b8 b9)
      first | contradiction | omega
    · intro b0 b1 bt2 be2 bh2 b3 b4 b5 b6 b7 b8 b9
      obtain rfl : ct2 = bt2 := by have z := nI_inj2 be2 (by omega) (by omega); omega
      exfalso
      clear hI0 hM hX hW hY hT hE hD hU hS hB hG K M27 M28 M29 M30 M31 M32 M33 M34 M35 M36 M37 M38 M39 M40 M41 M42 M43 M44 M45 M46 M47 M48 M49 X0 X1 X2 X3 X4 X5 X6 X7 X8 X9 X10 X11 X12 X13 W0 W1 W2 Y0 Y1 Y2 Y3 Y4 Y5 Y6 Y7 Y8 Y9 K2
      (try simp only [Int32.lt_iff_toInt_lt, Int32.le_iff_toInt_le, Int64.lt_iff_toInt_lt, Int64.le_iff_toInt_le, Int32.toInt_toInt64, ← Int32.toInt_inj, ← Int64.toInt_inj, n32_0, n32_1, n32_2, n32_3, n32_4, n32_6, n32_8, n32_9, n32_10, n32_20, n32_100, n32_120, n32_255, n32_400, n32_3600, n32_m1, n64_0, n64_1, n64_2, n64_3, n64_4, n64_5, n64_9, n64_19, n64_119, n64_255, n64_400, n64_3599, n64_1000000000, n64_1000000000000, n64_m1000000000000] at c0 c1 c3 c4 c5 c6 c7 c8 b0 b1 b3 b4 b5 b6 b7 b8 b9)
      first | contradiction | omega
    · intro b0 b1 bt2 be2 bh2 b3 b4 b5
      obtain rfl : ct2 = bt2 := by have z := nI_inj2 be2 (by omega) (by omega); omega
      exfalso
      clear hI0 hM hX hW hY hT hE hD hU hS hB hG K M27 M28 M29 M30 M31 M32 M33 M34 M35 M36 M37 M38 M39 M40 M41 M42 M43 M44 M45 M46 M47 M48 M49 X0 X1 X2 X3 X4 X5 X6 X7 X8 X9 X10 X11 X12 X13 W0 W1 W2 Y0 Y1 Y2 Y3 Y4 Y5 Y6 Y7 Y8 Y9 K2
      (try simp only [Int32.lt_iff_toInt_lt, Int32.le_iff_toInt_le, Int64.lt_iff_toInt_lt, Int64.le_iff_toInt_le, Int32.toInt_toInt64, ← Int32.toInt_inj, ← Int64.toInt_inj, n32_0, n32_1, n32_2, n32_3, n32_4, n32_6, n32_8, n32_9, n32_10, n32_20, n32_100, n32_120, n32_255, n32_400, n32_3600, n32_m1, n64_0, n64_1, n64_2, n64_3, n64_4, n64_5, n64_9, n64_19, n64_119, n64_255, n64_400, n64_3599, n64_1000000000, n64_1000000000000, n64_m1000000000000] at c0 c1 c3 c4 c5 c6 c7 c8 b0 b1 b3 b4 b5)
      first | contradiction | omega
  · intro c0 c1 ct2 ce2 ch2 c3 c4 c5
    subst ce2
    have hk1 := (hB.1 ct2 ch2).2.2.2.1
    have hn1 := (hB.1 ct2 ch2).2.2.2.2.1
    simp only [Int32.lt_iff_toInt_lt, Int32.le_iff_toInt_le, Int64.lt_iff_toInt_lt, Int64.le_iff_toInt_le, Int32.toInt_toInt64, ← Int32.toInt_inj, ← Int64.toInt_inj, n32_0, n32_1, n32_2, n32_3, n32_4, n32_6, n32_8, n32_9, n32_10, n32_20, n32_100, n32_120, n32_255, n32_400, n32_3600, n32_m1, n64_0, n64_1, n64_2, n64_3, n64_4, n64_5, n64_9, n64_19, n64_119, n64_255, n64_400, n64_3599, n64_1000000000, n64_1000000000000, n64_m1000000000000] at hk1 hn1
    refine K _ _ ⟨_, M27⟩ (fun Q2 K2 => ?_)
    refine s_X8_correct M27 M44 M45 M46 M47 M48 M49 hE60 (fun e he => ⟨(hB.1 e he).2.1, (hB.1 e he).2.2.1⟩) ?_ ?_ ?_ ?_ ?_ ?_ ?_ ?_ ?_ ?_
    · intro b0
      exfalso
      clear hI0 hM hX hW hY hT hE hD hU hS hB hG K M27 M28 M29 M30 M31 M32 M33 M34 M35 M36 M37 M38 M39 M40 M41 M42 M43 M44 M45 M46 M47 M48 M49 X0 X1 X2 X3 X4 X5 X6 X7 X8 X9 X10 X11 X12 X13 W0 W1 W2 Y0 Y1 Y2 Y3 Y4 Y5 Y6 Y7 Y8 Y9 K2
      (try simp only [Int32.lt_iff_toInt_lt, Int32.le_iff_toInt_le, Int64.lt_iff_toInt_lt, Int64.le_iff_toInt_le, Int32.toInt_toInt64, ← Int32.toInt_inj, ← Int64.toInt_inj, n32_0, n32_1, n32_2, n32_3, n32_4, n32_6, n32_8, n32_9, n32_10, n32_20, n32_100, n32_120, n32_255, n32_400, n32_3600, n32_m1, n64_0, n64_1, n64_2, n64_3, n64_4, n64_5, n64_9, n64_19, n64_119, n64_255, n64_400, n64_3599, n64_1000000000, n64_1000000000000, n64_m1000000000000] at c0 c1 c3 c4 c5 b0)
      first | contradiction | omega
    · intro b0 b1
      exfalso
      clear hI0 hM hX hW hY hT hE hD hU hS hB hG K M27 M28 M29 M30 M31 M32 M33 M34 M35 M36 M37 M38 M39 M40 M41 M42 M43 M44 M45 M46 M47 M48 M49 X0 X1 X2 X3 X4 X5 X6 X7 X8 X9 X10 X11 X12 X13 W0 W1 W2 Y0 Y1 Y2 Y3 Y4 Y5 Y6 Y7 Y8 Y9 K2
      (try simp only [Int32.lt_iff_toInt_lt, Int32.le_iff_toInt_le, Int64.lt_iff_toInt_lt, Int64.le_iff_toInt_le, Int32.toInt_toInt64, ← Int32.toInt_inj, ← Int64.toInt_inj, n32_0, n32_1, n32_2, n32_3, n32_4, n32_6, n32_8, n32_9, n32_10, n32_20, n32_100, n32_120, n32_255, n32_400, n32_3600, n32_m1, n64_0, n64_1, n64_2, n64_3, n64_4, n64_5, n64_9, n64_19, n64_119, n64_255, n64_400, n64_3599, n64_1000000000, n64_1000000000000, n64_m1000000000000] at c0 c1 c3 c4 c5 b0 b1)
      first | contradiction | omega
    · intro b0 b1 bt2 be2 bh2 b3
      obtain rfl : ct2 = bt2 := by have z := nI_inj2 be2 (by omega) (by omega); omega
      exfalso
      clear hI0 hM hX hW hY hT hE hD hU hS hB hG K M27 M28 M29 M30 M31 M32 M33 M34 M35 M36 M37 M38 M39 M40 M41 M42 M43 M44 M45 M46 M47 M48 M49 X0 X1 X2 X3 X4 X5 X6 X7 X8 X9 X10 X11 X12 X13 W0 W1 W2 Y0 Y1 Y2 Y3 Y4 Y5 Y6 Y7 Y8 Y9 K2
      (try simp only [Int32.lt_iff_toInt_lt, Int32.le_iff_toInt_le, Int64.lt_iff_toInt_lt, Int64.le_iff_toInt_le, Int32.toInt_toInt64, ← Int32.toInt_inj, ← Int64.toInt_inj, n32_0, n32_1, n32_2, n32_3, n32_4, n32_6, n32_8, n32_9, n32_10, n32_20, n32_100, n32_120, n32_255, n32_400, n32_3600, n32_m1, n64_0, n64_1, n64_2, n64_3, n64_4, n64_5, n64_9, n64_19, n64_119, n64_255, n64_400, n64_3599, n64_1000000000, n64_1000000000000, n64_m1000000000000] at c0 c1 c3 c4 c5 b0 b1 b3)
      first | contradiction | omega
    · intro b0 b1 bt2 be2 bh2 b3 b4
      obtain rfl : ct2 = bt2 := by have z := nI_inj2 be2 (by omega) (by omega); omega
      exact K2 _ (iV_up hI0)
    · intro b0 b1 bt2 be2 bh2 b3 b4 b5 b6
      obtain rfl : ct2 = bt2 := by have z := nI_inj2 be2 (by omega) (by omega); omega
      exfalso
      clear hI0 hM hX hW hY hT hE hD hU hS hB hG K M27 M28 M29 M30 M31 M32 M33 M34 M35 M36 M37 M38 M39 M40 M41 M42 M43 M44 M45 M46 M47 M48 M49 X0 X1 X2 X3 X4 X5 X6 X7 X8 X9 X10 X11 X12 X13 W0 W1 W2 Y0 Y1 Y2 Y3 Y4 Y5 Y6 Y7 Y8 Y9 K2
      (try simp only [Int32.lt_iff_toInt_lt, Int32.le_iff_toInt_le, Int64.lt_iff_toInt_lt, Int64.le_iff_toInt_le, Int32.toInt_toInt64, ← Int32.toInt_inj, ← Int64.toInt_inj, n32_0, n32_1, n32_2, n32_3, n32_4, n32_6, n32_8, n32_9, n32_10, n32_20, n32_100, n32_120, n32_255, n32_400, n32_3600, n32_m1, n64_0, n64_1, n64_2, n64_3, n64_4, n64_5, n64_9, n64_19, n64_119, n64_255, n64_400, n64_3599, n64_1000000000, n64_1000000000000, n64_m1000000000000] at c0 c1 c3 c4 c5 b0 b1 b3 b4 b5 b6)
      first | contradiction | omega
    · intro b0 b1 bt2 be2 bh2 b3 b4 b5 b6 b7
      obtain rfl : ct2 = bt2 := by have z := nI_inj2 be2 (by omega) (by omega); omega
      exfalso
      clear hI0 hM hX hW hY hT hE hD hU hS hB hG K M27 M28 M29 M30 M31 M32 M33 M34 M35 M36 M37 M38 M39 M40 M41 M42 M43 M44 M45 M46 M47 M48 M49 X0 X1 X2 X3 X4 X5 X6 X7 X8 X9 X10 X11 X12 X13 W0 W1 W2 Y0 Y1 Y2 Y3 Y4 Y5 Y6 Y7 Y8 Y9 K2
      (try simp only [Int32.lt_iff_toInt_lt, Int32.le_iff_toInt_le, Int64.lt_iff_toInt_lt, Int64.le_iff_toInt_le, Int32.toInt_toInt64, ← Int32.toInt_inj, ← Int64.toInt_inj, n32_0, n32_1, n32_2, n32_3, n32_4, n32_6, n32_8, n32_9, n32_10, n32_20, n32_100, n32_120, n32_255, n32_400, n32_3600, n32_m1, n64_0, n64_1, n64_2, n64_3, n64_4, n64_5, n64_9, n64_19, n64_119, n64_255, n64_400, n64_3599, n64_1000000000, n64_1000000000000, n64_m1000000000000] at c0 c1 c3 c4 c5 b0 b1 b3 b4 b5 b6 b7)
      first | contradiction | omega
    · intro b0 b1 bt2 be2 bh2 b3 b4 b5 b6 b7 b8
      obtain rfl : ct2 = bt2 := by have z := nI_inj2 be2 (by omega) (by omega); omega
      exfalso
      clear hI0 hM hX hW hY hT hE hD hU hS hB hG K M27 M28 M29 M30 M31 M32 M33 M34 M35 M36 M37 M38 M39 M40 M41 M42 M43 M44 M45 M46 M47 M48 M49 X0 X1 X2 X3 X4 X5 X6 X7 X8 X9 X10 X11 X12 X13 W0 W1 W2 Y0 Y1 Y2 Y3 Y4 Y5 Y6 Y7 Y8 Y9 K2
      (try simp only [Int32.lt_iff_toInt_lt, Int32.le_iff_toInt_le, Int64.lt_iff_toInt_lt, Int64.le_iff_toInt_le, Int32.toInt_toInt64, ← Int32.toInt_inj, ← Int64.toInt_inj, n32_0, n32_1, n32_2, n32_3, n32_4, n32_6, n32_8, n32_9, n32_10, n32_20, n32_100, n32_120, n32_255, n32_400, n32_3600, n32_m1, n64_0, n64_1, n64_2, n64_3, n64_4, n64_5, n64_9, n64_19, n64_119, n64_255, n64_400, n64_3599, n64_1000000000, n64_1000000000000, n64_m1000000000000] at c0 c1 c3 c4 c5 b0 b1 b3 b4 b5 b6 b7 b8)
      first | contradiction | omega
    · intro b0 b1 bt2 be2 bh2 b3 b4 b5 b6 b7 b8 b9
      obtain rfl : ct2 = bt2 := by have z := nI_inj2 be2 (by omega) (by omega); omega
      exfalso
      clear hI0 hM hX hW hY hT hE hD hU hS hB hG K M27 M28 M29 M30 M31 M32 M33 M34 M35 M36 M37 M38 M39 M40 M41 M42 M43 M44 M45 M46 M47 M48 M49 X0 X1 X2 X3 X4 X5 X6 X7 X8 X9 X10 X11 X12 X13 W0 W1 W2 Y0 Y1 Y2 Y3 Y4 Y5 Y6 Y7 Y8 Y9 K2
      (try simp only [Int32.lt_iff_toInt_lt, Int32.le_iff_toInt_le, Int64.lt_iff_toInt_lt, Int64.le_iff_toInt_le, Int32.toInt_toInt64, ← Int32.toInt_inj, ← Int64.toInt_inj, n32_0, n32_1, n32_2, n32_3, n32_4, n32_6, n32_8, n32_9, n32_10, n32_20, n32_100, n32_120, n32_255, n32_400, n32_3600, n32_m1, n64_0, n64_1, n64_2, n64_3, n64_4, n64_5, n64_9, n64_19, n64_119, n64_255, n64_400, n64_3599, n64_1000000000, n64_1000000000000, n64_m1000000000000] at c0 c1 c3 c4 c5 b0 b1 b3 b4 b5 b6 b7 b8 b9)
      first | contradiction | omega
    · intro b0 b1 bt2 be2 bh2 b3 b4 b5 b6 b7 b8 b9
      obtain rfl : ct2 = bt2 := by have z := nI_inj2 be2 (by omega) (by omega); omega
      exfalso
      clear hI0 hM hX hW hY hT hE hD hU hS hB hG K M27 M28 M29 M30 M31 M32 M33 M34 M35 M36 M37 M38 M39 M40 M41 M42 M43 M44 M45 M46 M47 M48 M49 X0 X1 X2 X3 X4 X5 X6 X7 X8 X9 X10 X11 X12 X13 W0 W1 W2 Y0 Y1 Y2 Y3 Y4 Y5 Y6 Y7 Y8 Y9 K2
      (try simp only [Int32.lt_iff_toInt_lt, Int32.le_iff_toInt_le, Int64.lt_iff_toInt_lt, Int64.le_iff_toInt_le, Int32.toInt_toInt64, ← Int32.toInt_inj, ← Int64.toInt_inj, n32_0, n32_1, n32_2, n32_3, n32_4, n32_6, n32_8, n32_9, n32_10, n32_20, n32_100, n32_120, n32_255, n32_400, n32_3600, n32_m1, n64_0, n64_1, n64_2, n64_3, n64_4, n64_5, n64_9, n64_19, n64_119, n64_255, n64_400, n64_3599, n64_1000000000, n64_1000000000000, n64_m1000000000000] at c0 c1 c3 c4 c5 b0 b1 b3 b4 b5 b6 b7 b8 b9)
      first | contradiction | omega
    · intro b0 b1 bt2 be2 bh2 b3 b4 b5
      obtain rfl : ct2 = bt2 := by have z := nI_inj2 be2 (by omega) (by omega); omega
      exfalso
      clear hI0 hM hX hW hY hT hE hD hU hS hB hG K M27 M28 M29 M30 M31 M32 M33 M34 M35 M36 M37 M38 M39 M40 M41 M42 M43 M44 M45 M46 M47 M48 M49 X0 X1 X2 X3 X4 X5 X6 X7 X8 X9 X10 X11 X12 X13 W0 W1 W2 Y0 Y1 Y2 Y3 Y4 Y5 Y6 Y7 Y8 Y9 K2
      (try simp only [Int32.lt_iff_toInt_lt, Int32.le_iff_toInt_le, Int64.lt_iff_toInt_lt, Int64.le_iff_toInt_le, Int32.toInt_toInt64, ← Int32.toInt_inj, ← Int64.toInt_inj, n32_0, n32_1, n32_2, n32_3, n32_4, n32_6, n32_8, n32_9, n32_10, n32_20, n32_100, n32_120, n32_255, n32_400, n32_3600, n32_m1, n64_0, n64_1, n64_2, n64_3, n64_4, n64_5, n64_9, n64_19, n64_119, n64_255, n64_400, n64_3599, n64_1000000000, n64_1000000000000, n64_m1000000000000] at c0 c1 c3 c4 c5 b0 b1 b3 b4 b5)
      first | contradiction | omega
  · intro c0 c1 ct2 ce2 ch2 c3 c4
    subst ce2
    have hk1 := (hB.1 ct2 ch2).2.2.2.1
    have hn1 := (hB.1 ct2 ch2).2.2.2.2.1
    simp only [Int32.lt_iff_toInt_lt, Int32.le_iff_toInt_le, Int64.lt_iff_toInt_lt, Int64.le_iff_toInt_le, Int32.toInt_toInt64, ← Int32.toInt_inj, ← Int64.toInt_inj, n32_0, n32_1, n32_2, n32_3, n32_4, n32_6, n32_8, n32_9, n32_10, n32_20, n32_100, n32_120, n32_255, n32_400, n32_3600, n32_m1, n64_0, n64_1, n64_2, n64_3, n64_4, n64_5, n64_9, n64_19, n64_119, n64_255, n64_400, n64_3599, n64_1000000000, n64_1000000000000, n64_m1000000000000] at hk1 hn1
    refine K _ _ ⟨_, M27⟩ (fun Q2 K2 => ?_)
    refine s_X8_correct M27 M44 M45 M46 M47 M48 M49 hE60 (fun e he => ⟨(hB.1 e he).2.1, (hB.1 e he).2.2.1⟩) ?_ ?_ ?_ ?_ ?_ ?_ ?_ ?_ ?_ ?_
    · intro b0
      exfalso
      clear hI0 hM hX hW hY hT hE hD hU hS hB hG K M27 M28 M29 M30 M31 M32 M33 M34 M35 M36 M37 M38 M39 M40 M41 M42 M43 M44 M45 M46 M47 M48 M49 X0 X1 X2 X3 X4 X5 X6 X7 X8 X9 X10 X11 X12 X13 W0 W1 W2 Y0 Y1 Y2 Y3 Y4 Y5 Y6 Y7 Y8 Y9 K2
      (try simp only [Int32.lt_iff_toInt_lt, Int32.le_iff_toInt_le, Int64.lt_iff_toInt_lt, Int64.le_iff_toInt_le, Int32.toInt_toInt64, ← Int32.toInt_inj, ← Int64.toInt_inj, n32_0, n32_1, n32_2, n32_3, n32_4, n32_6, n32_8, n32_9, n32_10, n32_20, n32_100, n32_120, n32_255, n32_400, n32_3600, n32_m1, n64_0, n64_1, n64_2, n64_3, n64_4, n64_5, n64_9, n64_19, n64_119, n64_255, n64_400, n64_3599, n64_1000000000, n64_1000000000000, n64_m1000000000000] at c0 c1 c3 c4 b0)
      first | contradiction | omega
    · intro b0 b1
      exfalso
      clear hI0 hM hX hW hY hT hE hD hU hS hB hG K M27 M28 M29 M30 M31 M32 M33 M34 M35 M36 M37 M38 M39 M40 M41 M42 M43 M44 M45 M46 M47 M48 M49 X0 X1 X2 X3 X4 X5 X6 X7 X8 X9 X10 X11 X12 X13 W0 W1 W2 Y0 Y1 Y2 Y3 Y4 Y5 Y6 Y7 Y8 Y9 K2
      (try simp only [Int32.lt_iff_toInt_lt, Int32.le_iff_toInt_le, Int64.lt_iff_toInt_lt, Int64.le_iff_toInt_le, Int32.toInt_toInt64, ← Int32.toInt_inj, ← Int64.toInt_inj, n32_0, n32_1, n32_2, n32_3, n32_4, n32_6, n32_8, n32_9, n32_10, n32_20, n32_100, n32_120, n32_255, n32_400, n32_3600, n32_m1, n64_0, n64_1, n64_2, n64_3, n64_4, n64_5, n64_9, n64_19, n64_119, n64_255, n64_400, n64_3599, n64_1000000000, n64_1000000000000, n64_m1000000000000] at c0 c1 c3 c4 b0 b1)
      first | contradiction | omega
    · intro b0 b1 bt2 be2 bh2 b3
      obtain rfl : ct2 = bt2 := by have z := nI_inj2 be2 (by omega) (by omega); omega
      exfalso
      clear hI0 hM hX hW hY hT hE hD hU hS hB hG K M27 M28 M29 M30 M31 M32 M33 M34 M35 M36 M37 M38 M39 M40 M41 M42 M43 M44 M45 M46 M47 M48 M49 X0 X1 X2 X3 X4 X5 X6 X7 X8 X9 X10 X11 X12 X13 W0 W1 W2 Y0 Y1 Y2 Y3 Y4 Y5 Y6 Y7 Y8 Y9 K2
      (try simp only [Int32.lt_iff_toInt_lt, Int32.le_iff_toInt_le, Int64.lt_iff_toInt_lt, Int64.le_iff_toInt_le, Int32.toInt_toInt64, ← Int32.toInt_inj, ← Int64.toInt_inj, n32_0, n32_1, n32_2, n32_3, n32_4, n32_6, n32_8, n32_9, n32_10, n32_20, n32_100, n32_120, n32_255, n32_400, n32_3600, n32_m1, n64_0, n64_1, n64_2, n64_3, n64_4, n64_5, n64_9, n64_19, n64_119, n64_255, n64_400, n64_3599, n64_1000000000, n64_1000000000000, n64_m1000000000000] at c0 c1 c3 c4 b0 b1 b3)
      first | contradiction | omega
    · intro b0 b1 bt2 be2 bh2 b3 b4
      obtain rfl : ct2 = bt2 := by have z := nI_inj2 be2 (by omega) (by omega); omega
      exact K2 _ (iV_up hI0)
    · intro b0 b1 bt2 be2 bh2 b3 b4 b5 b6
      obtain rfl : ct2 = bt2 := by have z := nI_inj2 be2 (by omega) (by omega); omega
      exfalso
      clear hI0 hM hX hW hY hT hE hD hU hS hB hG K M27 M28 M29 M30 M31 M32 M33 M34 M35 M36 M37 M38 M39 M40 M41 M42 M43 M44 M45 M46 M47 M48 M49 X0 X1 X2 X3 X4 X5 X6 X7 X8 X9 X10 X11 X12 X13 W0 W1 W2 Y0 Y1 Y2 Y3 Y4 Y5 Y6 Y7 Y8 Y9 K2
      (try simp only [Int32.lt_iff_toInt_lt, Int32.le_iff_toInt_le, Int64.lt_iff_toInt_lt, Int64.le_iff_toInt_le, Int32.toInt_toInt64, ← Int32.toInt_inj, ← Int64.toInt_inj, n32_0, n32_1, n32_2, n32_3, n32_4, n32_6, n32_8, n32_9, n32_10, n32_20, n32_100, n32_120, n32_255, n32_400, n32_3600, n32_m1, n64_0, n64_1, n64_2, n64_3, n64_4, n64_5, n64_9, n64_19, n64_119, n64_255, n64_400, n64_3599, n64_1000000000, n64_1000000000000, n64_m1000000000000] at c0 c1 c3 c4 b0 b1 b3 b4 b5 b6)
      first | contradiction | omega
    · intro b0 b1 bt2 be2 bh2 b3 b4 b5 b6 b7
      obtain rfl : ct2 = bt2 := by have z := nI_inj2 be2 (by omega) (by omega); omega
      exfalso
      clear hI0 hM hX hW hY hT hE hD hU hS hB hG K M27 M28 M29 M30 M31 M32 M33 M34 M35 M36 M37 M38 M39 M40 M41 M42 M43 M44 M45 M46 M47 M48 M49 X0 X1 X2 X3 X4 X5 X6 X7 X8 X9 X10 X11 X12 X13 W0 W1 W2 Y0 Y1 Y2 Y3 Y4 Y5 Y6 Y7 Y8 Y9 K2
      (try simp only [Int32.lt_iff_toInt_lt, Int32.le_iff_toInt_le, Int64.lt_iff_toInt_lt, Int64.le_iff_toInt_le, Int32.toInt_toInt64, ← Int32.toInt_inj, ← Int64.toInt_inj, n32_0, n32_1, n32_2, n32_3, n32_4, n32_6, n32_8, n32_9, n32_10, n32_20, n32_100, n32_120, n32_255, n32_400, n32_3600, n32_m1, n64_0, n64_1, n64_2, n64_3, n64_4, n64_5, n64_9, n64_19, n64_119, n64_255, n64_400, n64_3599, n64_1000000000, n64_1000000000000, n64_m1000000000000] at c0 c1 c3 c4 b0 b1 b3 b4 b5 b6 b7)
      first | contradiction | omega
    · intro b0 b1 bt2 be2 bh2 b3 b4 b5 b6 b7 b8
      obtain rfl : ct2 = bt2 := by have z := nI_inj2 be2 (by omega) (by omega); omega
      exfalso
      clear hI0 hM hX hW hY hT hE hD hU hS hB hG K M27 M28 M29 M30 M31 M32 M33 M34 M35 M36 M37 M38 M39 M40 M41 M42 M43 M44 M45 M46 M47 M48 M49 X0 X1 X2 X3 X4 X5 X6 X7 X8 X9 X10 X11 X12 X13 W0 W1 W2 Y0 Y1 Y2 Y3 Y4 Y5 Y6 Y7 Y8 Y9 K2
      (try simp only [Int32.lt_iff_toInt_lt, Int32.le_iff_toInt_le, Int64.lt_iff_toInt_lt, Int64.le_iff_toInt_le, Int32.toInt_toInt64, ← Int32.toInt_inj, ← Int64.toInt_inj, n32_0, n32_1, n32_2, n32_3, n32_4, n32_6, n32_8, n32_9, n32_10, n32_20, n32_100, n32_120, n32_255, n32_400, n32_3600, n32_m1, n64_0, n64_1, n64_2, n64_3, n64_4, n64_5, n64_9, n64_19, n64_119, n64_255, n64_400, n64_3599, n64_1000000000, n64_1000000000000, n64_m1000000000000] at c0 c1 c3 c4 b0 b1 b3 b4 b5 b6 b7 b8)
      first | contradiction | omega
    · intro b0 b1 bt2 be2 bh2 b3 b4 b5 b6 b7 b8 b9
      obtain rfl : ct2 = bt2 := by have z := nI_inj2 be2 (by omega) (by omega); omega
      exfalso
      clear hI0 hM hX hW hY hT hE hD hU hS hB hG K M27 M28 M29 M30 M31 M32 M33 M34 M35 M36 M37 M38 M39 M40 M41 M42 M43 M44 M45 M46 M47 M48 M49 X0 X1 X2 X3 X4 X5 X6 X7 X8 X9 X10 X11 X12 X13 W0 W1 W2 Y0 Y1 Y2 Y3 Y4 Y5 Y6 Y7 Y8 Y9 K2
      (try simp only [Int32.lt_iff_toInt_lt, Int32.le_iff_toInt_le, Int64.lt_iff_toInt_lt, Int64.le_iff_toInt_le, Int32.toInt_toInt64, ← Int32.toInt_inj, ← Int64.toInt_inj, n32_0, n32_1, n32_2, n32_3, n32_4, n32_6, n32_8, n32_9, n32_10, n32_20, n32_100, n32_120, n32_255, n32_400, n32_3600, n32_m1, n64_0, n64_1, n64_2, n64_3, n64_4, n64_5, n64_9, n64_19, n64_119, n64_255, n64_400, n64_3599, n64_1000000000, n64_1000000000000, n64_m1000000000000] at c0 c1 c3 c4 b0 b1 b3 b4 b5 b6 b7 b8 b9)
      first | contradiction | omega
    · intro b0 b1 bt2 be2 bh2 b3 b4 b5 b6 b7 b8 b9
      obtain rfl : ct2 = bt2 := by have z := nI_inj2 be2 (by omega) (by omega); omega
      exfalso
      clear hI0 hM hX hW hY hT hE hD hU hS hB hG K M27 M28 M29 M30 M31 M32 M33 M34 M35 M36 M37 M38 M39 M40 M41 M42 M43 M44 M45 M46 M47 M48 M49 X0 X1 X2 X3 X4 X5 X6 X7 X8 X9 X10 X11 X12 X13 W0 W1 W2 Y0 Y1 Y2 Y3 Y4 Y5 Y6 Y7 Y8 Y9 K2
      (try simp only [Int32.lt_iff_toInt_lt, Int32.le_iff_toInt_le, Int64.lt_iff_toInt_lt, Int64.le_iff_toInt_le, Int32.toInt_toInt64, ← Int32.toInt_inj, ← Int64.toInt_inj, n32_0, n32_1, n32_2, n32_3, n32_4, n32_6, n32_8, n32_9, n32_10, n32_20, n32_100, n32_120, n32_255, n32_400, n32_3600, n32_m1, n64_0, n64_1, n64_2, n64_3, n64_4, n64_5, n64_9, n64_19, n64_119, n64_255, n64_400, n64_3599, n64_1000000000, n64_1000000000000, n64_m1000000000000] at c0 c1 c3 c4 b0 b1 b3 b4 b5 b6 b7 b8 b9)
      first | contradiction | omega
    · intro b0 b1 bt2 be2 bh2 b3 b4 b5
      obtain rfl : ct2 = bt2 := by have z := nI_inj2 be2 (by omega) (by omega); omega
      exact K2 _ (iV_up hI0)

set_option maxRecDepth 20000 in
theorem r_balance {l : Launch} {G : jG} {h : jH} {Q : Option Value → jH → Prop} {c : Nat} {a0 : Int32} {m0 : Int32} (hc : c < 512) (hG : j_gok G) (hI : iV c h) (K : ∀ (vv : Int64) (h1 : jH), (∃ fs, h1.2 27 = some (jO 8 fs)) → (∀ Q2 : Option Value → jH → Prop, (∀ h2, iV (c + 1) h2 → Q2 (some (.long vv)) h2) → J l G mX8_balance 0 0 0 (lv_args 0 [.ref 27, .int a0, .int m0]) [] h1 Q2) → Q (some (.long vv)) h1) : J l G mX7_balance 0 0 0 (lv_args 0 [.ref 0, .int a0, .int m0]) [] h Q := by
  have hI0 := hI
  refine hI _ ?_
  clear hI
  intro L P T E C R R0 n ru dq dr op at_ fr wd ws we wn dd tx rs fs ro sh dy se ey er tk tn ac f1 f2 f3 f4 g1 g2 g3 g4 da lo ad sa co pa ss w1 w2 w3 am pw ps cu dm ta ea shp tb eb rr rn cst prt eam dys eac shs hM hX hW hY hT hE hD hN hU hS hB
  obtain ⟨M27, M28, M29, M30, M31, M32, M33, M34, M35, M36, M37, M38, M39, M40, M41, M42, M43, M44, M45, M46, M47, M48, M49⟩ := id hM
  obtain ⟨X0, X1, X2, X3, X4, X5, X6, X7, X8, X9, X10, X11, X12, X13⟩ := id hX
  obtain ⟨W0, W1, W2⟩ := id hW
  obtain ⟨Y0, Y1, Y2, Y3, Y4, Y5, Y6, Y7, Y8, Y9⟩ := id hY
  obtain ⟨hL, hP, hT20, hE60, hC, hR, hR0, hn, hrd, hop⟩ := id hN
  refine s_X7_balance X0 X12 X13 (fun e he => (hE e he).1) (fun e he => (hE e he).2.1) (fun e he => (hE e he).2.2) hE60 (fun e he => (hB.1 e he).1) (fun e he => (hB.1 e he).2.2.1) ?_ ?_ ?_ ?_ ?_
  · intro c0
    refine K _ _ ⟨_, M27⟩ (fun Q2 K2 => ?_)
    refine s_X8_balance M27 M44 M45 M46 M47 M48 M49 hE60 (fun e he => ⟨(hB.1 e he).2.1, (hB.1 e he).2.2.1⟩) ?_ ?_ ?_ ?_ ?_
    · intro b0
      exact K2 _ (iV_up hI0)
    · intro b0 b1
      exfalso
      clear hI0 hM hX hW hY hT hE hD hU hS hB hG K M27 M28 M29 M30 M31 M32 M33 M34 M35 M36 M37 M38 M39 M40 M41 M42 M43 M44 M45 M46 M47 M48 M49 X0 X1 X2 X3 X4 X5 X6 X7 X8 X9 X10 X11 X12 X13 W0 W1 W2 Y0 Y1 Y2 Y3 Y4 Y5 Y6 Y7 Y8 Y9 K2
      (try simp only [Int32.lt_iff_toInt_lt, Int32.le_iff_toInt_le, Int64.lt_iff_toInt_lt, Int64.le_iff_toInt_le, Int32.toInt_toInt64, ← Int32.toInt_inj, ← Int64.toInt_inj, n32_0, n32_1, n32_2, n32_3, n32_4, n32_6, n32_8, n32_9, n32_10, n32_20, n32_100, n32_120, n32_255, n32_400, n32_3600, n32_m1, n64_0, n64_1, n64_2, n64_3, n64_4, n64_5, n64_9, n64_19, n64_119, n64_255, n64_400, n64_3599, n64_1000000000, n64_1000000000000, n64_m1000000000000] at c0 b0 b1)
      first | contradiction | omega
    · intro b0 b1 b2
      exfalso
      clear hI0 hM hX hW hY hT hE hD hU hS hB hG K M27 M28 M29 M30 M31 M32 M33 M34 M35 M36 M37 M38 M39 M40 M41 M42 M43 M44 M45 M46 M47 M48 M49 X0 X1 X2 X3 X4 X5 X6 X7 X8 X9 X10 X11 X12 X13 W0 W1 W2 Y0 Y1 Y2 Y3 Y4 Y5 Y6 Y7 Y8 Y9 K2
      (try simp only [Int32.lt_iff_toInt_lt, Int32.le_iff_toInt_le, Int64.lt_iff_toInt_lt, Int64.le_iff_toInt_le, Int32.toInt_toInt64, ← Int32.toInt_inj, ← Int64.toInt_inj, n32_0, n32_1, n32_2, n32_3, n32_4, n32_6, n32_8, n32_9, n32_10, n32_20, n32_100, n32_120, n32_255, n32_400, n32_3600, n32_m1, n64_0, n64_1, n64_2, n64_3, n64_4, n64_5, n64_9, n64_19, n64_119, n64_255, n64_400, n64_3599, n64_1000000000, n64_1000000000000, n64_m1000000000000] at c0 b0 b1 b2)
      first | contradiction | omega
    · intro b0 b1 b2 b3
      exfalso
      clear hI0 hM hX hW hY hT hE hD hU hS hB hG K M27 M28 M29 M30 M31 M32 M33 M34 M35 M36 M37 M38 M39 M40 M41 M42 M43 M44 M45 M46 M47 M48 M49 X0 X1 X2 X3 X4 X5 X6 X7 X8 X9 X10 X11 X12 X13 W0 W1 W2 Y0 Y1 Y2 Y3 Y4 Y5 Y6 Y7 Y8 Y9 K2
      (try simp only [Int32.lt_iff_toInt_lt, Int32.le_iff_toInt_le, Int64.lt_iff_toInt_lt, Int64.le_iff_toInt_le, Int32.toInt_toInt64, ← Int32.toInt_inj, ← Int64.toInt_inj, n32_0, n32_1, n32_2, n32_3, n32_4, n32_6, n32_8, n32_9, n32_10, n32_20, n32_100, n32_120, n32_255, n32_400, n32_3600, n32_m1, n64_0, n64_1, n64_2, n64_3, n64_4, n64_5, n64_9, n64_19, n64_119, n64_255, n64_400, n64_3599, n64_1000000000, n64_1000000000000, n64_m1000000000000] at c0 b0 b1 b2 b3)
      first | contradiction | omega
    · intro b0 b1 b2 b3
      exfalso
      clear hI0 hM hX hW hY hT hE hD hU hS hB hG K M27 M28 M29 M30 M31 M32 M33 M34 M35 M36 M37 M38 M39 M40 M41 M42 M43 M44 M45 M46 M47 M48 M49 X0 X1 X2 X3 X4 X5 X6 X7 X8 X9 X10 X11 X12 X13 W0 W1 W2 Y0 Y1 Y2 Y3 Y4 Y5 Y6 Y7 Y8 Y9 K2
      (try simp only [Int32.lt_iff_toInt_lt, Int32.le_iff_toInt_le, Int64.lt_iff_toInt_lt, Int64.le_iff_toInt_le, Int32.toInt_toInt64, ← Int32.toInt_inj, ← Int64.toInt_inj, n32_0, n32_1, n32_2, n32_3, n32_4, n32_6, n32_8, n32_9, n32_10, n32_20, n32_100, n32_120, n32_255, n32_400, n32_3600, n32_m1, n64_0, n64_1, n64_2, n64_3, n64_4, n64_5, n64_9, n64_19, n64_119, n64_255, n64_400, n64_3599, n64_1000000000, n64_1000000000000, n64_m1000000000000] at c0 b0 b1 b2 b3)
      first | contradiction | omega
  · intro c0 c1
    refine K _ _ ⟨_, M27⟩ (fun Q2 K2 => ?_)
    refine s_X8_balance M27 M44 M45 M46 M47 M48 M49 hE60 (fun e he => ⟨(hB.1 e he).2.1, (hB.1 e he).2.2.1⟩) ?_ ?_ ?_ ?_ ?_
    · intro b0
      exfalso
      clear hI0 hM hX hW hY hT hE hD hU hS hB hG K M27 M28 M29 M30 M31 M32 M33 M34 M35 M36 M37 M38 M39 M40 M41 M42 M43 M44 M45 M46 M47 M48 M49 X0 X1 X2 X3 X4 X5 X6 X7 X8 X9 X10 X11 X12 X13 W0 W1 W2 Y0 Y1 Y2 Y3 Y4 Y5 Y6 Y7 Y8 Y9 K2
      (try simp only [Int32.lt_iff_toInt_lt, Int32.le_iff_toInt_le, Int64.lt_iff_toInt_lt, Int64.le_iff_toInt_le, Int32.toInt_toInt64, ← Int32.toInt_inj, ← Int64.toInt_inj, n32_0, n32_1, n32_2, n32_3, n32_4, n32_6, n32_8, n32_9, n32_10, n32_20, n32_100, n32_120, n32_255, n32_400, n32_3600, n32_m1, n64_0, n64_1, n64_2, n64_3, n64_4, n64_5, n64_9, n64_19, n64_119, n64_255, n64_400, n64_3599, n64_1000000000, n64_1000000000000, n64_m1000000000000] at c0 c1 b0)
      first | contradiction | omega
    · intro b0 b1
      exact K2 _ (iV_up hI0)
    · intro b0 b1 b2
      exfalso
      clear hI0 hM hX hW hY hT hE hD hU hS hB hG K M27 M28 M29 M30 M31 M32 M33 M34 M35 M36 M37 M38 M39 M40 M41 M42 M43 M44 M45 M46 M47 M48 M49 X0 X1 X2 X3 X4 X5 X6 X7 X8 X9 X10 X11 X12 X13 W0 W1 W2 Y0 Y1 Y2 Y3 Y4 Y5 Y6 Y7 Y8 Y9 K2
      (try simp only [Int32.lt_iff_toInt_lt, Int32.le_iff_toInt_le, Int64.lt_iff_toInt_lt, Int64.le_iff_toInt_le, Int32.toInt_toInt64, ← Int32.toInt_inj, ← Int64.toInt_inj, n32_0, n32_1, n32_2, n32_3, n32_4, n32_6, n32_8, n32_9, n32_10, n32_20, n32_100, n32_120, n32_255, n32_400, n32_3600, n32_m1, n64_0, n64_1, n64_2, n64_3, n64_4, n64_5, n64_9, n64_19, n64_119, n64_255, n64_400, n64_3599, n64_1000000000, n64_1000000000000, n64_m1000000000000] at c0 c1 b0 b1 b2)
      first | contradiction | omega
    · intro b0 b1 b2 b3
      exfalso
      clear hI0 hM hX hW hY hT hE hD hU hS hB hG K M27 M28 M29 M30 M31 M32 M33 M34 M35 M36 M37 M38 M39 M40 M41 M42 M43 M44 M45 M46 M47 M48 M49 X0 X1 X2 X3 X4 X5 X6 X7 X8 X9 X10 X11 X12 X13 W0 W1 W2 Y0 Y1 Y2 Y3 Y4 Y5 Y6 Y7 Y8 Y9 K2
      (try simp only [Int32.lt_iff_toInt_lt, Int32.le_iff_toInt_le, Int64.lt_iff_toInt_lt, Int64.le_iff_toInt_le, Int32.toInt_toInt64, ← Int32.toInt_inj, ← Int64.toInt_inj, n32_0, n32_1, n32_2, n32_3, n32_4, n32_6, n32_8, n32_9, n32_10, n32_20, n32_100, n32_120, n32_255, n32_400, n32_3600, n32_m1, n64_0, n64_1, n64_2, n64_3, n64_4, n64_5, n64_9, n64_19, n64_119, n64_255, n64_400, n64_3599, n64_1000000000, n64_1000000000000, n64_m1000000000000] at c0 c1 b0 b1 b2 b3)
      first | contradiction | omega
    · intro b0 b1 b2 b3
      exfalso
      clear hI0 hM hX hW hY hT hE hD hU hS hB hG K M27 M28 M29 M30 M31 M32 M33 M34 M35 M36 M37 M38 M39 M40 M41 M42 M43 M44 M45 M46 M47 M48 M49 X0 X1 X2 X3 X4 X5 X6 X7 X8 X9 X10 X11 X12 X13 W0 W1 W2 Y0 Y1 Y2 Y3 Y4 Y5 Y6 Y7 Y8 Y9 K2
      (try simp only [Int32.lt_iff_toInt_lt, Int32.le_iff_toInt_le, Int64.lt_iff_toInt_lt, Int64.le_iff_toInt_le, Int32.toInt_toInt64, ← Int32.toInt_inj, ← Int64.toInt_inj, n32_0, n32_1, n32_2, n32_3, n32_4, n32_6, n32_8, n32_9, n32_10, n32_20, n32_100, n32_120, n32_255, n32_400, n32_3600, n32_m1, n64_0, n64_1, n64_2, n64_3, n64_4, n64_5, n64_9, n64_19, n64_119, n64_255, n64_400, n64_3599, n64_1000000000, n64_1000000000000, n64_m1000000000000] at c0 c1 b0 b1 b2 b3)
      first | contradiction | omega
  · intro c0 c1 c2
    refine K _ _ ⟨_, M27⟩ (fun Q2 K2 => ?_)
    refine s_X8_balance M27 M44 M45 M46 M47 M48 M49 hE60 (fun e he => ⟨(hB.1 e he).2.1, (hB.1 e he).2.2.1⟩) ?_ ?_ ?_ ?_ ?_
    · intro b0
      exfalso
      clear hI0 hM hX hW hY hT hE hD hU hS hB hG K M27 M28 M29 M30 M31 M32 M33 M34 M35 M36 M37 M38 M39 M40 M41 M42 M43 M44 M45 M46 M47 M48 M49 X0 X1 X2 X3 X4 X5 X6 X7 X8 X9 X10 X11 X12 X13 W0 W1 W2 Y0 Y1 Y2 Y3 Y4 Y5 Y6 Y7 Y8 Y9 K2
      (try simp only [Int32.lt_iff_toInt_lt, Int32.le_iff_toInt_le, Int64.lt_iff_toInt_lt, Int64.le_iff_toInt_le, Int32.toInt_toInt64, ← Int32.toInt_inj, ← Int64.toInt_inj, n32_0, n32_1, n32_2, n32_3, n32_4, n32_6, n32_8, n32_9, n32_10, n32_20, n32_100, n32_120, n32_255, n32_400, n32_3600, n32_m1, n64_0, n64_1, n64_2, n64_3, n64_4, n64_5, n64_9, n64_19, n64_119, n64_255, n64_400, n64_3599, n64_1000000000, n64_1000000000000, n64_m1000000000000] at c0 c1 c2 b0)
      first | contradiction | omega
    · intro b0 b1
      exfalso
      clear hI0 hM hX hW hY hT hE hD hU hS hB hG K M27 M28 M29 M30 M31 M32 M33 M34 M35 M36 M37 M38 M39 M40 M41 M42 M43 M44 M45 M46 M47 M48 M49 X0 X1 X2 X3 X4 X5 X6 X7 X8 X9 X10 X11 X12 X13 W0 W1 W2 Y0 Y1 Y2 Y3 Y4 Y5 Y6 Y7 Y8 Y9 K2
      (try simp only [Int32.lt_iff_toInt_lt, Int32.le_iff_toInt_le, Int64.lt_iff_toInt_lt, Int64.le_iff_toInt_le, Int32.toInt_toInt64, ← Int32.toInt_inj, ← Int64.toInt_inj, n32_0, n32_1, n32_2, n32_3, n32_4, n32_6, n32_8, n32_9, n32_10, n32_20, n32_100, n32_120, n32_255, n32_400, n32_3600, n32_m1, n64_0, n64_1, n64_2, n64_3, n64_4, n64_5, n64_9, n64_19, n64_119, n64_255, n64_400, n64_3599, n64_1000000000, n64_1000000000000, n64_m1000000000000] at c0 c1 c2 b0 b1)
      first | contradiction | omega
    · intro b0 b1 b2
      exact K2 _ (iV_up hI0)
    · intro b0 b1 b2 b3
      exfalso
      clear hI0 hM hX hW hY hT hE hD hU hS hB hG K M27 M28 M29 M30 M31 M32 M33 M34 M35 M36 M37 M38 M39 M40 M41 M42 M43 M44 M45 M46 M47 M48 M49 X0 X1 X2 X3 X4 X5 X6 X7 X8 X9 X10 X11 X12 X13 W0 W1 W2 Y0 Y1 Y2 Y3 Y4 Y5 Y6 Y7 Y8 Y9 K2
      (try simp only [Int32.lt_iff_toInt_lt, Int32.le_iff_toInt_le, Int64.lt_iff_toInt_lt, Int64.le_iff_toInt_le, Int32.toInt_toInt64, ← Int32.toInt_inj, ← Int64.toInt_inj, n32_0, n32_1, n32_2, n32_3, n32_4, n32_6, n32_8, n32_9, n32_10, n32_20, n32_100, n32_120, n32_255, n32_400, n32_3600, n32_m1, n64_0, n64_1, n64_2, n64_3, n64_4, n64_5, n64_9, n64_19, n64_119, n64_255, n64_400, n64_3599, n64_1000000000, n64_1000000000000, n64_m1000000000000] at c0 c1 c2 b0 b1 b2 b3)
      first | contradiction | omega
    · intro b0 b1 b2 b3
      exfalso
      clear hI0 hM hX hW hY hT hE hD hU hS hB hG K M27 M28 M29 M30 M31 M32 M33 M34 M35 M36 M37 M38 M39 M40 M41 M42 M43 M44 M45 M46 M47 M48 M49 X0 X1 X2 X3 X4 X5 X6 X7 X8 X9 X10 X11 X12 X13 W0 W1 W2 Y0 Y1 Y2 Y3 Y4 Y5 Y6 Y7 Y8 Y9 K2
      (try simp only [Int32.lt_iff_toInt_lt, Int32.le_iff_toInt_le, Int64.lt_iff_toInt_lt, Int64.le_iff_toInt_le, Int32.toInt_toInt64, ← Int32.toInt_inj, ← Int64.toInt_inj, n32_0, n32_1, n32_2, n32_3, n32_4, n32_6, n32_8, n32_9, n32_10, n32_20, n32_100, n32_120, n32_255, n32_400, n32_3600, n32_m1, n64_0, n64_1, n64_2, n64_3, n64_4, n64_5, n64_9, n64_19, n64_119, n64_255, n64_400, n64_3599, n64_1000000000, n64_1000000000000, n64_m1000000000000] at c0 c1 c2 b0 b1 b2 b3)
      first | contradiction | omega
  · intro c0 c1 c2 c3
    refine K _ _ ⟨_, M27⟩ (fun Q2 K2 => ?_)
    refine s_X8_balance M27 M44 M45 M46 M47 M48 M49 hE60 (fun e he => ⟨(hB.1 e he).2.1, (hB.1 e he).2.2.1⟩) ?_ ?_ ?_ ?_ ?_
    · intro b0
      exfalso
      clear hI0 hM hX hW hY hT hE hD hU hS hB hG K M27 M28 M29 M30 M31 M32 M33 M34 M35 M36 M37 M38 M39 M40 M41 M42 M43 M44 M45 M46 M47 M48 M49 X0 X1 X2 X3 X4 X5 X6 X7 X8 X9 X10 X11 X12 X13 W0 W1 W2 Y0 Y1 Y2 Y3 Y4 Y5 Y6 Y7 Y8 Y9 K2
      (try simp only [Int32.lt_iff_toInt_lt, Int32.le_iff_toInt_le, Int64.lt_iff_toInt_lt, Int64.le_iff_toInt_le, Int32.toInt_toInt64, ← Int32.toInt_inj, ← Int64.toInt_inj, n32_0, n32_1, n32_2, n32_3, n32_4, n32_6, n32_8, n32_9, n32_10, n32_20, n32_100, n32_120, n32_255, n32_400, n32_3600, n32_m1, n64_0, n64_1, n64_2, n64_3, n64_4, n64_5, n64_9, n64_19, n64_119, n64_255, n64_400, n64_3599, n64_1000000000, n64_1000000000000, n64_m1000000000000] at c0 c1 c2 c3 b0)
      first | contradiction | omega
    · intro b0 b1
      exfalso
      clear hI0 hM hX hW hY hT hE hD hU hS hB hG K M27 M28 M29 M30 M31 M32 M33 M34 M35 M36 M37 M38 M39 M40 M41 M42 M43 M44 M45 M46 M47 M48 M49 X0 X1 X2 X3 X4 X5 X6 X7 X8 X9 X10 X11 X12 X13 W0 W1 W2 Y0 Y1 Y2 Y3 Y4 Y5 Y6 Y7 Y8 Y9 K2
      (try simp only [Int32.lt_iff_toInt_lt, Int32.le_iff_toInt_le, Int64.lt_iff_toInt_lt, Int64.le_iff_toInt_le, Int32.toInt_toInt64, ← Int32.toInt_inj, ← Int64.toInt_inj, n32_0, n32_1, n32_2, n32_3, n32_4, n32_6, n32_8, n32_9, n32_10, n32_20, n32_100, n32_120, n32_255, n32_400, n32_3600, n32_m1, n64_0, n64_1, n64_2, n64_3, n64_4, n64_5, n64_9, n64_19, n64_119, n64_255, n64_400, n64_3599, n64_1000000000, n64_1000000000000, n64_m1000000000000] at c0 c1 c2 c3 b0 b1)
      first | contradiction | omega
    · intro b0 b1 b2
      exfalso
      clear hI0 hM hX hW hY hT hE hD hU hS hB hG K M27 M28 M29 M30 M31 M32 M33 M34 M35 M36 M37 M38 M39 M40 M41 M42 M43 M44 M45 M46 M47 M48 M49 X0 X1 X2 X3 X4 X5 X6 X7 X8 X9 X10 X11 X12 X13 W0 W1 W2 Y0 Y1 Y2 Y3 Y4 Y5 Y6 Y7 Y8 Y9 K2
      (try simp only [Int32.lt_iff_toInt_lt, Int32.le_iff_toInt_le, Int64.lt_iff_toInt_lt, Int64.le_iff_toInt_le, Int32.toInt_toInt64, ← Int32.toInt_inj, ← Int64.toInt_inj, n32_0, n32_1, n32_2, n32_3, n32_4, n32_6, n32_8, n32_9, n32_10, n32_20, n32_100, n32_120, n32_255, n32_400, n32_3600, n32_m1, n64_0, n64_1, n64_2, n64_3, n64_4, n64_5, n64_9, n64_19, n64_119, n64_255, n64_400, n64_3599, n64_1000000000, n64_1000000000000, n64_m1000000000000] at c0 c1 c2 c3 b0 b1 b2)
      first | contradiction | omega
    · intro b0 b1 b2 b3
      exact K2 _ (iV_up hI0)
    · intro b0 b1 b2 b3
      exfalso
      clear hI0 hM hX hW hY hT hE hD hU hS hB hG K M27 M28 M29 M30 M31 M32 M33 M34 M35 M36 M37 M38 M39 M40 M41 M42 M43 M44 M45 M46 M47 M48 M49 X0 X1 X2 X3 X4 X5 X6 X7 X8 X9 X10 X11 X12 X13 W0 W1 W2 Y0 Y1 Y2 Y3 Y4 Y5 Y6 Y7 Y8 Y9 K2
      (try simp only [Int32.lt_iff_toInt_lt, Int32.le_iff_toInt_le, Int64.lt_iff_toInt_lt, Int64.le_iff_toInt_le, Int32.toInt_toInt64, ← Int32.toInt_inj, ← Int64.toInt_inj, n32_0, n32_1, n32_2, n32_3, n32_4, n32_6, n32_8, n32_9, n32_10, n32_20, n32_100, n32_120, n32_255, n32_400, n32_3600, n32_m1, n64_0, n64_1, n64_2, n64_3, n64_4, n64_5, n64_9, n64_19, n64_119, n64_255, n64_400, n64_3599, n64_1000000000, n64_1000000000000, n64_m1000000000000] at c0 c1 c2 c3 b0 b1 b2 b3)
      first | contradiction | omega
  · intro c0 c1 c2 c3
    refine K _ _ ⟨_, M27⟩ (fun Q2 K2 => ?_)
    refine s_X8_balance M27 M44 M45 M46 M47 M48 M49 hE60 (fun e he => ⟨(hB.1 e he).2.1, (hB.1 e he).2.2.1⟩) ?_ ?_ ?_ ?_ ?_
    · intro b0
      exfalso
      clear hI0 hM hX hW hY hT hE hD hU hS hB hG K M27 M28 M29 M30 M31 M32 M33 M34 M35 M36 M37 M38 M39 M40 M41 M42 M43 M44 M45 M46 M47 M48 M49 X0 X1 X2 X3 X4 X5 X6 X7 X8 X9 X10 X11 X12 X13 W0 W1 W2 Y0 Y1 Y2 Y3 Y4 Y5 Y6 Y7 Y8 Y9 K2
      (try simp only [Int32.lt_iff_toInt_lt, Int32.le_iff_toInt_le, Int64.lt_iff_toInt_lt, Int64.le_iff_toInt_le, Int32.toInt_toInt64, ← Int32.toInt_inj, ← Int64.toInt_inj, n32_0, n32_1, n32_2, n32_3, n32_4, n32_6, n32_8, n32_9, n32_10, n32_20, n32_100, n32_120, n32_255, n32_400, n32_3600, n32_m1, n64_0, n64_1, n64_2, n64_3, n64_4, n64_5, n64_9, n64_19, n64_119, n64_255, n64_400, n64_3599, n64_1000000000, n64_1000000000000, n64_m1000000000000] at c0 c1 c2 c3 b0)
      first | contradiction | omega
    · intro b0 b1
      exfalso
      clear hI0 hM hX hW hY hT hE hD hU hS hB hG K M27 M28 M29 M30 M31 M32 M33 M34 M35 M36 M37 M38 M39 M40 M41 M42 M43 M44 M45 M46 M47 M48 M49 X0 X1 X2 X3 X4 X5 X6 X7 X8 X9 X10 X11 X12 X13 W0 W1 W2 Y0 Y1 Y2 Y3 Y4 Y5 Y6 Y7 Y8 Y9 K2
      (try simp only [Int32.lt_iff_toInt_lt, Int32.le_iff_toInt_le, Int64.lt_iff_toInt_lt, Int64.le_iff_toInt_le, Int32.toInt_toInt64, ← Int32.toInt_inj, ← Int64.toInt_inj, n32_0, n32_1, n32_2, n32_3, n32_4, n32_6, n32_8, n32_9, n32_10, n32_20, n32_100, n32_120, n32_255, n32_400, n32_3600, n32_m1, n64_0, n64_1, n64_2, n64_3, n64_4, n64_5, n64_9, n64_19, n64_119, n64_255, n64_400, n64_3599, n64_1000000000, n64_1000000000000, n64_m1000000000000] at c0 c1 c2 c3 b0 b1)
      first | contradiction | omega
    · intro b0 b1 b2
      exfalso
      clear hI0 hM hX hW hY hT hE hD hU hS hB hG K M27 M28 M29 M30 M31 M32 M33 M34 M35 M36 M37 M38 M39 M40 M41 M42 M43 M44 M45 M46 M47 M48 M49 X0 X1 X2 X3 X4 X5 X6 X7 X8 X9 X10 X11 X12 X13 W0 W1 W2 Y0 Y1 Y2 Y3 Y4 Y5 Y6 Y7 Y8 Y9 K2
      (try simp only [Int32.lt_iff_toInt_lt, Int32.le_iff_toInt_le, Int64.lt_iff_toInt_lt, Int64.le_iff_toInt_le, Int32.toInt_toInt64, ← Int32.toInt_inj, ← Int64.toInt_inj, n32_0, n32_1, n32_2, n32_3, n32_4, n32_6, n32_8, n32_9, n32_10, n32_20, n32_100, n32_120, n32_255, n32_400, n32_3600, n32_m1, n64_0, n64_1, n64_2, n64_3, n64_4, n64_5, n64_9, n64_19, n64_119, n64_255, n64_400, n64_3599, n64_1000000000, n64_1000000000000, n64_m1000000000000] at c0 c1 c2 c3 b0 b1 b2)
      first | contradiction | omega
    · intro b0 b1 b2 b3
      exfalso
      clear hI0 hM hX hW hY hT hE hD hU hS hB hG K M27 M28 M29 M30 M31 M32 M33 M34 M35 M36 M37 M38 M39 M40 M41 M42 M43 M44 M45 M46 M47 M48 M49 X0 X1 X2 X3 X4 X5 X6 X7 X8 X9 X10 X11 X12 X13 W0 W1 W2 Y0 Y1 Y2 Y3 Y4 Y5 Y6 Y7 Y8 Y9 K2
      (try simp only [Int32.lt_iff_toInt_lt, Int32.le_iff_toInt_le, Int64.lt_iff_toInt_lt, Int64.le_iff_toInt_le, Int32.toInt_toInt64, ← Int32.toInt_inj, ← Int64.toInt_inj, n32_0, n32_1, n32_2, n32_3, n32_4, n32_6, n32_8, n32_9, n32_10, n32_20, n32_100, n32_120, n32_255, n32_400, n32_3600, n32_m1, n64_0, n64_1, n64_2, n64_3, n64_4, n64_5, n64_9, n64_19, n64_119, n64_255, n64_400, n64_3599, n64_1000000000, n64_1000000000000, n64_m1000000000000] at c0 c1 c2 c3 b0 b1 b2 b3)
      first | contradiction | omega
    · intro b0 b1 b2 b3
      rw [j_bm_be (fun e he k hk => (hB.1 e he).2.2.2.2.2 k hk)]
      exact K2 _ (iV_up hI0)

set_option maxRecDepth 20000 in
theorem r_entry {l : Launch} {G : jG} {h : jH} {Q : Option Value → jH → Prop} {c : Nat} {n0 : Int32} {r0 : Int32} {w0 : Int32} (hc : c < 512) (hG : j_gok G) (hI : iV c h) (K : ∀ (vv : Int64) (h1 : jH), (∃ fs, h1.2 27 = some (jO 8 fs)) → (∀ Q2 : Option Value → jH → Prop, (∀ h2, iV (c + 1) h2 → Q2 (some (.long vv)) h2) → J l G mX8_entry 0 0 0 (lv_args 0 [.ref 27, .int n0, .int r0, .int w0]) [] h1 Q2) → Q (some (.long vv)) h1) : J l G mX7_entry 0 0 0 (lv_args 0 [.ref 0, .int n0, .int r0, .int w0]) [] h Q := by
  have hI0 := hI
  refine hI _ ?_
  clear hI
  intro L P T E C R R0 n ru dq dr op at_ fr wd ws we wn dd tx rs fs ro sh dy se ey er tk tn ac f1 f2 f3 f4 g1 g2 g3 g4 da lo ad sa co pa ss w1 w2 w3 am pw ps cu dm ta ea shp tb eb rr rn cst prt eam dys eac shs hM hX hW hY hT hE hD hN hU hS hB
  obtain ⟨M27, M28, M29, M30, M31, M32, M33, M34, M35, M36, M37, M38, M39, M40, M41, M42, M43, M44, M45, M46, M47, M48, M49⟩ := id hM
  obtain ⟨X0, X1, X2, X3, X4, X5, X6, X7, X8, X9, X10, X11, X12, X13⟩ := id hX
  obtain ⟨W0, W1, W2⟩ := id hW
  obtain ⟨Y0, Y1, Y2, Y3, Y4, Y5, Y6, Y7, Y8, Y9⟩ := id hY
  obtain ⟨hL, hP, hT20, hE60, hC, hR, hR0, hn, hrd, hop⟩ := id hN
  refine s_X7_entry X0 X12 X13 (fun e he => (hE e he).1) (fun e he => (hE e he).2.1) (fun e he => (hE e he).2.2) hE60 (fun e he => (hB.1 e he).1) (fun e he => (hB.1 e he).2.2.1) ?_ ?_ ?_ ?_ ?_ ?_ ?_ ?_ ?_ ?_ ?_ ?_ ?_
  · intro c0
    refine K _ _ ⟨_, M27⟩ (fun Q2 K2 => ?_)
    refine s_X8_entry M27 M44 M45 M46 M47 M48 M49 hE60 (fun e he => ⟨(hB.1 e he).2.1, (hB.1 e he).2.2.1⟩) ?_ ?_ ?_ ?_ ?_ ?_ ?_ ?_ ?_ ?_ ?_ ?_
    · intro b0
      exact K2 _ (iV_up hI0)
    · intro b0 b1
      exfalso
      clear hI0 hM hX hW hY hT hE hD hU hS hB hG K M27 M28 M29 M30 M31 M32 M33 M34 M35 M36 M37 M38 M39 M40 M41 M42 M43 M44 M45 M46 M47 M48 M49 X0 X1 X2 X3 X4 X5 X6 X7 X8 X9 X10 X11 X12 X13 W0 W1 W2 Y0 Y1 Y2 Y3 Y4 Y5 Y6 Y7 Y8 Y9 K2
      (try simp only [Int32.lt_iff_toInt_lt, Int32.le_iff_toInt_le, Int64.lt_iff_toInt_lt, Int64.le_iff_toInt_le, Int32.toInt_toInt64, ← Int32.toInt_inj, ← Int64.toInt_inj, n32_0, n32_1, n32_2, n32_3, n32_4, n32_6, n32_8, n32_9, n32_10, n32_20, n32_100, n32_120, n32_255, n32_400, n32_3600, n32_m1, n64_0, n64_1, n64_2, n64_3, n64_4, n64_5, n64_9, n64_19, n64_119, n64_255, n64_400, n64_3599, n64_1000000000, n64_1000000000000, n64_m1000000000000] at c0 b0 b1)
      first | contradiction | omega
    · intro b0 b1 bt2 be2 bh2 b3 b4
      exfalso
      clear hI0 hM hX hW hY hT hE hD hU hS hB hG K M27 M28 M29 M30 M31 M32 M33 M34 M35 M36 M37 M38 M39 M40 M41 M42 M43 M44 M45 M46 M47 M48 M49 X0 X1 X2 X3 X4 X5 X6 X7 X8 X9 X10 X11 X12 X13 W0 W1 W2 Y0 Y1 Y2 Y3 Y4 Y5 Y6 Y7 Y8 Y9 K2
      (try simp only [Int32.lt_iff_toInt_lt, Int32.le_iff_toInt_le, Int64.lt_iff_toInt_lt, Int64.le_iff_toInt_le, Int32.toInt_toInt64, ← Int32.toInt_inj, ← Int64.toInt_inj, n32_0, n32_1, n32_2, n32_3, n32_4, n32_6, n32_8, n32_9, n32_10, n32_20, n32_100, n32_120, n32_255, n32_400, n32_3600, n32_m1, n64_0, n64_1, n64_2, n64_3, n64_4, n64_5, n64_9, n64_19, n64_119, n64_255, n64_400, n64_3599, n64_1000000000, n64_1000000000000, n64_m1000000000000] at c0 b0 b1 b3 b4)
      first | contradiction | omega
    · intro b0 b1 bt2 be2 bh2 b3 b4 b5 bt6 be6 bh6 b7 b8
      exfalso
      clear hI0 hM hX hW hY hT hE hD hU hS hB hG K M27 M28 M29 M30 M31 M32 M33 M34 M35 M36 M37 M38 M39 M40 M41 M42 M43 M44 M45 M46 M47 M48 M49 X0 X1 X2 X3 X4 X5 X6 X7 X8 X9 X10 X11 X12 X13 W0 W1 W2 Y0 Y1 Y2 Y3 Y4 Y5 Y6 Y7 Y8 Y9 K2
      (try simp only [Int32.lt_iff_toInt_lt, Int32.le_iff_toInt_le, Int64.lt_iff_toInt_lt, Int64.le_iff_toInt_le, Int32.toInt_toInt64, ← Int32.toInt_inj, ← Int64.toInt_inj, n32_0, n32_1, n32_2, n32_3, n32_4, n32_6, n32_8, n32_9, n32_10, n32_20, n32_100, n32_120, n32_255, n32_400, n32_3600, n32_m1, n64_0, n64_1, n64_2, n64_3, n64_4, n64_5, n64_9, n64_19, n64_119, n64_255, n64_400, n64_3599, n64_1000000000, n64_1000000000000, n64_m1000000000000] at c0 b0 b1 b3 b4 b5 b7 b8)
      first | contradiction | omega
    · intro b0 b1 bt2 be2 bh2 b3 b4 b5 bt6 be6 bh6 b7 b8
      exfalso
      clear hI0 hM hX hW hY hT hE hD hU hS hB hG K M27 M28 M29 M30 M31 M32 M33 M34 M35 M36 M37 M38 M39 M40 M41 M42 M43 M44 M45 M46 M47 M48 M49 X0 X1 X2 X3 X4 X5 X6 X7 X8 X9 X10 X11 X12 X13 W0 W1 W2 Y0 Y1 Y2 Y3 Y4 Y5 Y6 Y7 Y8 Y9 K2
      (try simp only [Int32.lt_iff_toInt_lt, Int32.le_iff_toInt_le, Int64.lt_iff_toInt_lt, Int64.le_iff_toInt_le, Int32.toInt_toInt64, ← Int32.toInt_inj, ← Int64.toInt_inj, n32_0, n32_1, n32_2, n32_3, n32_4, n32_6, n32_8, n32_9, n32_10, n32_20, n32_100, n32_120, n32_255, n32_400, n32_3600, n32_m1, n64_0, n64_1, n64_2, n64_3, n64_4, n64_5, n64_9, n64_19, n64_119, n64_255, n64_400, n64_3599, n64_1000000000, n64_1000000000000, n64_m1000000000000] at c0 b0 b1 b3 b4 b5 b7 b8)
      first | contradiction | omega
    · intro b0 b1 bt2 be2 bh2 b3 b4 b5 bt6 be6 bh6 b7
      exfalso
      clear hI0 hM hX hW hY hT hE hD hU hS hB hG K M27 M28 M29 M30 M31 M32 M33 M34 M35 M36 M37 M38 M39 M40 M41 M42 M43 M44 M45 M46 M47 M48 M49 X0 X1 X2 X3 X4 X5 X6 X7 X8 X9 X10 X11 X12 X13 W0 W1 W2 Y0 Y1 Y2 Y3 Y4 Y5 Y6 Y7 Y8 Y9 K2
      (try simp only [Int32.lt_iff_toInt_lt, Int32.le_iff_toInt_le, Int64.lt_iff_toInt_lt, Int64.le_iff_toInt_le, Int32.toInt_toInt64, ← Int32.toInt_inj, ← Int64.toInt_inj, n32_0, n32_1, n32_2, n32_3, n32_4, n32_6, n32_8, n32_9, n32_10, n32_20, n32_100, n32_120, n32_255, n32_400, n32_3600, n32_m1, n64_0, n64_1, n64_2, n64_3, n64_4, n64_5, n64_9, n64_19, n64_119, n64_255, n64_400, n64_3599, n64_1000000000, n64_1000000000000, n64_m1000000000000] at c0 b0 b1 b3 b4 b5 b7)
      first | contradiction | omega
    · intro b0 b1 bt2 be2 bh2 b3 b4 b5
      exfalso
      clear hI0 hM hX hW hY hT hE hD hU hS hB hG K M27 M28 M29 M30 M31 M32 M33 M34 M35 M36 M37 M38 M39 M40 M41 M42 M43 M44 M45 M46 M47 M48 M49 X0 X1 X2 X3 X4 X5 X6 X7 X8 X9 X10 X11 X12 X13 W0 W1 W2 Y0 Y1 Y2 Y3 Y4 Y5 Y6 Y7 Y8 Y9 K2
      (try simp only [Int32.lt_iff_toInt_lt, Int32.le_iff_toInt_le, Int64.lt_iff_toInt_lt, Int64.le_iff_toInt_le, Int32.toInt_toInt64, ← Int32.toInt_inj, ← Int64.toInt_inj, n32_0, n32_1, n32_2, n32_3, n32_4, n32_6, n32_8, n32_9, n32_10, n32_20, n32_100, n32_120, n32_255, n32_400, n32_3600, n32_m1, n64_0, n64_1, n64_2, n64_3, n64_4, n64_5, n64_9, n64_19, n64_119, n64_255, n64_400, n64_3599, n64_1000000000, n64_1000000000000, n64_m1000000000000] at c0 b0 b1 b3 b4 b5)
      first | contradiction | omega
    · intro b0 b1 bt2 be2 bh2 b3 b4 b5 b6 b7
      exfalso
      clear hI0 hM hX hW hY hT hE hD hU hS hB hG K M27 M28 M29 M30 M31 M32 M33 M34 M35 M36 M37 M38 M39 M40 M41 M42 M43 M44 M45 M46 M47 M48 M49 X0 X1 X2 X3 X4 X5 X6 X7 X8 X9 X10 X11 X12 X13 W0 W1 W2 Y0 Y1 Y2 Y3 Y4 Y5 Y6 Y7 Y8 Y9 K2
      (try simp only [Int32.lt_iff_toInt_lt, Int32.le_iff_toInt_le, Int64.lt_iff_toInt_lt, Int64.le_iff_toInt_le, Int32.toInt_toInt64, ← Int32.toInt_inj, ← Int64.toInt_inj, n32_0, n32_1, n32_2, n32_3, n32_4, n32_6, n32_8, n32_9, n32_10, n32_20, n32_100, n32_120, n32_255, n32_400, n32_3600, n32_m1, n64_0, n64_1, n64_2, n64_3, n64_4, n64_5, n64_9, n64_19, n64_119, n64_255, n64_400, n64_3599, n64_1000000000, n64_1000000000000, n64_m1000000000000] at c0 b0 b1 b3 b4 b5 b6 b7)
      first | contradiction | omega
    · intro b0 b1 bt2 be2 bh2 b3 b4 b5 b6 b7
      exfalso
      clear hI0 hM hX hW hY hT hE hD hU hS hB hG K M27 M28 M29 M30 M31 M32 M33 M34 M35 M36 M37 M38 M39 M40 M41 M42 M43 M44 M45 M46 M47 M48 M49 X0 X1 X2 X3 X4 X5 X6 X7 X8 X9 X10 X11 X12 X13 W0 W1 W2 Y0 Y1 Y2 Y3 Y4 Y5 Y6 Y7 Y8 Y9 K2
      (try simp only [Int32.lt_iff_toInt_lt, Int32.le_iff_toInt_le, Int64.lt_iff_toInt_lt, Int64.le_iff_toInt_le, Int32.toInt_toInt64, ← Int32.toInt_inj, ← Int64.toInt_inj, n32_0, n32_1, n32_2, n32_3, n32_4, n32_6, n32_8, n32_9, n32_10, n32_20, n32_100, n32_120, n32_255, n32_400, n32_3600, n32_m1, n64_0, n64_1, n64_2, n64_3, n64_4, n64_5, n64_9, n64_19, n64_119, n64_255, n64_400, n64_3599, n64_1000000000, n64_1000000000000, n64_m1000000000000] at c0 b0 b1 b3 b4 b5 b6 b7)
      first | contradiction | omega
    · intro b0 b1 bt2 be2 bh2 b3 b4 b5 b6
      exfalso
      clear hI0 hM hX hW hY hT hE hD hU hS hB hG K M27 M28 M29 M30 M31 M32 M33 M34 M35 M36 M37 M38 M39 M40 M41 M42 M43 M44 M45 M46 M47 M48 M49 X0 X1 X2 X3 X4 X5 X6 X7 X8 X9 X10 X11 X12 X13 W0 W1 W2 Y0 Y1 Y2 Y3 Y4 Y5 Y6 Y7 Y8 Y9 K2
      (try simp only [Int32.lt_iff_toInt_lt, Int32.le_iff_toInt_le, Int64.lt_iff_toInt_lt, Int64.le_iff_toInt_le, Int32.toInt_toInt64, ← Int32.toInt_inj, ← Int64.toInt_inj, n32_0, n32_1, n32_2, n32_3, n32_4, n32_6, n32_8, n32_9, n32_10, n32_20, n32_100, n32_120, n32_255, n32_400, n32_3600, n32_m1, n64_0, n64_1, n64_2, n64_3, n64_4, n64_5, n64_9, n64_19, n64_119, n64_255, n64_400, n64_3599, n64_1000000000, n64_1000000000000, n64_m1000000000000] at c0 b0 b1 b3 b4 b5 b6)
      first | contradiction | omega
    · intro b0 b1 bt2 be2 bh2 b3 b4 b5
      exfalso
      clear hI0 hM hX hW hY hT hE hD hU hS hB hG K M27 M28 M29 M30 M31 M32 M33 M34 M35 M36 M37 M38 M39 M40 M41 M42 M43 M44 M45 M46 M47 M48 M49 X0 X1 X2 X3 X4 X5 X6 X7 X8 X9 X10 X11 X12 X13 W0 W1 W2 Y0 Y1 Y2 Y3 Y4 Y5 Y6 Y7 Y8 Y9 K2
      (try simp only [Int32.lt_iff_toInt_lt, Int32.le_iff_toInt_le, Int64.lt_iff_toInt_lt, Int64.le_iff_toInt_le, Int32.toInt_toInt64, ← Int32.toInt_inj, ← Int64.toInt_inj, n32_0, n32_1, n32_2, n32_3, n32_4, n32_6, n32_8, n32_9, n32_10, n32_20, n32_100, n32_120, n32_255, n32_400, n32_3600, n32_m1, n64_0, n64_1, n64_2, n64_3, n64_4, n64_5, n64_9, n64_19, n64_119, n64_255, n64_400, n64_3599, n64_1000000000, n64_1000000000000, n64_m1000000000000] at c0 b0 b1 b3 b4 b5)
      first | contradiction | omega
    · intro b0 b1 bt2 be2 bh2 b3 b4
      exfalso
      clear hI0 hM hX hW hY hT hE hD hU hS hB hG K M27 M28 M29 M30 M31 M32 M33 M34 M35 M36 M37 M38 M39 M40 M41 M42 M43 M44 M45 M46 M47 M48 M49 X0 X1 X2 X3 X4 X5 X6 X7 X8 X9 X10 X11 X12 X13 W0 W1 W2 Y0 Y1 Y2 Y3 Y4 Y5 Y6 Y7 Y8 Y9 K2
      (try simp only [Int32.lt_iff_toInt_lt, Int32.le_iff_toInt_le, Int64.lt_iff_toInt_lt, Int64.le_iff_toInt_le, Int32.toInt_toInt64, ← Int32.toInt_inj, ← Int64.toInt_inj, n32_0, n32_1, n32_2, n32_3, n32_4, n32_6, n32_8, n32_9, n32_10, n32_20, n32_100, n32_120, n32_255, n32_400, n32_3600, n32_m1, n64_0, n64_1, n64_2, n64_3, n64_4, n64_5, n64_9, n64_19, n64_119, n64_255, n64_400, n64_3599, n64_1000000000, n64_1000000000000, n64_m1000000000000] at c0 b0 b1 b3 b4)
      first | contradiction | omega
  · intro c0 c1
    refine K _ _ ⟨_, M27⟩ (fun Q2 K2 => ?_)
    refine s_X8_entry M27 M44 M45 M46 M47 M48 M49 hE60 (fun e he => ⟨(hB.1 e he).2.1, (hB.1 e he).2.2.1⟩) ?_ ?_ ?_ ?_ ?_ ?_ ?_ ?_ ?_ ?_ ?_ ?_
    · intro b0
      exfalso
      clear hI0 hM hX hW hY hT hE hD hU hS hB hG K M27 M28 M29 M30 M31 M32 M33 M34 M35 M36 M37 M38 M39 M40 M41 M42 M43 M44 M45 M46 M47 M48 M49 X0 X1 X2 X3 X4 X5 X6 X7 X8 X9 X10 X11 X12 X13 W0 W1 W2 Y0 Y1 Y2 Y3 Y4 Y5 Y6 Y7 Y8 Y9 K2
      (try simp only [Int32.lt_iff_toInt_lt, Int32.le_iff_toInt_le, Int64.lt_iff_toInt_lt, Int64.le_iff_toInt_le, Int32.toInt_toInt64, ← Int32.toInt_inj, ← Int64.toInt_inj, n32_0, n32_1, n32_2, n32_3, n32_4, n32_6, n32_8, n32_9, n32_10, n32_20, n32_100, n32_120, n32_255, n32_400, n32_3600, n32_m1, n64_0, n64_1, n64_2, n64_3, n64_4, n64_5, n64_9, n64_19, n64_119, n64_255, n64_400, n64_3599, n64_1000000000, n64_1000000000000, n64_m1000000000000] at c0 c1 b0)
      first | contradiction | omega
    · intro b0 b1
      exact K2 _ (iV_up hI0)
    · intro b0 b1 bt2 be2 bh2 b3 b4
      exfalso
      clear hI0 hM hX hW hY hT hE hD hU hS hB hG K M27 M28 M29 M30 M31 M32 M33 M34 M35 M36 M37 M38 M39 M40 M41 M42 M43 M44 M45 M46 M47 M48 M49 X0 X1 X2 X3 X4 X5 X6 X7 X8 X9 X10 X11 X12 X13 W0 W1 W2 Y0 Y1 Y2 Y3 Y4 Y5 Y6 Y7 Y8 Y9 K2
      (try simp only [Int32.lt_iff_toInt_lt, Int32.le_iff_toInt_le, Int64.lt_iff_toInt_lt, Int64.le_iff_toInt_le, Int32.toInt_toInt64, ← Int32.toInt_inj, ← Int64.toInt_inj, n32_0, n32_1, n32_2, n32_3, n32_4, n32_6, n32_8, n32_9, n32_10, n32_20, n32_100, n32_120, n32_255, n32_400, n32_3600, n32_m1, n64_0, n64_1, n64_2, n64_3, n64_4, n64_5, n64_9, n64_19, n64_119, n64_255, n64_400, n64_3599, n64_1000000000, n64_1000000000000, n64_m1000000000000] at c0 c1 b0 b1 b3 b4)
      first | contradiction | omega
    · intro b0 b1 bt2 be2 bh2 b3 b4 b5 bt6 be6 bh6 b7 b8
      exfalso
      clear hI0 hM hX hW hY hT hE hD hU hS hB hG K M27 M28 M29 M30 M31 M32 M33 M34 M35 M36 M37 M38 M39 M40 M41 M42 M43 M44 M45 M46 M47 M48 M49 X0 X1 X2 X3 X4 X5 X6 X7 X8 X9 X10 X11 X12 X13 W0 W1 W2 Y0 Y1 Y2 Y3 Y4 Y5 Y6 Y7 Y8 Y9 K2
      (try simp only [Int32.lt_iff_toInt_lt, Int32.le_iff_toInt_le, Int64.lt_iff_toInt_lt, Int64.le_iff_toInt_le, Int32.toInt_toInt64, ← Int32.toInt_inj, ← Int64.toInt_inj, n32_0, n32_1, n32_2, n32_3, n32_4, n32_6, n32_8, n32_9, n32_10, n32_20, n32_100, n32_120, n32_255, n32_400, n32_3600, n32_m1, n64_0, n64_1, n64_2, n64_3, n64_4, n64_5, n64_9, n64_19, n64_119, n64_255, n64_400, n64_3599, n64_1000000000, n64_1000000000000, n64_m1000000000000] at c0 c1 b0 b1 b3 b4 b5 b7 b8)
      first | contradiction | omega
    · intro b0 b1 bt2 be2 bh2 b3 b4 b5 bt6 be6 bh6 b7 b8
      exfalso
      clear hI0 hM hX hW hY hT hE hD hU hS hB hG K M27 M28 M29 M30 M31 M32 M33 M34 M35 M36 M37 M38 M39 M40 M41 M42 M43 M44 M45 M46 M47 M48 M49 X0 X1 X2 X3 X4 X5 X6 X7 X8 X9 X10 X11 X12 X13 W0 W1 W2 Y0 Y1 Y2 Y3 Y4 Y5 Y6 Y7 Y8 Y9 K2
      (try simp only [Int32.lt_iff_toInt_lt, Int32.le_iff_toInt_le, Int64.lt_iff_toInt_lt, Int64.le_iff_toInt_le, Int32.toInt_toInt64, ← Int32.toInt_inj, ← Int64.toInt_inj, n32_0, n32_1, n32_2, n32_3, n32_4, n32_6, n32_8, n32_9, n32_10, n32_20, n32_100, n32_120, n32_255, n32_400, n32_3600, n32_m1, n64_0, n64_1, n64_2, n64_3, n64_4, n64_5, n64_9, n64_19, n64_119, n64_255, n64_400, n64_3599, n64_1000000000, n64_1000000000000, n64_m1000000000000] at c0 c1 b0 b1 b3 b4 b5 b7 b8)
      first | contradiction | omega
    · intro b0 b1 bt2 be2 bh2 b3 b4 b5 bt6 be6 bh6 b7
      exfalso
      clear hI0 hM hX hW hY hT hE hD hU hS hB hG K M27 M28 M29 M30 M31 M32 M33 M34 M35 M36 M37 M38 M39 M40 M41 M42 M43 M44 M45 M46 M47 M48 M49 X0 X1 X2 X3 X4 X5 X6 X7 X8 X9 X10 X11 X12 X13 W0 W1 W2 Y0 Y1 Y2 Y3 Y4 Y5 Y6 Y7 Y8 Y9 K2
      (try simp only [Int32.lt_iff_toInt_lt, Int32.le_iff_toInt_le, Int64.lt_iff_toInt_lt, Int64.le_iff_toInt_le, Int32.toInt_toInt64, ← Int32.toInt_inj, ← Int64.toInt_inj, n32_0, n32_1, n32_2, n32_3, n32_4, n32_6, n32_8, n32_9, n32_10, n32_20, n32_100, n32_120, n32_255, n32_400, n32_3600, n32_m1, n64_0, n64_1, n64_2, n64_3, n64_4, n64_5, n64_9, n64_19, n64_119, n64_255, n64_400, n64_3599, n64_1000000000, n64_1000000000000, n64_m1000000000000] at c0 c1 b0 b1 b3 b4 b5 b7)
      first | contradiction | omega
    · intro b0 b1 bt2 be2 bh2 b3 b4 b5
      exfalso
      clear hI0 hM hX hW hY hT hE hD hU hS hB hG K M27 M28 M29 M30 M31 M32 M33 M34 M35 M36 M37 M38 M39 M40 M41 M42 M43 M44 M45 M46 M47 M48 M49 X0 X1 X2 X3 X4 X5 X6 X7 X8 X9 X10 X11 X12 X13 W0 W1 W2 Y0 Y1 Y2 Y3 Y4 Y5 Y6 Y7 Y8 Y9 K2
      (try simp only [Int32.lt_iff_toInt_lt, Int32.le_iff_toInt_le, Int64.lt_iff_toInt_lt, Int64.le_iff_toInt_le, Int32.toInt_toInt64, ← Int32.toInt_inj, ← Int64.toInt_inj, n32_0, n32_1, n32_2, n32_3, n32_4, n32_6, n32_8, n32_9, n32_10, n32_20, n32_100, n32_120, n32_255, n32_400, n32_3600, n32_m1, n64_0, n64_1, n64_2, n64_3, n64_4, n64_5, n64_9, n64_19, n64_119, n64_255, n64_400, n64_3599, n64_1000000000, n64_1000000000000, n64_m1000000000000] at c0 c1 b0 b1 b3 b4 b5)
      first | contradiction | omega
    · intro b0 b1 bt2 be2 bh2 b3 b4 b5 b6 b7
      exfalso
      clear hI0 hM hX hW hY hT hE hD hU hS hB hG K M27 M28 M29 M30 M31 M32 M33 M34 M35 M36 M37 M38 M39 M40 M41 M42 M43 M44 M45 M46 M47 M48 M49 X0 X1 X2 X3 X4 X5 X6 X7 X8 X9 X10 X11 X12 X13 W0 W1 W2 Y0 Y1 Y2 Y3 Y4 Y5 Y6 Y7 Y8 Y9 K2
      (try simp only [Int32.lt_iff_toInt_lt, Int32.le_iff_toInt_le, Int64.lt_iff_toInt_lt, Int64.le_iff_toInt_le, Int32.toInt_toInt64, ← Int32.toInt_inj, ← Int64.toInt_inj, n32_0, n32_1, n32_2, n32_3, n32_4, n32_6, n32_8, n32_9, n32_10, n32_20, n32_100, n32_120, n32_255, n32_400, n32_3600, n32_m1, n64_0, n64_1, n64_2, n64_3, n64_4, n64_5, n64_9, n64_19, n64_119, n64_255, n64_400, n64_3599, n64_1000000000, n64_1000000000000, n64_m1000000000000] at c0 c1 b0 b1 b3 b4 b5 b6 b7)
      first | contradiction | omega
    · intro b0 b1 bt2 be2 bh2 b3 b4 b5 b6 b7
      exfalso
      clear hI0 hM hX hW hY hT hE hD hU hS hB hG K M27 M28 M29 M30 M31 M32 M33 M34 M35 M36 M37 M38 M39 M40 M41 M42 M43 M44 M45 M46 M47 M48 M49 X0 X1 X2 X3 X4 X5 X6 X7 X8 X9 X10 X11 X12 X13 W0 W1 W2 Y0 Y1 Y2 Y3 Y4 Y5 Y6 Y7 Y8 Y9 K2
      (try simp only [Int32.lt_iff_toInt_lt, Int32.le_iff_toInt_le, Int64.lt_iff_toInt_lt, Int64.le_iff_toInt_le, Int32.toInt_toInt64, ← Int32.toInt_inj, ← Int64.toInt_inj, n32_0, n32_1, n32_2, n32_3, n32_4, n32_6, n32_8, n32_9, n32_10, n32_20, n32_100, n32_120, n32_255, n32_400, n32_3600, n32_m1, n64_0, n64_1, n64_2, n64_3, n64_4, n64_5, n64_9, n64_19, n64_119, n64_255, n64_400, n64_3599, n64_1000000000, n64_1000000000000, n64_m1000000000000] at c0 c1 b0 b1 b3 b4 b5 b6 b7)
      first | contradiction | omega
    · intro b0 b1 bt2 be2 bh2 b3 b4 b5 b6
      exfalso
      clear hI0 hM hX hW hY hT hE hD hU hS hB hG K M27 M28 M29 M30 M31 M32 M33 M34 M35 M36 M37 M38 M39 M40 M41 M42 M43 M44 M45 M46 M47 M48 M49 X0 X1 X2 X3 X4 X5 X6 X7 X8 X9 X10 X11 X12 X13 W0 W1 W2 Y0 Y1 Y2 Y3 Y4 Y5 Y6 Y7 Y8 Y9 K2
      (try simp only [Int32.lt_iff_toInt_lt, Int32.le_iff_toInt_le, Int64.lt_iff_toInt_lt, Int64.le_iff_toInt_le, Int32.toInt_toInt64, ← Int32.toInt_inj, ← Int64.toInt_inj, n32_0, n32_1, n32_2, n32_3, n32_4, n32_6, n32_8, n32_9, n32_10, n32_20, n32_100, n32_120, n32_255, n32_400, n32_3600, n32_m1, n64_0, n64_1, n64_2, n64_3, n64_4, n64_5, n64_9, n64_19, n64_119, n64_255, n64_400, n64_3599, n64_1000000000, n64_1000000000000, n64_m1000000000000] at c0 c1 b0 b1 b3 b4 b5 b6)
      first | contradiction | omega
    · intro b0 b1 bt2 be2 bh2 b3 b4 b5
      exfalso
      clear hI0 hM hX hW hY hT hE hD hU hS hB hG K M27 M28 M29 M30 M31 M32 M33 M34 M35 M36 M37 M38 M39 M40 M41 M42 M43 M44 M45 M46 M47 M48 M49 X0 X1 X2 X3 X4 X5 X6 X7 X8 X9 X10 X11 X12 X13 W0 W1 W2 Y0 Y1 Y2 Y3 Y4 Y5 Y6 Y7 Y8 Y9 K2
      (try simp only [Int32.lt_iff_toInt_lt, Int32.le_iff_toInt_le, Int64.lt_iff_toInt_lt, Int64.le_iff_toInt_le, Int32.toInt_toInt64, ← Int32.toInt_inj, ← Int64.toInt_inj, n32_0, n32_1, n32_2, n32_3, n32_4, n32_6, n32_8, n32_9, n32_10, n32_20, n32_100, n32_120, n32_255, n32_400, n32_3600, n32_m1, n64_0, n64_1, n64_2, n64_3, n64_4, n64_5, n64_9, n64_19, n64_119, n64_255, n64_400, n64_3599, n64_1000000000, n64_1000000000000, n64_m1000000000000] at c0 c1 b0 b1 b3 b4 b5)
      first | contradiction | omega
    · intro b0 b1 bt2 be2 bh2 b3 b4
      exfalso
      clear hI0 hM hX hW hY hT hE hD hU hS hB hG K M27 M28 M29 M30 M31 M32 M33 M34 M35 M36 M37 M38 M39 M40 M41 M42 M43 M44 M45 M46 M47 M48 M49 X0 X1 X2 X3 X4 X5 X6 X7 X8 X9 X10 X11 X12 X13 W0 W1 W2 Y0 Y1 Y2 Y3 Y4 Y5 Y6 Y7 Y8 Y9 K2
      (try simp only [Int32.lt_iff_toInt_lt, Int32.le_iff_toInt_le, Int64.lt_iff_toInt_lt, Int64.le_iff_toInt_le, Int32.toInt_toInt64, ← Int32.toInt_inj, ← Int64.toInt_inj, n32_0, n32_1, n32_2, n32_3, n32_4, n32_6, n32_8, n32_9, n32_10, n32_20, n32_100, n32_120, n32_255, n32_400, n32_3600, n32_m1, n64_0, n64_1, n64_2, n64_3, n64_4, n64_5, n64_9, n64_19, n64_119, n64_255, n64_400, n64_3599, n64_1000000000, n64_1000000000000, n64_m1000000000000] at c0 c1 b0 b1 b3 b4)
      first | contradiction | omega
  · intro c0 c1 ct2 ce2 ch2 c3 c4
    subst ce2
    have hr8 := (hB.1 ct2 ch2).2.2.1
    refine K _ _ ⟨_, M27⟩ (fun Q2 K2 => ?_)
    refine s_X8_entry M27 M44 M45 M46 M47 M48 M49 hE60 (fun e he => ⟨(hB.1 e he).2.1, (hB.1 e he).2.2.1⟩) ?_ ?_ ?_ ?_ ?_ ?_ ?_ ?_ ?_ ?_ ?_ ?_
    · intro b0
      exfalso
      clear hI0 hM hX hW hY hT hE hD hU hS hB hG K M27 M28 M29 M30 M31 M32 M33 M34 M35 M36 M37 M38 M39 M40 M41 M42 M43 M44 M45 M46 M47 M48 M49 X0 X1 X2 X3 X4 X5 X6 X7 X8 X9 X10 X11 X12 X13 W0 W1 W2 Y0 Y1 Y2 Y3 Y4 Y5 Y6 Y7 Y8 Y9 K2
      (try simp only [Int32.lt_iff_toInt_lt, Int32.le_iff_toInt_le, Int64.lt_iff_toInt_lt, Int64.le_iff_toInt_le, Int32.toInt_toInt64, ← Int32.toInt_inj, ← Int64.toInt_inj, n32_0, n32_1, n32_2, n32_3, n32_4, n32_6, n32_8, n32_9, n32_10, n32_20, n32_100, n32_120, n32_255, n32_400, n32_3600, n32_m1, n64_0, n64_1, n64_2, n64_3, n64_4, n64_5, n64_9, n64_19, n64_119, n64_255, n64_400, n64_3599, n64_1000000000, n64_1000000000000, n64_m1000000000000] at c0 c1 c3 c4 b0)
      first | contradiction | omega
    · intro b0 b1
      exfalso
      clear hI0 hM hX hW hY hT hE hD hU hS hB hG K M27 M28 M29 M30 M31 M32 M33 M34 M35 M36 M37 M38 M39 M40 M41 M42 M43 M44 M45 M46 M47 M48 M49 X0 X1 X2 X3 X4 X5 X6 X7 X8 X9 X10 X11 X12 X13 W0 W1 W2 Y0 Y1 Y2 Y3 Y4 Y5 Y6 Y7 Y8 Y9 K2
      (try simp only [Int32.lt_iff_toInt_lt, Int32.le_iff_toInt_le, Int64.lt_iff_toInt_lt, Int64.le_iff_toInt_le, Int32.toInt_toInt64, ← Int32.toInt_inj, ← Int64.toInt_inj, n32_0, n32_1, n32_2, n32_3, n32_4, n32_6, n32_8, n32_9, n32_10, n32_20, n32_100, n32_120, n32_255, n32_400, n32_3600, n32_m1, n64_0, n64_1, n64_2, n64_3, n64_4, n64_5, n64_9, n64_19, n64_119, n64_255, n64_400, n64_3599, n64_1000000000, n64_1000000000000, n64_m1000000000000] at c0 c1 c3 c4 b0 b1)
      first | contradiction | omega
    · intro b0 b1 bt2 be2 bh2 b3 b4
      obtain rfl : ct2 = bt2 := by have z := nI_inj2 be2 (by omega) (by omega); omega
      exact K2 _ (iV_up hI0)
    · intro b0 b1 bt2 be2 bh2 b3 b4 b5 bt6 be6 bh6 b7 b8
      obtain rfl : ct2 = bt2 := by have z := nI_inj2 be2 (by omega) (by omega); omega
      exfalso
      clear hI0 hM hX hW hY hT hE hD hU hS hB hG K M27 M28 M29 M30 M31 M32 M33 M34 M35 M36 M37 M38 M39 M40 M41 M42 M43 M44 M45 M46 M47 M48 M49 X0 X1 X2 X3 X4 X5 X6 X7 X8 X9 X10 X11 X12 X13 W0 W1 W2 Y0 Y1 Y2 Y3 Y4 Y5 Y6 Y7 Y8 Y9 K2
      (try simp only [Int32.lt_iff_toInt_lt, Int32.le_iff_toInt_le, Int64.lt_iff_toInt_lt, Int64.le_iff_toInt_le, Int32.toInt_toInt64, ← Int32.toInt_inj, ← Int64.toInt_inj, n32_0, n32_1, n32_2, n32_3, n32_4, n32_6, n32_8, n32_9, n32_10, n32_20, n32_100, n32_120, n32_255, n32_400, n32_3600, n32_m1, n64_0, n64_1, n64_2, n64_3, n64_4, n64_5, n64_9, n64_19, n64_119, n64_255, n64_400, n64_3599, n64_1000000000, n64_1000000000000, n64_m1000000000000] at c0 c1 c3 c4 b0 b1 b3 b4 b5 b7 b8)
      first | contradiction | omega
    · intro b0 b1 bt2 be2 bh2 b3 b4 b5 bt6 be6 bh6 b7 b8
      obtain rfl : ct2 = bt2 := by have z := nI_inj2 be2 (by omega) (by omega); omega
      exfalso
      clear hI0 hM hX hW hY hT hE hD hU hS hB hG K M27 M28 M29 M30 M31 M32 M33 M34 M35 M36 M37 M38 M39 M40 M41 M42 M43 M44 M45 M46 M47 M48 M49 X0 X1 X2 X3 X4 X5 X6 X7 X8 X9 X10 X11 X12 X13 W0 W1 W2 Y0 Y1 Y2 Y3 Y4 Y5 Y6 Y7 Y8 Y9 K2
      (try simp only [Int32.lt_iff_toInt_lt, Int32.le_iff_toInt_le, Int64.lt_iff_toInt_lt, Int64.le_iff_toInt_le, Int32.toInt_toInt64, ← Int32.toInt_inj, ← Int64.toInt_inj, n32_0, n32_1, n32_2, n32_3, n32_4, n32_6, n32_8, n32_9, n32_10, n32_20, n32_100, n32_120, n32_255, n32_400, n32_3600, n32_m1, n64_0, n64_1, n64_2, n64_3, n64_4, n64_5, n64_9, n64_19, n64_119, n64_255, n64_400, n64_3599, n64_1000000000, n64_1000000000000, n64_m1000000000000] at c0 c1 c3 c4 b0 b1 b3 b4 b5 b7 b8)
      first | contradiction | omega
    · intro b0 b1 bt2 be2 bh2 b3 b4 b5 bt6 be6 bh6 b7
      obtain rfl : ct2 = bt2 := by have z := nI_inj2 be2 (by omega) (by omega); omega
      exfalso
      clear hI0 hM hX hW hY hT hE hD hU hS hB hG K M27 M28 M29 M30 M31 M32 M33 M34 M35 M36 M37 M38 M39 M40 M41 M42 M43 M44 M45 M46 M47 M48 M49 X0 X1 X2 X3 X4 X5 X6 X7 X8 X9 X10 X11 X12 X13 W0 W1 W2 Y0 Y1 Y2 Y3 Y4 Y5 Y6 Y7 Y8 Y9 K2
      (try simp only [Int32.lt_iff_toInt_lt, Int32.le_iff_toInt_le, Int64.lt_iff_toInt_lt, Int64.le_iff_toInt_le, Int32.toInt_toInt64, ← Int32.toInt_inj, ← Int64.toInt_inj, n32_0, n32_1, n32_2, n32_3, n32_4, n32_6, n32_8, n32_9, n32_10, n32_20, n32_100, n32_120, n32_255, n32_400, n32_3600, n32_m1, n64_0, n64_1, n64_2, n64_3, n64_4, n64_5, n64_9, n64_19, n64_119, n64_255, n64_400, n64_3599, n64_1000000000, n64_1000000000000, n64_m1000000000000] at c0 c1 c3 c4 b0 b1 b3 b4 b5 b7)
      first | contradiction | omega
    · intro b0 b1 bt2 be2 bh2 b3 b4 b5
      obtain rfl : ct2 = bt2 := by have z := nI_inj2 be2 (by omega) (by omega); omega
      exfalso
      clear hI0 hM hX hW hY hT hE hD hU hS hB hG K M27 M28 M29 M30 M31 M32 M33 M34 M35 M36 M37 M38 M39 M40 M41 M42 M43 M44 M45 M46 M47 M48 M49 X0 X1 X2 X3 X4 X5 X6 X7 X8 X9 X10 X11 X12 X13 W0 W1 W2 Y0 Y1 Y2 Y3 Y4 Y5 Y6 Y7 Y8 Y9 K2
      (try simp only [Int32.lt_iff_toInt_lt, Int32.le_iff_toInt_le, Int64.lt_iff_toInt_lt, Int64.le_iff_toInt_le, Int32.toInt_toInt64, ← Int32.toInt_inj, ← Int64.toInt_inj, n32_0, n32_1, n32_2, n32_3, n32_4, n32_6, n32_8, n32_9, n32_10, n32_20, n32_100, n32_120, n32_255, n32_400, n32_3600, n32_m1, n64_0, n64_1, n64_2, n64_3, n64_4, n64_5, n64_9, n64_19, n64_119, n64_255, n64_400, n64_3599, n64_1000000000, n64_1000000000000, n64_m1000000000000] at c0 c1 c3 c4 b0 b1 b3 b4 b5)
      first | contradiction | omega
    · intro b0 b1 bt2 be2 bh2 b3 b4 b5 b6 b7
      obtain rfl : ct2 = bt2 := by have z := nI_inj2 be2 (by omega) (by omega); omega
      exfalso
      clear hI0 hM hX hW hY hT hE hD hU hS hB hG K M27 M28 M29 M30 M31 M32 M33 M34 M35 M36 M37 M38 M39 M40 M41 M42 M43 M44 M45 M46 M47 M48 M49 X0 X1 X2 X3 X4 X5 X6 X7 X8 X9 X10 X11 X12 X13 W0 W1 W2 Y0 Y1 Y2 Y3 Y4 Y5 Y6 Y7 Y8 Y9 K2
      (try simp only [Int32.lt_iff_toInt_lt, Int32.le_iff_toInt_le, Int64.lt_iff_toInt_lt, Int64.le_iff_toInt_le, Int32.toInt_toInt64, ← Int32.toInt_inj, ← Int64.toInt_inj, n32_0, n32_1, n32_2, n32_3, n32_4, n32_6, n32_8, n32_9, n32_10, n32_20, n32_100, n32_120, n32_255, n32_400, n32_3600, n32_m1, n64_0, n64_1, n64_2, n64_3, n64_4, n64_5, n64_9, n64_19, n64_119, n64_255, n64_400, n64_3599, n64_1000000000, n64_1000000000000, n64_m1000000000000] at c0 c1 c3 c4 b0 b1 b3 b4 b5 b6 b7)
      first | contradiction | omega
    · intro b0 b1 bt2 be2 bh2 b3 b4 b5 b6 b7
      obtain rfl : ct2 = bt2 := by have z := nI_inj2 be2 (by omega) (by omega); omega
      exfalso
      clear hI0 hM hX hW hY hT hE hD hU hS hB hG K M27 M28 M29 M30 M31 M32 M33 M34 M35 M36 M37 M38 M39 M40 M41 M42 M43 M44 M45 M46 M47 M48 M49 X0 X1 X2 X3 X4 X5 X6 X7 X8 X9 X10 X11 X12 X13 W0 W1 W2 Y0 Y1 Y2 Y3 Y4 Y5 Y6 Y7 Y8 Y9 K2
      (try simp only [Int32.lt_iff_toInt_lt, Int32.le_iff_toInt_le, Int64.lt_iff_toInt_lt, Int64.le_iff_toInt_le, Int32.toInt_toInt64, ← Int32.toInt_inj, ← Int64.toInt_inj, n32_0, n32_1, n32_2, n32_3, n32_4, n32_6, n32_8, n32_9, n32_10, n32_20, n32_100, n32_120, n32_255, n32_400, n32_3600, n32_m1, n64_0, n64_1, n64_2, n64_3, n64_4, n64_5, n64_9, n64_19, n64_119, n64_255, n64_400, n64_3599, n64_1000000000, n64_1000000000000, n64_m1000000000000] at c0 c1 c3 c4 b0 b1 b3 b4 b5 b6 b7)
      first | contradiction | omega
    · intro b0 b1 bt2 be2 bh2 b3 b4 b5 b6
      obtain rfl : ct2 = bt2 := by have z := nI_inj2 be2 (by omega) (by omega); omega
      exfalso
      clear hI0 hM hX hW hY hT hE hD hU hS hB hG K M27 M28 M29 M30 M31 M32 M33 M34 M35 M36 M37 M38 M39 M40 M41 M42 M43 M44 M45 M46 M47 M48 M49 X0 X1 X2 X3 X4 X5 X6 X7 X8 X9 X10 X11 X12 X13 W0 W1 W2 Y0 Y1 Y2 Y3 Y4 Y5 Y6 Y7 Y8 Y9 K2
      (try simp only [Int32.lt_iff_toInt_lt, Int32.le_iff_toInt_le, Int64.lt_iff_toInt_lt, Int64.le_iff_toInt_le, Int32.toInt_toInt64, ← Int32.toInt_inj, ← Int64.toInt_inj, n32_0, n32_1, n32_2, n32_3, n32_4, n32_6, n32_8, n32_9, n32_10, n32_20, n32_100, n32_120, n32_255, n32_400, n32_3600, n32_m1, n64_0, n64_1, n64_2, n64_3, n64_4, n64_5, n64_9, n64_19, n64_119, n64_255, n64_400, n64_3599, n64_1000000000, n64_1000000000000, n64_m1000000000000] at c0 c1 c3 c4 b0 b1 b3 b4 b5 b6)
      first | contradiction | omega
    · intro b0 b1 bt2 be2 bh2 b3 b4 b5
      obtain rfl : ct2 = bt2 := by have z := nI_inj2 be2 (by omega) (by omega); omega
      exfalso
      clear hI0 hM hX hW hY hT hE hD hU hS hB hG K M27 M28 M29 M30 M31 M32 M33 M34 M35 M36 M37 M38 M39 M40 M41 M42 M43 M44 M45 M46 M47 M48 M49 X0 X1 X2 X3 X4 X5 X6 X7 X8 X9 X10 X11 X12 X13 W0 W1 W2 Y0 Y1 Y2 Y3 Y4 Y5 Y6 Y7 Y8 Y9 K2
      (try simp only [Int32.lt_iff_toInt_lt, Int32.le_iff_toInt_le, Int64.lt_iff_toInt_lt, Int64.le_iff_toInt_le, Int32.toInt_toInt64, ← Int32.toInt_inj, ← Int64.toInt_inj, n32_0, n32_1, n32_2, n32_3, n32_4, n32_6, n32_8, n32_9, n32_10, n32_20, n32_100, n32_120, n32_255, n32_400, n32_3600, n32_m1, n64_0, n64_1, n64_2, n64_3, n64_4, n64_5, n64_9, n64_19, n64_119, n64_255, n64_400, n64_3599, n64_1000000000, n64_1000000000000, n64_m1000000000000] at c0 c1 c3 c4 b0 b1 b3 b4 b5)
      first | contradiction | omega
    · intro b0 b1 bt2 be2 bh2 b3 b4
      obtain rfl : ct2 = bt2 := by have z := nI_inj2 be2 (by omega) (by omega); omega
      exfalso
      clear hI0 hM hX hW hY hT hE hD hU hS hB hG K M27 M28 M29 M30 M31 M32 M33 M34 M35 M36 M37 M38 M39 M40 M41 M42 M43 M44 M45 M46 M47 M48 M49 X0 X1 X2 X3 X4 X5 X6 X7 X8 X9 X10 X11 X12 X13 W0 W1 W2 Y0 Y1 Y2 Y3 Y4 Y5 Y6 Y7 Y8 Y9 K2
      (try simp only [Int32.lt_iff_toInt_lt, Int32.le_iff_toInt_le, Int64.lt_iff_toInt_lt, Int64.le_iff_toInt_le, Int32.toInt_toInt64, ← Int32.toInt_inj, ← Int64.toInt_inj, n32_0, n32_1, n32_2, n32_3, n32_4, n32_6, n32_8, n32_9, n32_10, n32_20, n32_100, n32_120, n32_255, n32_400, n32_3600, n32_m1, n64_0, n64_1, n64_2, n64_3, n64_4, n64_5, n64_9, n64_19, n64_119, n64_255, n64_400, n64_3599, n64_1000000000, n64_1000000000000, n64_m1000000000000] at c0 c1 c3 c4 b0 b1 b3 b4)
      first | contradiction | omega
  · intro c0 c1 ct2 ce2 ch2 c3 c4 c5
    subst ce2
    have hr8 := (hB.1 ct2 ch2).2.2.1
    refine K _ _ ⟨_, M27⟩ (fun Q2 K2 => ?_)
    refine s_X8_entry M27 M44 M45 M46 M47 M48 M49 hE60 (fun e he => ⟨(hB.1 e he).2.1, (hB.1 e he).2.2.1⟩) ?_ ?_ ?_ ?_ ?_ ?_ ?_ ?_ ?_ ?_ ?_ ?_
    · intro b0
      exfalso
      clear hI0 hM hX hW hY hT hE hD hU hS hB hG K M27 M28 M29 M30 M31 M32 M33 M34 M35 M36 M37 M38 M39 M40 M41 M42 M43 M44 M45 M46 M47 M48 M49 X0 X1 X2 X3 X4 X5 X6 X7 X8 X9 X10 X11 X12 X13 W0 W1 W2 Y0 Y1 Y2 Y3 Y4 Y5 Y6 Y7 Y8 Y9 K2
      (try simp only [Int32.lt_iff_toInt_lt, Int32.le_iff_toInt_le, Int64.lt_iff_toInt_lt, Int64.le_iff_toInt_le, Int32.toInt_toInt64, ← Int32.toInt_inj, ← Int64.toInt_inj, n32_0, n32_1, n32_2, n32_3, n32_4, n32_6, n32_8, n32_9, n32_10, n32_20, n32_100, n32_120, n32_255, n32_400, n32_3600, n32_m1, n64_0, n64_1, n64_2, n64_3, n64_4, n64_5, n64_9, n64_19, n64_119, n64_255, n64_400, n64_3599, n64_1000000000, n64_1000000000000, n64_m1000000000000] at c0 c1 c3 c4 c5 b0)
      first | contradiction | omega
    · intro b0 b1
      exfalso
      clear hI0 hM hX hW hY hT hE hD hU hS hB hG K M27 M28 M29 M30 M31 M32 M33 M34 M35 M36 M37 M38 M39 M40 M41 M42 M43 M44 M45 M46 M47 M48 M49 X0 X1 X2 X3 X4 X5 X6 X7 X8 X9 X10 X11 X12 X13 W0 W1 W2 Y0 Y1 Y2 Y3 Y4 Y5 Y6 Y7 Y8 Y9 K2
      (try simp only [Int32.lt_iff_toInt_lt, Int32.le_iff_toInt_le, Int64.lt_iff_toInt_lt, Int64.le_iff_toInt_le, Int32.toInt_toInt64, ← Int32.toInt_inj, ← Int64.toInt_inj, n32_0, n32_1, n32_2, n32_3, n32_4, n32_6, n32_8, n32_9, n32_10, n32_20, n32_100, n32_120, n32_255, n32_400, n32_3600, n32_m1, n64_0, n64_1, n64_2, n64_3, n64_4, n64_5, n64_9, n64_19, n64_119, n64_255, n64_400, n64_3599, n64_1000000000, n64_1000000000000, n64_m1000000000000] at c0 c1 c3 c4 c5 b0 b1)
      first | contradiction | omega
    · intro b0 b1 bt2 be2 bh2 b3 b4
      obtain rfl : ct2 = bt2 := by have z := nI_inj2 be2 (by omega) (by omega); omega
      exfalso
      clear hI0 hM hX hW hY hT hE hD hU hS hB hG K M27 M28 M29 M30 M31 M32 M33 M34 M35 M36 M37 M38 M39 M40 M41 M42 M43 M44 M45 M46 M47 M48 M49 X0 X1 X2 X3 X4 X5 X6 X7 X8 X9 X10 X11 X12 X13 W0 W1 W2 Y0 Y1 Y2 Y3 Y4 Y5 Y6 Y7 Y8 Y9 K2
      (try simp only [Int32.lt_iff_toInt_lt, Int32.le_iff_toInt_le, Int64.lt_iff_toInt_lt, Int64.le_iff_toInt_le, Int32.toInt_toInt64, ← Int32.toInt_inj, ← Int64.toInt_inj, n32_0, n32_1, n32_2, n32_3, n32_4, n32_6, n32_8, n32_9, n32_10, n32_20, n32_100, n32_120, n32_255, n32_400, n32_3600, n32_m1, n64_0, n64_1, n64_2, n64_3, n64_4, n64_5, n64_9, n64_19, n64_119, n64_255, n64_400, n64_3599, n64_1000000000, n64_1000000000000, n64_m1000000000000] at c0 c1 c3 c4 c5 b0 b1 b3 b4)
      first | contradiction | omega
    · intro b0 b1 bt2 be2 bh2 b3 b4 b5 bt6 be6 bh6 b7 b8
      obtain rfl : ct2 = bt2 := by have z := nI_inj2 be2 (by omega) (by omega); omega
      exfalso
      clear hI0 hM hX hW hY hT hE hD hU hS hB hG K M27 M28 M29 M30 M31 M32 M33 M34 M35 M36 M37 M38 M39 M40 M41 M42 M43 M44 M45 M46 M47 M48 M49 X0 X1 X2 X3 X4 X5 X6 X7 X8 X9 X10 X11 X12 X13 W0 W1 W2 Y0 Y1 Y2 Y3 Y4 Y5 Y6 Y7 Y8 Y9 K2
      (try simp only [Int32.lt_iff_toInt_lt, Int32.le_iff_toInt_le, Int64.lt_iff_toInt_lt, Int64.le_iff_toInt_le, Int32.toInt_toInt64, ← Int32.toInt_inj, ← Int64.toInt_inj, n32_0, n32_1, n32_2, n32_3, n32_4, n32_6, n32_8, n32_9, n32_10, n32_20, n32_100, n32_120, n32_255, n32_400, n32_3600, n32_m1, n64_0, n64_1, n64_2, n64_3, n64_4, n64_5, n64_9, n64_19, n64_119, n64_255, n64_400, n64_3599, n64_1000000000, n64_1000000000000, n64_m1000000000000] at c0 c1 c3 c4 c5 b0 b1 b3 b4 b5 b7 b8)
      first | contradiction | omega
    · intro b0 b1 bt2 be2 bh2 b3 b4 b5 bt6 be6 bh6 b7 b8
      obtain rfl : ct2 = bt2 := by have z := nI_inj2 be2 (by omega) (by omega); omega
      exfalso
      clear hI0 hM hX hW hY hT hE hD hU hS hB hG K M27 M28 M29 M30 M31 M32 M33 M34 M35 M36 M37 M38 M39 M40 M41 M42 M43 M44 M45 M46 M47 M48 M49 X0 X1 X2 X3 X4 X5 X6 X7 X8 X9 X10 X11 X12 X13 W0 W1 W2 Y0 Y1 Y2 Y3 Y4 Y5 Y6 Y7 Y8 Y9 K2
      (try simp only [Int32.lt_iff_toInt_lt, Int32.le_iff_toInt_le, Int64.lt_iff_toInt_lt, Int64.le_iff_toInt_le, Int32.toInt_toInt64, ← Int32.toInt_inj, ← Int64.toInt_inj, n32_0, n32_1, n32_2, n32_3, n32_4, n32_6, n32_8, n32_9, n32_10, n32_20, n32_100, n32_120, n32_255, n32_400, n32_3600, n32_m1, n64_0, n64_1, n64_2, n64_3, n64_4, n64_5, n64_9, n64_19, n64_119, n64_255, n64_400, n64_3599, n64_1000000000, n64_1000000000000, n64_m1000000000000] at c0 c1 c3 c4 c5 b0 b1 b3 b4 b5 b7 b8)
      first | contradiction | omega
    · intro b0 b1 bt2 be2 bh2 b3 b4 b5 bt6 be6 bh6 b7
      obtain rfl : ct2 = bt2 := by have z := nI_inj2 be2 (by omega) (by omega); omega
      exfalso
      clear hI0 hM hX hW hY hT hE hD hU hS hB hG K M27 M28 M29 M30 M31 M32 M33 M34 M35 M36 M37 M38 M39 M40 M41 M42 M43 M44 M45 M46 M47 M48 M49 X0 X1 X2 X3 X4 X5 X6 X7 X8 X9 X10 X11 X12 X13 W0 W1 W2 Y0 Y1 Y2 Y3 Y4 Y5 Y6 Y7 Y8 Y9 K2
      (try simp only [Int32.lt_iff_toInt_lt, Int32.le_iff_toInt_le, Int64.lt_iff_toInt_lt, Int64.le_iff_toInt_le, Int32.toInt_toInt64, ← Int32.toInt_inj, ← Int64.toInt_inj, n32_0, n32_1, n32_2, n32_3, n32_4, n32_6, n32_8, n32_9, n32_10, n32_20, n32_100, n32_120, n32_255, n32_400, n32_3600, n32_m1, n64_0, n64_1, n64_2, n64_3, n64_4, n64_5, n64_9, n64_19, n64_119, n64_255, n64_400, n64_3599, n64_1000000000, n64_1000000000000, n64_m1000000000000] at c0 c1 c3 c4 c5 b0 b1 b3 b4 b5 b7)
      first | contradiction | omega
    · intro b0 b1 bt2 be2 bh2 b3 b4 b5
      obtain rfl : ct2 = bt2 := by have z := nI_inj2 be2 (by omega) (by omega); omega
      exact K2 _ (iV_up hI0)
    · intro b0 b1 bt2 be2 bh2 b3 b4 b5 b6 b7
      obtain rfl : ct2 = bt2 := by have z := nI_inj2 be2 (by omega) (by omega); omega
      exfalso
      clear hI0 hM hX hW hY hT hE hD hU hS hB hG K M27 M28 M29 M30 M31 M32 M33 M34 M35 M36 M37 M38 M39 M40 M41 M42 M43 M44 M45 M46 M47 M48 M49 X0 X1 X2 X3 X4 X5 X6 X7 X8 X9 X10 X11 X12 X13 W0 W1 W2 Y0 Y1 Y2 Y3 Y4 Y5 Y6 Y7 Y8 Y9 K2
      (try simp only [Int32.lt_iff_toInt_lt, Int32.le_iff_toInt_le, Int64.lt_iff_toInt_lt, Int64.le_iff_toInt_le, Int32.toInt_toInt64, ← Int32.toInt_inj, ← Int64.toInt_inj, n32_0, n32_1, n32_2, n32_3, n32_4, n32_6, n32_8, n32_9, n32_10, n32_20, n32_100, n32_120, n32_255, n32_400, n32_3600, n32_m1, n64_0, n64_1, n64_2, n64_3, n64_4, n64_5, n64_9, n64_19, n64_119, n64_255, n64_400, n64_3599, n64_1000000000, n64_1000000000000, n64_m1000000000000] at c0 c1 c3 c4 c5 b0 b1 b3 b4 b5 b6 b7)
      first | contradiction | omega
    · intro b0 b1 bt2 be2 bh2 b3 b4 b5 b6 b7
      obtain rfl : ct2 = bt2 := by have z := nI_inj2 be2 (by omega) (by omega); omega
      exfalso
      clear hI0 hM hX hW hY hT hE hD hU hS hB hG K M27 M28 M29 M30 M31 M32 M33 M34 M35 M36 M37 M38 M39 M40 M41 M42 M43 M44 M45 M46 M47 M48 M49 X0 X1 X2 X3 X4 X5 X6 X7 X8 X9 X10 X11 X12 X13 W0 W1 W2 Y0 Y1 Y2 Y3 Y4 Y5 Y6 Y7 Y8 Y9 K2
      (try simp only [Int32.lt_iff_toInt_lt, Int32.le_iff_toInt_le, Int64.lt_iff_toInt_lt, Int64.le_iff_toInt_le, Int32.toInt_toInt64, ← Int32.toInt_inj, ← Int64.toInt_inj, n32_0, n32_1, n32_2, n32_3, n32_4, n32_6, n32_8, n32_9, n32_10, n32_20, n32_100, n32_120, n32_255, n32_400, n32_3600, n32_m1, n64_0, n64_1, n64_2, n64_3, n64_4, n64_5, n64_9, n64_19, n64_119, n64_255, n64_400, n64_3599, n64_1000000000, n64_1000000000000, n64_m1000000000000] at c0 c1 c3 c4 c5 b0 b1 b3 b4 b5 b6 b7)
      first | contradiction | omega
    · intro b0 b1 bt2 be2 bh2 b3 b4 b5 b6
      obtain rfl : ct2 = bt2 := by have z := nI_inj2 be2 (by omega) (by omega); omega
      exfalso
      clear hI0 hM hX hW hY hT hE hD hU hS hB hG K M27 M28 M29 M30 M31 M32 M33 M34 M35 M36 M37 M38 M39 M40 M41 M42 M43 M44 M45 M46 M47 M48 M49 X0 X1 X2 X3 X4 X5 X6 X7 X8 X9 X10 X11 X12 X13 W0 W1 W2 Y0 Y1 Y2 Y3 Y4 Y5 Y6 Y7 Y8 Y9 K2
      (try simp only [Int32.lt_iff_toInt_lt, Int32.le_iff_toInt_le, Int64.lt_iff_toInt_lt, Int64.le_iff_toInt_le, Int32.toInt_toInt64, ← Int32.toInt_inj, ← Int64.toInt_inj, n32_0, n32_1, n32_2, n32_3, n32_4, n32_6, n32_8, n32_9, n32_10, n32_20, n32_100, n32_120, n32_255, n32_400, n32_3600, n32_m1, n64_0, n64_1, n64_2, n64_3, n64_4, n64_5, n64_9, n64_19, n64_119, n64_255, n64_400, n64_3599, n64_1000000000, n64_1000000000000, n64_m1000000000000] at c0 c1 c3 c4 c5 b0 b1 b3 b4 b5 b6)
      first | contradiction | omega
    · intro b0 b1 bt2 be2 bh2 b3 b4 b5
      obtain rfl : ct2 = bt2 := by have z := nI_inj2 be2 (by omega) (by omega); omega
      exfalso
      clear hI0 hM hX hW hY hT hE hD hU hS hB hG K M27 M28 M29 M30 M31 M32 M33 M34 M35 M36 M37 M38 M39 M40 M41 M42 M43 M44 M45 M46 M47 M48 M49 X0 X1 X2 X3 X4 X5 X6 X7 X8 X9 X10 X11 X12 X13 W0 W1 W2 Y0 Y1 Y2 Y3 Y4 Y5 Y6 Y7 Y8 Y9 K2
      (try simp only [Int32.lt_iff_toInt_lt, Int32.le_iff_toInt_le, Int64.lt_iff_toInt_lt, Int64.le_iff_toInt_le, Int32.toInt_toInt64, ← Int32.toInt_inj, ← Int64.toInt_inj, n32_0, n32_1, n32_2, n32_3, n32_4, n32_6, n32_8, n32_9, n32_10, n32_20, n32_100, n32_120, n32_255, n32_400, n32_3600, n32_m1, n64_0, n64_1, n64_2, n64_3, n64_4, n64_5, n64_9, n64_19, n64_119, n64_255, n64_400, n64_3599, n64_1000000000, n64_1000000000000, n64_m1000000000000] at c0 c1 c3 c4 c5 b0 b1 b3 b4 b5)
      first | contradiction | omega
    · intro b0 b1 bt2 be2 bh2 b3 b4
      obtain rfl : ct2 = bt2 := by have z := nI_inj2 be2 (by omega) (by omega); omega
      exfalso
      clear hI0 hM hX hW hY hT hE hD hU hS hB hG K M27 M28 M29 M30 M31 M32 M33 M34 M35 M36 M37 M38 M39 M40 M41 M42 M43 M44 M45 M46 M47 M48 M49 X0 X1 X2 X3 X4 X5 X6 X7 X8 X9 X10 X11 X12 X13 W0 W1 W2 Y0 Y1 Y2 Y3 Y4 Y5 Y6 Y7 Y8 Y9 K2
      (try simp only [Int32.lt_iff_toInt_lt, Int32.le_iff_toInt_le, Int64.lt_iff_toInt_lt, Int64.le_iff_toInt_le, Int32.toInt_toInt64, ← Int32.toInt_inj, ← Int64.toInt_inj, n32_0, n32_1, n32_2, n32_3, n32_4, n32_6, n32_8, n32_9, n32_10, n32_20, n32_100, n32_120, n32_255, n32_400, n32_3600, n32_m1, n64_0, n64_1, n64_2, n64_3, n64_4, n64_5, n64_9, n64_19, n64_119, n64_255, n64_400, n64_3599, n64_1000000000, n64_1000000000000, n64_m1000000000000] at c0 c1 c3 c4 c5 b0 b1 b3 b4)
      first | contradiction | omega
  · intro c0 c1 ct2 ce2 ch2 c3 c4 c5 c6
    subst ce2
    have hr8 := (hB.1 ct2 ch2).2.2.1
    refine K _ _ ⟨_, M27⟩ (fun Q2 K2 => ?_)
    refine s_X8_entry M27 M44 M45 M46 M47 M48 M49 hE60 (fun e he => ⟨(hB.1 e he).2.1, (hB.1 e he).2.2.1⟩) ?_ ?_ ?_ ?_ ?_ ?_ ?_ ?_ ?_ ?_ ?_ ?_
    · intro b0
      exfalso
      clear hI0 hM hX hW hY hT hE hD hU hS hB hG K M27 M28 M29 M30 M31 M32 M33 M34 M35 M36 M37 M38 M39 M40 M41 M42 M43 M44 M45 M46 M47 M48 M49 X0 X1 X2 X3 X4 X5 X6 X7 X8 X9 X10 X11 X12 X13 W0 W1 W2 Y0 Y1 Y2 Y3 Y4 Y5 Y6 Y7 Y8 Y9 K2
      (try simp only [Int32.lt_iff_toInt_lt, Int32.le_iff_toInt_le, Int64.lt_iff_toInt_lt, Int64.le_iff_toInt_le, Int32.toInt_toInt64, ← Int32.toInt_inj, ← Int64.toInt_inj, n32_0, n32_1, n32_2, n32_3, n32_4, n32_6, n32_8, n32_9, n32_10, n32_20, n32_100, n32_120, n32_255, n32_400, n32_3600, n32_m1, n64_0, n64_1, n64_2, n64_3, n64_4, n64_5, n64_9, n64_19, n64_119, n64_255, n64_400, n64_3599, n64_1000000000, n64_1000000000000, n64_m1000000000000] at c0 c1 c3 c4 c5 c6 b0)
      first | contradiction | omega
    · intro b0 b1
      exfalso
      clear hI0 hM hX hW hY hT hE hD hU hS hB hG K M27 M28 M29 M30 M31 M32 M33 M34 M35 M36 M37 M38 M39 M40 M41 M42 M43 M44 M45 M46 M47 M48 M49 X0 X1 X2 X3 X4 X5 X6 X7 X8 X9 X10 X11 X12 X13 W0 W1 W2 Y0 Y1 Y2 Y3 Y4 Y5 Y6 Y7 Y8 Y9 K2
      (try simp only [Int32.lt_iff_toInt_lt, Int32.le_iff_toInt_le, Int64.lt_iff_toInt_lt, Int64.le_iff_toInt_le, Int32.toInt_toInt64, ← Int32.toInt_inj, ← Int64.toInt_inj, n32_0, n32_1, n32_2, n32_3, n32_4, n32_6, n32_8, n32_9, n32_10, n32_20, n32_100, n32_120, n32_255, n32_400, n32_3600, n32_m1, n64_0, n64_1, n64_2, n64_3, n64_4, n64_5, n64_9, n64_19, n64_119, n64_255, n64_400, n64_3599, n64_1000000000, n64_1000000000000, n64_m1000000000000] at c0 c1 c3 c4 c5 c6 b0 b1)
      first | contradiction | omega
    · intro b0 b1 bt2 be2 bh2 b3 b4
      obtain rfl : ct2 = bt2 := by have z := nI_inj2 be2 (by omega) (by omega); omega
      exfalso
      clear hI0 hM hX hW hY hT hE hD hU hS hB hG K M27 M28 M29 M30 M31 M32 M33 M34 M35 M36 M37 M38 M39 M40 M41 M42 M43 M44 M45 M46 M47 M48 M49 X0 X1 X2 X3 X4 X5 X6 X7 X8 X9 X10 X11 X12 X13 W0 W1 W2 Y0 Y1 Y2 Y3 Y4 Y5 Y6 Y7 Y8 Y9 K2
      (try simp only [Int32.lt_iff_toInt_lt, Int32.le_iff_toInt_le, Int64.lt_iff_toInt_lt, Int64.le_iff_toInt_le, Int32.toInt_toInt64, ← Int32.toInt_inj, ← Int64.toInt_inj, n32_0, n32_1, n32_2, n32_3, n32_4, n32_6, n32_8, n32_9, n32_10, n32_20, n32_100, n32_120, n32_255, n32_400, n32_3600, n32_m1, n64_0, n64_1, n64_2, n64_3, n64_4, n64_5, n64_9, n64_19, n64_119, n64_255, n64_400, n64_3599, n64_1000000000, n64_1000000000000, n64_m1000000000000] at c0 c1 c3 c4 c5 c6 b0 b1 b3 b4)
      first | contradiction | omega
    · intro b0 b1 bt2 be2 bh2 b3 b4 b5 bt6 be6 bh6 b7 b8
      obtain rfl : ct2 = bt2 := by have z := nI_inj2 be2 (by omega) (by omega); omega
      exact K2 _ (iV_up hI0)
    · intro b0 b1 bt2 be2 bh2 b3 b4 b5 bt6 be6 bh6 b7 b8
      obtain rfl : ct2 = bt2 := by have z := nI_inj2 be2 (by omega) (by omega); omega
      exfalso
      clear hI0 hM hX hW hY hT hE hD hU hS hB hG K M27 M28 M29 M30 M31 M32 M33 M34 M35 M36 M37 M38 M39 M40 M41 M42 M43 M44 M45 M46 M47 M48 M49 X0 X1 X2 X3 X4 X5 X6 X7 X8 X9 X10 X11 X12 X13 W0 W1 W2 Y0 Y1 Y2 Y3 Y4 Y5 Y6 Y7 Y8 Y9 K2
      (try simp only [Int32.lt_iff_toInt_lt, Int32.le_iff_toInt_le, Int64.lt_iff_toInt_lt, Int64.le_iff_toInt_le, Int32.toInt_toInt64, ← Int32.toInt_inj, ← Int64.toInt_inj, n32_0, n32_1, n32_2, n32_3, n32_4, n32_6, n32_8, n32_9, n32_10, n32_20, n32_100, n32_120, n32_255, n32_400, n32_3600, n32_m1, n64_0, n64_1, n64_2, n64_3, n64_4, n64_5, n64_9, n64_19, n64_119, n64_255, n64_400, n64_3599, n64_1000000000, n64_1000000000000, n64_m1000000000000] at c0 c1 c3 c4 c5 c6 b0 b1 b3 b4 b5 b7 b8)
      first | contradiction | omega
    · intro b0 b1 bt2 be2 bh2 b3 b4 b5 bt6 be6 bh6 b7
      obtain rfl : ct2 = bt2 := by have z := nI_inj2 be2 (by omega) (by omega); omega
      exfalso
      clear hI0 hM hX hW hY hT hE hD hU hS hB hG K M27 M28 M29 M30 M31 M32 M33 M34 M35 M36 M37 M38 M39 M40 M41 M42 M43 M44 M45 M46 M47 M48 M49 X0 X1 X2 X3 X4 X5 X6 X7 X8 X9 X10 X11 X12 X13 W0 W1 W2 Y0 Y1 Y2 Y3 Y4 Y5 Y6 Y7 Y8 Y9 K2
      (try simp only [Int32.lt_iff_toInt_lt, Int32.le_iff_toInt_le, Int64.lt_iff_toInt_lt, Int64.le_iff_toInt_le, Int32.toInt_toInt64, ← Int32.toInt_inj, ← Int64.toInt_inj, n32_0, n32_1, n32_2, n32_3, n32_4, n32_6, n32_8, n32_9, n32_10, n32_20, n32_100, n32_120, n32_255, n32_400, n32_3600, n32_m1, n64_0, n64_1, n64_2, n64_3, n64_4, n64_5, n64_9, n64_19, n64_119, n64_255, n64_400, n64_3599, n64_1000000000, n64_1000000000000, n64_m1000000000000] at c0 c1 c3 c4 c5 c6 b0 b1 b3 b4 b5 b7)
      first | contradiction | omega
    · intro b0 b1 bt2 be2 bh2 b3 b4 b5
      obtain rfl : ct2 = bt2 := by have z := nI_inj2 be2 (by omega) (by omega); omega
      exfalso
      clear hI0 hM hX hW hY hT hE hD hU hS hB hG K M27 M28 M29 M30 M31 M32 M33 M34 M35 M36 M37 M38 M39 M40 M41 M42 M43 M44 M45 M46 M47 M48 M49 X0 X1 X2 X3 X4 X5 X6 X7 X8 X9 X10 X11 X12 X13 W0 W1 W2 Y0 Y1 Y2 Y3 Y4 Y5 Y6 Y7 Y8 Y9 K2
      (try simp only [Int32.lt_iff_toInt_lt, Int32.le_iff_toInt_le, Int64.lt_iff_toInt_lt, Int64.le_iff_toInt_le, Int32.toInt_toInt64, ← Int32.toInt_inj, ← Int64.toInt_inj, n32_0, n32_1, n32_2, n32_3, n32_4, n32_6, n32_8, n32_9, n32_10, n32_20, n32_100, n32_120, n32_255, n32_400, n32_3600, n32_m1, n64_0, n64_1, n64_2, n64_3, n64_4, n64_5, n64_9, n64_19, n64_119, n64_255, n64_400, n64_3599, n64_1000000000, n64_1000000000000, n64_m1000000000000] at c0 c1 c3 c4 c5 c6 b0 b1 b3 b4 b5)
      first | contradiction | omega
    · intro b0 b1 bt2 be2 bh2 b3 b4 b5 b6 b7
      obtain rfl : ct2 = bt2 := by have z := nI_inj2 be2 (by omega) (by omega); omega
      exfalso
      clear hI0 hM hX hW hY hT hE hD hU hS hB hG K M27 M28 M29 M30 M31 M32 M33 M34 M35 M36 M37 M38 M39 M40 M41 M42 M43 M44 M45 M46 M47 M48 M49 X0 X1 X2 X3 X4 X5 X6 X7 X8 X9 X10 X11 X12 X13 W0 W1 W2 Y0 Y1 Y2 Y3 Y4 Y5 Y6 Y7 Y8 Y9 K2
      (try simp only [Int32.lt_iff_toInt_lt, Int32.le_iff_toInt_le, Int64.lt_iff_toInt_lt, Int64.le_iff_toInt_le, Int32.toInt_toInt64, ← Int32.toInt_inj, ← Int64.toInt_inj, n32_0, n32_1, n32_2, n32_3, n32_4, n32_6, n32_8, n32_9, n32_10, n32_20, n32_100, n32_120, n32_255, n32_400, n32_3600, n32_m1, n64_0, n64_1, n64_2, n64_3, n64_4, n64_5, n64_9, n64_19, n64_119, n64_255, n64_400, n64_3599, n64_1000000000, n64_1000000000000, n64_m1000000000000] at c0 c1 c3 c4 c5 c6 b0 b1 b3 b4 b5 b6 b7)
      first | contradiction | omega
    · intro b0 b1 bt2 be2 bh2 b3 b4 b5 b6 b7
      obtain rfl : ct2 = bt2 := by have z := nI_inj2 be2 (by omega) (by omega); omega
      exfalso
      clear hI0 hM hX hW hY hT hE hD hU hS hB hG K M27 M28 M29 M30 M31 M32 M33 M34 M35 M36 M37 M38 M39 M40 M41 M42 M43 M44 M45 M46 M47 M48 M49 X0 X1 X2 X3 X4 X5 X6 X7 X8 X9 X10 X11 X12 X13 W0 W1 W2 Y0 Y1 Y2 Y3 Y4 Y5 Y6 Y7 Y8 Y9 K2
      (try simp only [Int32.lt_iff_toInt_lt, Int32.le_iff_toInt_le, Int64.lt_iff_toInt_lt, Int64.le_iff_toInt_le, Int32.toInt_toInt64, ← Int32.toInt_inj, ← Int64.toInt_inj, n32_0, n32_1, n32_2, n32_3, n32_4, n32_6, n32_8, n32_9, n32_10, n32_20, n32_100, n32_120, n32_255, n32_400, n32_3600, n32_m1, n64_0, n64_1, n64_2, n64_3, n64_4, n64_5, n64_9, n64_19, n64_119, n64_255, n64_400, n64_3599, n64_1000000000, n64_1000000000000, n64_m1000000000000] at c0 c1 c3 c4 c5 c6 b0 b1 b3 b4 b5 b6 b7)
      first | contradiction | omega
    · intro b0 b1 bt2 be2 bh2 b3 b4 b5 b6
      obtain rfl : ct2 = bt2 := by have z := nI_inj2 be2 (by omega) (by omega); omega
      exfalso
      clear hI0 hM hX hW hY hT hE hD hU hS hB hG K M27 M28 M29 M30 M31 M32 M33 M34 M35 M36 M37 M38 M39 M40 M41 M42 M43 M44 M45 M46 M47 M48 M49 X0 X1 X2 X3 X4 X5 X6 X7 X8 X9 X10 X11 X12 X13 W0 W1 W2 Y0 Y1 Y2 Y3 Y4 Y5 Y6 Y7 Y8 Y9 K2
      (try simp only [Int32.lt_iff_toInt_lt, Int32.le_iff_toInt_le, Int64.lt_iff_toInt_lt, Int64.le_iff_toInt_le, Int32.toInt_toInt64, ← Int32.toInt_inj, ← Int64.toInt_inj, n32_0, n32_1, n32_2, n32_3, n32_4, n32_6, n32_8, n32_9, n32_10, n32_20, n32_100, n32_120, n32_255, n32_400, n32_3600, n32_m1, n64_0, n64_1, n64_2, n64_3, n64_4, n64_5, n64_9, n64_19, n64_119, n64_255, n64_400, n64_3599, n64_1000000000, n64_1000000000000, n64_m1000000000000] at c0 c1 c3 c4 c5 c6 b0 b1 b3 b4 b5 b6)
      first | contradiction | omega
    · intro b0 b1 bt2 be2 bh2 b3 b4 b5
      obtain rfl : ct2 = bt2 := by have z := nI_inj2 be2 (by omega) (by omega); omega
      exfalso
      clear hI0 hM hX hW hY hT hE hD hU hS hB hG K M27 M28 M29 M30 M31 M32 M33 M34 M35 M36 M37 M38 M39 M40 M41 M42 M43 M44 M45 M46 M47 M48 M49 X0 X1 X2 X3 X4 X5 X6 X7 X8 X9 X10 X11 X12 X13 W0 W1 W2 Y0 Y1 Y2 Y3 Y4 Y5 Y6 Y7 Y8 Y9 K2
      (try simp only [Int32.lt_iff_toInt_lt, Int32.le_iff_toInt_le, Int64.lt_iff_toInt_lt, Int64.le_iff_toInt_le, Int32.toInt_toInt64, ← Int32.toInt_inj, ← Int64.toInt_inj, n32_0, n32_1, n32_2, n32_3, n32_4, n32_6, n32_8, n32_9, n32_10, n32_20, n32_100, n32_120, n32_255, n32_400, n32_3600, n32_m1, n64_0, n64_1, n64_2, n64_3, n64_4, n64_5, n64_9, n64_19, n64_119, n64_255, n64_400, n64_3599, n64_1000000000, n64_1000000000000, n64_m1000000000000] at c0 c1 c3 c4 c5 c6 b0 b1 b3 b4 b5)
      first | contradiction | omega
    · intro b0 b1 bt2 be2 bh2 b3 b4
      obtain rfl : ct2 = bt2 := by have z := nI_inj2 be2 (by omega) (by omega); omega
      exfalso
      clear hI0 hM hX hW hY hT hE hD hU hS hB hG K M27 M28 M29 M30 M31 M32 M33 M34 M35 M36 M37 M38 M39 M40 M41 M42 M43 M44 M45 M46 M47 M48 M49 X0 X1 X2 X3 X4 X5 X6 X7 X8 X9 X10 X11 X12 X13 W0 W1 W2 Y0 Y1 Y2 Y3 Y4 Y5 Y6 Y7 Y8 Y9 K2
      (try simp only [Int32.lt_iff_toInt_lt, Int32.le_iff_toInt_le, Int64.lt_iff_toInt_lt, Int64.le_iff_toInt_le, Int32.toInt_toInt64, ← Int32.toInt_inj, ← Int64.toInt_inj, n32_0, n32_1, n32_2, n32_3, n32_4, n32_6, n32_8, n32_9, n32_10, n32_20, n32_100, n32_120, n32_255, n32_400, n32_3600, n32_m1, n64_0, n64_1, n64_2, n64_3, n64_4, n64_5, n64_9, n64_19, n64_119, n64_255, n64_400, n64_3599, n64_1000000000, n64_1000000000000, n64_m1000000000000] at c0 c1 c3 c4 c5 c6 b0 b1 b3 b4)
      first | contradiction | omega
  · intro c0 c1 ct2 ce2 ch2 c3 c4 c5 c6 c7 ct8 ce8 ch8 c9
    subst ce2
    subst ce8
    have hr8 := (hB.1 ct2 ch2).2.2.1
    refine K _ _ ⟨_, M27⟩ (fun Q2 K2 => ?_)
    refine s_X8_entry M27 M44 M45 M46 M47 M48 M49 hE60 (fun e he => ⟨(hB.1 e he).2.1, (hB.1 e he).2.2.1⟩) ?_ ?_ ?_ ?_ ?_ ?_ ?_ ?_ ?_ ?_ ?_ ?_
    · intro b0
      exfalso
      clear hI0 hM hX hW hY hT hE hD hU hS hB hG K M27 M28 M29 M30 M31 M32 M33 M34 M35 M36 M37 M38 M39 M40 M41 M42 M43 M44 M45 M46 M47 M48 M49 X0 X1 X2 X3 X4 X5 X6 X7 X8 X9 X10 X11 X12 X13 W0 W1 W2 Y0 Y1 Y2 Y3 Y4 Y5 Y6 Y7 Y8 Y9 K2
      (try simp only [Int32.lt_iff_toInt_lt, Int32.le_iff_toInt_le, Int64.lt_iff_toInt_lt, Int64.le_iff_toInt_le, Int32.toInt_toInt64, ← Int32.toInt_inj, ← Int64.toInt_inj, n32_0, n32_1, n32_2, n32_3, n32_4, n32_6, n32_8, n32_9, n32_10, n32_20, n32_100, n32_120, n32_255, n32_400, n32_3600, n32_m1, n64_0, n64_1, n64_2, n64_3, n64_4, n64_5, n64_9, n64_19, n64_119, n64_255, n64_400, n64_3599, n64_1000000000, n64_1000000000000, n64_m1000000000000] at c0 c1 c3 c4 c5 c6 c7 c9 b0)
      first | contradiction | omega
    · intro b0 b1
      exfalso
      clear hI0 hM hX hW hY hT hE hD hU hS hB hG K M27 M28 M29 M30 M31 M32 M33 M34 M35 M36 M37 M38 M39 M40 M41 M42 M43 M44 M45 M46 M47 M48 M49 X0 X1 X2 X3 X4 X5 X6 X7 X8 X9 X10 X11 X12 X13 W0 W1 W2 Y0 Y1 Y2 Y3 Y4 Y5 Y6 Y7 Y8 Y9 K2
      (try simp only [Int32.lt_iff_toInt_lt, Int32.le_iff_toInt_le, Int64.lt_iff_toInt_lt, Int64.le_iff_toInt_le, Int32.toInt_toInt64, ← Int32.toInt_inj, ← Int64.toInt_inj, n32_0, n32_1, n32_2, n32_3, n32_4, n32_6, n32_8, n32_9, n32_10, n32_20, n32_100, n32_120, n32_255, n32_400, n32_3600, n32_m1, n64_0, n64_1, n64_2, n64_3, n64_4, n64_5, n64_9, n64_19, n64_119, n64_255, n64_400, n64_3599, n64_1000000000, n64_1000000000000, n64_m1000000000000] at c0 c1 c3 c4 c5 c6 c7 c9 b0 b1)
      first | contradiction | omega
    · intro b0 b1 bt2 be2 bh2 b3 b4
      obtain rfl : ct2 = bt2 := by have z := nI_inj2 be2 (by omega) (by omega); omega
      exfalso
      clear hI0 hM hX hW hY hT hE hD hU hS hB hG K M27 M28 M29 M30 M31 M32 M33 M34 M35 M36 M37 M38 M39 M40 M41 M42 M43 M44 M45 M46 M47 M48 M49 X0 X1 X2 X3 X4 X5 X6 X7 X8 X9 X10 X11 X12 X13 W0 W1 W2 Y0 Y1 Y2 Y3 Y4 Y5 Y6 Y7 Y8 Y9 K2
      (try simp only [Int32.lt_iff_toInt_lt, Int32.le_iff_toInt_le, Int64.lt_iff_toInt_lt, Int64.le_iff_toInt_le, Int32.toInt_toInt64, ← Int32.toInt_inj, ← Int64.toInt_inj, n32_0, n32_1, n32_2, n32_3, n32_4, n32_6, n32_8, n32_9, n32_10, n32_20, n32_100, n32_120, n32_255, n32_400, n32_3600, n32_m1, n64_0, n64_1, n64_2, n64_3, n64_4, n64_5, n64_9, n64_19, n64_119, n64_255, n64_400, n64_3599, n64_1000000000, n64_1000000000000, n64_m1000000000000] at c0 c1 c3 c4 c5 c6 c7 c9 b0 b1 b3 b4)
      first | contradiction | omega
    · intro b0 b1 bt2 be2 bh2 b3 b4 b5 bt6 be6 bh6 b7 b8
      obtain rfl : ct2 = bt2 := by have z := nI_inj2 be2 (by omega) (by omega); omega
      obtain rfl : ct8 = bt6 := by have z := nI_inj2 be6 (by omega) (by omega); omega
      exfalso
      clear hI0 hM hX hW hY hT hE hD hU hS hB hG K M27 M28 M29 M30 M31 M32 M33 M34 M35 M36 M37 M38 M39 M40 M41 M42 M43 M44 M45 M46 M47 M48 M49 X0 X1 X2 X3 X4 X5 X6 X7 X8 X9 X10 X11 X12 X13 W0 W1 W2 Y0 Y1 Y2 Y3 Y4 Y5 Y6 Y7 Y8 Y9 K2
      (try simp only [Int32.lt_iff_toInt_lt, Int32.le_iff_toInt_le, Int64.lt_iff_toInt_lt, Int64.le_iff_toInt_le, Int32.toInt_toInt64, ← Int32.toInt_inj, ← Int64.toInt_inj, n32_0, n32_1, n32_2, n32_3, n32_4, n32_6, n32_8, n32_9, n32_10, n32_20, n32_100, n32_120, n32_255, n32_400, n32_3600, n32_m1, n64_0, n64_1, n64_2, n64_3, n64_4, n64_5, n64_9, n64_19, n64_119, n64_255, n64_400, n64_3599, n64_1000000000, n64_1000000000000, n64_m1000000000000] at c0 c1 c3 c4 c5 c6 c7 c9 b0 b1 b3 b4 b5 b7 b8)
      first | contradiction | omega
    · intro b0 b1 bt2 be2 bh2 b3 b4 b5 bt6 be6 bh6 b7 b8
      obtain rfl : ct2 = bt2 := by have z := nI_inj2 be2 (by omega) (by omega); omega
      obtain rfl : ct8 = bt6 := by have z := nI_inj2 be6 (by omega) (by omega); omega
      rw [← ((hB.1 ct2 ch2).2.2.2.2.2 ct8 ch8).2]
      exact K2 _ (iV_up hI0)
    · intro b0 b1 bt2 be2 bh2 b3 b4 b5 bt6 be6 bh6 b7
      obtain rfl : ct2 = bt2 := by have z := nI_inj2 be2 (by omega) (by omega); omega
      obtain rfl : ct8 = bt6 := by have z := nI_inj2 be6 (by omega) (by omega); omega
      exfalso
      clear hI0 hM hX hW hY hT hE hD hU hS hB hG K M27 M28 M29 M30 M31 M32 M33 M34 M35 M36 M37 M38 M39 M40 M41 M42 M43 M44 M45 M46 M47 M48 M49 X0 X1 X2 X3 X4 X5 X6 X7 X8 X9 X10 X11 X12 X13 W0 W1 W2 Y0 Y1 Y2 Y3 Y4 Y5 Y6 Y7 Y8 Y9 K2
      (try simp only [Int32.lt_iff_toInt_lt, Int32.le_iff_toInt_le, Int64.lt_iff_toInt_lt, Int64.le_iff_toInt_le, Int32.toInt_toInt64, ← Int32.toInt_inj, ← Int64.toInt_inj, n32_0, n32_1, n32_2, n32_3, n32_4, n32_6, n32_8, n32_9, n32_10, n32_20, n32_100, n32_120, n32_255, n32_400, n32_3600, n32_m1, n64_0, n64_1, n64_2, n64_3, n64_4, n64_5, n64_9, n64_19, n64_119, n64_255, n64_400, n64_3599, n64_1000000000, n64_1000000000000, n64_m1000000000000] at c0 c1 c3 c4 c5 c6 c7 c9 b0 b1 b3 b4 b5 b7)
      first | contradiction | omega
    · intro b0 b1 bt2 be2 bh2 b3 b4 b5
      obtain rfl : ct2 = bt2 := by have z := nI_inj2 be2 (by omega) (by omega); omega
      exfalso
      clear hI0 hM hX hW hY hT hE hD hU hS hB hG K M27 M28 M29 M30 M31 M32 M33 M34 M35 M36 M37 M38 M39 M40 M41 M42 M43 M44 M45 M46 M47 M48 M49 X0 X1 X2 X3 X4 X5 X6 X7 X8 X9 X10 X11 X12 X13 W0 W1 W2 Y0 Y1 Y2 Y3 Y4 Y5 Y6 Y7 Y8 Y9 K2
      (try simp only [Int32.lt_iff_toInt_lt, Int32.le_iff_toInt_le, Int64.lt_iff_toInt_lt, Int64.le_iff_toInt_le, Int32.toInt_toInt64, ← Int32.toInt_inj, ← Int64.toInt_inj, n32_0, n32_1, n32_2, n32_3, n32_4, n32_6, n32_8, n32_9, n32_10, n32_20, n32_100, n32_120, n32_255, n32_400, n32_3600, n32_m1, n64_0, n64_1, n64_2, n64_3, n64_4, n64_5, n64_9, n64_19, n64_119, n64_255, n64_400, n64_3599, n64_1000000000, n64_1000000000000, n64_m1000000000000] at c0 c1 c3 c4 c5 c6 c7 c9 b0 b1 b3 b4 b5)
      first | contradiction | omega
    · intro b0 b1 bt2 be2 bh2 b3 b4 b5 b6 b7
      obtain rfl : ct2 = bt2 := by have z := nI_inj2 be2 (by omega) (by omega); omega
      exfalso
      clear hI0 hM hX hW hY hT hE hD hU hS hB hG K M27 M28 M29 M30 M31 M32 M33 M34 M35 M36 M37 M38 M39 M40 M41 M42 M43 M44 M45 M46 M47 M48 M49 X0 X1 X2 X3 X4 X5 X6 X7 X8 X9 X10 X11 X12 X13 W0 W1 W2 Y0 Y1 Y2 Y3 Y4 Y5 Y6 Y7 Y8 Y9 K2
      (try simp only [Int32.lt_iff_toInt_lt, Int32.le_iff_toInt_le, Int64.lt_iff_toInt_lt, Int64.le_iff_toInt_le, Int32.toInt_toInt64, ← Int32.toInt_inj, ← Int64.toInt_inj, n32_0, n32_1, n32_2, n32_3, n32_4, n32_6, n32_8, n32_9, n32_10, n32_20, n32_100, n32_120, n32_255, n32_400, n32_3600, n32_m1, n64_0, n64_1, n64_2, n64_3, n64_4, n64_5, n64_9, n64_19, n64_119, n64_255, n64_400, n64_3599, n64_1000000000, n64_1000000000000, n64_m1000000000000] at c0 c1 c3 c4 c5 c6 c7 c9 b0 b1 b3 b4 b5 b6 b7)
      first | contradiction | omega
    · intro b0 b1 bt2 be2 bh2 b3 b4 b5 b6 b7
      obtain rfl : ct2 = bt2 := by have z := nI_inj2 be2 (by omega) (by omega); omega
      exfalso
      clear hI0 hM hX hW hY hT hE hD hU hS hB hG K M27 M28 M29 M30 M31 M32 M33 M34 M35 M36 M37 M38 M39 M40 M41 M42 M43 M44 M45 M46 M47 M48 M49 X0 X1 X2 X3 X4 X5 X6 X7 X8 X9 X10 X11 X12 X13 W0 W1 W2 Y0 Y1 Y2 Y3 Y4 Y5 Y6 Y7 Y8 Y9 K2
      (try simp only [Int32.lt_iff_toInt_lt, Int32.le_iff_toInt_le, Int64.lt_iff_toInt_lt, Int64.le_iff_toInt_le, Int32.toInt_toInt64, ← Int32.toInt_inj, ← Int64.toInt_inj, n32_0, n32_1, n32_2, n32_3, n32_4, n32_6, n32_8, n32_9, n32_10, n32_20, n32_100, n32_120, n32_255, n32_400, n32_3600, n32_m1, n64_0, n64_1, n64_2, n64_3, n64_4, n64_5, n64_9, n64_19, n64_119, n64_255, n64_400, n64_3599, n64_1000000000, n64_1000000000000, n64_m1000000000000] at c0 c1 c3 c4 c5 c6 c7 c9 b0 b1 b3 b4 b5 b6 b7)
      first | contradiction | omega
    · intro b0 b1 bt2 be2 bh2 b3 b4 b5 b6
      obtain rfl : ct2 = bt2 := by have z := nI_inj2 be2 (by omega) (by omega); omega
      exfalso
      clear hI0 hM hX hW hY hT hE hD hU hS hB hG K M27 M28 M29 M30 M31 M32 M33 M34 M35 M36 M37 M38 M39 M40 M41 M42 M43 M44 M45 M46 M47 M48 M49 X0 X1 X2 X3 X4 X5 X6 X7 X8 X9 X10 X11 X12 X13 W0 W1 W2 Y0 Y1 Y2 Y3 Y4 Y5 Y6 Y7 Y8 Y9 K2
      (try simp only [Int32.lt_iff_toInt_lt, Int32.le_iff_toInt_le, Int64.lt_iff_toInt_lt, Int64.le_iff_toInt_le, Int32.toInt_toInt64, ← Int32.toInt_inj, ← Int64.toInt_inj, n32_0, n32_1, n32_2, n32_3, n32_4, n32_6, n32_8, n32_9, n32_10, n32_20, n32_100, n32_120, n32_255, n32_400, n32_3600, n32_m1, n64_0, n64_1, n64_2, n64_3, n64_4, n64_5, n64_9, n64_19, n64_119, n64_255, n64_400, n64_3599, n64_1000000000, n64_1000000000000, n64_m1000000000000] at c0 c1 c3 c4 c5 c6 c7 c9 b0 b1 b3 b4 b5 b6)
      first | contradiction | omega
    · intro b0 b1 bt2 be2 bh2 b3 b4 b5
      obtain rfl : ct2 = bt2 := by have z := nI_inj2 be2 (by omega) (by omega); omega
      exfalso
      clear hI0 hM hX hW hY hT hE hD hU hS hB hG K M27 M28 M29 M30 M31 M32 M33 M34 M35 M36 M37 M38 M39 M40 M41 M42 M43 M44 M45 M46 M47 M48 M49 X0 X1 X2 X3 X4 X5 X6 X7 X8 X9 X10 X11 X12 X13 W0 W1 W2 Y0 Y1 Y2 Y3 Y4 Y5 Y6 Y7 Y8 Y9 K2
      (try simp only [Int32.lt_iff_toInt_lt, Int32.le_iff_toInt_le, Int64.lt_iff_toInt_lt, Int64.le_iff_toInt_le, Int32.toInt_toInt64, ← Int32.toInt_inj, ← Int64.toInt_inj, n32_0, n32_1, n32_2, n32_3, n32_4, n32_6, n32_8, n32_9, n32_10, n32_20, n32_100, n32_120, n32_255, n32_400, n32_3600, n32_m1, n64_0, n64_1, n64_2, n64_3, n64_4, n64_5, n64_9, n64_19, n64_119, n64_255, n64_400, n64_3599, n64_1000000000, n64_1000000000000, n64_m1000000000000] at c0 c1 c3 c4 c5 c6 c7 c9 b0 b1 b3 b4 b5)
      first | contradiction | omega
    · intro b0 b1 bt2 be2 bh2 b3 b4
      obtain rfl : ct2 = bt2 := by have z := nI_inj2 be2 (by omega) (by omega); omega
      exfalso
      clear hI0 hM hX hW hY hT hE hD hU hS hB hG K M27 M28 M29 M30 M31 M32 M33 M34 M35 M36 M37 M38 M39 M40 M41 M42 M43 M44 M45 M46 M47 M48 M49 X0 X1 X2 X3 X4 X5 X6 X7 X8 X9 X10 X11 X12 X13 W0 W1 W2 Y0 Y1 Y2 Y3 Y4 Y5 Y6 Y7 Y8 Y9 K2
      (try simp only [Int32.lt_iff_toInt_lt, Int32.le_iff_toInt_le, Int64.lt_iff_toInt_lt, Int64.le_iff_toInt_le, Int32.toInt_toInt64, ← Int32.toInt_inj, ← Int64.toInt_inj, n32_0, n32_1, n32_2, n32_3, n32_4, n32_6, n32_8, n32_9, n32_10, n32_20, n32_100, n32_120, n32_255, n32_400, n32_3600, n32_m1, n64_0, n64_1, n64_2, n64_3, n64_4, n64_5, n64_9, n64_19, n64_119, n64_255, n64_400, n64_3599, n64_1000000000, n64_1000000000000, n64_m1000000000000] at c0 c1 c3 c4 c5 c6 c7 c9 b0 b1 b3 b4)
      first | contradiction | omega
  · intro c0 c1 ct2 ce2 ch2 c3 c4 c5 c6 c7 ct8 ce8 ch8 c9
    subst ce2
    subst ce8
    have hr8 := (hB.1 ct2 ch2).2.2.1
    refine K _ _ ⟨_, M27⟩ (fun Q2 K2 => ?_)
    refine s_X8_entry M27 M44 M45 M46 M47 M48 M49 hE60 (fun e he => ⟨(hB.1 e he).2.1, (hB.1 e he).2.2.1⟩) ?_ ?_ ?_ ?_ ?_ ?_ ?_ ?_ ?_ ?_ ?_ ?_
    · intro b0
      exfalso
      clear hI0 hM hX hW hY hT hE hD hU hS hB hG K M27 M28 M29 M30 M31 M32 M33 M34 M35 M36 M37 M38 M39 M40 M41 M42 M43 M44 M45 M46 M47 M48 M49 X0 X1 X2 X3 X4 X5 X6 X7 X8 X9 X10 X11 X12 X13 W0 W1 W2 Y0 Y1 Y2 Y3 Y4 Y5 Y6 Y7 Y8 Y9 K2
      (try simp only [Int32.lt_iff_toInt_lt, Int32.le_iff_toInt_le, Int64.lt_iff_toInt_lt, Int64.le_iff_toInt_le, Int32.toInt_toInt64, ← Int32.toInt_inj, ← Int64.toInt_inj, n32_0, n32_1, n32_2, n32_3, n32_4, n32_6, n32_8, n32_9, n32_10, n32_20, n32_100, n32_120, n32_255, n32_400, n32_3600, n32_m1, n64_0, n64_1, n64_2, n64_3, n64_4, n64_5, n64_9, n64_19, n64_119, n64_255, n64_400, n64_3599, n64_1000000000, n64_1000000000000, n64_m1000000000000] at c0 c1 c3 c4 c5 c6 c7 c9 b0)
      first | contradiction | omega
    · intro b0 b1
      exfalso
      clear hI0 hM hX hW hY hT hE hD hU hS hB hG K M27 M28 M29 M30 M31 M32 M33 M34 M35 M36 M37 M38 M39 M40 M41 M42 M43 M44 M45 M46 M47 M48 M49 X0 X1 X2 X3 X4 X5 X6 X7 X8 X9 X10 X11 X12 X13 W0 W1 W2 Y0 Y1 Y2 Y3 Y4 Y5 Y6 Y7 Y8 Y9 K2
      (try simp only [Int32.lt_iff_toInt_lt, Int32.le_iff_toInt_le, Int64.lt_iff_toInt_lt, Int64.le_iff_toInt_le, Int32.toInt_toInt64, ← Int32.toInt_inj, ← Int64.toInt_inj, n32_0, n32_1, n32_2, n32_3, n32_4, n32_6, n32_8, n32_9, n32_10, n32_20, n32_100, n32_120, n32_255, n32_400, n32_3600, n32_m1, n64_0, n64_1, n64_2, n64_3, n64_4, n64_5, n64_9, n64_19, n64_119, n64_255, n64_400, n64_3599, n64_1000000000, n64_1000000000000, n64_m1000000000000] at c0 c1 c3 c4 c5 c6 c7 c9 b0 b1)
      first | contradiction | omega
    · intro b0 b1 bt2 be2 bh2 b3 b4
      obtain rfl : ct2 = bt2 := by have z := nI_inj2 be2 (by omega) (by omega); omega
      exfalso
      clear hI0 hM hX hW hY hT hE hD hU hS hB hG K M27 M28 M29 M30 M31 M32 M33 M34 M35 M36 M37 M38 M39 M40 M41 M42 M43 M44 M45 M46 M47 M48 M49 X0 X1 X2 X3 X4 X5 X6 X7 X8 X9 X10 X11 X12 X13 W0 W1 W2 Y0 Y1 Y2 Y3 Y4 Y5 Y6 Y7 Y8 Y9 K2
      (try simp only [Int32.lt_iff_toInt_lt, Int32.le_iff_toInt_le, Int64.lt_iff_toInt_lt, Int64.le_iff_toInt_le, Int32.toInt_toInt64, ← Int32.toInt_inj, ← Int64.toInt_inj, n32_0, n32_1, n32_2, n32_3, n32_4, n32_6, n32_8, n32_9, n32_10, n32_20, n32_100, n32_120, n32_255, n32_400, n32_3600, n32_m1, n64_0, n64_1, n64_2, n64_3, n64_4, n64_5, n64_9, n64_19, n64_119, n64_255, n64_400, n64_3599, n64_1000000000, n64_1000000000000, n64_m1000000000000] at c0 c1 c3 c4 c5 c6 c7 c9 b0 b1 b3 b4)
      first | contradiction | omega
    · intro b0 b1 bt2 be2 bh2 b3 b4 b5 bt6 be6 bh6 b7 b8
      obtain rfl : ct2 = bt2 := by have z := nI_inj2 be2 (by omega) (by omega); omega
      obtain rfl : ct8 = bt6 := by have z := nI_inj2 be6 (by omega) (by omega); omega
      exfalso
      clear hI0 hM hX hW hY hT hE hD hU hS hB hG K M27 M28 M29 M30 M31 M32 M33 M34 M35 M36 M37 M38 M39 M40 M41 M42 M43 M44 M45 M46 M47 M48 M49 X0 X1 X2 X3 X4 X5 X6 X7 X8 X9 X10 X11 X12 X13 W0 W1 W2 Y0 Y1 Y2 Y3 Y4 Y5 Y6 Y7 Y8 Y9 K2
      (try simp only [Int32.lt_iff_toInt_lt, Int32.le_iff_toInt_le, Int64.lt_iff_toInt_lt, Int64.le_iff_toInt_le, Int32.toInt_toInt64, ← Int32.toInt_inj, ← Int64.toInt_inj, n32_0, n32_1, n32_2, n32_3, n32_4, n32_6, n32_8, n32_9, n32_10, n32_20, n32_100, n32_120, n32_255, n32_400, n32_3600, n32_m1, n64_0, n64_1, n64_2, n64_3, n64_4, n64_5, n64_9, n64_19, n64_119, n64_255, n64_400, n64_3599, n64_1000000000, n64_1000000000000, n64_m1000000000000] at c0 c1 c3 c4 c5 c6 c7 c9 b0 b1 b3 b4 b5 b7 b8)
      first | contradiction | omega
    · intro b0 b1 bt2 be2 bh2 b3 b4 b5 bt6 be6 bh6 b7 b8
      obtain rfl : ct2 = bt2 := by have z := nI_inj2 be2 (by omega) (by omega); omega
      obtain rfl : ct8 = bt6 := by have z := nI_inj2 be6 (by omega) (by omega); omega
      exfalso
      clear hI0 hM hX hW hY hT hE hD hU hS hB hG K M27 M28 M29 M30 M31 M32 M33 M34 M35 M36 M37 M38 M39 M40 M41 M42 M43 M44 M45 M46 M47 M48 M49 X0 X1 X2 X3 X4 X5 X6 X7 X8 X9 X10 X11 X12 X13 W0 W1 W2 Y0 Y1 Y2 Y3 Y4 Y5 Y6 Y7 Y8 Y9 K2
      (try simp only [Int32.lt_iff_toInt_lt, Int32.le_iff_toInt_le, Int64.lt_iff_toInt_lt, Int64.le_iff_toInt_le, Int32.toInt_toInt64, ← Int32.toInt_inj, ← Int64.toInt_inj, n32_0, n32_1, n32_2, n32_3, n32_4, n32_6, n32_8, n32_9, n32_10, n32_20, n32_100, n32_120, n32_255, n32_400, n32_3600, n32_m1, n64_0, n64_1, n64_2, n64_3, n64_4, n64_5, n64_9, n64_19, n64_119, n64_255, n64_400, n64_3599, n64_1000000000, n64_1000000000000, n64_m1000000000000] at c0 c1 c3 c4 c5 c6 c7 c9 b0 b1 b3 b4 b5 b7 b8)
      first | contradiction | omega
    · intro b0 b1 bt2 be2 bh2 b3 b4 b5 bt6 be6 bh6 b7
      obtain rfl : ct2 = bt2 := by have z := nI_inj2 be2 (by omega) (by omega); omega
      obtain rfl : ct8 = bt6 := by have z := nI_inj2 be6 (by omega) (by omega); omega
      rw [← ((hB.1 ct2 ch2).2.2.2.2.2 ct8 ch8).1]
      exact K2 _ (iV_up hI0)
    · intro b0 b1 bt2 be2 bh2 b3 b4 b5
      obtain rfl : ct2 = bt2 := by have z := nI_inj2 be2 (by omega) (by omega); omega
      exfalso
      clear hI0 hM hX hW hY hT hE hD hU hS hB hG K M27 M28 M29 M30 M31 M32 M33 M34 M35 M36 M37 M38 M39 M40 M41 M42 M43 M44 M45 M46 M47 M48 M49 X0 X1 X2 X3 X4 X5 X6 X7 X8 X9 X10 X11 X12 X13 W0 W1 W2 Y0 Y1 Y2 Y3 Y4 Y5 Y6 Y7 Y8 Y9 K2
      (try simp only [Int32.lt_iff_toInt_lt, Int32.le_iff_toInt_le, Int64.lt_iff_toInt_lt, Int64.le_iff_toInt_le, Int32.toInt_toInt64, ← Int32.toInt_inj, ← Int64.toInt_inj, n32_0, n32_1, n32_2, n32_3, n32_4, n32_6, n32_8, n32_9, n32_10, n32_20, n32_100, n32_120, n32_255, n32_400, n32_3600, n32_m1, n64_0, n64_1, n64_2, n64_3, n64_4, n64_5, n64_9, n64_19, n64_119, n64_255, n64_400, n64_3599, n64_1000000000, n64_1000000000000, n64_m1000000000000] at c0 c1 c3 c4 c5 c6 c7 c9 b0 b1 b3 b4 b5)
      first | contradiction | omega
    · intro b0 b1 bt2 be2 bh2 b3 b4 b5 b6 b7
      obtain rfl : ct2 = bt2 := by have z := nI_inj2 be2 (by omega) (by omega); omega
      exfalso
      clear hI0 hM hX hW hY hT hE hD hU hS hB hG K M27 M28 M29 M30 M31 M32 M33 M34 M35 M36 M37 M38 M39 M40 M41 M42 M43 M44 M45 M46 M47 M48 M49 X0 X1 X2 X3 X4 X5 X6 X7 X8 X9 X10 X11 X12 X13 W0 W1 W2 Y0 Y1 Y2 Y3 Y4 Y5 Y6 Y7 Y8 Y9 K2
      (try simp only [Int32.lt_iff_toInt_lt, Int32.le_iff_toInt_le, Int64.lt_iff_toInt_lt, Int64.le_iff_toInt_le, Int32.toInt_toInt64, ← Int32.toInt_inj, ← Int64.toInt_inj, n32_0, n32_1, n32_2, n32_3, n32_4, n32_6, n32_8, n32_9, n32_10, n32_20, n32_100, n32_120, n32_255, n32_400, n32_3600, n32_m1, n64_0, n64_1, n64_2, n64_3, n64_4, n64_5, n64_9, n64_19, n64_119, n64_255, n64_400, n64_3599, n64_1000000000, n64_1000000000000, n64_m1000000000000] at c0 c1 c3 c4 c5 c6 c7 c9 b0 b1 b3 b4 b5 b6 b7)
      first | contradiction | omega
    · intro b0 b1 bt2 be2 bh2 b3 b4 b5 b6 b7
      obtain rfl : ct2 = bt2 := by have z := nI_inj2 be2 (by omega) (by omega); omega
      exfalso
      clear hI0 hM hX hW hY hT hE hD hU hS hB hG K M27 M28 M29 M30 M31 M32 M33 M34 M35 M36 M37 M38 M39 M40 M41 M42 M43 M44 M45 M46 M47 M48 M49 X0 X1 X2 X3 X4 X5 X6 X7 X8 X9 X10 X11 X12 X13 W0 W1 W2 Y0 Y1 Y2 Y3 Y4 Y5 Y6 Y7 Y8 Y9 K2
      (try simp only [Int32.lt_iff_toInt_lt, Int32.le_iff_toInt_le, Int64.lt_iff_toInt_lt, Int64.le_iff_toInt_le, Int32.toInt_toInt64, ← Int32.toInt_inj, ← Int64.toInt_inj, n32_0, n32_1, n32_2, n32_3, n32_4, n32_6, n32_8, n32_9, n32_10, n32_20, n32_100, n32_120, n32_255, n32_400, n32_3600, n32_m1, n64_0, n64_1, n64_2, n64_3, n64_4, n64_5, n64_9, n64_19, n64_119, n64_255, n64_400, n64_3599, n64_1000000000, n64_1000000000000, n64_m1000000000000] at c0 c1 c3 c4 c5 c6 c7 c9 b0 b1 b3 b4 b5 b6 b7)
      first | contradiction | omega
    · intro b0 b1 bt2 be2 bh2 b3 b4 b5 b6
      obtain rfl : ct2 = bt2 := by have z := nI_inj2 be2 (by omega) (by omega); omega
      exfalso
      clear hI0 hM hX hW hY hT hE hD hU hS hB hG K M27 M28 M29 M30 M31 M32 M33 M34 M35 M36 M37 M38 M39 M40 M41 M42 M43 M44 M45 M46 M47 M48 M49 X0 X1 X2 X3 X4 X5 X6 X7 X8 X9 X10 X11 X12 X13 W0 W1 W2 Y0 Y1 Y2 Y3 Y4 Y5 Y6 Y7 Y8 Y9 K2
      (try simp only [Int32.lt_iff_toInt_lt, Int32.le_iff_toInt_le, Int64.lt_iff_toInt_lt, Int64.le_iff_toInt_le, Int32.toInt_toInt64, ← Int32.toInt_inj, ← Int64.toInt_inj, n32_0, n32_1, n32_2, n32_3, n32_4, n32_6, n32_8, n32_9, n32_10, n32_20, n32_100, n32_120, n32_255, n32_400, n32_3600, n32_m1, n64_0, n64_1, n64_2, n64_3, n64_4, n64_5, n64_9, n64_19, n64_119, n64_255, n64_400, n64_3599, n64_1000000000, n64_1000000000000, n64_m1000000000000] at c0 c1 c3 c4 c5 c6 c7 c9 b0 b1 b3 b4 b5 b6)
      first | contradiction | omega
    · intro b0 b1 bt2 be2 bh2 b3 b4 b5
      obtain rfl : ct2 = bt2 := by have z := nI_inj2 be2 (by omega) (by omega); omega
      exfalso
      clear hI0 hM hX hW hY hT hE hD hU hS hB hG K M27 M28 M29 M30 M31 M32 M33 M34 M35 M36 M37 M38 M39 M40 M41 M42 M43 M44 M45 M46 M47 M48 M49 X0 X1 X2 X3 X4 X5 X6 X7 X8 X9 X10 X11 X12 X13 W0 W1 W2 Y0 Y1 Y2 Y3 Y4 Y5 Y6 Y7 Y8 Y9 K2
      (try simp only [Int32.lt_iff_toInt_lt, Int32.le_iff_toInt_le, Int64.lt_iff_toInt_lt, Int64.le_iff_toInt_le, Int32.toInt_toInt64, ← Int32.toInt_inj, ← Int64.toInt_inj, n32_0, n32_1, n32_2, n32_3, n32_4, n32_6, n32_8, n32_9, n32_10, n32_20, n32_100, n32_120, n32_255, n32_400, n32_3600, n32_m1, n64_0, n64_1, n64_2, n64_3, n64_4, n64_5, n64_9, n64_19, n64_119, n64_255, n64_400, n64_3599, n64_1000000000, n64_1000000000000, n64_m1000000000000] at c0 c1 c3 c4 c5 c6 c7 c9 b0 b1 b3 b4 b5)
      first | contradiction | omega
    · intro b0 b1 bt2 be2 bh2 b3 b4
      obtain rfl : ct2 = bt2 := by have z := nI_inj2 be2 (by omega) (by omega); omega
      exfalso
      clear hI0 hM hX hW hY hT hE hD hU hS hB hG K M27 M28 M29 M30 M31 M32 M33 M34 M35 M36 M37 M38 M39 M40 M41 M42 M43 M44 M45 M46 M47 M48 M49 X0 X1 X2 X3 X4 X5 X6 X7 X8 X9 X10 X11 X12 X13 W0 W1 W2 Y0 Y1 Y2 Y3 Y4 Y5 Y6 Y7 Y8 Y9 K2
      (try simp only [Int32.lt_iff_toInt_lt, Int32.le_iff_toInt_le, Int64.lt_iff_toInt_lt, Int64.le_iff_toInt_le, Int32.toInt_toInt64, ← Int32.toInt_inj, ← Int64.toInt_inj, n32_0, n32_1, n32_2, n32_3, n32_4, n32_6, n32_8, n32_9, n32_10, n32_20, n32_100, n32_120, n32_255, n32_400, n32_3600, n32_m1, n64_0, n64_1, n64_2, n64_3, n64_4, n64_5, n64_9, n64_19, n64_119, n64_255, n64_400, n64_3599, n64_1000000000, n64_1000000000000, n64_m1000000000000] at c0 c1 c3 c4 c5 c6 c7 c9 b0 b1 b3 b4)
      first | contradiction | omega
  · intro c0 c1 ct2 ce2 ch2 c3 c4 c5 c6 c7
    subst ce2
    have hr8 := (hB.1 ct2 ch2).2.2.1
    refine K _ _ ⟨_, M27⟩ (fun Q2 K2 => ?_)
    refine s_X8_entry M27 M44 M45 M46 M47 M48 M49 hE60 (fun e he => ⟨(hB.1 e he).2.1, (hB.1 e he).2.2.1⟩) ?_ ?_ ?_ ?_ ?_ ?_ ?_ ?_ ?_ ?_ ?_ ?_
    · intro b0
      exfalso
      clear hI0 hM hX hW hY hT hE hD hU hS hB hG K M27 M28 M29 M30 M31 M32 M33 M34 M35 M36 M37 M38 M39 M40 M41 M42 M43 M44 M45 M46 M47 M48 M49 X0 X1 X2 X3 X4 X5 X6 X7 X8 X9 X10 X11 X12 X13 W0 W1 W2 Y0 Y1 Y2 Y3 Y4 Y5 Y6 Y7 Y8 Y9 K2
      (try simp only [Int32.lt_iff_toInt_lt, Int32.le_iff_toInt_le, Int64.lt_iff_toInt_lt, Int64.le_iff_toInt_le, Int32.toInt_toInt64, ← Int32.toInt_inj, ← Int64.toInt_inj, n32_0, n32_1, n32_2, n32_3, n32_4, n32_6, n32_8, n32_9, n32_10, n32_20, n32_100, n32_120, n32_255, n32_400, n32_3600, n32_m1, n64_0, n64_1, n64_2, n64_3, n64_4, n64_5, n64_9, n64_19, n64_119, n64_255, n64_400, n64_3599, n64_1000000000, n64_1000000000000, n64_m1000000000000] at c0 c1 c3 c4 c5 c6 c7 b0)
      first | contradiction | omega
    · intro b0 b1
      exfalso
      clear hI0 hM hX hW hY hT hE hD hU hS hB hG K M27 M28 M29 M30 M31 M32 M33 M34 M35 M36 M37 M38 M39 M40 M41 M42 M43 M44 M45 M46 M47 M48 M49 X0 X1 X2 X3 X4 X5 X6 X7 X8 X9 X10 X11 X12 X13 W0 W1 W2 Y0 Y1 Y2 Y3 Y4 Y5 Y6 Y7 Y8 Y9 K2
      (try simp only [Int32.lt_iff_toInt_lt, Int32.le_iff_toInt_le, Int64.lt_iff_toInt_lt, Int64.le_iff_toInt_le, Int32.toInt_toInt64, ← Int32.toInt_inj, ← Int64.toInt_inj, n32_0, n32_1, n32_2, n32_3, n32_4, n32_6, n32_8, n32_9, n32_10, n32_20, n32_100, n32_120, n32_255, n32_400, n32_3600, n32_m1, n64_0, n64_1, n64_2, n64_3, n64_4, n64_5, n64_9, n64_19, n64_119, n64_255, n64_400, n64_3599, n64_1000000000, n64_1000000000000, n64_m1000000000000] at c0 c1 c3 c4 c5 c6 c7 b0 b1)
      first | contradiction | omega
    · intro b0 b1 bt2 be2 bh2 b3 b4
      obtain rfl : ct2 = bt2 := by have z := nI_inj2 be2 (by omega) (by omega); omega
      exfalso
      clear hI0 hM hX hW hY hT hE hD hU hS hB hG K M27 M28 M29 M30 M31 M32 M33 M34 M35 M36 M37 M38 M39 M40 M41 M42 M43 M44 M45 M46 M47 M48 M49 X0 X1 X2 X3 X4 X5 X6 X7 X8 X9 X10 X11 X12 X13 W0 W1 W2 Y0 Y1 Y2 Y3 Y4 Y5 Y6 Y7 Y8 Y9 K2
      (try simp only [Int32.lt_iff_toInt_lt, Int32.le_iff_toInt_le, Int64.lt_iff_toInt_lt, Int64.le_iff_toInt_le, Int32.toInt_toInt64, ← Int32.toInt_inj, ← Int64.toInt_inj, n32_0, n32_1, n32_2, n32_3, n32_4, n32_6, n32_8, n32_9, n32_10, n32_20, n32_100, n32_120, n32_255, n32_400, n32_3600, n32_m1, n64_0, n64_1, n64_2, n64_3, n64_4, n64_5, n64_9, n64_19, n64_119, n64_255, n64_400, n64_3599, n64_1000000000, n64_1000000000000, n64_m1000000000000] at c0 c1 c3 c4 c5 c6 c7 b0 b1 b3 b4)
      first | contradiction | omega
    · intro b0 b1 bt2 be2 bh2 b3 b4 b5 bt6 be6 bh6 b7 b8
      obtain rfl : ct2 = bt2 := by have z := nI_inj2 be2 (by omega) (by omega); omega
      exact K2 _ (iV_up hI0)
    · intro b0 b1 bt2 be2 bh2 b3 b4 b5 bt6 be6 bh6 b7 b8
      obtain rfl : ct2 = bt2 := by have z := nI_inj2 be2 (by omega) (by omega); omega
      exfalso
      clear hI0 hM hX hW hY hT hE hD hU hS hB hG K M27 M28 M29 M30 M31 M32 M33 M34 M35 M36 M37 M38 M39 M40 M41 M42 M43 M44 M45 M46 M47 M48 M49 X0 X1 X2 X3 X4 X5 X6 X7 X8 X9 X10 X11 X12 X13 W0 W1 W2 Y0 Y1 Y2 Y3 Y4 Y5 Y6 Y7 Y8 Y9 K2
      (try simp only [Int32.lt_iff_toInt_lt, Int32.le_iff_toInt_le, Int64.lt_iff_toInt_lt, Int64.le_iff_toInt_le, Int32.toInt_toInt64, ← Int32.toInt_inj, ← Int64.toInt_inj, n32_0, n32_1, n32_2, n32_3, n32_4, n32_6, n32_8, n32_9, n32_10, n32_20, n32_100, n32_120, n32_255, n32_400, n32_3600, n32_m1, n64_0, n64_1, n64_2, n64_3, n64_4, n64_5, n64_9, n64_19, n64_119, n64_255, n64_400, n64_3599, n64_1000000000, n64_1000000000000, n64_m1000000000000] at c0 c1 c3 c4 c5 c6 c7 b0 b1 b3 b4 b5 b7 b8)
      first | contradiction | omega
    · intro b0 b1 bt2 be2 bh2 b3 b4 b5 bt6 be6 bh6 b7
      obtain rfl : ct2 = bt2 := by have z := nI_inj2 be2 (by omega) (by omega); omega
      exfalso
      clear hI0 hM hX hW hY hT hE hD hU hS hB hG K M27 M28 M29 M30 M31 M32 M33 M34 M35 M36 M37 M38 M39 M40 M41 M42 M43 M44 M45 M46 M47 M48 M49 X0 X1 X2 X3 X4 X5 X6 X7 X8 X9 X10 X11 X12 X13 W0 W1 W2 Y0 Y1 Y2 Y3 Y4 Y5 Y6 Y7 Y8 Y9 K2
      (try simp only [Int32.lt_iff_toInt_lt, Int32.le_iff_toInt_le, Int64.lt_iff_toInt_lt, Int64.le_iff_toInt_le, Int32.toInt_toInt64, ← Int32.toInt_inj, ← Int64.toInt_inj, n32_0, n32_1, n32_2, n32_3, n32_4, n32_6, n32_8, n32_9, n32_10, n32_20, n32_100, n32_120, n32_255, n32_400, n32_3600, n32_m1, n64_0, n64_1, n64_2, n64_3, n64_4, n64_5, n64_9, n64_19, n64_119, n64_255, n64_400, n64_3599, n64_1000000000, n64_1000000000000, n64_m1000000000000] at c0 c1 c3 c4 c5 c6 c7 b0 b1 b3 b4 b5 b7)
      first | contradiction | omega
    · intro b0 b1 bt2 be2 bh2 b3 b4 b5
      obtain rfl : ct2 = bt2 := by have z := nI_inj2 be2 (by omega) (by omega); omega
      exfalso
      clear hI0 hM hX hW hY hT hE hD hU hS hB hG K M27 M28 M29 M30 M31 M32 M33 M34 M35 M36 M37 M38 M39 M40 M41 M42 M43 M44 M45 M46 M47 M48 M49 X0 X1 X2 X3 X4 X5 X6 X7 X8 X9 X10 X11 X12 X13 W0 W1 W2 Y0 Y1 Y2 Y3 Y4 Y5 Y6 Y7 Y8 Y9 K2
      (try simp only [Int32.lt_iff_toInt_lt, Int32.le_iff_toInt_le, Int64.lt_iff_toInt_lt, Int64.le_iff_toInt_le, Int32.toInt_toInt64, ← Int32.toInt_inj, ← Int64.toInt_inj, n32_0, n32_1, n32_2, n32_3, n32_4, n32_6, n32_8, n32_9, n32_10, n32_20, n32_100, n32_120, n32_255, n32_400, n32_3600, n32_m1, n64_0, n64_1, n64_2, n64_3, n64_4, n64_5, n64_9, n64_19, n64_119, n64_255, n64_400, n64_3599, n64_1000000000, n64_1000000000000, n64_m1000000000000] at c0 c1 c3 c4 c5 c6 c7 b0 b1 b3 b4 b5)
      first | contradiction | omega
    · intro b0 b1 bt2 be2 bh2 b3 b4 b5 b6 b7
      obtain rfl : ct2 = bt2 := by have z := nI_inj2 be2 (by omega) (by omega); omega
      exfalso
      clear hI0 hM hX hW hY hT hE hD hU hS hB hG K M27 M28 M29 M30 M31 M32 M33 M34 M35 M36 M37 M38 M39 M40 M41 M42 M43 M44 M45 M46 M47 M48 M49 X0 X1 X2 X3 X4 X5 X6 X7 X8 X9 X10 X11 X12 X13 W0 W1 W2 Y0 Y1 Y2 Y3 Y4 Y5 Y6 Y7 Y8 Y9 K2
      (try simp only [Int32.lt_iff_toInt_lt, Int32.le_iff_toInt_le, Int64.lt_iff_toInt_lt, Int64.le_iff_toInt_le, Int32.toInt_toInt64, ← Int32.toInt_inj, ← Int64.toInt_inj, n32_0, n32_1, n32_2, n32_3, n32_4, n32_6, n32_8, n32_9, n32_10, n32_20, n32_100, n32_120, n32_255, n32_400, n32_3600, n32_m1, n64_0, n64_1, n64_2, n64_3, n64_4, n64_5, n64_9, n64_19, n64_119, n64_255, n64_400, n64_3599, n64_1000000000, n64_1000000000000, n64_m1000000000000] at c0 c1 c3 c4 c5 c6 c7 b0 b1 b3 b4 b5 b6 b7)
      first | contradiction | omega
    · intro b0 b1 bt2 be2 bh2 b3 b4 b5 b6 b7
      obtain rfl : ct2 = bt2 := by have z := nI_inj2 be2 (by omega) (by omega); omega
      exfalso
      clear hI0 hM hX hW hY hT hE hD hU hS hB hG K M27 M28 M29 M30 M31 M32 M33 M34 M35 M36 M37 M38 M39 M40 M41 M42 M43 M44 M45 M46 M47 M48 M49 X0 X1 X2 X3 X4 X5 X6 X7 X8 X9 X10 X11 X12 X13 W0 W1 W2 Y0 Y1 Y2 Y3 Y4 Y5 Y6 Y7 Y8 Y9 K2
      (try simp only [Int32.lt_iff_toInt_lt, Int32.le_iff_toInt_le, Int64.lt_iff_toInt_lt, Int64.le_iff_toInt_le, Int32.toInt_toInt64, ← Int32.toInt_inj, ← Int64.toInt_inj, n32_0, n32_1, n32_2, n32_3, n32_4, n32_6, n32_8, n32_9, n32_10, n32_20, n32_100, n32_120, n32_255, n32_400, n32_3600, n32_m1, n64_0, n64_1, n64_2, n64_3, n64_4, n64_5, n64_9, n64_19, n64_119, n64_255, n64_400, n64_3599, n64_1000000000, n64_1000000000000, n64_m1000000000000] at c0 c1 c3 c4 c5 c6 c7 b0 b1 b3 b4 b5 b6 b7)
      first | contradiction | omega
    · intro b0 b1 bt2 be2 bh2 b3 b4 b5 b6
      obtain rfl : ct2 = bt2 := by have z := nI_inj2 be2 (by omega) (by omega); omega
      exfalso
      clear hI0 hM hX hW hY hT hE hD hU hS hB hG K M27 M28 M29 M30 M31 M32 M33 M34 M35 M36 M37 M38 M39 M40 M41 M42 M43 M44 M45 M46 M47 M48 M49 X0 X1 X2 X3 X4 X5 X6 X7 X8 X9 X10 X11 X12 X13 W0 W1 W2 Y0 Y1 Y2 Y3 Y4 Y5 Y6 Y7 Y8 Y9 K2
      (try simp only [Int32.lt_iff_toInt_lt, Int32.le_iff_toInt_le, Int64.lt_iff_toInt_lt, Int64.le_iff_toInt_le, Int32.toInt_toInt64, ← Int32.toInt_inj, ← Int64.toInt_inj, n32_0, n32_1, n32_2, n32_3, n32_4, n32_6, n32_8, n32_9, n32_10, n32_20, n32_100, n32_120, n32_255, n32_400, n32_3600, n32_m1, n64_0, n64_1, n64_2, n64_3, n64_4, n64_5, n64_9, n64_19, n64_119, n64_255, n64_400, n64_3599, n64_1000000000, n64_1000000000000, n64_m1000000000000] at c0 c1 c3 c4 c5 c6 c7 b0 b1 b3 b4 b5 b6)
      first | contradiction | omega
    · intro b0 b1 bt2 be2 bh2 b3 b4 b5
      obtain rfl : ct2 = bt2 := by have z := nI_inj2 be2 (by omega) (by omega); omega
      exfalso
      clear hI0 hM hX hW hY hT hE hD hU hS hB hG K M27 M28 M29 M30 M31 M32 M33 M34 M35 M36 M37 M38 M39 M40 M41 M42 M43 M44 M45 M46 M47 M48 M49 X0 X1 X2 X3 X4 X5 X6 X7 X8 X9 X10 X11 X12 X13 W0 W1 W2 Y0 Y1 Y2 Y3 Y4 Y5 Y6 Y7 Y8 Y9 K2
      (try simp only [Int32.lt_iff_toInt_lt, Int32.le_iff_toInt_le, Int64.lt_iff_toInt_lt, Int64.le_iff_toInt_le, Int32.toInt_toInt64, ← Int32.toInt_inj, ← Int64.toInt_inj, n32_0, n32_1, n32_2, n32_3, n32_4, n32_6, n32_8, n32_9, n32_10, n32_20, n32_100, n32_120, n32_255, n32_400, n32_3600, n32_m1, n64_0, n64_1, n64_2, n64_3, n64_4, n64_5, n64_9, n64_19, n64_119, n64_255, n64_400, n64_3599, n64_1000000000, n64_1000000000000, n64_m1000000000000] at c0 c1 c3 c4 c5 c6 c7 b0 b1 b3 b4 b5)
      first | contradiction | omega
    · intro b0 b1 bt2 be2 bh2 b3 b4
      obtain rfl : ct2 = bt2 := by have z := nI_inj2 be2 (by omega) (by omega); omega
      exfalso
      clear hI0 hM hX hW hY hT hE hD hU hS hB hG K M27 M28 M29 M30 M31 M32 M33 M34 M35 M36 M37 M38 M39 M40 M41 M42 M43 M44 M45 M46 M47 M48 M49 X0 X1 X2 X3 X4 X5 X6 X7 X8 X9 X10 X11 X12 X13 W0 W1 W2 Y0 Y1 Y2 Y3 Y4 Y5 Y6 Y7 Y8 Y9 K2
      (try simp only [Int32.lt_iff_toInt_lt, Int32.le_iff_toInt_le, Int64.lt_iff_toInt_lt, Int64.le_iff_toInt_le, Int32.toInt_toInt64, ← Int32.toInt_inj, ← Int64.toInt_inj, n32_0, n32_1, n32_2, n32_3, n32_4, n32_6, n32_8, n32_9, n32_10, n32_20, n32_100, n32_120, n32_255, n32_400, n32_3600, n32_m1, n64_0, n64_1, n64_2, n64_3, n64_4, n64_5, n64_9, n64_19, n64_119, n64_255, n64_400, n64_3599, n64_1000000000, n64_1000000000000, n64_m1000000000000] at c0 c1 c3 c4 c5 c6 c7 b0 b1 b3 b4)
      first | contradiction | omega
  · intro c0 c1 ct2 ce2 ch2 c3 c4
    subst ce2
    have hr8 := (hB.1 ct2 ch2).2.2.1
    refine K _ _ ⟨_, M27⟩ (fun Q2 K2 => ?_)
    refine s_X8_entry M27 M44 M45 M46 M47 M48 M49 hE60 (fun e he => ⟨(hB.1 e he).2.1, (hB.1 e he).2.2.1⟩) ?_ ?_ ?_ ?_ ?_ ?_ ?_ ?_ ?_ ?_ ?_ ?_
    · intro b0
      exfalso
      clear hI0 hM hX hW hY hT hE hD hU hS hB hG K M27 M28 M29 M30 M31 M32 M33 M34 M35 M36 M37 M38 M39 M40 M41 M42 M43 M44 M45 M46 M47 M48 M49 X0 X1 X2 X3 X4 X5 X6 X7 X8 X9 X10 X11 X12 X13 W0 W1 W2 Y0 Y1 Y2 Y3 Y4 Y5 Y6 Y7 Y8 Y9 K2
      (try simp only [Int32.lt_iff_toInt_lt, Int32.le_iff_toInt_le, Int64.lt_iff_toInt_lt, Int64.le_iff_toInt_le, Int32.toInt_toInt64, ← Int32.toInt_inj, ← Int64.toInt_inj, n32_0, n32_1, n32_2, n32_3, n32_4, n32_6, n32_8, n32_9, n32_10, n32_20, n32_100, n32_120, n32_255, n32_400, n32_3600, n32_m1, n64_0, n64_1, n64_2, n64_3, n64_4, n64_5, n64_9, n64_19, n64_119, n64_255, n64_400, n64_3599, n64_1000000000, n64_1000000000000, n64_m1000000000000] at c0 c1 c3 c4 b0)
      first | contradiction | omega
    · intro b0 b1
      exfalso
      clear hI0 hM hX hW hY hT hE hD hU hS hB hG K M27 M28 M29 M30 M31 M32 M33 M34 M35 M36 M37 M38 M39 M40 M41 M42 M43 M44 M45 M46 M47 M48 M49 X0 X1 X2 X3 X4 X5 X6 X7 X8 X9 X10 X11 X12 X13 W0 W1 W2 Y0 Y1 Y2 Y3 Y4 Y5 Y6 Y7 Y8 Y9 K2
      (try simp only [Int32.lt_iff_toInt_lt, Int32.le_iff_toInt_le, Int64.lt_iff_toInt_lt, Int64.le_iff_toInt_le, Int32.toInt_toInt64, ← Int32.toInt_inj, ← Int64.toInt_inj, n32_0, n32_1, n32_2, n32_3, n32_4, n32_6, n32_8, n32_9, n32_10, n32_20, n32_100, n32_120, n32_255, n32_400, n32_3600, n32_m1, n64_0, n64_1, n64_2, n64_3, n64_4, n64_5, n64_9, n64_19, n64_119, n64_255, n64_400, n64_3599, n64_1000000000, n64_1000000000000, n64_m1000000000000] at c0 c1 c3 c4 b0 b1)
      first | contradiction | omega
    · intro b0 b1 bt2 be2 bh2 b3 b4
      obtain rfl : ct2 = bt2 := by have z := nI_inj2 be2 (by omega) (by omega); omega
      exfalso
      clear hI0 hM hX hW hY hT hE hD hU hS hB hG K M27 M28 M29 M30 M31 M32 M33 M34 M35 M36 M37 M38 M39 M40 M41 M42 M43 M44 M45 M46 M47 M48 M49 X0 X1 X2 X3 X4 X5 X6 X7 X8 X9 X10 X11 X12 X13 W0 W1 W2 Y0 Y1 Y2 Y3 Y4 Y5 Y6 Y7 Y8 Y9 K2
      (try simp only [Int32.lt_iff_toInt_lt, Int32.le_iff_toInt_le, Int64.lt_iff_toInt_lt, Int64.le_iff_toInt_le, Int32.toInt_toInt64, ← Int32.toInt_inj, ← Int64.toInt_inj, n32_0, n32_1, n32_2, n32_3, n32_4, n32_6, n32_8, n32_9, n32_10, n32_20, n32_100, n32_120, n32_255, n32_400, n32_3600, n32_m1, n64_0, n64_1, n64_2, n64_3, n64_4, n64_5, n64_9, n64_19, n64_119, n64_255, n64_400, n64_3599, n64_1000000000, n64_1000000000000, n64_m1000000000000] at c0 c1 c3 c4 b0 b1 b3 b4)
      first | contradiction | omega
    · intro b0 b1 bt2 be2 bh2 b3 b4 b5 bt6 be6 bh6 b7 b8
      obtain rfl : ct2 = bt2 := by have z := nI_inj2 be2 (by omega) (by omega); omega
      exfalso
      clear hI0 hM hX hW hY hT hE hD hU hS hB hG K M27 M28 M29 M30 M31 M32 M33 M34 M35 M36 M37 M38 M39 M40 M41 M42 M43 M44 M45 M46 M47 M48 M49 X0 X1 X2 X3 X4 X5 X6 X7 X8 X9 X10 X11 X12 X13 W0 W1 W2 Y0 Y1 Y2 Y3 Y4 Y5 Y6 Y7 Y8 Y9 K2
      (try simp only [Int32.lt_iff_toInt_lt, Int32.le_iff_toInt_le, Int64.lt_iff_toInt_lt, Int64.le_iff_toInt_le, Int32.toInt_toInt64, ← Int32.toInt_inj, ← Int64.toInt_inj, n32_0, n32_1, n32_2, n32_3, n32_4, n32_6, n32_8, n32_9, n32_10, n32_20, n32_100, n32_120, n32_255, n32_400, n32_3600, n32_m1, n64_0, n64_1, n64_2, n64_3, n64_4, n64_5, n64_9, n64_19, n64_119, n64_255, n64_400, n64_3599, n64_1000000000, n64_1000000000000, n64_m1000000000000] at c0 c1 c3 c4 b0 b1 b3 b4 b5 b7 b8)
      first | contradiction | omega
    · intro b0 b1 bt2 be2 bh2 b3 b4 b5 bt6 be6 bh6 b7 b8
      obtain rfl : ct2 = bt2 := by have z := nI_inj2 be2 (by omega) (by omega); omega
      exfalso
      clear hI0 hM hX hW hY hT hE hD hU hS hB hG K M27 M28 M29 M30 M31 M32 M33 M34 M35 M36 M37 M38 M39 M40 M41 M42 M43 M44 M45 M46 M47 M48 M49 X0 X1 X2 X3 X4 X5 X6 X7 X8 X9 X10 X11 X12 X13 W0 W1 W2 Y0 Y1 Y2 Y3 Y4 Y5 Y6 Y7 Y8 Y9 K2
      (try simp only [Int32.lt_iff_toInt_lt, Int32.le_iff_toInt_le, Int64.lt_iff_toInt_lt, Int64.le_iff_toInt_le, Int32.toInt_toInt64, ← Int32.toInt_inj, ← Int64.toInt_inj, n32_0, n32_1, n32_2, n32_3, n32_4, n32_6, n32_8, n32_9, n32_10, n32_20, n32_100, n32_120, n32_255, n32_400, n32_3600, n32_m1, n64_0, n64_1, n64_2, n64_3, n64_4, n64_5, n64_9, n64_19, n64_119, n64_255, n64_400, n64_3599, n64_1000000000, n64_1000000000000, n64_m1000000000000] at c0 c1 c3 c4 b0 b1 b3 b4 b5 b7 b8)
      first | contradiction | omega
    · intro b0 b1 bt2 be2 bh2 b3 b4 b5 bt6 be6 bh6 b7
      obtain rfl : ct2 = bt2 := by have z := nI_inj2 be2 (by omega) (by omega); omega
      exfalso
      clear hI0 hM hX hW hY hT hE hD hU hS hB hG K M27 M28 M29 M30 M31 M32 M33 M34 M35 M36 M37 M38 M39 M40 M41 M42 M43 M44 M45 M46 M47 M48 M49 X0 X1 X2 X3 X4 X5 X6 X7 X8 X9 X10 X11 X12 X13 W0 W1 W2 Y0 Y1 Y2 Y3 Y4 Y5 Y6 Y7 Y8 Y9 K2
      (try simp only [Int32.lt_iff_toInt_lt, Int32.le_iff_toInt_le, Int64.lt_iff_toInt_lt, Int64.le_iff_toInt_le, Int32.toInt_toInt64, ← Int32.toInt_inj, ← Int64.toInt_inj, n32_0, n32_1, n32_2, n32_3, n32_4, n32_6, n32_8, n32_9, n32_10, n32_20, n32_100, n32_120, n32_255, n32_400, n32_3600, n32_m1, n64_0, n64_1, n64_2, n64_3, n64_4, n64_5, n64_9, n64_19, n64_119, n64_255, n64_400, n64_3599, n64_1000000000, n64_1000000000000, n64_m1000000000000] at c0 c1 c3 c4 b0 b1 b3 b4 b5 b7)
      first | contradiction | omega
    · intro b0 b1 bt2 be2 bh2 b3 b4 b5
      obtain rfl : ct2 = bt2 := by have z := nI_inj2 be2 (by omega) (by omega); omega
      exfalso
      clear hI0 hM hX hW hY hT hE hD hU hS hB hG K M27 M28 M29 M30 M31 M32 M33 M34 M35 M36 M37 M38 M39 M40 M41 M42 M43 M44 M45 M46 M47 M48 M49 X0 X1 X2 X3 X4 X5 X6 X7 X8 X9 X10 X11 X12 X13 W0 W1 W2 Y0 Y1 Y2 Y3 Y4 Y5 Y6 Y7 Y8 Y9 K2
      (try simp only [Int32.lt_iff_toInt_lt, Int32.le_iff_toInt_le, Int64.lt_iff_toInt_lt, Int64.le_iff_toInt_le, Int32.toInt_toInt64, ← Int32.toInt_inj, ← Int64.toInt_inj, n32_0, n32_1, n32_2, n32_3, n32_4, n32_6, n32_8, n32_9, n32_10, n32_20, n32_100, n32_120, n32_255, n32_400, n32_3600, n32_m1, n64_0, n64_1, n64_2, n64_3, n64_4, n64_5, n64_9, n64_19, n64_119, n64_255, n64_400, n64_3599, n64_1000000000, n64_1000000000000, n64_m1000000000000] at c0 c1 c3 c4 b0 b1 b3 b4 b5)
      first | contradiction | omega
    · intro b0 b1 bt2 be2 bh2 b3 b4 b5 b6 b7
      obtain rfl : ct2 = bt2 := by have z := nI_inj2 be2 (by omega) (by omega); omega
      exfalso
      clear hI0 hM hX hW hY hT hE hD hU hS hB hG K M27 M28 M29 M30 M31 M32 M33 M34 M35 M36 M37 M38 M39 M40 M41 M42 M43 M44 M45 M46 M47 M48 M49 X0 X1 X2 X3 X4 X5 X6 X7 X8 X9 X10 X11 X12 X13 W0 W1 W2 Y0 Y1 Y2 Y3 Y4 Y5 Y6 Y7 Y8 Y9 K2
      (try simp only [Int32.lt_iff_toInt_lt, Int32.le_iff_toInt_le, Int64.lt_iff_toInt_lt, Int64.le_iff_toInt_le, Int32.toInt_toInt64, ← Int32.toInt_inj, ← Int64.toInt_inj, n32_0, n32_1, n32_2, n32_3, n32_4, n32_6, n32_8, n32_9, n32_10, n32_20, n32_100, n32_120, n32_255, n32_400, n32_3600, n32_m1, n64_0, n64_1, n64_2, n64_3, n64_4, n64_5, n64_9, n64_19, n64_119, n64_255, n64_400, n64_3599, n64_1000000000, n64_1000000000000, n64_m1000000000000] at c0 c1 c3 c4 b0 b1 b3 b4 b5 b6 b7)
      first | contradiction | omega
    · intro b0 b1 bt2 be2 bh2 b3 b4 b5 b6 b7
      obtain rfl : ct2 = bt2 := by have z := nI_inj2 be2 (by omega) (by omega); omega
      exfalso
      clear hI0 hM hX hW hY hT hE hD hU hS hB hG K M27 M28 M29 M30 M31 M32 M33 M34 M35 M36 M37 M38 M39 M40 M41 M42 M43 M44 M45 M46 M47 M48 M49 X0 X1 X2 X3 X4 X5 X6 X7 X8 X9 X10 X11 X12 X13 W0 W1 W2 Y0 Y1 Y2 Y3 Y4 Y5 Y6 Y7 Y8 Y9 K2
      (try simp only [Int32.lt_iff_toInt_lt, Int32.le_iff_toInt_le, Int64.lt_iff_toInt_lt, Int64.le_iff_toInt_le, Int32.toInt_toInt64, ← Int32.toInt_inj, ← Int64.toInt_inj, n32_0, n32_1, n32_2, n32_3, n32_4, n32_6, n32_8, n32_9, n32_10, n32_20, n32_100, n32_120, n32_255, n32_400, n32_3600, n32_m1, n64_0, n64_1, n64_2, n64_3, n64_4, n64_5, n64_9, n64_19, n64_119, n64_255, n64_400, n64_3599, n64_1000000000, n64_1000000000000, n64_m1000000000000] at c0 c1 c3 c4 b0 b1 b3 b4 b5 b6 b7)
      first | contradiction | omega
    · intro b0 b1 bt2 be2 bh2 b3 b4 b5 b6
      obtain rfl : ct2 = bt2 := by have z := nI_inj2 be2 (by omega) (by omega); omega
      exfalso
      clear hI0 hM hX hW hY hT hE hD hU hS hB hG K M27 M28 M29 M30 M31 M32 M33 M34 M35 M36 M37 M38 M39 M40 M41 M42 M43 M44 M45 M46 M47 M48 M49 X0 X1 X2 X3 X4 X5 X6 X7 X8 X9 X10 X11 X12 X13 W0 W1 W2 Y0 Y1 Y2 Y3 Y4 Y5 Y6 Y7 Y8 Y9 K2
      (try simp only [Int32.lt_iff_toInt_lt, Int32.le_iff_toInt_le, Int64.lt_iff_toInt_lt, Int64.le_iff_toInt_le, Int32.toInt_toInt64, ← Int32.toInt_inj, ← Int64.toInt_inj, n32_0, n32_1, n32_2, n32_3, n32_4, n32_6, n32_8, n32_9, n32_10, n32_20, n32_100, n32_120, n32_255, n32_400, n32_3600, n32_m1, n64_0, n64_1, n64_2, n64_3, n64_4, n64_5, n64_9, n64_19, n64_119, n64_255, n64_400, n64_3599, n64_1000000000, n64_1000000000000, n64_m1000000000000] at c0 c1 c3 c4 b0 b1 b3 b4 b5 b6)
      first | contradiction | omega
    · intro b0 b1 bt2 be2 bh2 b3 b4 b5
      obtain rfl : ct2 = bt2 := by have z := nI_inj2 be2 (by omega) (by omega); omega
      exfalso
      clear hI0 hM hX hW hY hT hE hD hU hS hB hG K M27 M28 M29 M30 M31 M32 M33 M34 M35 M36 M37 M38 M39 M40 M41 M42 M43 M44 M45 M46 M47 M48 M49 X0 X1 X2 X3 X4 X5 X6 X7 X8 X9 X10 X11 X12 X13 W0 W1 W2 Y0 Y1 Y2 Y3 Y4 Y5 Y6 Y7 Y8 Y9 K2
      (try simp only [Int32.lt_iff_toInt_lt, Int32.le_iff_toInt_le, Int64.lt_iff_toInt_lt, Int64.le_iff_toInt_le, Int32.toInt_toInt64, ← Int32.toInt_inj, ← Int64.toInt_inj, n32_0, n32_1, n32_2, n32_3, n32_4, n32_6, n32_8, n32_9, n32_10, n32_20, n32_100, n32_120, n32_255, n32_400, n32_3600, n32_m1, n64_0, n64_1, n64_2, n64_3, n64_4, n64_5, n64_9, n64_19, n64_119, n64_255, n64_400, n64_3599, n64_1000000000, n64_1000000000000, n64_m1000000000000] at c0 c1 c3 c4 b0 b1 b3 b4 b5)
      first | contradiction | omega
    · intro b0 b1 bt2 be2 bh2 b3 b4
      obtain rfl : ct2 = bt2 := by have z := nI_inj2 be2 (by omega) (by omega); omega
      exact K2 _ (iV_up hI0)
  · intro c0 c1 ct2 ce2 ch2 c3 c4 c5
    subst ce2
    have hr8 := (hB.1 ct2 ch2).2.2.1
    refine K _ _ ⟨_, M27⟩ (fun Q2 K2 => ?_)
    refine s_X8_entry M27 M44 M45 M46 M47 M48 M49 hE60 (fun e he => ⟨(hB.1 e he).2.1, (hB.1 e he).2.2.1⟩) ?_ ?_ ?_ ?_ ?_ ?_ ?_ ?_ ?_ ?_ ?_ ?_
    · intro b0
      exfalso
      clear hI0 hM hX hW hY hT hE hD hU hS hB hG K M27 M28 M29 M30 M31 M32 M33 M34 M35 M36 M37 M38 M39 M40 M41 M42 M43 M44 M45 M46 M47 M48 M49 X0 X1 X2 X3 X4 X5 X6 X7 X8 X9 X10 X11 X12 X13 W0 W1 W2 Y0 Y1 Y2 Y3 Y4 Y5 Y6 Y7 Y8 Y9 K2
      (try simp only [Int32.lt_iff_toInt_lt, Int32.le_iff_toInt_le, Int64.lt_iff_toInt_lt, Int64.le_iff_toInt_le, Int32.toInt_toInt64, ← Int32.toInt_inj, ← Int64.toInt_inj, n32_0, n32_1, n32_2, n32_3, n32_4, n32_6, n32_8, n32_9, n32_10, n32_20, n32_100, n32_120, n32_255, n32_400, n32_3600, n32_m1, n64_0, n64_1, n64_2, n64_3, n64_4, n64_5, n64_9, n64_19, n64_119, n64_255, n64_400, n64_3599, n64_1000000000, n64_1000000000000, n64_m1000000000000] at c0 c1 c3 c4 c5 b0)
      first | contradiction | omega
    · intro b0 b1
      exfalso
      clear hI0 hM hX hW hY hT hE hD hU hS hB hG K M27 M28 M29 M30 M31 M32 M33 M34 M35 M36 M37 M38 M39 M40 M41 M42 M43 M44 M45 M46 M47 M48 M49 X0 X1 X2 X3 X4 X5 X6 X7 X8 X9 X10 X11 X12 X13 W0 W1 W2 Y0 Y1 Y2 Y3 Y4 Y5 Y6 Y7 Y8 Y9 K2
      (try simp only [Int32.lt_iff_toInt_lt, Int32.le_iff_toInt_le, Int64.lt_iff_toInt_lt, Int64.le_iff_toInt_le, Int32.toInt_toInt64, ← Int32.toInt_inj, ← Int64.toInt_inj, n32_0, n32_1, n32_2, n32_3, n32_4, n32_6, n32_8, n32_9, n32_10, n32_20, n32_100, n32_120, n32_255, n32_400, n32_3600, n32_m1, n64_0, n64_1, n64_2, n64_3, n64_4, n64_5, n64_9, n64_19, n64_119, n64_255, n64_400, n64_3599, n64_1000000000, n64_1000000000000, n64_m1000000000000] at c0 c1 c3 c4 c5 b0 b1)
      first | contradiction | omega
    · intro b0 b1 bt2 be2 bh2 b3 b4
      obtain rfl : ct2 = bt2 := by have z := nI_inj2 be2 (by omega) (by omega); omega
      exfalso
      clear hI0 hM hX hW hY hT hE hD hU hS hB hG K M27 M28 M29 M30 M31 M32 M33 M34 M35 M36 M37 M38 M39 M40 M41 M42 M43 M44 M45 M46 M47 M48 M49 X0 X1 X2 X3 X4 X5 X6 X7 X8 X9 X10 X11 X12 X13 W0 W1 W2 Y0 Y1 Y2 Y3 Y4 Y5 Y6 Y7 Y8 Y9 K2
      (try simp only [Int32.lt_iff_toInt_lt, Int32.le_iff_toInt_le, Int64.lt_iff_toInt_lt, Int64.le_iff_toInt_le, Int32.toInt_toInt64, ← Int32.toInt_inj, ← Int64.toInt_inj, n32_0, n32_1, n32_2, n32_3, n32_4, n32_6, n32_8, n32_9, n32_10, n32_20, n32_100, n32_120, n32_255, n32_400, n32_3600, n32_m1, n64_0, n64_1, n64_2, n64_3, n64_4, n64_5, n64_9, n64_19, n64_119, n64_255, n64_400, n64_3599, n64_1000000000, n64_1000000000000, n64_m1000000000000] at c0 c1 c3 c4 c5 b0 b1 b3 b4)
      first | contradiction | omega
    · intro b0 b1 bt2 be2 bh2 b3 b4 b5 bt6 be6 bh6 b7 b8
      obtain rfl : ct2 = bt2 := by have z := nI_inj2 be2 (by omega) (by omega); omega
      exfalso
      clear hI0 hM hX hW hY hT hE hD hU hS hB hG K M27 M28 M29 M30 M31 M32 M33 M34 M35 M36 M37 M38 M39 M40 M41 M42 M43 M44 M45 M46 M47 M48 M49 X0 X1 X2 X3 X4 X5 X6 X7 X8 X9 X10 X11 X12 X13 W0 W1 W2 Y0 Y1 Y2 Y3 Y4 Y5 Y6 Y7 Y8 Y9 K2
      (try simp only [Int32.lt_iff_toInt_lt, Int32.le_iff_toInt_le, Int64.lt_iff_toInt_lt, Int64.le_iff_toInt_le, Int32.toInt_toInt64, ← Int32.toInt_inj, ← Int64.toInt_inj, n32_0, n32_1, n32_2, n32_3, n32_4, n32_6, n32_8, n32_9, n32_10, n32_20, n32_100, n32_120, n32_255, n32_400, n32_3600, n32_m1, n64_0, n64_1, n64_2, n64_3, n64_4, n64_5, n64_9, n64_19, n64_119, n64_255, n64_400, n64_3599, n64_1000000000, n64_1000000000000, n64_m1000000000000] at c0 c1 c3 c4 c5 b0 b1 b3 b4 b5 b7 b8)
      first | contradiction | omega
    · intro b0 b1 bt2 be2 bh2 b3 b4 b5 bt6 be6 bh6 b7 b8
      obtain rfl : ct2 = bt2 := by have z := nI_inj2 be2 (by omega) (by omega); omega
      exfalso
      clear hI0 hM hX hW hY hT hE hD hU hS hB hG K M27 M28 M29 M30 M31 M32 M33 M34 M35 M36 M37 M38 M39 M40 M41 M42 M43 M44 M45 M46 M47 M48 M49 X0 X1 X2 X3 X4 X5 X6 X7 X8 X9 X10 X11 X12 X13 W0 W1 W2 Y0 Y1 Y2 Y3 Y4 Y5 Y6 Y7 Y8 Y9 K2
      (try simp only [Int32.lt_iff_toInt_lt, Int32.le_iff_toInt_le, Int64.lt_iff_toInt_lt, Int64.le_iff_toInt_le, Int32.toInt_toInt64, ← Int32.toInt_inj, ← Int64.toInt_inj, n32_0, n32_1, n32_2, n32_3, n32_4, n32_6, n32_8, n32_9, n32_10, n32_20, n32_100, n32_120, n32_255, n32_400, n32_3600, n32_m1, n64_0, n64_1, n64_2, n64_3, n64_4, n64_5, n64_9, n64_19, n64_119, n64_255, n64_400, n64_3599, n64_1000000000, n64_1000000000000, n64_m1000000000000] at c0 c1 c3 c4 c5 b0 b1 b3 b4 b5 b7 b8)
      first | contradiction | omega
    · intro b0 b1 bt2 be2 bh2 b3 b4 b5 bt6 be6 bh6 b7
      obtain rfl : ct2 = bt2 := by have z := nI_inj2 be2 (by omega) (by omega); omega
      exfalso
      clear hI0 hM hX hW hY hT hE hD hU hS hB hG K M27 M28 M29 M30 M31 M32 M33 M34 M35 M36 M37 M38 M39 M40 M41 M42 M43 M44 M45 M46 M47 M48 M49 X0 X1 X2 X3 X4 X5 X6 X7 X8 X9 X10 X11 X12 X13 W0 W1 W2 Y0 Y1 Y2 Y3 Y4 Y5 Y6 Y7 Y8 Y9 K2
      (try simp only [Int32.lt_iff_toInt_lt, Int32.le_iff_toInt_le, Int64.lt_iff_toInt_lt, Int64.le_iff_toInt_le, Int32.toInt_toInt64, ← Int32.toInt_inj, ← Int64.toInt_inj, n32_0, n32_1, n32_2, n32_3, n32_4, n32_6, n32_8, n32_9, n32_10, n32_20, n32_100, n32_120, n32_255, n32_400, n32_3600, n32_m1, n64_0, n64_1, n64_2, n64_3, n64_4, n64_5, n64_9, n64_19, n64_119, n64_255, n64_400, n64_3599, n64_1000000000, n64_1000000000000, n64_m1000000000000] at c0 c1 c3 c4 c5 b0 b1 b3 b4 b5 b7)
      first | contradiction | omega
    · intro b0 b1 bt2 be2 bh2 b3 b4 b5
      obtain rfl : ct2 = bt2 := by have z := nI_inj2 be2 (by omega) (by omega); omega
      exfalso
      clear hI0 hM hX hW hY hT hE hD hU hS hB hG K M27 M28 M29 M30 M31 M32 M33 M34 M35 M36 M37 M38 M39 M40 M41 M42 M43 M44 M45 M46 M47 M48 M49 X0 X1 X2 X3 X4 X5 X6 X7 X8 X9 X10 X11 X12 X13 W0 W1 W2 Y0 Y1 Y2 Y3 Y4 Y5 Y6 Y7 Y8 Y9 K2
      (try simp only [Int32.lt_iff_toInt_lt, Int32.le_iff_toInt_le, Int64.lt_iff_toInt_lt, Int64.le_iff_toInt_le, Int32.toInt_toInt64, ← Int32.toInt_inj, ← Int64.toInt_inj, n32_0, n32_1, n32_2, n32_3, n32_4, n32_6, n32_8, n32_9, n32_10, n32_20, n32_100, n32_120, n32_255, n32_400, n32_3600, n32_m1, n64_0, n64_1, n64_2, n64_3, n64_4, n64_5, n64_9, n64_19, n64_119, n64_255, n64_400, n64_3599, n64_1000000000, n64_1000000000000, n64_m1000000000000] at c0 c1 c3 c4 c5 b0 b1 b3 b4 b5)
      first | contradiction | omega
    · intro b0 b1 bt2 be2 bh2 b3 b4 b5 b6 b7
      obtain rfl : ct2 = bt2 := by have z := nI_inj2 be2 (by omega) (by omega); omega
      exfalso
      clear hI0 hM hX hW hY hT hE hD hU hS hB hG K M27 M28 M29 M30 M31 M32 M33 M34 M35 M36 M37 M38 M39 M40 M41 M42 M43 M44 M45 M46 M47 M48 M49 X0 X1 X2 X3 X4 X5 X6 X7 X8 X9 X10 X11 X12 X13 W0 W1 W2 Y0 Y1 Y2 Y3 Y4 Y5 Y6 Y7 Y8 Y9 K2
      (try simp only [Int32.lt_iff_toInt_lt, Int32.le_iff_toInt_le, Int64.lt_iff_toInt_lt, Int64.le_iff_toInt_le, Int32.toInt_toInt64, ← Int32.toInt_inj, ← Int64.toInt_inj, n32_0, n32_1, n32_2, n32_3, n32_4, n32_6, n32_8, n32_9, n32_10, n32_20, n32_100, n32_120, n32_255, n32_400, n32_3600, n32_m1, n64_0, n64_1, n64_2, n64_3, n64_4, n64_5, n64_9, n64_19, n64_119, n64_255, n64_400, n64_3599, n64_1000000000, n64_1000000000000, n64_m1000000000000] at c0 c1 c3 c4 c5 b0 b1 b3 b4 b5 b6 b7)
      first | contradiction | omega
    · intro b0 b1 bt2 be2 bh2 b3 b4 b5 b6 b7
      obtain rfl : ct2 = bt2 := by have z := nI_inj2 be2 (by omega) (by omega); omega
      exfalso
      clear hI0 hM hX hW hY hT hE hD hU hS hB hG K M27 M28 M29 M30 M31 M32 M33 M34 M35 M36 M37 M38 M39 M40 M41 M42 M43 M44 M45 M46 M47 M48 M49 X0 X1 X2 X3 X4 X5 X6 X7 X8 X9 X10 X11 X12 X13 W0 W1 W2 Y0 Y1 Y2 Y3 Y4 Y5 Y6 Y7 Y8 Y9 K2
      (try simp only [Int32.lt_iff_toInt_lt, Int32.le_iff_toInt_le, Int64.lt_iff_toInt_lt, Int64.le_iff_toInt_le, Int32.toInt_toInt64, ← Int32.toInt_inj, ← Int64.toInt_inj, n32_0, n32_1, n32_2, n32_3, n32_4, n32_6, n32_8, n32_9, n32_10, n32_20, n32_100, n32_120, n32_255, n32_400, n32_3600, n32_m1, n64_0, n64_1, n64_2, n64_3, n64_4, n64_5, n64_9, n64_19, n64_119, n64_255, n64_400, n64_3599, n64_1000000000, n64_1000000000000, n64_m1000000000000] at c0 c1 c3 c4 c5 b0 b1 b3 b4 b5 b6 b7)
      first | contradiction | omega
    · intro b0 b1 bt2 be2 bh2 b3 b4 b5 b6
      obtain rfl : ct2 = bt2 := by have z := nI_inj2 be2 (by omega) (by omega); omega
      exfalso
      clear hI0 hM hX hW hY hT hE hD hU hS hB hG K M27 M28 M29 M30 M31 M32 M33 M34 M35 M36 M37 M38 M39 M40 M41 M42 M43 M44 M45 M46 M47 M48 M49 X0 X1 X2 X3 X4 X5 X6 X7 X8 X9 X10 X11 X12 X13 W0 W1 W2 Y0 Y1 Y2 Y3 Y4 Y5 Y6 Y7 Y8 Y9 K2
      (try simp only [Int32.lt_iff_toInt_lt, Int32.le_iff_toInt_le, Int64.lt_iff_toInt_lt, Int64.le_iff_toInt_le, Int32.toInt_toInt64, ← Int32.toInt_inj, ← Int64.toInt_inj, n32_0, n32_1, n32_2, n32_3, n32_4, n32_6, n32_8, n32_9, n32_10, n32_20, n32_100, n32_120, n32_255, n32_400, n32_3600, n32_m1, n64_0, n64_1, n64_2, n64_3, n64_4, n64_5, n64_9, n64_19, n64_119, n64_255, n64_400, n64_3599, n64_1000000000, n64_1000000000000, n64_m1000000000000] at c0 c1 c3 c4 c5 b0 b1 b3 b4 b5 b6)
      first | contradiction | omega
    · intro b0 b1 bt2 be2 bh2 b3 b4 b5
      obtain rfl : ct2 = bt2 := by have z := nI_inj2 be2 (by omega) (by omega); omega
      rw [(hB.1 ct2 ch2).2.1]
      exact K2 _ (iV_up hI0)
    · intro b0 b1 bt2 be2 bh2 b3 b4
      obtain rfl : ct2 = bt2 := by have z := nI_inj2 be2 (by omega) (by omega); omega
      exfalso
      clear hI0 hM hX hW hY hT hE hD hU hS hB hG K M27 M28 M29 M30 M31 M32 M33 M34 M35 M36 M37 M38 M39 M40 M41 M42 M43 M44 M45 M46 M47 M48 M49 X0 X1 X2 X3 X4 X5 X6 X7 X8 X9 X10 X11 X12 X13 W0 W1 W2 Y0 Y1 Y2 Y3 Y4 Y5 Y6 Y7 Y8 Y9 K2
      (try simp only [Int32.lt_iff_toInt_lt, Int32.le_iff_toInt_le, Int64.lt_iff_toInt_lt, Int64.le_iff_toInt_le, Int32.toInt_toInt64, ← Int32.toInt_inj, ← Int64.toInt_inj, n32_0, n32_1, n32_2, n32_3, n32_4, n32_6, n32_8, n32_9, n32_10, n32_20, n32_100, n32_120, n32_255, n32_400, n32_3600, n32_m1, n64_0, n64_1, n64_2, n64_3, n64_4, n64_5, n64_9, n64_19, n64_119, n64_255, n64_400, n64_3599, n64_1000000000, n64_1000000000000, n64_m1000000000000] at c0 c1 c3 c4 c5 b0 b1 b3 b4)
      first | contradiction | omega
  · intro c0 c1 ct2 ce2 ch2 c3 c4 c5 c6
    subst ce2
    have hr8 := (hB.1 ct2 ch2).2.2.1
    refine K _ _ ⟨_, M27⟩ (fun Q2 K2 => ?_)
    refine s_X8_entry M27 M44 M45 M46 M47 M48 M49 hE60 (fun e he => ⟨(hB.1 e he).2.1, (hB.1 e he).2.2.1⟩) ?_ ?_ ?_ ?_ ?_ ?_ ?_ ?_ ?_ ?_ ?_ ?_
    · intro b0
      exfalso
      clear hI0 hM hX hW hY hT hE hD hU hS hB hG K M27 M28 M29 M30 M31 M32 M33 M34 M35 M36 M37 M38 M39 M40 M41 M42 M43 M44 M45 M46 M47 M48 M49 X0 X1 X2 X3 X4 X5 X6 X7 X8 X9 X10 X11 X12 X13 W0 W1 W2 Y0 Y1 Y2 Y3 Y4 Y5 Y6 Y7 Y8 Y9 K2
      (try simp only [Int32.lt_iff_toInt_lt, Int32.le_iff_toInt_le, Int64.lt_iff_toInt_lt, Int64.le_iff_toInt_le, Int32.toInt_toInt64, ← Int32.toInt_inj, ← Int64.toInt_inj, n32_0, n32_1, n32_2, n32_3, n32_4, n32_6, n32_8, n32_9, n32_10, n32_20, n32_100, n32_120, n32_255, n32_400, n32_3600, n32_m1, n64_0, n64_1, n64_2, n64_3, n64_4, n64_5, n64_9, n64_19, n64_119, n64_255, n64_400, n64_3599, n64_1000000000, n64_1000000000000, n64_m1000000000000] at c0 c1 c3 c4 c5 c6 b0)
      first | contradiction | omega
    · intro b0 b1
      exfalso
      clear hI0 hM hX hW hY hT hE hD hU hS hB hG K M27 M28 M29 M30 M31 M32 M33 M34 M35 M36 M37 M38 M39 M40 M41 M42 M43 M44 M45 M46 M47 M48 M49 X0 X1 X2 X3 X4 X5 X6 X7 X8 X9 X10 X11 X12 X13 W0 W1 W2 Y0 Y1 Y2 Y3 Y4 Y5 Y6 Y7 Y8 Y9 K2
      (try simp only [Int32.lt_iff_toInt_lt, Int32.le_iff_toInt_le, Int64.lt_iff_toInt_lt, Int64.le_iff_toInt_le, Int32.toInt_toInt64, ← Int32.toInt_inj, ← Int64.toInt_inj, n32_0, n32_1, n32_2, n32_3, n32_4, n32_6, n32_8, n32_9, n32_10, n32_20, n32_100, n32_120, n32_255, n32_400, n32_3600, n32_m1, n64_0, n64_1, n64_2, n64_3, n64_4, n64_5, n64_9, n64_19, n64_119, n64_255, n64_400, n64_3599, n64_1000000000, n64_1000000000000, n64_m1000000000000] at c0 c1 c3 c4 c5 c6 b0 b1)
      first | contradiction | omega
    · intro b0 b1 bt2 be2 bh2 b3 b4
      obtain rfl : ct2 = bt2 := by have z := nI_inj2 be2 (by omega) (by omega); omega
      exfalso
      clear hI0 hM hX hW hY hT hE hD hU hS hB hG K M27 M28 M29 M30 M31 M32 M33 M34 M35 M36 M37 M38 M39 M40 M41 M42 M43 M44 M45 M46 M47 M48 M49 X0 X1 X2 X3 X4 X5 X6 X7 X8 X9 X10 X11 X12 X13 W0 W1 W2 Y0 Y1 Y2 Y3 Y4 Y5 Y6 Y7 Y8 Y9 K2
      (try simp only [Int32.lt_iff_toInt_lt, Int32.le_iff_toInt_le, Int64.lt_iff_toInt_lt, Int64.le_iff_toInt_le, Int32.toInt_toInt64, ← Int32.toInt_inj, ← Int64.toInt_inj, n32_0, n32_1, n32_2, n32_3, n32_4, n32_6, n32_8, n32_9, n32_10, n32_20, n32_100, n32_120, n32_255, n32_400, n32_3600, n32_m1, n64_0, n64_1, n64_2, n64_3, n64_4, n64_5, n64_9, n64_19, n64_119, n64_255, n64_400, n64_3599, n64_1000000000, n64_1000000000000, n64_m1000000000000] at c0 c1 c3 c4 c5 c6 b0 b1 b3 b4)
      first | contradiction | omega
    · intro b0 b1 bt2 be2 bh2 b3 b4 b5 bt6 be6 bh6 b7 b8
      obtain rfl : ct2 = bt2 := by have z := nI_inj2 be2 (by omega) (by omega); omega
      exfalso
      clear hI0 hM hX hW hY hT hE hD hU hS hB hG K M27 M28 M29 M30 M31 M32 M33 M34 M35 M36 M37 M38 M39 M40 M41 M42 M43 M44 M45 M46 M47 M48 M49 X0 X1 X2 X3 X4 X5 X6 X7 X8 X9 X10 X11 X12 X13 W0 W1 W2 Y0 Y1 Y2 Y3 Y4 Y5 Y6 Y7 Y8 Y9 K2
      (try simp only [Int32.lt_iff_toInt_lt, Int32.le_iff_toInt_le, Int64.lt_iff_toInt_lt, Int64.le_iff_toInt_le, Int32.toInt_toInt64, ← Int32.toInt_inj, ← Int64.toInt_inj, n32_0, n32_1, n32_2, n32_3, n32_4, n32_6, n32_8, n32_9, n32_10, n32_20, n32_100, n32_120, n32_255, n32_400, n32_3600, n32_m1, n64_0, n64_1, n64_2, n64_3, n64_4, n64_5, n64_9, n64_19, n64_119, n64_255, n64_400, n64_3599, n64_1000000000, n64_1000000000000, n64_m1000000000000] at c0 c1 c3 c4 c5 c6 b0 b1 b3 b4 b5 b7 b8)
      first | contradiction | omega
    · intro b0 b1 bt2 be2 bh2 b3 b4 b5 bt6 be6 bh6 b7 b8
      obtain rfl : ct2 = bt2 := by have z := nI_inj2 be2 (by omega) (by omega); omega
      exfalso
      clear hI0 hM hX hW hY hT hE hD hU hS hB hG K M27 M28 M29 M30 M31 M32 M33 M34 M35 M36 M37 M38 M39 M40 M41 M42 M43 M44 M45 M46 M47 M48 M49 X0 X1 X2 X3 X4 X5 X6 X7 X8 X9 X10 X11 X12 X13 W0 W1 W2 Y0 Y1 Y2 Y3 Y4 Y5 Y6 Y7 Y8 Y9 K2
      (try simp only [Int32.lt_iff_toInt_lt, Int32.le_iff_toInt_le, Int64.lt_iff_toInt_lt, Int64.le_iff_toInt_le, Int32.toInt_toInt64, ← Int32.toInt_inj, ← Int64.toInt_inj, n32_0, n32_1, n32_2, n32_3, n32_4, n32_6, n32_8, n32_9, n32_10, n32_20, n32_100, n32_120, n32_255, n32_400, n32_3600, n32_m1, n64_0, n64_1, n64_2, n64_3, n64_4, n64_5, n64_9, n64_19, n64_119, n64_255, n64_400, n64_3599, n64_1000000000, n64_1000000000000, n64_m1000000000000] at c0 c1 c3 c4 c5 c6 b0 b1 b3 b4 b5 b7 b8)
      first | contradiction | omega
    · intro b0 b1 bt2 be2 bh2 b3 b4 b5 bt6 be6 bh6 b7
      obtain rfl : ct2 = bt2 := by have z := nI_inj2 be2 (by omega) (by omega); omega
      exfalso
      clear hI0 hM hX hW hY hT hE hD hU hS hB hG K M27 M28 M29 M30 M31 M32 M33 M34 M35 M36 M37 M38 M39 M40 M41 M42 M43 M44 M45 M46 M47 M48 M49 X0 X1 X2 X3 X4 X5 X6 X7 X8 X9 X10 X11 X12 X13 W0 W1 W2 Y0 Y1 Y2 Y3 Y4 Y5 Y6 Y7 Y8 Y9 K2
      (try simp only [Int32.lt_iff_toInt_lt, Int32.le_iff_toInt_le, Int64.lt_iff_toInt_lt, Int64.le_iff_toInt_le, Int32.toInt_toInt64, ← Int32.toInt_inj, ← Int64.toInt_inj, n32_0, n32_1, n32_2, n32_3, n32_4, n32_6, n32_8, n32_9, n32_10, n32_20, n32_100, n32_120, n32_255, n32_400, n32_3600, n32_m1, n64_0, n64_1, n64_2, n64_3, n64_4, n64_5, n64_9, n64_19, n64_119, n64_255, n64_400, n64_3599, n64_1000000000, n64_1000000000000, n64_m1000000000000] at c0 c1 c3 c4 c5 c6 b0 b1 b3 b4 b5 b7)
      first | contradiction | omega
    · intro b0 b1 bt2 be2 bh2 b3 b4 b5
      obtain rfl : ct2 = bt2 := by have z := nI_inj2 be2 (by omega) (by omega); omega
      exfalso
      clear hI0 hM hX hW hY hT hE hD hU hS hB hG K M27 M28 M29 M30 M31 M32 M33 M34 M35 M36 M37 M38 M39 M40 M41 M42 M43 M44 M45 M46 M47 M48 M49 X0 X1 X2 X3 X4 X5 X6 X7 X8 X9 X10 X11 X12 X13 W0 W1 W2 Y0 Y1 Y2 Y3 Y4 Y5 Y6 Y7 Y8 Y9 K2
      (try simp only [Int32.lt_iff_toInt_lt, Int32.le_iff_toInt_le, Int64.lt_iff_toInt_lt, Int64.le_iff_toInt_le, Int32.toInt_toInt64, ← Int32.toInt_inj, ← Int64.toInt_inj, n32_0, n32_1, n32_2, n32_3, n32_4, n32_6, n32_8, n32_9, n32_10, n32_20, n32_100, n32_120, n32_255, n32_400, n32_3600, n32_m1, n64_0, n64_1, n64_2, n64_3, n64_4, n64_5, n64_9, n64_19, n64_119, n64_255, n64_400, n64_3599, n64_1000000000, n64_1000000000000, n64_m1000000000000] at c0 c1 c3 c4 c5 c6 b0 b1 b3 b4 b5)
      first | contradiction | omega
    · intro b0 b1 bt2 be2 bh2 b3 b4 b5 b6 b7
      obtain rfl : ct2 = bt2 := by have z := nI_inj2 be2 (by omega) (by omega); omega
      exfalso
      clear hI0 hM hX hW hY hT hE hD hU hS hB hG K M27 M28 M29 M30 M31 M32 M33 M34 M35 M36 M37 M38 M39 M40 M41 M42 M43 M44 M45 M46 M47 M48 M49 X0 X1 X2 X3 X4 X5 X6 X7 X8 X9 X10 X11 X12 X13 W0 W1 W2 Y0 Y1 Y2 Y3 Y4 Y5 Y6 Y7 Y8 Y9 K2
      (try simp only [Int32.lt_iff_toInt_lt, Int32.le_iff_toInt_le, Int64.lt_iff_toInt_lt, Int64.le_iff_toInt_le, Int32.toInt_toInt64, ← Int32.toInt_inj, ← Int64.toInt_inj, n32_0, n32_1, n32_2, n32_3, n32_4, n32_6, n32_8, n32_9, n32_10, n32_20, n32_100, n32_120, n32_255, n32_400, n32_3600, n32_m1, n64_0, n64_1, n64_2, n64_3, n64_4, n64_5, n64_9, n64_19, n64_119, n64_255, n64_400, n64_3599, n64_1000000000, n64_1000000000000, n64_m1000000000000] at c0 c1 c3 c4 c5 c6 b0 b1 b3 b4 b5 b6 b7)
      first | contradiction | omega
    · intro b0 b1 bt2 be2 bh2 b3 b4 b5 b6 b7
      obtain rfl : ct2 = bt2 := by have z := nI_inj2 be2 (by omega) (by omega); omega
      exfalso
      clear hI0 hM hX hW hY hT hE hD hU hS hB hG K M27 M28 M29 M30 M31 M32 M33 M34 M35 M36 M37 M38 M39 M40 M41 M42 M43 M44 M45 M46 M47 M48 M49 X0 X1 X2 X3 X4 X5 X6 X7 X8 X9 X10 X11 X12 X13 W0 W1 W2 Y0 Y1 Y2 Y3 Y4 Y5 Y6 Y7 Y8 Y9 K2
      (try simp only [Int32.lt_iff_toInt_lt, Int32.le_iff_toInt_le, Int64.lt_iff_toInt_lt, Int64.le_iff_toInt_le, Int32.toInt_toInt64, ← Int32.toInt_inj, ← Int64.toInt_inj, n32_0, n32_1, n32_2, n32_3, n32_4, n32_6, n32_8, n32_9, n32_10, n32_20, n32_100, n32_120, n32_255, n32_400, n32_3600, n32_m1, n64_0, n64_1, n64_2, n64_3, n64_4, n64_5, n64_9, n64_19, n64_119, n64_255, n64_400, n64_3599, n64_1000000000, n64_1000000000000, n64_m1000000000000] at c0 c1 c3 c4 c5 c6 b0 b1 b3 b4 b5 b6 b7)
      first | contradiction | omega
    · intro b0 b1 bt2 be2 bh2 b3 b4 b5 b6
      obtain rfl : ct2 = bt2 := by have z := nI_inj2 be2 (by omega) (by omega); omega
      exact K2 _ (iV_up hI0)
    · intro b0 b1 bt2 be2 bh2 b3 b4 b5
      obtain rfl : ct2 = bt2 := by have z := nI_inj2 be2 (by omega) (by omega); omega
      exfalso
      clear hI0 hM hX hW hY hT hE hD hU hS hB hG K M27 M28 M29 M30 M31 M32 M33 M34 M35 M36 M37 M38 M39 M40 M41 M42 M43 M44 M45 M46 M47 M48 M49 X0 X1 X2 X3 X4 X5 X6 X7 X8 X9 X10 X11 X12 X13 W0 W1 W2 Y0 Y1 Y2 Y3 Y4 Y5 Y6 Y7 Y8 Y9 K2
      (try simp only [Int32.lt_iff_toInt_lt, Int32.le_iff_toInt_le, Int64.lt_iff_toInt_lt, Int64.le_iff_toInt_le, Int32.toInt_toInt64, ← Int32.toInt_inj, ← Int64.toInt_inj, n32_0, n32_1, n32_2, n32_3, n32_4, n32_6, n32_8, n32_9, n32_10, n32_20, n32_100, n32_120, n32_255, n32_400, n32_3600, n32_m1, n64_0, n64_1, n64_2, n64_3, n64_4, n64_5, n64_9, n64_19, n64_119, n64_255, n64_400, n64_3599, n64_1000000000, n64_1000000000000, n64_m1000000000000] at c0 c1 c3 c4 c5 c6 b0 b1 b3 b4 b5)
      first | contradiction | omega
    · intro b0 b1 bt2 be2 bh2 b3 b4
      obtain rfl : ct2 = bt2 := by have z := nI_inj2 be2 (by omega) (by omega); omega
      exfalso
      clear hI0 hM hX hW hY hT hE hD hU hS hB hG K M27 M28 M29 M30 M31 M32 M33 M34 M35 M36 M37 M38 M39 M40 M41 M42 M43 M44 M45 M46 M47 M48 M49 X0 X1 X2 X3 X4 X5 X6 X7 X8 X9 X10 X11 X12 X13 W0 W1 W2 Y0 Y1 Y2 Y3 Y4 Y5 Y6 Y7 Y8 Y9 K2
      (try simp only [Int32.lt_iff_toInt_lt, Int32.le_iff_toInt_le, Int64.lt_iff_toInt_lt, Int64.le_iff_toInt_le, Int32.toInt_toInt64, ← Int32.toInt_inj, ← Int64.toInt_inj, n32_0, n32_1, n32_2, n32_3, n32_4, n32_6, n32_8, n32_9, n32_10, n32_20, n32_100, n32_120, n32_255, n32_400, n32_3600, n32_m1, n64_0, n64_1, n64_2, n64_3, n64_4, n64_5, n64_9, n64_19, n64_119, n64_255, n64_400, n64_3599, n64_1000000000, n64_1000000000000, n64_m1000000000000] at c0 c1 c3 c4 c5 c6 b0 b1 b3 b4)
      first | contradiction | omega
  · intro c0 c1 ct2 ce2 ch2 c3 c4 c5 c6 c7
    subst ce2
    have hr8 := (hB.1 ct2 ch2).2.2.1
    refine K _ _ ⟨_, M27⟩ (fun Q2 K2 => ?_)
    refine s_X8_entry M27 M44 M45 M46 M47 M48 M49 hE60 (fun e he => ⟨(hB.1 e he).2.1, (hB.1 e he).2.2.1⟩) ?_ ?_ ?_ ?_ ?_ ?_ ?_ ?_ ?_ ?_ ?_ ?_
    · intro b0
      exfalso
      clear hI0 hM hX hW hY hT hE hD hU hS hB hG K M27 M28 M29 M30 M31 M32 M33 M34 M35 M36 M37 M38 M39 M40 M41 M42 M43 M44 M45 M46 M47 M48 M49 X0 X1 X2 X3 X4 X5 X6 X7 X8 X9 X10 X11 X12 X13 W0 W1 W2 Y0 Y1 Y2 Y3 Y4 Y5 Y6 Y7 Y8 Y9 K2
      (try simp only [Int32.lt_iff_toInt_lt, Int32.le_iff_toInt_le, Int64.lt_iff_toInt_lt, Int64.le_iff_toInt_le, Int32.toInt_toInt64, ← Int32.toInt_inj, ← Int64.toInt_inj, n32_0, n32_1, n32_2, n32_3, n32_4, n32_6, n32_8, n32_9, n32_10, n32_20, n32_100, n32_120, n32_255, n32_400, n32_3600, n32_m1, n64_0, n64_1, n64_2, n64_3, n64_4, n64_5, n64_9, n64_19, n64_119, n64_255, n64_400, n64_3599, n64_1000000000, n64_1000000000000, n64_m1000000000000] at c0 c1 c3 c4 c5 c6 c7 b0)
      first | contradiction | omega
    · intro b0 b1
      exfalso
      clear hI0 hM hX hW hY hT hE hD hU hS hB hG K M27 M28 M29 M30 M31 M32 M33 M34 M35 M36 M37 M38 M39 M40 M41 M42 M43 M44 M45 M46 M47 M48 M49 X0 X1 X2 X3 X4 X5 X6 X7 X8 X9 X10 X11 X12 X13 W0 W1 W2 Y0 Y1 Y2 Y3 Y4 Y5 Y6 Y7 Y8 Y9 K2
      (try simp only [Int32.lt_iff_toInt_lt, Int32.le_iff_toInt_le, Int64.lt_iff_toInt_lt, Int64.le_iff_toInt_le, Int32.toInt_toInt64, ← Int32.toInt_inj, ← Int64.toInt_inj, n32_0, n32_1, n32_2, n32_3, n32_4, n32_6, n32_8, n32_9, n32_10, n32_20, n32_100, n32_120, n32_255, n32_400, n32_3600, n32_m1, n64_0, n64_1, n64_2, n64_3, n64_4, n64_5, n64_9, n64_19, n64_119, n64_255, n64_400, n64_3599, n64_1000000000, n64_1000000000000, n64_m1000000000000] at c0 c1 c3 c4 c5 c6 c7 b0 b1)
      first | contradiction | omega
    · intro b0 b1 bt2 be2 bh2 b3 b4
      obtain rfl : ct2 = bt2 := by have z := nI_inj2 be2 (by omega) (by omega); omega
      exfalso
      clear hI0 hM hX hW hY hT hE hD hU hS hB hG K M27 M28 M29 M30 M31 M32 M33 M34 M35 M36 M37 M38 M39 M40 M41 M42 M43 M44 M45 M46 M47 M48 M49 X0 X1 X2 X3 X4 X5 X6 X7 X8 X9 X10 X11 X12 X13 W0 W1 W2 Y0 Y1 Y2 Y3 Y4 Y5 Y6 Y7 Y8 Y9 K2
      (try simp only [Int32.lt_iff_toInt_lt, Int32.le_iff_toInt_le, Int64.lt_iff_toInt_lt, Int64.le_iff_toInt_le, Int32.toInt_toInt64, ← Int32.toInt_inj, ← Int64.toInt_inj, n32_0, n32_1, n32_2, n32_3, n32_4, n32_6, n32_8, n32_9, n32_10, n32_20, n32_100, n32_120, n32_255, n32_400, n32_3600, n32_m1, n64_0, n64_1, n64_2, n64_3, n64_4, n64_5, n64_9, n64_19, n64_119, n64_255, n64_400, n64_3599, n64_1000000000, n64_1000000000000, n64_m1000000000000] at c0 c1 c3 c4 c5 c6 c7 b0 b1 b3 b4)
      first | contradiction | omega
    · intro b0 b1 bt2 be2 bh2 b3 b4 b5 bt6 be6 bh6 b7 b8
      obtain rfl : ct2 = bt2 := by have z := nI_inj2 be2 (by omega) (by omega); omega
      exfalso
      clear hI0 hM hX hW hY hT hE hD hU hS hB hG K M27 M28 M29 M30 M31 M32 M33 M34 M35 M36 M37 M38 M39 M40 M41 M42 M43 M44 M45 M46 M47 M48 M49 X0 X1 X2 X3 X4 X5 X6 X7 X8 X9 X10 X11 X12 X13 W0 W1 W2 Y0 Y1 Y2 Y3 Y4 Y5 Y6 Y7 Y8 Y9 K2
      (try simp only [Int32.lt_iff_toInt_lt, Int32.le_iff_toInt_le, Int64.lt_iff_toInt_lt, Int64.le_iff_toInt_le, Int32.toInt_toInt64, ← Int32.toInt_inj, ← Int64.toInt_inj, n32_0, n32_1, n32_2, n32_3, n32_4, n32_6, n32_8, n32_9, n32_10, n32_20, n32_100, n32_120, n32_255, n32_400, n32_3600, n32_m1, n64_0, n64_1, n64_2, n64_3, n64_4, n64_5, n64_9, n64_19, n64_119, n64_255, n64_400, n64_3599, n64_1000000000, n64_1000000000000, n64_m1000000000000] at c0 c1 c3 c4 c5 c6 c7 b0 b1 b3 b4 b5 b7 b8)
      first | contradiction | omega
    · intro b0 b1 bt2 be2 bh2 b3 b4 b5 bt6 be6 bh6 b7 b8
      obtain rfl : ct2 = bt2 := by have z := nI_inj2 be2 (by omega) (by omega); omega
      exfalso
      clear hI0 hM hX hW hY hT hE hD hU hS hB hG K M27 M28 M29 M30 M31 M32 M33 M34 M35 M36 M37 M38 M39 M40 M41 M42 M43 M44 M45 M46 M47 M48 M49 X0 X1 X2 X3 X4 X5 X6 X7 X8 X9 X10 X11 X12 X13 W0 W1 W2 Y0 Y1 Y2 Y3 Y4 Y5 Y6 Y7 Y8 Y9 K2
      (try simp only [Int32.lt_iff_toInt_lt, Int32.le_iff_toInt_le, Int64.lt_iff_toInt_lt, Int64.le_iff_toInt_le, Int32.toInt_toInt64, ← Int32.toInt_inj, ← Int64.toInt_inj, n32_0, n32_1, n32_2, n32_3, n32_4, n32_6, n32_8, n32_9, n32_10, n32_20, n32_100, n32_120, n32_255, n32_400, n32_3600, n32_m1, n64_0, n64_1, n64_2, n64_3, n64_4, n64_5, n64_9, n64_19, n64_119, n64_255, n64_400, n64_3599, n64_1000000000, n64_1000000000000, n64_m1000000000000] at c0 c1 c3 c4 c5 c6 c7 b0 b1 b3 b4 b5 b7 b8)
      first | contradiction | omega
    · intro b0 b1 bt2 be2 bh2 b3 b4 b5 bt6 be6 bh6 b7
      obtain rfl : ct2 = bt2 := by have z := nI_inj2 be2 (by omega) (by omega); omega
      exfalso
      clear hI0 hM hX hW hY hT hE hD hU hS hB hG K M27 M28 M29 M30 M31 M32 M33 M34 M35 M36 M37 M38 M39 M40 M41 M42 M43 M44 M45 M46 M47 M48 M49 X0 X1 X2 X3 X4 X5 X6 X7 X8 X9 X10 X11 X12 X13 W0 W1 W2 Y0 Y1 Y2 Y3 Y4 Y5 Y6 Y7 Y8 Y9 K2
      (try simp only [Int32.lt_iff_toInt_lt, Int32.le_iff_toInt_le, Int64.lt_iff_toInt_lt, Int64.le_iff_toInt_le, Int32.toInt_toInt64, ← Int32.toInt_inj, ← Int64.toInt_inj, n32_0, n32_1, n32_2, n32_3, n32_4, n32_6, n32_8, n32_9, n32_10, n32_20, n32_100, n32_120, n32_255, n32_400, n32_3600, n32_m1, n64_0, n64_1, n64_2, n64_3, n64_4, n64_5, n64_9, n64_19, n64_119, n64_255, n64_400, n64_3599, n64_1000000000, n64_1000000000000, n64_m1000000000000] at c0 c1 c3 c4 c5 c6 c7 b0 b1 b3 b4 b5 b7)
      first | contradiction | omega
    · intro b0 b1 bt2 be2 bh2 b3 b4 b5
      obtain rfl : ct2 = bt2 := by have z := nI_inj2 be2 (by omega) (by omega); omega
      exfalso
      clear hI0 hM hX hW hY hT hE hD hU hS hB hG K M27 M28 M29 M30 M31 M32 M33 M34 M35 M36 M37 M38 M39 M40 M41 M42 M43 M44 M45 M46 M47 M48 M49 X0 X1 X2 X3 X4 X5 X6 X7 X8 X9 X10 X11 X12 X13 W0 W1 W2 Y0 Y1 Y2 Y3 Y4 Y5 Y6 Y7 Y8 Y9 K2
      (try simp only [Int32.lt_iff_toInt_lt, Int32.le_iff_toInt_le, Int64.lt_iff_toInt_lt, Int64.le_iff_toInt_le, Int32.toInt_toInt64, ← Int32.toInt_inj, ← Int64.toInt_inj, n32_0, n32_1, n32_2, n32_3, n32_4, n32_6, n32_8, n32_9, n32_10, n32_20, n32_100, n32_120, n32_255, n32_400, n32_3600, n32_m1, n64_0, n64_1, n64_2, n64_3, n64_4, n64_5, n64_9, n64_19, n64_119, n64_255, n64_400, n64_3599, n64_1000000000, n64_1000000000000, n64_m1000000000000] at c0 c1 c3 c4 c5 c6 c7 b0 b1 b3 b4 b5)
      first | contradiction | omega
    · intro b0 b1 bt2 be2 bh2 b3 b4 b5 b6 b7
      obtain rfl : ct2 = bt2 := by have z := nI_inj2 be2 (by omega) (by omega); omega
      exfalso
      clear hI0 hM hX hW hY hT hE hD hU hS hB hG K M27 M28 M29 M30 M31 M32 M33 M34 M35 M36 M37 M38 M39 M40 M41 M42 M43 M44 M45 M46 M47 M48 M49 X0 X1 X2 X3 X4 X5 X6 X7 X8 X9 X10 X11 X12 X13 W0 W1 W2 Y0 Y1 Y2 Y3 Y4 Y5 Y6 Y7 Y8 Y9 K2
      (try simp only [Int32.lt_iff_toInt_lt, Int32.le_iff_toInt_le, Int64.lt_iff_toInt_lt, Int64.le_iff_toInt_le, Int32.toInt_toInt64, ← Int32.toInt_inj, ← Int64.toInt_inj, n32_0, n32_1, n32_2, n32_3, n32_4, n32_6, n32_8, n32_9, n32_10, n32_20, n32_100, n32_120, n32_255, n32_400, n32_3600, n32_m1, n64_0, n64_1, n64_2, n64_3, n64_4, n64_5, n64_9, n64_19, n64_119, n64_255, n64_400, n64_3599, n64_1000000000, n64_1000000000000, n64_m1000000000000] at c0 c1 c3 c4 c5 c6 c7 b0 b1 b3 b4 b5 b6 b7)
      first | contradiction | omega
    · intro b0 b1 bt2 be2 bh2 b3 b4 b5 b6 b7
      obtain rfl : ct2 = bt2 := by have z := nI_inj2 be2 (by omega) (by omega); omega
      exact K2 _ (iV_up hI0)
    · intro b0 b1 bt2 be2 bh2 b3 b4 b5 b6
      obtain rfl : ct2 = bt2 := by have z := nI_inj2 be2 (by omega) (by omega); omega
      exfalso
      clear hI0 hM hX hW hY hT hE hD hU hS hB hG K M27 M28 M29 M30 M31 M32 M33 M34 M35 M36 M37 M38 M39 M40 M41 M42 M43 M44 M45 M46 M47 M48 M49 X0 X1 X2 X3 X4 X5 X6 X7 X8 X9 X10 X11 X12 X13 W0 W1 W2 Y0 Y1 Y2 Y3 Y4 Y5 Y6 Y7 Y8 Y9 K2
      (try simp only [Int32.lt_iff_toInt_lt, Int32.le_iff_toInt_le, Int64.lt_iff_toInt_lt, Int64.le_iff_toInt_le, Int32.toInt_toInt64, ← Int32.toInt_inj, ← Int64.toInt_inj, n32_0, n32_1, n32_2, n32_3, n32_4, n32_6, n32_8, n32_9, n32_10, n32_20, n32_100, n32_120, n32_255, n32_400, n32_3600, n32_m1, n64_0, n64_1, n64_2, n64_3, n64_4, n64_5, n64_9, n64_19, n64_119, n64_255, n64_400, n64_3599, n64_1000000000, n64_1000000000000, n64_m1000000000000] at c0 c1 c3 c4 c5 c6 c7 b0 b1 b3 b4 b5 b6)
      first | contradiction | omega
    · intro b0 b1 bt2 be2 bh2 b3 b4 b5
      obtain rfl : ct2 = bt2 := by have z := nI_inj2 be2 (by omega) (by omega); omega
      exfalso
      clear hI0 hM hX hW hY hT hE hD hU hS hB hG K M27 M28 M29 M30 M31 M32 M33 M34 M35 M36 M37 M38 M39 M40 M41 M42 M43 M44 M45 M46 M47 M48 M49 X0 X1 X2 X3 X4 X5 X6 X7 X8 X9 X10 X11 X12 X13 W0 W1 W2 Y0 Y1 Y2 Y3 Y4 Y5 Y6 Y7 Y8 Y9 K2
      (try simp only [Int32.lt_iff_toInt_lt, Int32.le_iff_toInt_le, Int64.lt_iff_toInt_lt, Int64.le_iff_toInt_le, Int32.toInt_toInt64, ← Int32.toInt_inj, ← Int64.toInt_inj, n32_0, n32_1, n32_2, n32_3, n32_4, n32_6, n32_8, n32_9, n32_10, n32_20, n32_100, n32_120, n32_255, n32_400, n32_3600, n32_m1, n64_0, n64_1, n64_2, n64_3, n64_4, n64_5, n64_9, n64_19, n64_119, n64_255, n64_400, n64_3599, n64_1000000000, n64_1000000000000, n64_m1000000000000] at c0 c1 c3 c4 c5 c6 c7 b0 b1 b3 b4 b5)
      first | contradiction | omega
    · intro b0 b1 bt2 be2 bh2 b3 b4
      obtain rfl : ct2 = bt2 := by have z := nI_inj2 be2 (by omega) (by omega); omega
      exfalso
      clear hI0 hM hX hW hY hT hE hD hU hS hB hG K M27 M28 M29 M30 M31 M32 M33 M34 M35 M36 M37 M38 M39 M40 M41 M42 M43 M44 M45 M46 M47 M48 M49 X0 X1 X2 X3 X4 X5 X6 X7 X8 X9 X10 X11 X12 X13 W0 W1 W2 Y0 Y1 Y2 Y3 Y4 Y5 Y6 Y7 Y8 Y9 K2
      (try simp only [Int32.lt_iff_toInt_lt, Int32.le_iff_toInt_le, Int64.lt_iff_toInt_lt, Int64.le_iff_toInt_le, Int32.toInt_toInt64, ← Int32.toInt_inj, ← Int64.toInt_inj, n32_0, n32_1, n32_2, n32_3, n32_4, n32_6, n32_8, n32_9, n32_10, n32_20, n32_100, n32_120, n32_255, n32_400, n32_3600, n32_m1, n64_0, n64_1, n64_2, n64_3, n64_4, n64_5, n64_9, n64_19, n64_119, n64_255, n64_400, n64_3599, n64_1000000000, n64_1000000000000, n64_m1000000000000] at c0 c1 c3 c4 c5 c6 c7 b0 b1 b3 b4)
      first | contradiction | omega
  · intro c0 c1 ct2 ce2 ch2 c3 c4 c5 c6 c7
    subst ce2
    have hr8 := (hB.1 ct2 ch2).2.2.1
    refine K _ _ ⟨_, M27⟩ (fun Q2 K2 => ?_)
    refine s_X8_entry M27 M44 M45 M46 M47 M48 M49 hE60 (fun e he => ⟨(hB.1 e he).2.1, (hB.1 e he).2.2.1⟩) ?_ ?_ ?_ ?_ ?_ ?_ ?_ ?_ ?_ ?_ ?_ ?_
    · intro b0
      exfalso
      clear hI0 hM hX hW hY hT hE hD hU hS hB hG K M27 M28 M29 M30 M31 M32 M33 M34 M35 M36 M37 M38 M39 M40 M41 M42 M43 M44 M45 M46 M47 M48 M49 X0 X1 X2 X3 X4 X5 X6 X7 X8 X9 X10 X11 X12 X13 W0 W1 W2 Y0 Y1 Y2 Y3 Y4 Y5 Y6 Y7 Y8 Y9 K2
      (try simp only [Int32.lt_iff_toInt_lt, Int32.le_iff_toInt_le, Int64.lt_iff_toInt_lt, Int64.le_iff_toInt_le, Int32.toInt_toInt64, ← Int32.toInt_inj, ← Int64.toInt_inj, n32_0, n32_1, n32_2, n32_3, n32_4, n32_6, n32_8, n32_9, n32_10, n32_20, n32_100, n32_120, n32_255, n32_400, n32_3600, n32_m1, n64_0, n64_1, n64_2, n64_3, n64_4, n64_5, n64_9, n64_19, n64_119, n64_255, n64_400, n64_3599, n64_1000000000, n64_1000000000000, n64_m1000000000000] at c0 c1 c3 c4 c5 c6 c7 b0)
      first | contradiction | omega
    · intro b0 b1
      exfalso
      clear hI0 hM hX hW hY hT hE hD hU hS hB hG K M27 M28 M29 M30 M31 M32 M33 M34 M35 M36 M37 M38 M39 M40 M41 M42 M43 M44 M45 M46 M47 M48 M49 X0 X1 X2 X3 X4 X5 X6 X7 X8 X9 X10 X11 X12 X13 W0 W1 W2 Y0 Y1 Y2 Y3 Y4 Y5 Y6 Y7 Y8 Y9 K2
      (try simp only [Int32.lt_iff_toInt_lt, Int32.le_iff_toInt_le, Int64.lt_iff_toInt_lt, Int64.le_iff_toInt_le, Int32.toInt_toInt64, ← Int32.toInt_inj, ← Int64.toInt_inj, n32_0, n32_1, n32_2, n32_3, n32_4, n32_6, n32_8, n32_9, n32_10, n32_20, n32_100, n32_120, n32_255, n32_400, n32_3600, n32_m1, n64_0, n64_1, n64_2, n64_3, n64_4, n64_5, n64_9, n64_19, n64_119, n64_255, n64_400, n64_3599, n64_1000000000, n64_1000000000000, n64_m1000000000000] at c0 c1 c3 c4 c5 c6 c7 b0 b1)
      first | contradiction | omega
    · intro b0 b1 bt2 be2 bh2 b3 b4
      obtain rfl : ct2 = bt2 := by have z := nI_inj2 be2 (by omega) (by omega); omega
      exfalso
      clear hI0 hM hX hW hY hT hE hD hU hS hB hG K M27 M28 M29 M30 M31 M32 M33 M34 M35 M36 M37 M38 M39 M40 M41 M42 M43 M44 M45 M46 M47 M48 M49 X0 X1 X2 X3 X4 X5 X6 X7 X8 X9 X10 X11 X12 X13 W0 W1 W2 Y0 Y1 Y2 Y3 Y4 Y5 Y6 Y7 Y8 Y9 K2
      (try simp only [Int32.lt_iff_toInt_lt, Int32.le_iff_toInt_le, Int64.lt_iff_toInt_lt, Int64.le_iff_toInt_le, Int32.toInt_toInt64, ← Int32.toInt_inj, ← Int64.toInt_inj, n32_0, n32_1, n32_2, n32_3, n32_4, n32_6, n32_8, n32_9, n32_10, n32_20, n32_100, n32_120, n32_255, n32_400, n32_3600, n32_m1, n64_0, n64_1, n64_2, n64_3, n64_4, n64_5, n64_9, n64_19, n64_119, n64_255, n64_400, n64_3599, n64_1000000000, n64_1000000000000, n64_m1000000000000] at c0 c1 c3 c4 c5 c6 c7 b0 b1 b3 b4)
      first | contradiction | omega
    · intro b0 b1 bt2 be2 bh2 b3 b4 b5 bt6 be6 bh6 b7 b8
      obtain rfl : ct2 = bt2 := by have z := nI_inj2 be2 (by omega) (by omega); omega
      exfalso
      clear hI0 hM hX hW hY hT hE hD hU hS hB hG K M27 M28 M29 M30 M31 M32 M33 M34 M35 M36 M37 M38 M39 M40 M41 M42 M43 M44 M45 M46 M47 M48 M49 X0 X1 X2 X3 X4 X5 X6 X7 X8 X9 X10 X11 X12 X13 W0 W1 W2 Y0 Y1 Y2 Y3 Y4 Y5 Y6 Y7 Y8 Y9 K2
      (try simp only [Int32.lt_iff_toInt_lt, Int32.le_iff_toInt_le, Int64.lt_iff_toInt_lt, Int64.le_iff_toInt_le, Int32.toInt_toInt64, ← Int32.toInt_inj, ← Int64.toInt_inj, n32_0, n32_1, n32_2, n32_3, n32_4, n32_6, n32_8, n32_9, n32_10, n32_20, n32_100, n32_120, n32_255, n32_400, n32_3600, n32_m1, n64_0, n64_1, n64_2, n64_3, n64_4, n64_5, n64_9, n64_19, n64_119, n64_255, n64_400, n64_3599, n64_1000000000, n64_1000000000000, n64_m1000000000000] at c0 c1 c3 c4 c5 c6 c7 b0 b1 b3 b4 b5 b7 b8)
      first | contradiction | omega
    · intro b0 b1 bt2 be2 bh2 b3 b4 b5 bt6 be6 bh6 b7 b8
      obtain rfl : ct2 = bt2 := by have z := nI_inj2 be2 (by omega) (by omega); omega
      exfalso
      clear hI0 hM hX hW hY hT hE hD hU hS hB hG K M27 M28 M29 M30 M31 M32 M33 M34 M35 M36 M37 M38 M39 M40 M41 M42 M43 M44 M45 M46 M47 M48 M49 X0 X1 X2 X3 X4 X5 X6 X7 X8 X9 X10 X11 X12 X13 W0 W1 W2 Y0 Y1 Y2 Y3 Y4 Y5 Y6 Y7 Y8 Y9 K2
      (try simp only [Int32.lt_iff_toInt_lt, Int32.le_iff_toInt_le, Int64.lt_iff_toInt_lt, Int64.le_iff_toInt_le, Int32.toInt_toInt64, ← Int32.toInt_inj, ← Int64.toInt_inj, n32_0, n32_1, n32_2, n32_3, n32_4, n32_6, n32_8, n32_9, n32_10, n32_20, n32_100, n32_120, n32_255, n32_400, n32_3600, n32_m1, n64_0, n64_1, n64_2, n64_3, n64_4, n64_5, n64_9, n64_19, n64_119, n64_255, n64_400, n64_3599, n64_1000000000, n64_1000000000000, n64_m1000000000000] at c0 c1 c3 c4 c5 c6 c7 b0 b1 b3 b4 b5 b7 b8)
      first | contradiction | omega
    · intro b0 b1 bt2 be2 bh2 b3 b4 b5 bt6 be6 bh6 b7
      obtain rfl : ct2 = bt2 := by have z := nI_inj2 be2 (by omega) (by omega); omega
      exfalso
      clear hI0 hM hX hW hY hT hE hD hU hS hB hG K M27 M28 M29 M30 M31 M32 M33 M34 M35 M36 M37 M38 M39 M40 M41 M42 M43 M44 M45 M46 M47 M48 M49 X0 X1 X2 X3 X4 X5 X6 X7 X8 X9 X10 X11 X12 X13 W0 W1 W2 Y0 Y1 Y2 Y3 Y4 Y5 Y6 Y7 Y8 Y9 K2
      (try simp only [Int32.lt_iff_toInt_lt, Int32.le_iff_toInt_le, Int64.lt_iff_toInt_lt, Int64.le_iff_toInt_le, Int32.toInt_toInt64, ← Int32.toInt_inj, ← Int64.toInt_inj, n32_0, n32_1, n32_2, n32_3, n32_4, n32_6, n32_8, n32_9, n32_10, n32_20, n32_100, n32_120, n32_255, n32_400, n32_3600, n32_m1, n64_0, n64_1, n64_2, n64_3, n64_4, n64_5, n64_9, n64_19, n64_119, n64_255, n64_400, n64_3599, n64_1000000000, n64_1000000000000, n64_m1000000000000] at c0 c1 c3 c4 c5 c6 c7 b0 b1 b3 b4 b5 b7)
      first | contradiction | omega
    · intro b0 b1 bt2 be2 bh2 b3 b4 b5
      obtain rfl : ct2 = bt2 := by have z := nI_inj2 be2 (by omega) (by omega); omega
      exfalso
      clear hI0 hM hX hW hY hT hE hD hU hS hB hG K M27 M28 M29 M30 M31 M32 M33 M34 M35 M36 M37 M38 M39 M40 M41 M42 M43 M44 M45 M46 M47 M48 M49 X0 X1 X2 X3 X4 X5 X6 X7 X8 X9 X10 X11 X12 X13 W0 W1 W2 Y0 Y1 Y2 Y3 Y4 Y5 Y6 Y7 Y8 Y9 K2
      (try simp only [Int32.lt_iff_toInt_lt, Int32.le_iff_toInt_le, Int64.lt_iff_toInt_lt, Int64.le_iff_toInt_le, Int32.toInt_toInt64, ← Int32.toInt_inj, ← Int64.toInt_inj, n32_0, n32_1, n32_2, n32_3, n32_4, n32_6, n32_8, n32_9, n32_10, n32_20, n32_100, n32_120, n32_255, n32_400, n32_3600, n32_m1, n64_0, n64_1, n64_2, n64_3, n64_4, n64_5, n64_9, n64_19, n64_119, n64_255, n64_400, n64_3599, n64_1000000000, n64_1000000000000, n64_m1000000000000] at c0 c1 c3 c4 c5 c6 c7 b0 b1 b3 b4 b5)
      first | contradiction | omega
    · intro b0 b1 bt2 be2 bh2 b3 b4 b5 b6 b7
      obtain rfl : ct2 = bt2 := by have z := nI_inj2 be2 (by omega) (by omega); omega
      exact K2 _ (iV_up hI0)
    · intro b0 b1 bt2 be2 bh2 b3 b4 b5 b6 b7
      obtain rfl : ct2 = bt2 := by have z := nI_inj2 be2 (by omega) (by omega); omega
      exfalso
      clear hI0 hM hX hW hY hT hE hD hU hS hB hG K M27 M28 M29 M30 M31 M32 M33 M34 M35 M36 M37 M38 M39 M40 M41 M42 M43 M44 M45 M46 M47 M48 M49 X0 X1 X2 X3 X4 X5 X6 X7 X8 X9 X10 X11 X12 X13 W0 W1 W2 Y0 Y1 Y2 Y3 Y4 Y5 Y6 Y7 Y8 Y9 K2
      (try simp only [Int32.lt_iff_toInt_lt, Int32.le_iff_toInt_le, Int64.lt_iff_toInt_lt, Int64.le_iff_toInt_le, Int32.toInt_toInt64, ← Int32.toInt_inj, ← Int64.toInt_inj, n32_0, n32_1, n32_2, n32_3, n32_4, n32_6, n32_8, n32_9, n32_10, n32_20, n32_100, n32_120, n32_255, n32_400, n32_3600, n32_m1, n64_0, n64_1, n64_2, n64_3, n64_4, n64_5, n64_9, n64_19, n64_119, n64_255, n64_400, n64_3599, n64_1000000000, n64_1000000000000, n64_m1000000000000] at c0 c1 c3 c4 c5 c6 c7 b0 b1 b3 b4 b5 b6 b7)
      first | contradiction | omega
    · intro b0 b1 bt2 be2 bh2 b3 b4 b5 b6
      obtain rfl : ct2 = bt2 := by have z := nI_inj2 be2 (by omega) (by omega); omega
      exfalso
      clear hI0 hM hX hW hY hT hE hD hU hS hB hG K M27 M28 M29 M30 M31 M32 M33 M34 M35 M36 M37 M38 M39 M40 M41 M42 M43 M44 M45 M46 M47 M48 M49 X0 X1 X2 X3 X4 X5 X6 X7 X8 X9 X10 X11 X12 X13 W0 W1 W2 Y0 Y1 Y2 Y3 Y4 Y5 Y6 Y7 Y8 Y9 K2
      (try simp only [Int32.lt_iff_toInt_lt, Int32.le_iff_toInt_le, Int64.lt_iff_toInt_lt, Int64.le_iff_toInt_le, Int32.toInt_toInt64, ← Int32.toInt_inj, ← Int64.toInt_inj, n32_0, n32_1, n32_2, n32_3, n32_4, n32_6, n32_8, n32_9, n32_10, n32_20, n32_100, n32_120, n32_255, n32_400, n32_3600, n32_m1, n64_0, n64_1, n64_2, n64_3, n64_4, n64_5, n64_9, n64_19, n64_119, n64_255, n64_400, n64_3599, n64_1000000000, n64_1000000000000, n64_m1000000000000] at c0 c1 c3 c4 c5 c6 c7 b0 b1 b3 b4 b5 b6)
      first | contradiction | omega
    · intro b0 b1 bt2 be2 bh2 b3 b4 b5
      obtain rfl : ct2 = bt2 := by have z := nI_inj2 be2 (by omega) (by omega); omega
      exfalso
      clear hI0 hM hX hW hY hT hE hD hU hS hB hG K M27 M28 M29 M30 M31 M32 M33 M34 M35 M36 M37 M38 M39 M40 M41 M42 M43 M44 M45 M46 M47 M48 M49 X0 X1 X2 X3 X4 X5 X6 X7 X8 X9 X10 X11 X12 X13 W0 W1 W2 Y0 Y1 Y2 Y3 Y4 Y5 Y6 Y7 Y8 Y9 K2
      (try simp only [Int32.lt_iff_toInt_lt, Int32.le_iff_toInt_le, Int64.lt_iff_toInt_lt, Int64.le_iff_toInt_le, Int32.toInt_toInt64, ← Int32.toInt_inj, ← Int64.toInt_inj, n32_0, n32_1, n32_2, n32_3, n32_4, n32_6, n32_8, n32_9, n32_10, n32_20, n32_100, n32_120, n32_255, n32_400, n32_3600, n32_m1, n64_0, n64_1, n64_2, n64_3, n64_4, n64_5, n64_9, n64_19, n64_119, n64_255, n64_400, n64_3599, n64_1000000000, n64_1000000000000, n64_m1000000000000] at c0 c1 c3 c4 c5 c6 c7 b0 b1 b3 b4 b5)
      first | contradiction | omega
    · intro b0 b1 bt2 be2 bh2 b3 b4
      obtain rfl : ct2 = bt2 := by have z := nI_inj2 be2 (by omega) (by omega); omega
      exfalso
      clear hI0 hM hX hW hY hT hE hD hU hS hB hG K M27 M28 M29 M30 M31 M32 M33 M34 M35 M36 M37 M38 M39 M40 M41 M42 M43 M44 M45 M46 M47 M48 M49 X0 X1 X2 X3 X4 X5 X6 X7 X8 X9 X10 X11 X12 X13 W0 W1 W2 Y0 Y1 Y2 Y3 Y4 Y5 Y6 Y7 Y8 Y9 K2
      (try simp only [Int32.lt_iff_toInt_lt, Int32.le_iff_toInt_le, Int64.lt_iff_toInt_lt, Int64.le_iff_toInt_le, Int32.toInt_toInt64, ← Int32.toInt_inj, ← Int64.toInt_inj, n32_0, n32_1, n32_2, n32_3, n32_4, n32_6, n32_8, n32_9, n32_10, n32_20, n32_100, n32_120, n32_255, n32_400, n32_3600, n32_m1, n64_0, n64_1, n64_2, n64_3, n64_4, n64_5, n64_9, n64_19, n64_119, n64_255, n64_400, n64_3599, n64_1000000000, n64_1000000000000, n64_m1000000000000] at c0 c1 c3 c4 c5 c6 c7 b0 b1 b3 b4)
      first | contradiction | omega
