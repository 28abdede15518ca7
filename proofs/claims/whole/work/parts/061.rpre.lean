theorem n32_0 : (0 : Int32).toInt = 0 := by decide
theorem n32_1 : (1 : Int32).toInt = 1 := by decide
theorem n32_2 : (2 : Int32).toInt = 2 := by decide
theorem n32_3 : (3 : Int32).toInt = 3 := by decide
theorem n32_4 : (4 : Int32).toInt = 4 := by decide
theorem n32_6 : (6 : Int32).toInt = 6 := by decide
theorem n32_8 : (8 : Int32).toInt = 8 := by decide
theorem n32_9 : (9 : Int32).toInt = 9 := by decide
theorem n32_10 : (10 : Int32).toInt = 10 := by decide
theorem n32_20 : (20 : Int32).toInt = 20 := by decide
theorem n32_100 : (100 : Int32).toInt = 100 := by decide
theorem n32_120 : (120 : Int32).toInt = 120 := by decide
theorem n32_255 : (255 : Int32).toInt = 255 := by decide
theorem n32_400 : (400 : Int32).toInt = 400 := by decide
theorem n32_3600 : (3600 : Int32).toInt = 3600 := by decide
theorem n32_m1 : (-1 : Int32).toInt = -1 := by decide
theorem n64_0 : (0 : Int64).toInt = 0 := by decide
theorem n64_1 : (1 : Int64).toInt = 1 := by decide
theorem n64_2 : (2 : Int64).toInt = 2 := by decide
theorem n64_3 : (3 : Int64).toInt = 3 := by decide
theorem n64_4 : (4 : Int64).toInt = 4 := by decide
theorem n64_5 : (5 : Int64).toInt = 5 := by decide
theorem n64_9 : (9 : Int64).toInt = 9 := by decide
theorem n64_19 : (19 : Int64).toInt = 19 := by decide
theorem n64_119 : (119 : Int64).toInt = 119 := by decide
theorem n64_255 : (255 : Int64).toInt = 255 := by decide
theorem n64_400 : (400 : Int64).toInt = 400 := by decide
theorem n64_3599 : (3599 : Int64).toInt = 3599 := by decide
theorem n64_1000000000 : (1000000000 : Int64).toInt = 1000000000 := by decide
theorem n64_1000000000000 : (1000000000000 : Int64).toInt = 1000000000000 := by decide
theorem n64_m1000000000000 : (-1000000000000 : Int64).toInt = -1000000000000 := by decide
theorem nI_inj2 {a b : Nat} (h : nI a = nI b) (ha : a < 2147483648) (hb : b < 2147483648) : a = b := (nI_eq ha hb).mp h
theorem iS_up {c : Nat} {P T : Nat} {ta : Nat → Option Nat} {tb shp : Nat → Nat} {sh se : Nat → Int32} {sa : Nat → Int64} {cst : Nat → Nat → Int64} {dys : Nat → Nat → Int32} {prt : Nat → Nat → Int64} {shs : Nat → Nat → Nat → Int64} {co : Nat → Int64} {dy : Nat → Int32} {pa ss lo : Nat → Int64} (h : iS c P T ta tb shp sh se sa cst dys prt shs co dy pa ss lo) : iS (c + 1) P T ta tb shp sh se sa cst dys prt shs co dy pa ss lo := by
  refine ⟨fun t ht => ?_, h.2.1, fun s hs => ⟨(h.2.2 s hs).1, by have := (h.2.2 s hs).2; omega⟩⟩
  obtain ⟨a1, a2, a3, a4, a5, a6, a7, a8, a9, b1⟩ := h.1 t ht
  exact ⟨a1, a2, a3, a4, a5, a6, fun k hk => ⟨(a7 k hk).1, (a7 k hk).2.1, by have := (a7 k hk).2.2; omega⟩, a8, a9, b1⟩
theorem iV_up {c : Nat} {h : jH} (hI : iV c h) : iV (c + 1) h := by
  intro X k
  refine hI X ?_
  intro L P T E C R R0 n ru dq dr op at_ fr wd ws we wn dd tx rs fs ro sh dy se ey er tk tn ac f1 f2 f3 f4 g1 g2 g3 g4 da lo ad sa co pa ss w1 w2 w3 am pw ps cu dm ta ea shp tb eb rr rn cst prt eam dys eac shs hM hX hW hY hT hE hD hN hU hS hB
  exact k L P T E C R R0 n ru dq dr op at_ fr wd ws we wn dd tx rs fs ro sh dy se ey er tk tn ac f1 f2 f3 f4 g1 g2 g3 g4 da lo ad sa co pa ss w1 w2 w3 am pw ps cu dm ta ea shp tb eb rr rn cst prt eam dys eac shs hM hX hW hY hT hE hD hN hU (iS_up hS) hB

theorem x_u8 {u : Int32} (h0 : ¬ u < 0) (h1 : ¬ 255 < u) : (u.toUInt32 % 65536).toInt32 = u := by
  obtain ⟨j, hj, rfl⟩ := nI_of h0
  have hj2 : j ≤ 255 := by
    simp only [Int32.lt_iff_toInt_lt, n32_255] at h1
    rw [nI_toInt hj] at h1
    omega
  apply Int32.toInt_inj.mp
  have e : (nI j).toUInt32.toNat = j := by
    have := nI_toInt hj
    simp [nI]
    omega
  have e2 : ((nI j).toUInt32 % 65536).toInt32 = nI j := by
    apply Int32.toBitVec_inj.mp
    apply BitVec.eq_of_toNat_eq
    have e3 : ((nI j).toUInt32 % 65536).toNat = j := by
      rw [UInt32.toNat_mod, e]
      exact Nat.mod_eq_of_lt (by simp; omega)
    show ((nI j).toUInt32 % 65536).toBitVec.toNat = (nI j).toBitVec.toNat
    exact e3.trans e.symm
  rw [e2]
