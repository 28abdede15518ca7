theorem j_wid {l : Launch} {G : jG} {M : jM} {nc ns nc' ns' pc : Nat} {lv : List (Nat × Value)} {st : List Value} {h : jH} {Q : Option Value → jH → Prop} (h1 : nc ≤ nc') (h2 : ns ≤ ns') (k : J l G M nc' ns' pc lv st h Q) : J l G M nc ns pc lv st h Q := by
  intro p e s m args below meth c H locs ls hF hR hL hV
  exact W.widen h1 h2 (k p e s m args below meth c H locs ls hF hR hL hV)
/-- what is known of the script -/
def jX0 (G : jG) (L : Nat) (xs : Nat → Int32) : Prop := ∀ U, G.2.2.2.2 U → va_X (G.2.2.2.1 0) L xs U U.heap ∧ ¬ G.1.size ≤ G.2.2.2.1 0
section JLW
variable {l : Launch} {G : jG} {y : MethodName} {cc : ByteArray} {n : Nat} {r : Option FieldType} {rm : Room} {nc ns pc : Nat} {lv : List (Nat × Value)} {st : List Value} {h : jH} {Q : Option Value → jH → Prop} {L : Nat} {xs : Nat → Int32}
theorem j_xlen (hX : jX0 G L xs) (hd : decode cc pc = .ok (.arraylength, 1)) (kk : J l G (y, cc, n, r, rm) nc ns (pc + 1) lv (.int (nI L) :: st) h Q) : J l G (y, cc, n, r, rm) nc ns pc lv (.float 0 :: st) h Q := by
  intro p e s m args below meth c H locs ls hF hR hL hV
  obtain ⟨⟨scr, h1, h2, h3, h4, h5⟩, h6⟩ := hX s hF.2.2.2.2.2.2.2.2.1.2.2.2.2.2.2
  exact W.alen (n := nI L) (a := G.2.2.2.1 0) (rest := st.map (jv G)) hF.1 hF.2.1 ((j_old hF hR h6).trans h1) h2 (by rw [h4]; rfl) rfl rfl hd (kk p e s m args below meth c H locs ls hF hR hL hV)
theorem j_xld {q : Nat} {i : Int32} (hX : jX0 G L xs) (hi : i = nI q) (hq : q < L) (hq2 : q < 2147483648) (hd : decode cc pc = .ok (.iaload, 1)) (kk : J l G (y, cc, n, r, rm) nc ns (pc + 1) lv (.int (xs q) :: st) h Q) : J l G (y, cc, n, r, rm) nc ns pc lv (.int i :: .float 0 :: st) h Q := by
  subst hi
  intro p e s m args below meth c H locs ls hF hR hL hV
  obtain ⟨⟨scr, h1, h2, h3, h4, h5⟩, h6⟩ := hX s hF.2.2.2.2.2.2.2.2.1.2.2.2.2.2.2
  have ek : (nI q).toNatClampNeg = q := nI_clamp hq2
  refine W.iald (v := .int (xs q)) (j := nI q) (a := G.2.2.2.1 0) (rest := st.map (jv G)) hF.1 hF.2.1 ((j_old hF hR h6).trans h1) h2 h3 ?_ ?_ rfl rfl hd (kk p e s m args below meth c H locs ls hF hR hL hV)
  · rw [ek, h4]
    intro z
    rcases z with z | z
    · exact nI_pos hq2 z
    · omega
  · rw [ek]
    exact h5 q hq
/-- the script's int at q -/
theorem jg_i {i : Int} {a : Int32} {q : Nat} (h0 : decode cc pc = .ok (.aload_n 0, 1)) (h1 : decode cc (pc + 1) = .ok (.iload_n 3, 1)) (h2 : decode cc (pc + 2) = .ok (.iconst i, 1)) (h3 : decode cc (pc + 3) = .ok (.iadd, 1)) (h4 : decode cc (pc + 4) = .ok (.iaload, 1)) (hX : jX0 G L xs) (hl0 : jlk 0 lv = some (.float 0)) (hl3 : jlk 3 lv = some (.int a)) (hv : a + Int32.ofInt i = nI q) (hq : q < L) (hq2 : q < 2147483648) (kk : J l G (y, cc, n, r, rm) nc ns (pc + 5) lv (.int (xs q) :: st) h Q) : J l G (y, cc, n, r, rm) nc ns pc lv st h Q :=
  j_xload_n h0 hl0 (j_iload_n h1 hl3 (j_iconst h2 rfl (j_iadd h3 (j_xld hX hv hq hq2 h4 kk))))
/-- the script's long at q, q + 1 -/
def jgL (a b : Int32) : Int64 := (a.toInt64 <<< ((32 : Int32).toInt64 &&& 63)) ||| (b.toInt64 &&& 4294967295)
theorem jg_l {i i' : Int} {a : Int32} {q q' : Nat} (h0 : decode cc pc = .ok (.aload_n 0, 1)) (h1 : decode cc (pc + 1) = .ok (.iload_n 3, 1)) (h2 : decode cc (pc + 2) = .ok (.iconst i, 1)) (h3 : decode cc (pc + 3) = .ok (.iadd, 1)) (h4 : decode cc (pc + 4) = .ok (.iaload, 1)) (h5 : decode cc (pc + 5) = .ok (.i2l, 1)) (h6 : decode cc (pc + 6) = .ok (.bipush 32, 2)) (h7 : decode cc (pc + 8) = .ok (.lshl, 1)) (h8 : decode cc (pc + 9) = .ok (.aload_n 0, 1)) (h9 : decode cc (pc + 10) = .ok (.iload_n 3, 1)) (ha : decode cc (pc + 11) = .ok (.iconst i', 1)) (hb : decode cc (pc + 12) = .ok (.iadd, 1)) (hc : decode cc (pc + 13) = .ok (.iaload, 1)) (hd : decode cc (pc + 14) = .ok (.i2l, 1)) (he : decode cc (pc + 15) = .ok (.ldc2_w 28, 3)) (hf : decode cc (pc + 18) = .ok (.land, 1)) (hg : decode cc (pc + 19) = .ok (.lor, 1)) (hy : y.cls = RL) (hX : jX0 G L xs) (hl0 : jlk 0 lv = some (.float 0)) (hl3 : jlk 3 lv = some (.int a)) (hv : a + Int32.ofInt i = nI q) (hv' : a + Int32.ofInt i' = nI q') (hq : q < L) (hq' : q' < L) (hq2 : q < 2147483648) (hq2' : q' < 2147483648) (kk : J l G (y, cc, n, r, rm) nc ns (pc + 20) lv (.long (jgL (xs q) (xs q')) :: st) h Q) : J l G (y, cc, n, r, rm) nc ns pc lv st h Q :=
  jg_i h0 h1 h2 h3 h4 hX hl0 hl3 hv hq hq2 (j_i2l h5 (j_bipush (v := 32) h6 (by decide) (j_lshl h7 (jg_i h8 h9 ha hb hc hX hl0 hl3 hv' hq' hq2' (j_i2l hd (j_ldc2 (v := 4294967295) he (by rw [hy]; exact jnL_28) (j_land hf (j_lor hg kk))))))))
theorem j_tabO {dflt lo hi : Int} {offs : Array Int} {len : Nat} {v : Int32} {tgt : Nat} (hd : decode cc pc = .ok (.tableswitch dflt lo hi offs, len)) (hv : v.toInt < lo ∨ hi < v.toInt) (ht : (pc : Int) + dflt = (tgt : Int)) (kk : J l G (y, cc, n, r, rm) nc ns tgt lv st h Q) : J l G (y, cc, n, r, rm) nc ns pc lv (.int v :: st) h Q := by
  intro p e s m args below meth c H locs ls hF hR hL hV
  exact lv_tableOut hF.1 hF.2.1 hd hv ht (kk p e s m args below meth c H locs ls hF hR hL hV)
theorem j_tabI {dflt lo hi off : Int} {offs : Array Int} {len : Nat} {v : Int32} {tgt : Nat} (hd : decode cc pc = .ok (.tableswitch dflt lo hi offs, len)) (h1 : ¬ v.toInt < lo) (h2 : ¬ hi < v.toInt) (ho : offs[(v.toInt - lo).toNat]? = some off) (ht : (pc : Int) + off = (tgt : Int)) (kk : J l G (y, cc, n, r, rm) nc ns tgt lv st h Q) : J l G (y, cc, n, r, rm) nc ns pc lv (.int v :: st) h Q := by
  intro p e s m args below meth c H locs ls hF hR hL hV
  exact lv_tableIn hF.1 hF.2.1 hd h1 h2 ho ht (kk p e s m args below meth c H locs ls hF hR hL hV)
end JLW
theorem n_and31 (x : Int32) : ∃ j : Nat, j < 32 ∧ x &&& 31 = nI j := by
  refine ⟨x.toBitVec.toNat % 32, Nat.mod_lt _ (by decide), ?_⟩
  apply Int32.toBitVec_inj.mp
  apply BitVec.eq_of_toNat_eq
  rw [Int32.toBitVec_and, BitVec.toNat_and]
  show x.toBitVec.toNat &&& 31 = (BitVec.ofNat 32 (x.toBitVec.toNat % 32)).toNat
  rw [BitVec.toNat_ofNat, show (31 : Nat) = 2 ^ 5 - 1 from rfl, Nat.and_two_pow_sub_one_eq_mod]
  rw [Nat.mod_eq_of_lt (a := x.toBitVec.toNat % 32) (by omega)]
theorem n_k5 (k : Nat) (j : Nat) : nI (5 * k) + nI j = nI (5 * k + j) := nI_add _ _
theorem iV_0 {c : Nat} {h : jH} (hI : iV c h) : ∃ fs, h.2 0 = some (jO 7 fs) := by
  refine hI _ ?_
  intro L P T E C R R0 n ru dq dr op at_ fr wd ws we wn dd tx rs fs ro sh dy se ey er tk tn ac f1 f2 f3 f4 g1 g2 g3 g4 da lo ad sa co pa ss w1 w2 w3 am pw ps cu dm ta ea shp tb eb rr rn cst prt eam dys eac shs hM hX hW hY hT hE hD hN hU hS hB
  exact ⟨_, hX.1⟩
abbrev mL_law : jM := (yL_law, cL_law, 4, some FieldType.boolean, room_1)
/-- the law's locals in its loop -/
abbrev jLV (k : Nat) : List (Nat × Value) := [(3, .int (nI (5 * k))), (2, .ref 27), (1, .ref 0), (0, .float 0)]
