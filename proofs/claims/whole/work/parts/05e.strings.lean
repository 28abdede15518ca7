def jslen : List Nat := [4, 4, 4, 4, 5]
def jsbyt : List (List Int32) := [[115, 104, 105, 112], [103, 101, 97, 114], [99, 111, 115, 116], [114, 111, 108, 101], [108, 101, 97, 115, 116]]
/-- what is known of the five words, of two static fields: .float (i + 1) is word i, .float (i + 6) its bytes -/
def jXs (G : jG) (fv : Value) (U : State) : Prop :=
  vk_S 5 jslen jsbyt (fun i => G.2.2.2.1 (i + 1)) (fun i => G.2.2.2.1 (i + 6)) (fun q => G.1.size ≤ q) U U.heap ∧ va_Z "java/lang/String" "COMPACT_STRINGS" "Z" (.int 1) (fun q => G.1.size ≤ q) U U.heap ∧ va_Z "jdk/internal/util/Preconditions" "SIOOBE_FORMATTER" "Ljava/util/function/BiFunction;" (jv G fv) (fun q => G.1.size ≤ q) U U.heap ∧ (vk_R RX4 50 "ship" (G.2.2.2.1 1) U ∧ vk_R RX4 60 "gear" (G.2.2.2.1 2) U ∧ vk_R RX4 62 "cost" (G.2.2.2.1 3) U ∧ vk_R RX4 68 "role" (G.2.2.2.1 4) U ∧ vk_R RX4 70 "least" (G.2.2.2.1 5) U)
def j_gok (G : jG) : Prop := ∃ fv : Value, (fv = .null ∨ fv = .float 11) ∧ ∀ U, G.2.2.2.2 U → jXs G fv U
theorem jfl9 : Cond.fieldLink RJ0 9 "java/lang/String" "value" "[B" ∈ jWS := jWS_of (List.mem_of_getElem? (i := 874) (by decide +kernel)) rfl
theorem jfl15 : Cond.fieldLink RJ0 15 "java/lang/String" "coder" "B" ∈ jWS := jWS_of (List.mem_of_getElem? (i := 875) (by decide +kernel)) rfl
theorem jfl38 : Cond.fieldLink RJ0 38 "java/lang/String" "COMPACT_STRINGS" "Z" ∈ jWS := jWS_of (List.mem_of_getElem? (i := 245) (by decide +kernel)) rfl
theorem jfl1053 : Cond.fieldLink RJ0 1053 "jdk/internal/util/Preconditions" "SIOOBE_FORMATTER" "Ljava/util/function/BiFunction;" ∈ jWS := jWS_of (List.mem_of_getElem? (i := 261) (by decide +kernel)) rfl
section JST
variable {l : Launch} {G : jG} {y : MethodName} {cc : ByteArray} {n : Nat} {r : Option FieldType} {rm : Room} {nc ns pc : Nat} {lv : List (Nat × Value)} {st : List Value} {h : jH} {Q : Option Value → jH → Prop} {fv : Value}
theorem j_old {p : Program} {s : State} {m : MethodId} {args : Array Value} {meth : Method} {c : Code} {H : Heap} {M : jM} (hF : JF G M p s m args meth c) (hR : j_rep G h H) {a : Nat} (ha : ¬ G.1.size ≤ a) : H[a]? = s.heap[a]? :=
  (hR.2.1 a (Nat.not_le.mp ha)).trans (hF.2.2.2.2.2.2.2.2.2.1 a (Nat.not_le.mp ha)).symm
theorem j_sval {i : Nat} {x z : UInt32} (hG : ∀ U, G.2.2.2.2 U → jXs G fv U) (hi : i < 5) (hx : x.toNat = i + 1) (hz : z.toNat = i + 6) (hy : y.cls = RJ0) (hd : decode cc pc = .ok (.getfield 9, 3)) (kk : J l G (y, cc, n, r, rm) nc ns (pc + 3) lv (.float z :: st) h Q) : J l G (y, cc, n, r, rm) nc ns pc lv (.float x :: st) h Q := by
  intro p e s m args below meth c H locs ls hF hR hL hV
  obtain ⟨cf, k, j, f, cell, h1, h2, h3, h4, h5, h6⟩ := ((hG s hF.2.2.2.2.2.2.2.2.1.2.2.2.2.2.2).1.1 i hi).2.2.1
  have kk' := kk p e s m args below meth c H locs ls hF hR hL hV
  refine W.getf (v := .ref (G.2.2.2.1 (i + 6))) (a := G.2.2.2.1 (i + 1)) (rest := st.map (jv G)) hF.1 hF.2.1 hF.2.2.2.2.2.2.1 (hF.2.2.2.2.2.2.2.1 _ (by show Cond.fieldLink y.cls 9 _ _ _ ∈ jWS; rw [hy]; exact jfl9)) h1 h2 ((j_old hF hR h6).trans h3) h4 h5 rfl ?_ hd ?_
  · show _ :: _ = _
    simp [jv, hx]
  · simpa [jv, hz] using kk'
theorem j_scod {i : Nat} {x : UInt32} (hG : ∀ U, G.2.2.2.2 U → jXs G fv U) (hi : i < 5) (hx : x.toNat = i + 1) (hy : y.cls = RJ0) (hd : decode cc pc = .ok (.getfield 15, 3)) (kk : J l G (y, cc, n, r, rm) nc ns (pc + 3) lv (.int 0 :: st) h Q) : J l G (y, cc, n, r, rm) nc ns pc lv (.float x :: st) h Q := by
  intro p e s m args below meth c H locs ls hF hR hL hV
  obtain ⟨cf, k, j, f, cell, h1, h2, h3, h4, h5, h6⟩ := ((hG s hF.2.2.2.2.2.2.2.2.1.2.2.2.2.2.2).1.1 i hi).2.1
  refine W.getf (v := .int 0) (a := G.2.2.2.1 (i + 1)) (rest := st.map (jv G)) hF.1 hF.2.1 hF.2.2.2.2.2.2.1 (hF.2.2.2.2.2.2.2.1 _ (by show Cond.fieldLink y.cls 15 _ _ _ ∈ jWS; rw [hy]; exact jfl15)) h1 h2 ((j_old hF hR h6).trans h3) h4 h5 rfl ?_ hd (kk p e s m args below meth c H locs ls hF hR hL hV)
  show _ :: _ = _
  simp [jv, hx]
theorem j_scs (hG : ∀ U, G.2.2.2.2 U → jXs G fv U) (hy : y.cls = RJ0) (hd : decode cc pc = .ok (.getstatic 38, 3)) (kk : J l G (y, cc, n, r, rm) nc ns (pc + 3) lv (.int 1 :: st) h Q) : J l G (y, cc, n, r, rm) nc ns pc lv st h Q := by
  intro p e s m args below meth c H locs ls hF hR hL hV
  obtain ⟨cf, kf, fi, f, a, cell, h1, h2, h3, h4, h5, h6, h7, h8⟩ := (hG s hF.2.2.2.2.2.2.2.2.1.2.2.2.2.2.2).2.1
  exact W.gets (v := .int 1) hF.1 hF.2.1 hF.2.2.2.2.2.2.1 (hF.2.2.2.2.2.2.2.1 _ (by show Cond.fieldLink y.cls 38 _ _ _ ∈ jWS; rw [hy]; exact jfl38)) h1 h2 h3 h4 ((j_old hF hR h8).trans h5) (fun e => by rw [e] at h6; cases h6) h7 rfl hd (kk p e s m args below meth c H locs ls hF hR hL hV)
theorem j_sfm (hG : ∀ U, G.2.2.2.2 U → jXs G fv U) (hy : y.cls = RJ0) (hd : decode cc pc = .ok (.getstatic 1053, 3)) (kk : J l G (y, cc, n, r, rm) nc ns (pc + 3) lv (fv :: st) h Q) : J l G (y, cc, n, r, rm) nc ns pc lv st h Q := by
  intro p e s m args below meth c H locs ls hF hR hL hV
  obtain ⟨cf, kf, fi, f, a, cell, h1, h2, h3, h4, h5, h6, h7, h8⟩ := (hG s hF.2.2.2.2.2.2.2.2.1.2.2.2.2.2.2).2.2.1
  exact W.gets (v := jv G fv) hF.1 hF.2.1 hF.2.2.2.2.2.2.1 (hF.2.2.2.2.2.2.2.1 _ (by show Cond.fieldLink y.cls 1053 _ _ _ ∈ jWS; rw [hy]; exact jfl1053)) h1 h2 h3 h4 ((j_old hF hR h8).trans h5) (fun e => by rw [e] at h6; cases h6) h7 rfl hd (kk p e s m args below meth c H locs ls hF hR hL hV)
theorem j_slen {i : Nat} {z : UInt32} (hG : ∀ U, G.2.2.2.2 U → jXs G fv U) (hi : i < 5) (hz : z.toNat = i + 6) (hd : decode cc pc = .ok (.arraylength, 1)) (kk : J l G (y, cc, n, r, rm) nc ns (pc + 1) lv (.int (nI (jslen.getD i 0)) :: st) h Q) : J l G (y, cc, n, r, rm) nc ns pc lv (.float z :: st) h Q := by
  intro p e s m args below meth c H locs ls hF hR hL hV
  obtain ⟨cell, h1, h2, h3, h4, h5, h6, h7⟩ := ((hG s hF.2.2.2.2.2.2.2.2.1.2.2.2.2.2.2).1.1 i hi).2.2.2
  refine W.alen (n := nI (jslen.getD i 0)) (a := G.2.2.2.1 (i + 6)) (rest := st.map (jv G)) hF.1 hF.2.1 ((j_old hF hR h7).trans h1) h2 h5 rfl ?_ hd (kk p e s m args below meth c H locs ls hF hR hL hV)
  show _ :: _ = _
  simp [jv, hz]
theorem j_sbyt {i k : Nat} {z : UInt32} (hG : ∀ U, G.2.2.2.2 U → jXs G fv U) (hi : i < 5) (hz : z.toNat = i + 6) (hk : k < jslen.getD i 0) (hk2 : k < 2 ^ 31) (hd : decode cc pc = .ok (.baload, 1)) (kk : J l G (y, cc, n, r, rm) nc ns (pc + 1) lv (.int ((jsbyt.getD i []).getD k 0) :: st) h Q) : J l G (y, cc, n, r, rm) nc ns pc lv (.int (nI k) :: .float z :: st) h Q := by
  intro p e s m args below meth c H locs ls hF hR hL hV
  obtain ⟨cell, h1, h2, h3, h4, h5, h6, h7⟩ := ((hG s hF.2.2.2.2.2.2.2.2.1.2.2.2.2.2.2).1.1 i hi).2.2.2
  have ek : (nI k).toNatClampNeg = k := nI_clamp hk2
  refine W.bald (v := .int ((jsbyt.getD i []).getD k 0)) (j := nI k) (a := G.2.2.2.1 (i + 6)) (rest := st.map (jv G)) hF.1 hF.2.1 ((j_old hF hR h7).trans h1) h2 h3 ?_ ?_ rfl ?_ hd (kk p e s m args below meth c H locs ls hF hR hL hV)
  · rw [ek]
    intro q
    rcases q with q | q
    · exact nI_pos hk2 q
    · omega
  · rw [ek]
    exact h6 k hk
  · show _ :: _ :: _ = _
    simp [jv, hz]
/-- a word's place -/
theorem j_ldcS {idx i : Nat} {tx : String} {x : UInt32} (hx : x.toNat = i) (hG : ∀ U, G.2.2.2.2 U → vk_R y.cls idx tx (G.2.2.2.1 i) U) (hd : decode cc pc = .ok (.ldc idx, 2)) (kk : J l G (y, cc, n, r, rm) nc ns (pc + 2) lv (.float x :: st) h Q) : J l G (y, cc, n, r, rm) nc ns pc lv st h Q := by
  subst hx
  intro p e s m args below meth c H locs ls hF hR hL hV
  exact va_ldcS hF.1 hF.2.1 hF.2.2.2.2.2.2.1 (hG s hF.2.2.2.2.2.2.2.2.1.2.2.2.2.2.2) hd (kk p e s m args below meth c H locs ls hF hR hL hV)
variable {idx : Nat} {y' : MethodName} {cc' : ByteArray} {n' : Nat} {r' : Option FieldType} {rm' : Room}
/-- invokevirtual of a word's method -/
theorem j_callX (As : List Value) {i : Nat} {x : UInt32} {st1 : List Value} (hG : ∀ U, G.2.2.2.2 U → jXs G fv U) (hi : i < 5) (hxi : x.toNat = i + 1) (hd : decode cc pc = .ok (.invokevirtual idx, 3)) (hw : j_lv2 y.cls idx y' cc' n' r' As.length) (hc : y'.cls = "java/lang/String") (hf : j_fit rm rm' n' nc ns (.float x :: As) st) (hst : st1 = As.reverse ++ .float x :: st)
    (kk : J l G (y', cc', n', r', rm') 0 0 0 (lv_args 0 (.float x :: As)) [] h (fun v h' => J l G (y, cc, n, r, rm) (nc + rm'.cells) (ns + rm'.slots) (pc + 3) lv (v.toList ++ st) h' Q)) : J l G (y, cc, n, r, rm) nc ns pc lv st1 h Q := by
  subst hst
  intro p e s m args below meth c H locs ls hF hR hL hV
  obtain ⟨hx, hb, hml, hret, hlk, hnm2, hown, hts, henv, hs0, hz⟩ := id hF
  obtain ⟨⟨w1, w2, w3, w4, w5⟩, w6, w7⟩ := hw
  obtain ⟨f1, f2, f3, f4, f5, f6⟩ := hf
  obtain ⟨cell, q1, q2, q3, q4⟩ := ((hG s henv.2.2.2.2.2.2).1.1 i hi).1
  have hM := j_met (.float x :: As) w4 (by rw [j_sl]; exact f6) kk
  have cw : CallW rm s args y.cls y'.cls idx y' cc' n' r' (.code y' cc' n' r' :: jWS) rm' rm'.cells rm'.slots As.length := ⟨callB_of As.length hts (j_good w1) rfl rfl rfl (hts _ w2) (hts _ w3) w5 ⟨f1, f2⟩, hts _ w6, hts _ w7⟩
  have ex : G.2.2.2.1 x.toNat = G.2.2.2.1 (i + 1) := by rw [hxi]
  refine j_goes (va_runV (As := As.map (jv G)) (rest := st.map (jv G)) (b := G.2.2.2.1 x.toNat) ⟨hx, hb, hml, hown, hts⟩ hM cw ⟨j_blind _, ⟨cell, by rw [ex]; exact (j_old hF hR q4).trans q1, q2, by rw [hc]; exact q3⟩, fun U hU hW => ⟨rfl, by rw [hU]; exact hR, henv.warm hW (fun q hq => by rw [hU, hR.2.1 q hq, hs0 q hq])⟩⟩ rfl (by simp) hV.1 (by simp [List.map_reverse, jv]) (j_rm f5) hd ⟨f3, f4⟩) hL ?_
  intro v h' H' locs' hq hR' hL'
  rw [← j_mapA]
  exact hq p e s m args below meth c H' locs' ls hF hR' hL' hV
end JST
section JSM
variable {l : Launch} {G : jG} {h : jH} {Q : Option Value → jH → Prop} {fv : Value}
theorem s_J0_coder {i : Nat} {x : UInt32} (hG : ∀ U, G.2.2.2.2 U → jXs G fv U) (hi : i < 5) (hx : x.toNat = i + 1) (K1 : Q (some (.int 0)) h) : J l G mJ0_coder_7d493 0 0 0 (lv_args 0 [.float x]) [] h Q := by
  refine j_scs (pc := 0) hG rfl dJ0_coder_7d493_0 ?_
  refine j_if_eq (pc := 3) (tgt := 13) dJ0_coder_7d493_3 (by decide) (fun c => ?_) (fun c => ?_)
  · exact absurd c (by decide)
  refine j_xload_n (pc := 6) dJ0_coder_7d493_6 rfl ?_
  refine j_scod (pc := 7) hG hi hx rfl dJ0_coder_7d493_7 ?_
  refine j_goto (pc := 10) (tgt := 14) dJ0_coder_7d493_10 (by decide) ?_
  exact j_iret (pc := 14) dJ0_coder_7d493_14 rfl rfl (Nat.le_of_ble_eq_true rfl) (Nat.le_of_ble_eq_true rfl) K1
theorem s_J0_isLatin1 {i : Nat} {x : UInt32} (hG : ∀ U, G.2.2.2.2 U → jXs G fv U) (hi : i < 5) (hx : x.toNat = i + 1) (K1 : Q (some (.int 1)) h) : J l G mJ0_isLatin1_aae02 0 0 0 (lv_args 0 [.float x]) [] h Q := by
  refine j_scs (pc := 0) hG rfl dJ0_isLatin1_aae02_0 ?_
  refine j_if_eq (pc := 3) (tgt := 17) dJ0_isLatin1_aae02_3 (by decide) (fun c => ?_) (fun c => ?_)
  · exact absurd c (by decide)
  refine j_xload_n (pc := 6) dJ0_isLatin1_aae02_6 rfl ?_
  refine j_scod (pc := 7) hG hi hx rfl dJ0_isLatin1_aae02_7 ?_
  refine j_if_ne (pc := 10) (tgt := 17) dJ0_isLatin1_aae02_10 (by decide) (fun c => ?_) (fun c => ?_)
  · exact absurd rfl c
  refine j_iconst (pc := 13) (v := 1) dJ0_isLatin1_aae02_13 (by decide) ?_
  refine j_goto (pc := 14) (tgt := 18) dJ0_isLatin1_aae02_14 (by decide) ?_
  exact j_iret (pc := 18) dJ0_isLatin1_aae02_18 rfl rfl (Nat.le_of_ble_eq_true rfl) (Nat.le_of_ble_eq_true rfl) K1
theorem j_shr0 {N : Nat} (h : N < 2 ^ 31) : nI N >>> ((0 : Int32) &&& 31) = nI N := by
  rw [show ((0 : Int32) &&& 31) = 0 from by decide]
  apply Int32.toBitVec_inj.mp
  simp
theorem s_J0_length {i : Nat} {x : UInt32} (hG : ∀ U, G.2.2.2.2 U → jXs G fv U) (hi : i < 5) (hx : x.toNat = i + 1) (K1 : Q (some (.int (nI (jslen.getD i 0)))) h) : J l G mJ0_length_8abf5 0 0 0 (lv_args 0 [.float x]) [] h Q := by
  obtain ⟨z, hz⟩ : ∃ z : UInt32, z.toNat = i + 6 := ⟨UInt32.ofNat (i + 6), by simp; omega⟩
  refine j_xload_n (pc := 0) dJ0_length_8abf5_0 rfl ?_
  refine j_sval (pc := 1) hG hi hx hz rfl dJ0_length_8abf5_1 ?_
  refine j_slen (pc := 4) hG hi hz dJ0_length_8abf5_4 ?_
  refine j_xload_n (pc := 5) dJ0_length_8abf5_5 rfl ?_
  refine j_callX (pc := 6) (rm' := rmJ0_coder_7d493) [] hG hi hx dJ0_length_8abf5_6 jlJ0_335 rfl ⟨Nat.le_of_ble_eq_true rfl, Nat.le_of_ble_eq_true rfl, Nat.le_of_ble_eq_true rfl, Nat.le_of_ble_eq_true rfl, Nat.le_of_ble_eq_true rfl, Nat.le_of_ble_eq_true rfl⟩ rfl ?_
  refine s_J0_coder hG hi hx ?_
  refine j_ishr (pc := 9) dJ0_length_8abf5_9 ?_
  rw [j_shr0 (by rcases (show i = 0 ∨ i = 1 ∨ i = 2 ∨ i = 3 ∨ i = 4 by omega) with rfl | rfl | rfl | rfl | rfl <;> decide)]
  exact j_iret (pc := 10) dJ0_length_8abf5_10 rfl rfl (Nat.le_of_ble_eq_true rfl) (Nat.le_of_ble_eq_true rfl) K1
theorem s_J3_check {v : Value} {i N : Nat} (hv : v.category = 1) (hi : i < N) (hN : N < 2 ^ 31) (K1 : Q (some (.int (nI i))) h) : J l G mJ3_checkIndex_8e157 0 0 0 (lv_args 0 [.int (nI i), .int (nI N), v]) [] h Q := by
  refine j_iload_n (pc := 0) dJ3_checkIndex_8e157_0 rfl ?_
  refine j_if_lt (pc := 1) (tgt := 9) dJ3_checkIndex_8e157_1 (by decide) (fun c => ?_) (fun c => ?_)
  · exact absurd c (nI_pos (by omega))
  refine j_iload_n (pc := 4) dJ3_checkIndex_8e157_4 rfl ?_
  refine j_iload_n (pc := 5) dJ3_checkIndex_8e157_5 rfl ?_
  refine j_icmp_ltN (a := i) (b := N) (pc := 6) (tgt := 16) dJ3_checkIndex_8e157_6 (by decide) (by omega) (by omega) (fun c => ?_) (fun c => ?_)
  · refine j_iload_n (pc := 16) dJ3_checkIndex_8e157_16 rfl ?_
    exact j_iret (pc := 17) dJ3_checkIndex_8e157_17 rfl rfl (Nat.le_of_ble_eq_true rfl) (Nat.le_of_ble_eq_true rfl) K1
  · exact absurd hi c
theorem s_J0_check {i N : Nat} (hG : ∀ U, G.2.2.2.2 U → jXs G fv U) (hv : fv = .null ∨ fv = .float 11) (hi : i < N) (hN : N < 2 ^ 31) (K1 : Q none h) : J l G mJ0_checkIndex_df160 0 0 0 (lv_args 0 [.int (nI i), .int (nI N)]) [] h Q := by
  refine j_iload_n (pc := 0) dJ0_checkIndex_df160_0 rfl ?_
  refine j_iload_n (pc := 1) dJ0_checkIndex_df160_1 rfl ?_
  refine j_sfm (pc := 2) hG rfl dJ0_checkIndex_df160_2 ?_
  have hc : fv.category = 1 := by rcases hv with rfl | rfl <;> rfl
  have hl : (lg_sl [.int (nI i), .int (nI N), fv]).length ≤ 3 := by rcases hv with rfl | rfl <;> exact Nat.le_of_ble_eq_true rfl
  refine j_S3 (rm' := rmJ3_checkIndex_8e157) (pc := 5) dJ0_checkIndex_df160_5 jlJ0_1059 ⟨Nat.le_of_ble_eq_true rfl, Nat.le_of_ble_eq_true rfl, Nat.le_of_ble_eq_true rfl, Nat.le_of_ble_eq_true rfl, Nat.le_of_ble_eq_true rfl, hl⟩ ?_
  refine s_J3_check hc hi hN ?_
  refine j_pop (pc := 8) dJ0_checkIndex_df160_8 rfl ?_
  exact j_vret (pc := 9) dJ0_checkIndex_df160_9 rfl (Nat.le_of_ble_eq_true rfl) (Nat.le_of_ble_eq_true rfl) K1
theorem js_byt : ∀ i, i < 5 → ∀ k, k < jslen.getD i 0 → (((((jsbyt.getD i []).getD k 0) &&& 255).toUInt32 % 65536).toInt32 = (jsbyt.getD i []).getD k 0 ∧ narrow .char (.int ((jsbyt.getD i []).getD k 0)) = .int ((jsbyt.getD i []).getD k 0)) := by decide +kernel
theorem js_len : ∀ i, i < 5 → jslen.getD i 0 < 6 := by decide
theorem s_J1_charAt {i k : Nat} {z : UInt32} (hG : ∀ U, G.2.2.2.2 U → jXs G fv U) (hv : fv = .null ∨ fv = .float 11) (hi : i < 5) (hz : z.toNat = i + 6) (hk : k < jslen.getD i 0) (K1 : Q (some (.int ((jsbyt.getD i []).getD k 0))) h) : J l G mJ1_charAt_3b067 0 0 0 (lv_args 0 [.float z, .int (nI k)]) [] h Q := by
  have hl := js_len i hi
  refine j_iload_n (pc := 0) dJ1_charAt_3b067_0 rfl ?_
  refine j_xload_n (pc := 1) dJ1_charAt_3b067_1 rfl ?_
  refine j_slen (pc := 2) hG hi hz dJ1_charAt_3b067_2 ?_
  refine j_S2 (rm' := rmJ0_checkIndex_df160) (pc := 3) dJ1_charAt_3b067_3 jlJ1_9 ⟨Nat.le_of_ble_eq_true rfl, Nat.le_of_ble_eq_true rfl, Nat.le_of_ble_eq_true rfl, Nat.le_of_ble_eq_true rfl, Nat.le_of_ble_eq_true rfl, Nat.le_of_ble_eq_true rfl⟩ ?_
  refine s_J0_check hG hv hk (by omega) ?_
  refine j_xload_n (pc := 6) dJ1_charAt_3b067_6 rfl ?_
  refine j_iload_n (pc := 7) dJ1_charAt_3b067_7 rfl ?_
  refine j_sbyt (pc := 8) hG hi hz hk (by omega) dJ1_charAt_3b067_8 ?_
  refine j_sipush (pc := 9) (v := 255) dJ1_charAt_3b067_9 (by decide) ?_
  refine j_iand (pc := 12) dJ1_charAt_3b067_12 ?_
  refine j_i2c (pc := 13) dJ1_charAt_3b067_13 ?_
  rw [(js_byt i hi k hk).1]
  exact j_iret (pc := 14) dJ1_charAt_3b067_14 rfl (js_byt i hi k hk).2 (Nat.le_of_ble_eq_true rfl) (Nat.le_of_ble_eq_true rfl) K1
theorem s_J0_charAt {i k : Nat} {x : UInt32} (hG : ∀ U, G.2.2.2.2 U → jXs G fv U) (hv : fv = .null ∨ fv = .float 11) (hi : i < 5) (hx : x.toNat = i + 1) (hk : k < jslen.getD i 0) (K1 : Q (some (.int ((jsbyt.getD i []).getD k 0))) h) : J l G mJ0_charAt_5068e 0 0 0 (lv_args 0 [.float x, .int (nI k)]) [] h Q := by
  obtain ⟨z, hz⟩ : ∃ z : UInt32, z.toNat = i + 6 := ⟨UInt32.ofNat (i + 6), by simp; omega⟩
  refine j_xload_n (pc := 0) dJ0_charAt_5068e_0 rfl ?_
  refine j_callX (pc := 1) (rm' := rmJ0_isLatin1_aae02) [] hG hi hx dJ0_charAt_5068e_1 jlJ0_492 rfl ⟨Nat.le_of_ble_eq_true rfl, Nat.le_of_ble_eq_true rfl, Nat.le_of_ble_eq_true rfl, Nat.le_of_ble_eq_true rfl, Nat.le_of_ble_eq_true rfl, Nat.le_of_ble_eq_true rfl⟩ rfl ?_
  refine s_J0_isLatin1 hG hi hx ?_
  refine j_if_eq (pc := 4) (tgt := 16) dJ0_charAt_5068e_4 (by decide) (fun c => ?_) (fun c => ?_)
  · exact absurd c (by decide)
  refine j_xload_n (pc := 7) dJ0_charAt_5068e_7 rfl ?_
  refine j_sval (pc := 8) hG hi hx hz rfl dJ0_charAt_5068e_8 ?_
  refine j_iload_n (pc := 11) dJ0_charAt_5068e_11 rfl ?_
  refine j_S2 (rm' := rmJ1_charAt_3b067) (pc := 12) dJ0_charAt_5068e_12 jlJ0_495 ⟨Nat.le_of_ble_eq_true rfl, Nat.le_of_ble_eq_true rfl, Nat.le_of_ble_eq_true rfl, Nat.le_of_ble_eq_true rfl, Nat.le_of_ble_eq_true rfl, Nat.le_of_ble_eq_true rfl⟩ ?_
  refine s_J1_charAt hG hv hi hz hk ?_
  exact j_iret (pc := 15) dJ0_charAt_5068e_15 rfl (js_byt i hi k hk).2 (Nat.le_of_ble_eq_true rfl) (Nat.le_of_ble_eq_true rfl) K1
end JSM
