section JCL
variable {l : Launch} {G : jG} {y : MethodName} {cc : ByteArray} {n : Nat} {r : Option FieldType} {rm : Room} {nc ns pc : Nat} {lv : List (Nat × Value)} {st : List Value} {h : jH} {Q : Option Value → jH → Prop}
theorem j_args (G : jG) : ∀ (As : List Value) (i : Nat), lv_args i (As.map (jv G)) = j_c G (lv_args i As)
  | [], _ => rfl
  | v :: t, i => by
    show (i, jv G v) :: lv_args _ (t.map (jv G)) = (i, jv G v) :: j_c G (lv_args _ t)
    rw [j_args G t, jv_cat]
def j_Pc (G : jG) (h : jH) (As : List Value) : Array Value → State → Prop := va_Pc (As.map (jv G)) (fun U => j_rep G h U.heap ∧ j_env G U)
/-- a method's walk from its entry is a contract of it -/
theorem j_met (As : List Value) (hp : plainFor y = true) (hlen : (lg_sl (As.map (jv G))).length ≤ n) (k : J l G (y, cc, n, r, rm) 0 0 0 (lv_args 0 As) [] h Q) : Met l y (.code y cc n r :: jWS) rm (j_Pc G h As) (j_Q G Q) rm.cells rm.slots (fun q => G.1.size ≤ q) := by
  refine va_MetF (cc := cc) (maxL := n) (ret := r) hp rfl ?_
  intro p e s m args below meth c s₁ B hml hv
  obtain ⟨rfl, hR, henv⟩ := hv
  have hts := atoms_spec (ws := .code y cc n r :: jWS) B.pre
  rw [lg_entry_eq]
  have hl := lv_entry (As.map (jv G)) (n := n) hlen
  rw [j_args] at hl
  exact k p e s m _ below meth c s.heap [] _ ⟨B.exec, B.bytes, hml, B.returns, B.notSynchronized, (name_of_methodNamed B.named B.method).1, findClass_of_methodNamed B.named, fun w hw => hts w (List.mem_cons_of_mem _ hw), henv, hR.2.1, by rw [hR.1]; omega⟩ hR (fun q h => by cases h) hl
theorem j_blind (As : List Value) : FrameBlind (j_Pc G h As) := fun a U g mk q => ⟨q.1, q.2.1, j_env.same (u := U) (U := U.calling g mk a) rfl rfl q.2.2⟩
theorem j_goes {p : Program} {e : Env} {R : Room} {s : State} {m : MethodId} {args : Array Value} {below : List Frame} {meth : Method} {c : Code} {H : Heap} {locs : List Loc} {cells slots mc ms : Nat} {ls : Array Slot} {st0 rest : List Value} {a : Array Value} {Q1 : Option Value → jH → Prop} {Q2 : State → Prop} (hr : va_Run p l e R s m args below meth c H locs cells slots mc ms (F0 m pc ls st0) rest (j_Q G Q1 a) (fun q => G.1.size ≤ q)) (hL : ∀ q ∈ locs, G.1.size ≤ q.base)
    (kk : ∀ (v : Option Value) (h' : jH) (H' : Heap) (locs' : List Loc), Q1 v h' → j_rep G h' H' → (∀ q ∈ locs', G.1.size ≤ q.base) → W p l e R s m args below meth c H' locs' (cells + mc) (slots + ms) Q2 (F0 m (pc + 3) ls (v.toList.map (jv G) ++ rest))) : W p l e R s m args below meth c H locs cells slots Q2 (F0 m pc ls st0) := by
  intro T hT X
  obtain ⟨v, st₀, t, T', L, h0, X', hLL, e1, e2, ⟨v', h', hv, hq, hrep⟩, stp⟩ := hr T hT X
  cases hv
  obtain ⟨t2, a1, b1⟩ := kk v' h' T'.heap (locs ++ L) hq (by rw [e1]; exact hrep) (fun q hq2 => (List.mem_append.mp hq2).elim (hL q) (hLL q)) T' rfl X'
  refine ⟨t2, stp t2 ?_, b1⟩
  cases v' <;> exact a1
theorem j_good {c0 : Cond} (h0 : c0 ∈ jWS) : GoodIn jWS (c0 :: jWS) := by
  intro w hw
  have hw' : w ∈ jWS := by
    rcases List.mem_cons.mp hw with rfl | h1
    · exact h0
    · exact h1
  exact ⟨hw', good_of_word (jWS_good w hw')⟩
/-- a call: what is known of the link, of the callee, and that its room fits -/
def j_lk (own : String) (idx : Nat) (y' : MethodName) (cc' : ByteArray) (n' : Nat) (r' : Option FieldType) (k : Nat) : Prop :=
  Cond.code y' cc' n' r' ∈ jWS ∧ Cond.initialized y'.cls ∈ jWS ∧ Cond.methodLink own idx y' ∈ jWS ∧ plainFor y' = true ∧ (y'.cls ≠ "java/lang/invoke/MethodHandle" ∧ y'.cls ≠ "java/lang/invoke/VarHandle" ∧ (parseMethodDescriptor y'.desc).map (fun d => d.parameters.length) = some k)
def j_lv2 (own : String) (idx : Nat) (y' : MethodName) (cc' : ByteArray) (n' : Nat) (r' : Option FieldType) (k : Nat) : Prop :=
  j_lk own idx y' cc' n' r' k ∧ Cond.instanceMethod y' ∈ jWS ∧ Cond.selects y'.cls y' y' ∈ jWS
def j_ls (own : String) (idx : Nat) (y' : MethodName) (cc' : ByteArray) (n' : Nat) (r' : Option FieldType) (k : Nat) : Prop :=
  j_lk own idx y' cc' n' r' k ∧ Cond.static y' ∈ jWS
def j_li (own : String) (idx : Nat) (y' : MethodName) (cc' : ByteArray) (n' : Nat) (k : Nat) : Prop :=
  (j_lk own idx y' cc' n' none k ∨ (Cond.code y' cc' n' none ∈ jWS ∧ Cond.initialized y'.cls ∈ jWS ∧ (∃ host, Cond.methodLinkNest own idx y' host ∈ jNW) ∧ plainFor y' = true ∧ (y'.cls ≠ "java/lang/invoke/MethodHandle" ∧ y'.cls ≠ "java/lang/invoke/VarHandle" ∧ (parseMethodDescriptor y'.desc).map (fun d => d.parameters.length) = some k))) ∧ Cond.instanceMethod y' ∈ jWS ∧ y'.name = "<init>"
/-- the callee's room fits the caller's -/
def j_fit (rm rm' : Room) (n' nc ns : Nat) (As st : List Value) : Prop := rm'.frames + 1 ≤ rm.frames ∧ 8 + (n' + 11) + rm'.locals ≤ rm.locals ∧ nc + rm'.cells ≤ rm.cells ∧ ns + rm'.slots ≤ rm.slots ∧ (st.map fun v => v.category).sum ≤ 8 ∧ (lg_sl As).length ≤ n'
theorem j_sl (As : List Value) : (lg_sl (As.map (jv G))).length = (lg_sl As).length := by
  induction As with
  | nil => rfl
  | cons v t ih =>
    show (lg_sl (jv G v :: t.map (jv G))).length = (lg_sl (v :: t)).length
    simp only [lg_sl, List.flatMap_cons, List.length_append] at ih ⊢
    rw [jv_cat, ih]
    congr 1
    split <;> rfl
theorem j_rm {m : MethodId} {ls : Array Slot} {st1 : List Value} (hs : (st.map fun v => v.category).sum ≤ 8) : 2 * (F0 m pc ls st1).monitorRoom + ((st.map (jv G)).map fun v => v.category).sum ≤ 8 := by
  have hcat : ((st.map (jv G)).map fun v => v.category).sum = (st.map fun v => v.category).sum := by
    rw [List.map_map]
    exact congrArg List.sum (List.map_congr_left (fun v _ => jv_cat G v))
  show 2 * 0 + ((st.map (jv G)).map fun v => v.category).sum ≤ 8
  rw [hcat]
  omega
theorem j_mapA (v : Option Value) : (v.toList ++ st).map (jv G) = v.toList.map (jv G) ++ st.map (jv G) := List.map_append
variable {idx : Nat} {y' : MethodName} {cc' : ByteArray} {n' : Nat} {r' : Option FieldType} {rm' : Room}
/-- invokevirtual -/
theorem j_callV (As : List Value) {b ci : Nat} {fs : List Value} {st1 : List Value} (hd : decode cc pc = .ok (.invokevirtual idx, 3)) (hw : j_lv2 y.cls idx y' cc' n' r' As.length) (hk : h.2 b = some (jO ci fs)) (hc : (vwCl[ci]?).map (fun q => q.1) = some y'.cls) (hf : j_fit rm rm' n' nc ns (.ref b :: As) st) (hst : st1 = As.reverse ++ .ref b :: st)
    (kk : J l G (y', cc', n', r', rm') 0 0 0 (lv_args 0 (.ref b :: As)) [] h (fun v h' => J l G (y, cc, n, r, rm) (nc + rm'.cells) (ns + rm'.slots) (pc + 3) lv (v.toList ++ st) h' Q)) : J l G (y, cc, n, r, rm) nc ns pc lv st1 h Q := by
  subst hst
  intro p e s m args below meth c H locs ls hF hR hL hV
  obtain ⟨hx, hb, hml, hret, hlk, hnm2, hown, hts, henv, hs0, hz⟩ := id hF
  obtain ⟨⟨w1, w2, w3, w4, w5⟩, w6, w7⟩ := hw
  obtain ⟨f1, f2, f3, f4, f5, f6⟩ := hf
  obtain ⟨r0, g1, cell, q1, q2, q3, q4⟩ := hR.2.2.2 b _ hk
  have hr0 : vwCl[ci]? = some r0 := g1
  have hCc : r0.1 = y'.cls := by
    rw [hr0] at hc
    exact Option.some.inj hc
  have hfc := (henv.2.1.1 ci r0 hr0).2.1
  rw [hCc] at hfc
  have hM := j_met (.ref b :: As) w4 (by rw [j_sl]; exact f6) kk
  have cw : CallW rm s args y.cls y'.cls idx y' cc' n' r' (.code y' cc' n' r' :: jWS) rm' rm'.cells rm'.slots As.length := ⟨callB_of As.length hts (j_good w1) rfl rfl rfl (hts _ w2) (hts _ w3) w5 ⟨f1, f2⟩, hts _ w6, hts _ w7⟩
  refine j_goes (va_runV (As := As.map (jv G)) (rest := st.map (jv G)) (b := G.1.size + b) ⟨hx, hb, hml, hown, hts⟩ hM cw ⟨j_blind _, ⟨cell, q1, by rw [q3]; rfl, by rw [q2]; exact hfc⟩, fun U hU hW => ⟨rfl, by rw [hU]; exact hR, henv.warm hW (fun q hq => by rw [hU, hR.2.1 q hq, hs0 q hq])⟩⟩ rfl (by simp) hV.1 (by simp [List.map_reverse, jv]) (j_rm f5) hd ⟨f3, f4⟩) hL ?_
  intro v h' H' locs' hq hR' hL'
  rw [← j_mapA]
  exact hq p e s m args below meth c H' locs' ls hF hR' hL' hV
/-- invokestatic -/
theorem j_callS (As : List Value) {st1 : List Value} (hd : decode cc pc = .ok (.invokestatic idx, 3)) (hw : j_ls y.cls idx y' cc' n' r' As.length) (hf : j_fit rm rm' n' nc ns As st) (hst : st1 = As.reverse ++ st)
    (kk : J l G (y', cc', n', r', rm') 0 0 0 (lv_args 0 As) [] h (fun v h' => J l G (y, cc, n, r, rm) (nc + rm'.cells) (ns + rm'.slots) (pc + 3) lv (v.toList ++ st) h' Q)) : J l G (y, cc, n, r, rm) nc ns pc lv st1 h Q := by
  subst hst
  intro p e s m args below meth c H locs ls hF hR hL hV
  obtain ⟨hx, hb, hml, hret, hlk, hnm2, hown, hts, henv, hs0, hz⟩ := id hF
  obtain ⟨⟨w1, w2, w3, w4, w5⟩, w6⟩ := hw
  obtain ⟨f1, f2, f3, f4, f5, f6⟩ := hf
  have hM := j_met As w4 (by rw [j_sl]; exact f6) kk
  refine j_goes (va_runS (As := As.map (jv G)) (rest := st.map (jv G)) (n := As.length) ⟨hx, hb, hml, hown, hts⟩ hM ⟨callB_of As.length hts (j_good w1) rfl rfl rfl (hts _ w2) (hts _ w3) w5 ⟨f1, f2⟩, hts _ w6⟩ ⟨j_blind _, fun U hU hW => ⟨rfl, by rw [hU]; exact hR, henv.warm hW (fun q hq => by rw [hU, hR.2.1 q hq, hs0 q hq])⟩⟩ rfl (by simp) hV.1 (by simp [List.map_reverse]) (j_rm f5) hd ⟨f3, f4⟩) hL ?_
  intro v h' H' locs' hq hR' hL'
  rw [← j_mapA]
  exact hq p e s m args below meth c H' locs' ls hF hR' hL' hV
/-- invokespecial of a constructor -/
theorem j_callI (As : List Value) {b : Nat} {st1 : List Value} (hd : decode cc pc = .ok (.invokespecial idx, 3)) (hw : j_li y.cls idx y' cc' n' As.length) (hf : j_fit rm rm' n' nc ns (.ref b :: As) st) (hst : st1 = As.reverse ++ .ref b :: st)
    (kk : J l G (y', cc', n', none, rm') 0 0 0 (lv_args 0 (.ref b :: As)) [] h (fun v h' => J l G (y, cc, n, r, rm) (nc + rm'.cells) (ns + rm'.slots) (pc + 3) lv (v.toList ++ st) h' Q)) : J l G (y, cc, n, r, rm) nc ns pc lv st1 h Q := by
  subst hst
  intro p e s m args below meth c H locs ls hF hR hL hV
  obtain ⟨hx, hb, hml, hret, hlk, hnm2, hown, hts, henv, hs0, hz⟩ := id hF
  obtain ⟨hw, w6, w7⟩ := hw
  obtain ⟨f1, f2, f3, f4, f5, f6⟩ := hf
  have go : ∀ (v : Option Value) (h' : jH) (H' : Heap) (locs' : List Loc), J l G (y, cc, n, r, rm) (nc + rm'.cells) (ns + rm'.slots) (pc + 3) lv (v.toList ++ st) h' Q → j_rep G h' H' → (∀ q ∈ locs', G.1.size ≤ q.base) → W p l e rm s m args below meth c H' locs' (nc + rm'.cells) (ns + rm'.slots) (MQ below (j_Q G Q) args s rm.cells rm.slots (fun q => G.1.size ≤ q)) (F0 m (pc + 3) ls (v.toList.map (jv G) ++ st.map (jv G))) := by
    intro v h' H' locs' hq hR' hL'
    rw [← j_mapA]
    exact hq p e s m args below meth c H' locs' ls hF hR' hL' hV
  rcases hw with ⟨w1, w2, w3, w4, w5⟩ | ⟨w1, w2, ⟨host, w3⟩, w4, w5⟩
  · have hM := j_met (.ref b :: As) w4 (by rw [j_sl]; exact f6) kk
    exact j_goes (va_runI (As := As.map (jv G)) (rest := st.map (jv G)) (b := G.1.size + b) (n := As.length) ⟨hx, hb, hml, hown, hts⟩ hM ⟨callB_of As.length hts (j_good w1) rfl rfl rfl (hts _ w2) (hts _ w3) w5 ⟨f1, f2⟩, w7, hts _ w6⟩ ⟨j_blind _, fun U hU hW => ⟨rfl, by rw [hU]; exact hR, henv.warm hW (fun q hq => by rw [hU, hR.2.1 q hq, hs0 q hq])⟩⟩ rfl (by simp) hV.1 (by simp [List.map_reverse, jv]) (j_rm f5) hd ⟨f3, f4⟩) hL go
  · have hM := j_met (.ref b :: As) w4 (by rw [j_sl]; exact f6) kk
    exact j_goes (va_runIN (As := As.map (jv G)) (rest := st.map (jv G)) (b := G.1.size + b) (n := As.length) ⟨hx, hb, hml, hown, hts⟩ hM ⟨va_cnB As.length hts (j_good w1) rfl rfl rfl (henv.2.2.1 _ w3) (hts _ w2) w5 ⟨f1, f2⟩, w7, hts _ w6⟩ ⟨j_blind _, fun U hU hW => ⟨rfl, by rw [hU]; exact hR, henv.warm hW (fun q hq => by rw [hU, hR.2.1 q hq, hs0 q hq])⟩⟩ rfl (by simp) hV.1 (by simp [List.map_reverse, jv]) (j_rm f5) hd ⟨f3, f4⟩) hL go
/-- Math.max, Math.min -/
theorem j_maxI {x w : Int32} (hd : decode cc pc = .ok (.invokestatic idx, 3)) (w1 : Cond.methodLink y.cls idx Lib.Math.max.name ∈ jWS) (w2 : Cond.static Lib.Math.max.name ∈ jWS) (w3 : Cond.initialized "java/lang/Math" ∈ jWS) (w4 : Cond.code Lib.Math.max.name Lib.Math.max.code 2 (some .int) ∈ jWS) (f1 : 1 ≤ rm.frames) (f2 : (st.map fun v => v.category).sum + 13 ≤ rm.locals) (f3 : nc ≤ rm.cells) (f4 : ns ≤ rm.slots) (k : J l G (y, cc, n, r, rm) nc ns (pc + 3) lv (.int (if x < w then w else x) :: st) h Q) : J l G (y, cc, n, r, rm) nc ns pc lv (.int w :: .int x :: st) h Q := by
  intro p e s m args below meth c H locs ls hF hR hL hV
  obtain ⟨hx, hb, hml, hret, hlk, hnm2, hown, hts, henv, hs0, hz⟩ := id hF
  have hcat : ((st.map (jv G)).map fun v => v.category).sum = (st.map fun v => v.category).sum := by
    rw [List.map_map]
    exact congrArg List.sum (List.map_congr_left (fun v _ => jv_cat G v))
  exact va_mmax hx hb (hml.trans hV.1.symm) hown (hts _ w1) (hts _ w2) (hts _ w3) (hts _ w4) f1 (by rw [hcat]; exact f2) f3 f4 hd (k p e s m args below meth c H locs ls hF hR hL hV)
theorem j_maxL {x w : Int64} (hd : decode cc pc = .ok (.invokestatic idx, 3)) (w1 : Cond.methodLink y.cls idx Lib.MathLoose.max_long.x ∈ jWS) (w2 : Cond.static Lib.MathLoose.max_long.x ∈ jWS) (w3 : Cond.initialized "java/lang/Math" ∈ jWS) (w4 : Cond.code Lib.MathLoose.max_long.x Lib.MathLoose.max_long.code 4 (some .long) ∈ jWS) (f1 : 1 ≤ rm.frames) (f2 : (st.map fun v => v.category).sum + 15 ≤ rm.locals) (f3 : nc ≤ rm.cells) (f4 : ns ≤ rm.slots) (k : J l G (y, cc, n, r, rm) nc ns (pc + 3) lv (.long (if w < x then x else w) :: st) h Q) : J l G (y, cc, n, r, rm) nc ns pc lv (.long w :: .long x :: st) h Q := by
  intro p e s m args below meth c H locs ls hF hR hL hV
  obtain ⟨hx, hb, hml, hret, hlk, hnm2, hown, hts, henv, hs0, hz⟩ := id hF
  have hcat : ((st.map (jv G)).map fun v => v.category).sum = (st.map fun v => v.category).sum := by
    rw [List.map_map]
    exact congrArg List.sum (List.map_congr_left (fun v _ => jv_cat G v))
  exact va_mmax_long hx hb (hml.trans hV.1.symm) hown (hts _ w1) (hts _ w2) (hts _ w3) (hts _ w4) f1 (by rw [hcat]; exact f2) f3 f4 hd (k p e s m args below meth c H locs ls hF hR hL hV)
theorem j_minL {x w : Int64} (hd : decode cc pc = .ok (.invokestatic idx, 3)) (w1 : Cond.methodLink y.cls idx Lib.MathLoose.min_long.x ∈ jWS) (w2 : Cond.static Lib.MathLoose.min_long.x ∈ jWS) (w3 : Cond.initialized "java/lang/Math" ∈ jWS) (w4 : Cond.code Lib.MathLoose.min_long.x Lib.MathLoose.min_long.code 4 (some .long) ∈ jWS) (f1 : 1 ≤ rm.frames) (f2 : (st.map fun v => v.category).sum + 15 ≤ rm.locals) (f3 : nc ≤ rm.cells) (f4 : ns ≤ rm.slots) (k : J l G (y, cc, n, r, rm) nc ns (pc + 3) lv (.long (if w < x then w else x) :: st) h Q) : J l G (y, cc, n, r, rm) nc ns pc lv (.long w :: .long x :: st) h Q := by
  intro p e s m args below meth c H locs ls hF hR hL hV
  obtain ⟨hx, hb, hml, hret, hlk, hnm2, hown, hts, henv, hs0, hz⟩ := id hF
  have hcat : ((st.map (jv G)).map fun v => v.category).sum = (st.map fun v => v.category).sum := by
    rw [List.map_map]
    exact congrArg List.sum (List.map_congr_left (fun v _ => jv_cat G v))
  exact va_mmin_long hx hb (hml.trans hV.1.symm) hown (hts _ w1) (hts _ w2) (hts _ w3) (hts _ w4) f1 (by rw [hcat]; exact f2) f3 f4 hd (k p e s m args below meth c H locs ls hF hR hL hV)
end JCL
