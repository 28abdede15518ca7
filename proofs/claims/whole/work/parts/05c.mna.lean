section JMN
variable {p : Program} {l : Launch} {e : Env} {R : Room} {s : State} {m : MethodId} {args : Array Value} {below : List Frame} {meth : Method} {c : Code} {T : State} {locs : List Loc} {cells slots : Nat}
/-- the outer array when i of its four rows are there -/
def jm_o (cA : ClassId) (h0 i : Nat) : Cell := arrV cA 4 (fun j => if j < i then .ref (h0 + 1 + j) else .null)
theorem jm_o_next (cA : ClassId) (h0 i : Nat) : (jm_o cA h0 i).setSlot i (.ref (h0 + 1 + i)) = jm_o cA h0 (i + 1) := by
  unfold jm_o
  rw [arrV_store]
  refine congrArg (arrV cA 4) (funext fun j => ?_)
  by_cases e : j = i
  · subst e
    simp [updV]
  · by_cases q : j < i
    · simp [updV, e, q, Nat.lt_succ_of_lt q]
    · simp [updV, e, q, show ¬ j < i + 1 by omega]
theorem jm_o_0 (cA : ClassId) (h0 : Nat) : ({ cls := cA, slots := Array.replicate 4 .null, vm := .none } : Cell) = jm_o cA h0 0 := by
  rw [arrV_new]
  unfold jm_o
  refine congrArg (arrV cA 4) (funext fun j => ?_)
  simp
/-- where the loop stands when i rows are there -/
def jm_I (p : Program) (l : Launch) (e : Env) (R : Room) (s : State) (m : MethodId) (args : Array Value) (below : List Frame) (meth : Method) (c : Code) (T : State) (vm1 : Vm) (locs : List Loc) (cells slots : Nat) (cA comp : ClassId) (i : Nat) (U : State) : Prop :=
  ∃ L : List Loc, Stand p l e R s m args below meth c U (locs ++ L) (cells + 1 + i) (slots + 4 + i * 12) ∧ (∀ q ∈ L, q.base = T.heap.size) ∧ U.heap.size = T.heap.size + 1 + i ∧ (∀ q : Nat, q < T.heap.size → U.heap[q]? = T.heap[q]?) ∧ U.heap[T.heap.size]? = some (jm_o cA T.heap.size i) ∧ (∀ j : Nat, j < i → U.heap[T.heap.size + 1 + j]? = some (arrV comp 12 (fun _ => .long 0))) ∧ U.vm = vm1 ∧ U.slotsUsed = T.slotsUsed + 4 + i * 12
theorem jm_step_ {vm1 : Vm} {cA comp : ClassId} {i : Nat} {U : State} (h : jm_I p l e R s m args below meth c T vm1 locs cells slots cA comp i U) (hi : i < 4) : jm_I p l e R s m args below meth c T vm1 locs cells slots cA comp (i + 1) ((U.pushCell { cls := comp, slots := Array.replicate 12 (.long 0), vm := .none }).setCell T.heap.size (jm_o cA T.heap.size (i + 1))) := by
  obtain ⟨L, X, hL, hz, ho, hu, hr, hv, hs⟩ := h
  have hlt : T.heap.size < U.heap.size := by omega
  have hcell : (U.pushCell { cls := comp, slots := Array.replicate 12 (.long 0), vm := .none }).heap[T.heap.size]? = some (jm_o cA T.heap.size i) := by
    rw [State.heap_pushCell_of_lt (h := hlt)]; exact hu
  have X2 := (X.pushed { cls := comp, slots := Array.replicate 12 (.long 0), vm := .none }).stored hcell i (.ref (T.heap.size + 1 + i))
  rw [jm_o_next] at X2
  refine ⟨L ++ [⟨T.heap.size, i⟩], ?_, ?_, ?_, ?_, ?_, ?_, ?_, ?_⟩
  · rw [← List.append_assoc]
    have e1 : (Array.replicate 12 (Value.long 0)).size = 12 := by simp
    have e2 : slots + 4 + (i + 1) * 12 = slots + 4 + i * 12 + 12 := by omega
    rw [e2, show cells + 1 + (i + 1) = cells + 1 + i + 1 from by omega]
    simpa using X2
  · intro q hq
    rcases List.mem_append.mp hq with z | z
    · exact hL q z
    · rw [List.mem_singleton.mp z]
  · show ((U.pushCell _).setCell _ _).heap.size = _
    simp [State.setCell, State.pushCell]
    omega
  · intro q hq
    rw [State.heap_setCell_other (Nat.ne_of_gt hq), State.heap_pushCell_of_lt (h := (show q < U.heap.size by omega))]
    exact ho q hq
  · exact State.heap_setCell_self hcell
  · intro j hj
    rw [State.heap_setCell_other (show T.heap.size ≠ T.heap.size + 1 + j by omega)]
    rcases Nat.lt_or_ge j i with z | z
    · rw [State.heap_pushCell_of_lt (h := (show T.heap.size + 1 + j < U.heap.size by omega))]
      exact hr j z
    · have ej : j = i := by omega
      subst ej
      rw [← hz, State.heap_pushCell_size, arrV_new]
  · exact hv
  · show (U.pushCell _).slotsUsed = _
    simp [hs]
    omega
theorem jm_fits {U : State} {cA comp : ClassId} {k : Class} (hk : U.vm.classes[cA]? = some k) (hkind : k.kind = .array comp (.array .long)) (i a : Nat) : U.fitsSlot cA .none i (.ref a) = true := by
  simp [State.fitsSlot, State.slotType?, hk, hkind, fits]
/-- the state when i rows are there -/
def jm_U (T : State) (cA comp : ClassId) : Nat → State
  | 0 => T.pushCell { cls := cA, slots := Array.replicate 4 .null, vm := .none }
  | i + 1 => ((jm_U T cA comp i).pushCell { cls := comp, slots := Array.replicate 12 (.long 0), vm := .none }).setCell T.heap.size (jm_o cA T.heap.size (i + 1))
theorem jm_U_top (T : State) (f : JFrame) (cA comp : ClassId) : ∀ i, jm_U (T.setTop f) cA comp i = (jm_U T cA comp i).setTop f
  | 0 => rfl
  | i + 1 => by simp only [jm_U, jm_U_top T f cA comp i, State.heap_setTop, State.pushCell_setTop, State.setCell_setTop]
theorem jm_all {cA comp : ClassId} (X : Stand p l e R s m args below meth c T locs cells slots) : ∀ i, i ≤ 4 → jm_I p l e R s m args below meth c T T.vm locs cells slots cA comp i (jm_U T cA comp i)
  | 0, _ => by
    refine ⟨[], ?_, fun q hq => (by cases hq), ?_, ?_, ?_, fun j hj => absurd hj (Nat.not_lt_zero _), rfl, ?_⟩
    · have h := X.pushed { cls := cA, slots := Array.replicate 4 .null, vm := .none }
      simpa [jm_U] using h
    · simp [jm_U]
    · intro q hq
      exact State.heap_pushCell_of_lt _ _ hq
    · rw [← jm_o_0]
      exact State.heap_pushCell_size _ _
    · simp [jm_U]
  | i + 1, h => jm_step_ (jm_all X i (by omega)) (by omega)
/-- the model's own loop -/
theorem jm_make {E : CtlPost} {d : Bool} {acts : List Action} {V : State} {f : JFrame} {cA comp cc : ClassId} {kA kC : Class} (X : Stand p l e R s m args below meth c V locs cells slots) (hkA : V.vm.classes[cA]? = some kA) (hkindA : kA.kind = .array comp (.array .long)) (hkC : V.vm.classes[comp]? = some kC) (hkindC : kC.kind = .array cc .long) (hr1 : V.heap.size + 5 ≤ e.platform.maxCells) (hr2 : V.slotsUsed + 52 ≤ e.platform.maxSlots) {Q : Addr → Pre} (hq : ∀ d' acts', Q V.heap.size d' acts' ((jm_U V cA comp 4).setTop f)) : wp (multianewarray.make cA [4, 12]) Q E e d acts (V.setTop f) := by
  have hl1 : ¬ 4 > e.platform.arrayLengthLimit := by rw [Launch.admits_arrayLengthLimit X.admits]; omega
  have hl2 : ¬ 12 > e.platform.arrayLengthLimit := by rw [Launch.admits_arrayLengthLimit X.admits]; omega
  have hh1 : ¬ 4 * componentBytes (.array .long) > e.platform.maxHeapBytes := by rw [Launch.admits_maxHeapBytes X.admits]; decide
  have hh2 : ¬ 12 * componentBytes .long > e.platform.maxHeapBytes := by rw [Launch.admits_maxHeapBytes X.admits]; decide
  have n4 : (4 : Int32).toNatClampNeg = 4 := by decide
  have n12 : (12 : Int32).toNatClampNeg = 12 := by decide
  have hkA' : (V.setTop f).vm.classes[cA]? = some kA := hkA
  rw [multianewarray.make]
  simp only [wp_bind', W.ite, show ¬ (4 : Int32) < 0 by decide, if_false, wp_pure', W.theClass, hkA', hkindA, Option.some.injEq, exists_eq_left', n4]
  refine W.newArray_of (howMany := 4) hkA' hkindA hl1 hh1 (by rw [State.heap_setTop]; omega) (by show V.slotsUsed + 4 ≤ _; omega) rfl fun acts1 => ?_
  simp only [show ((4 : Int32) == 0) = false by decide]
  rw [if_neg (by decide), wp_bind', Std.Legacy.Range.forIn_eq_forIn_range']
  have hsz : ([:4] : Std.Legacy.Range).size = 4 := by simp [Std.Legacy.Range.size]
  rw [hsz]
  show wp (forIn (List.range' 0 4 1) PUnit.unit _) _ E e d acts1 _
  refine wp_forIn_inv (fun rest s' => ∃ i, i ≤ 4 ∧ rest = List.range' i (4 - i) ∧ s' = (jm_U V cA comp i).setTop f) _ _ ⟨0, Nat.zero_le _, rfl, ?_⟩ ?_ ?_
  · show _ = (V.pushCell _).setTop f
    rw [← State.pushCell_setTop]
  · rintro x rest s' d' acts' Q' ⟨i, hi, hl, rfl⟩ hnext
    have hlt : i < 4 := by
      rcases Nat.lt_or_ge i 4 with h | h
      · exact h
      · rw [show 4 - i = 0 from by omega] at hl; simp at hl
    obtain ⟨rfl, hrest⟩ : x = i ∧ rest = List.range' (i + 1) (4 - (i + 1)) := by
      rw [show 4 - i = (4 - (i + 1)) + 1 from by omega, List.range'_succ] at hl
      exact ⟨(List.cons.inj hl).1, (List.cons.inj hl).2⟩
    obtain ⟨L, Xi, hL, hz, ho, hu, hr, hv, hs⟩ := jm_all (cA := cA) (comp := comp) X x (by omega)
    have hkC' : ((jm_U V cA comp x).setTop f).vm.classes[comp]? = some kC := by show (jm_U V cA comp x).vm.classes[comp]? = _; rw [hv]; exact hkC
    have hkA2 : ((jm_U V cA comp x).setTop f).vm.classes[cA]? = some kA := by show (jm_U V cA comp x).vm.classes[cA]? = _; rw [hv]; exact hkA
    simp only [wp_bind']
    rw [multianewarray.make]
    simp only [wp_bind', W.ite, show ¬ (12 : Int32) < 0 by decide, if_false, wp_pure', W.theClass, hkC', hkindC, Option.some.injEq, exists_eq_left', n12]
    refine W.newArray_of (howMany := 12) hkC' hkindC hl2 hh2 (by rw [State.heap_setTop]; omega) (by show (jm_U V cA comp x).slotsUsed + 12 ≤ _; omega) rfl fun acts2 => ?_
    have hlt0 : V.heap.size < (jm_U V cA comp x).heap.size := by omega
    simp only [wp_bind', W.writeLoc, wp_pure']
    refine ⟨jm_o cA V.heap.size x, ?_, by unfold jm_o; simp [arrV], by unfold jm_o; rw [arrV_size]; exact hlt, ?_, hnext _ _ _ ⟨x + 1, hlt, hrest, ?_⟩⟩
    · rw [State.heap_setTop, State.pushCell_setTop, State.heap_setTop, State.heap_pushCell_of_lt (h := hlt0)]
      exact hu
    · exact jm_fits (k := kA) hkA2 hkindA _ _
    · rw [State.heap_setTop, State.heap_setTop, hz, jm_o_next, State.pushCell_setTop, State.setCell_setTop]
      rfl
  · rintro s' d' acts' ⟨i, hi, hl, rfl⟩
    have hiN : i = 4 := by
      rcases Nat.lt_or_ge i 4 with h | h
      · rw [show 4 - i = (4 - (i + 1)) + 1 from by omega, List.range'_succ] at hl; cases hl
      · omega
    subst hiN
    simp only [wp_pure']
    exact hq _ _
/-- four rows of twelve -/
theorem jm_W {H : Heap} {Q : State → Prop} {cc : ByteArray} {own : String} {idx : Nat} {g : JFrame} {rest : List Value} (hexec : p.tables.exec = Jvm.exec) (hb : c.code = cc) (hown : s.vm.findClass own = some m.cls) (hclink : (Cond.classLink own idx ("[" ++ (FieldType.array .long).toString)).before args s = true) (hao : va_AOL s) (hg : g.method = m) (hdg : decode cc g.pc = .ok (.multianewarray idx 2, 4)) (hstack : g.stack = .int 12 :: .int 4 :: rest) (hcells : cells + 5 ≤ R.cells) (hslots : slots + 52 ≤ R.slots)
    (kk : ∀ (cA comp : ClassId) (H' : Heap) (L : List Loc), s.vm.findClass ("[" ++ (FieldType.array .long).toString) = some cA → s.vm.findClass (FieldType.array .long).toString = some comp → H'.size = H.size + 5 → (∀ q : Nat, q < H.size → H'[q]? = H[q]?) → H'[H.size]? = some (jm_o cA H.size 4) → (∀ j : Nat, j < 4 → H'[H.size + 1 + j]? = some (arrV comp 12 (fun _ => .long 0))) → (∀ q ∈ L, q.base = H.size) → W p l e R s m args below meth c H' (locs ++ L) (cells + 5) (slots + 52) Q { g with pc := g.pc + 4, stack := .ref H.size :: rest }) : W p l e R s m args below meth c H locs cells slots Q g := by
  intro T hT X
  subst hT; subst hb; subst hg
  have hpl : e.platform.magicAccessors = ({} : Platform).magicAccessors := by rw [X.admits.platform]
  obtain ⟨comp, cA, kA, kC, cc, hcomp, hkA, hkindA, hnameA, hkC, hkindC⟩ := hao
  obtain ⟨c0, hfc0, hcl⟩ := Cond.classLink_spec hown hclink e.platform hpl
  cases hnameA.symm.trans hfc0
  obtain ⟨hg₁, hwarm₁, hready₁⟩ := State.classEntry (e := e) X.warmed hcl
  generalize T.vm.noted g.method.cls idx (.cls cA) = vm₁ at hg₁ hwarm₁ hready₁
  obtain ⟨kA₁, hkA₁, heA⟩ := hwarm₁.alike.2.2 _ _ hkA
  obtain ⟨kC₁, hkC₁, heC⟩ := hwarm₁.alike.2.2 _ _ hkC
  have hkindA₁ : kA₁.kind = .array comp (.array .long) := by rw [heA]; exact hkindA
  have hkindC₁ : kC₁.kind = .array cc .long := by rw [heC]; exact hkindC
  have X₁ := X.noted hwarm₁
  obtain ⟨hr1, hr2⟩ := X.roomAbove hcells hslots
  obtain ⟨L, X4, hL, hz, ho, hu, hr, hv, hs⟩ := jm_all (cA := cA) (comp := comp) X₁ 4 (Nat.le_refl _)
  obtain ⟨t', a1, b1⟩ := kk cA comp _ L hnameA hcomp (by rw [hz]; rfl) ho hu hr hL (jm_U (T.setVm vm₁) cA comp 4) rfl X4
  refine ⟨t', ?_, b1⟩
  jvm_step X.here [hexec, hdg]
  simp only [multianewarray.sem, wp_bind', W.resolveClassAt_links (State.method?_setTop g X.here.top) hg₁]
  rw [W.popN, if_neg (by decide)]
  refine ⟨g, State.topJava?_setTop' (s := T.setVm vm₁) g X.here.top, [.int 4, .int 12], rest, rfl, hstack, ?_⟩
  simp only [List.mapM_cons, List.mapM_nil, wp_bind', wp_pure']
  have eS : ((T.setTop g).setVm vm₁).setTop { g with stack := rest } = (T.setVm vm₁).setTop { g with stack := rest } := by
    show ((T.setVm vm₁).setTop g).setTop _ = _
    rw [State.setTop_setTop]
  rw [eS]
  refine jm_make X₁ hkA₁ hkindA₁ hkC₁ hkindC₁ hr1 hr2 (fun d' acts' => ?_)
  simp only [wp_bind', W.mark, W.pushRef, State.topJava?_setTop' _ X4.here.top, Option.some.injEq, exists_eq_left', State.setTop_setTop, State.heap_setTop]
  intro acts
  simp [jvm, X4.here.top]
  exact a1
end JMN
/-- the rows of a table of rows -/
def j_rows (a : Nat) : Nat → Option Nat := fun j => if j < 4 then some (a + j) else none
theorem arrV_to {cI : ClassId} {N : Nat} {f g : Nat → Value} (h : ∀ j, j < N → f j = g j) : arrV cI N f = arrV cI N g := by
  unfold arrV
  congr 1
  apply Array.ext
  · simp
  · intro i h1 h2
    simp at h1
    simp [h i h1]
def j_h5 (h : jH) (nx : Nat) : jH := j_set (j_set (j_set (j_set (j_set (j_inc h 5) nx (jQ 6 4 (j_rows (nx + 1)))) (nx + 1) (jL 12 (fun _ => 0))) (nx + 2) (jL 12 (fun _ => 0))) (nx + 3) (jL 12 (fun _ => 0))) (nx + 4) (jL 12 (fun _ => 0))
theorem j_mna {l : Launch} {G : jG} {y : MethodName} {cc : ByteArray} {n : Nat} {r : Option FieldType} {rm : Room} {nc ns pc : Nat} {lv : List (Nat × Value)} {st : List Value} {h : jH} {Q : Option Value → jH → Prop} {idx nx : Nat} (hx : h.1 = nx) (hd : decode cc pc = .ok (.multianewarray idx 2, 4)) (hcl : Cond.classLink y.cls idx "[[J" ∈ jWS) (h1 : nc + 5 ≤ rm.cells) (h2 : ns + 52 ≤ rm.slots) (kk : J l G (y, cc, n, r, rm) (nc + 5) (ns + 52) (pc + 4) lv (.ref nx :: st) (j_h5 h nx) Q) : J l G (y, cc, n, r, rm) nc ns pc lv (.int 12 :: .int 4 :: st) h Q := by
  subst hx
  intro p e s m args below meth c H locs ls hF hR hL hV
  obtain ⟨hx, hb, hml, hret, hlk, hnm2, hown, hts, henv, hs0, hz⟩ := id hF
  refine jm_W (rest := st.map (jv G)) hx hb hown (hts _ hcl) henv.2.2.2.2.2.1 rfl hd rfl h1 h2 fun cA comp H' L e1 e2 z o hu hr hL2 => ?_
  have g6 : s.vm.findClass ("[" ++ (FieldType.array .long).toString) = some (G.2.2.1 6) := (henv.2.1.2 6 _ rfl).2
  have g1 : s.vm.findClass ("[" ++ (FieldType.long).toString) = some (G.2.2.1 1) := (henv.2.1.2 1 _ rfl).2
  have c6 : cA = G.2.2.1 6 := Option.some.inj (e1.symm.trans g6)
  have c1 : comp = G.2.2.1 1 := Option.some.inj (e2.symm.trans g1)
  subst c6; subst c1
  have hH := hR.1
  have hst : (((.ref h.1 : Value) :: st).map (jv G)) = .ref H.size :: st.map (jv G) := by
    rw [hH]
    rfl
  have hrow : ∀ j, j < 4 → j_at G (G.1.size + (h.1 + 1 + j)) (jL 12 (fun _ => 0)) H' := by
    intro j hj
    show H'[G.1.size + (h.1 + 1 + j)]? = _
    rw [show G.1.size + (h.1 + 1 + j) = H.size + 1 + j by omega, hr j hj]
    rfl
  show W p l e rm s m args below meth c H' _ _ _ _ (F0 m (pc + 4) ls (.ref H.size :: st.map (jv G)))
  rw [← hst]
  refine kk p e s m args below meth c H' _ ls hF ⟨?_, fun q hq => (o q (by omega)).trans (hR.2.1 q hq), fun k hk => ?_, fun k e0 hk => ?_⟩ ?_ hV
  · show H'.size = G.1.size + (h.1 + 5)
    omega
  · have hk' : h.1 + 5 ≤ k := hk
    simp only [j_h5, j_set, j_inc]
    rw [if_neg (by omega), if_neg (by omega), if_neg (by omega), if_neg (by omega), if_neg (by omega)]
    exact hR.2.2.1 k (by omega)
  · simp only [j_h5, j_set, j_inc] at hk
    split at hk
    · next q => cases hk; subst q; exact hrow 3 (by decide)
    · split at hk
      · next q => cases hk; subst q; exact hrow 2 (by decide)
      · split at hk
        · next q => cases hk; subst q; exact hrow 1 (by decide)
        · split at hk
          · next q => cases hk; subst q; exact hrow 0 (by decide)
          · split at hk
            · next q =>
              cases hk
              subst q
              show H'[G.1.size + h.1]? = _
              rw [← hH, hu]
              refine congrArg some (arrV_to fun j hj => ?_)
              rw [if_pos hj]
              show _ = jv G (jr (j_rows (h.1 + 1) j))
              unfold j_rows
              rw [if_pos hj]
              exact congrArg Value.ref (show H.size + 1 + j = G.1.size + (h.1 + 1 + j) by omega)
            · have hlt := hR.lt hk
              exact (hR.2.2.2 k e0 hk).kept (o _ (by omega))
  · intro q hq
    rcases List.mem_append.mp hq with h3 | h3
    · exact hL q h3
    · rw [hL2 q h3, hH]
      omega
