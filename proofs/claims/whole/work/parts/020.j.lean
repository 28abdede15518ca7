/-- the words that stay true while a method runs -/
def jWS : List Cond := lw_tbl.filter goodWord
theorem jWS_in {w : Cond} (h : w ∈ jWS) : w ∈ lw_tbl := (List.mem_filter.mp h).1
theorem jWS_of {w : Cond} (h : w ∈ tables_1) (hg : goodWord w = true) : w ∈ jWS := List.mem_filter.mpr ⟨List.mem_append_right _ h, hg⟩
theorem jWS_good : ∀ w ∈ jWS, goodWord w = true := fun w h => (List.mem_filter.mp h).2
/-- the links to nest mates -/
def jNW : List Cond := [.methodLinkNest "CrewShares" 11 ⟨"CrewShares$RulesText", "<init>", "()V"⟩ "CrewShares", .fieldLinkNest "CrewShares$Rules" 46 "CrewShares$RulesText" "wordNumber" "I" "CrewShares", .methodLinkNest "CrewShares" 20 ⟨"CrewShares$Crew", "<init>", "()V"⟩ "CrewShares", .fieldLinkNest "CrewShares$Trip" 65 "CrewShares$Crew" "roles" "[I" "CrewShares", .fieldLinkNest "CrewShares" 81 "CrewShares$Crew" "advances" "[J" "CrewShares", .fieldLinkNest "CrewShares$Trip" 115 "CrewShares$Crew" "advances" "[J" "CrewShares", .fieldLinkNest "CrewShares$Trip" 55 "CrewShares$Crew" "size" "I" "CrewShares", .methodLinkNest "CrewShares" 37 ⟨"CrewShares$Parting", "<init>", "()V"⟩ "CrewShares", .fieldLinkNest "CrewShares$Trip" 103 "CrewShares$Parting" "shares" "[J" "CrewShares", .methodLinkNest "CrewShares" 44 ⟨"CrewShares$Book", "<init>", "()V"⟩ "CrewShares", .methodLinkNest "CrewShares$Book" 17 ⟨"CrewShares$Entry", "<init>", "()V"⟩ "CrewShares", .fieldLinkNest "CrewShares$Book" 50 "CrewShares$Entry" "size" "I" "CrewShares", .fieldLinkNest "CrewShares$Book" 65 "CrewShares$Entry" "day" "I" "CrewShares", .fieldLinkNest "CrewShares$Book" 98 "CrewShares$Entry" "takesBack" "I" "CrewShares", .fieldLinkNest "CrewShares$Book" 101 "CrewShares$Entry" "takenBackBy" "I" "CrewShares", .fieldLinkNest "CrewShares$Trip" 118 "CrewShares$Rules" "places" "[I" "CrewShares", .fieldLinkNest "CrewShares$Trip" 108 "CrewShares$Rules" "weights" "[I" "CrewShares", .fieldLinkNest "CrewShares$Trip" 60 "CrewShares$Rules" "leasts" "[I" "CrewShares", .fieldLinkNest "CrewShares" 97 "CrewShares$Trip" "costs" "[J" "CrewShares", .fieldLinkNest "CrewShares" 100 "CrewShares$Trip" "daysOf" "[I" "CrewShares", .fieldLinkNest "CrewShares" 117 "CrewShares$Trip" "parts" "[J" "CrewShares", .fieldLinkNest "CrewShares" 120 "CrewShares$Trip" "shares" "[[J" "CrewShares", .fieldLinkNest "CrewShares" 163 "CrewShares$Trip" "settled" "Z" "CrewShares"]
/-- an array class over arrays of long is there -/
def va_AOL (U : State) : Prop := ∃ (comp c : ClassId) (k kc : Class) (cc : ClassId), U.vm.findClass (FieldType.array .long).toString = some comp ∧ U.vm.classes[c]? = some k ∧ k.kind = .array comp (.array .long) ∧ U.vm.findClass ("[" ++ (FieldType.array .long).toString) = some c ∧ U.vm.classes[comp]? = some kc ∧ kc.kind = .array cc .long
theorem va_AOL.moved {u U : State} (hvm : u.vm.Alike U.vm) (h : va_AOL u) : va_AOL U := by
  obtain ⟨comp, c, k, kc, cc, h1, h2, h3, h4, h5, h6⟩ := h
  obtain ⟨k', hk', he⟩ := hvm.2.2 _ _ h2
  obtain ⟨k2, hk2, he2⟩ := hvm.2.2 _ _ h5
  exact ⟨comp, c, k', k2, cc, by rw [hvm.findClass]; exact h1, hk', by rw [he]; exact h3, by rw [hvm.findClass]; exact h4, hk2, by rw [he2]; exact h6⟩

/-! THE J LAYER. A cell: an array (kind of its class, length, contents) or an object (its class's number in vwCl, fields). An address here is counted from the heap's size at the law's start. -/
abbrev jE : Type := (Nat × Nat × (Nat → Value)) ⊕ (Nat × List Value)
/-- how many cells there are; what each is -/
abbrev jH : Type := Nat × (Nat → Option jE)
/-- the heap at the law's start; numbers of classes and slots; array classes; addresses of what was there before; what is known of it -/
abbrev jG : Type := Heap × va_G × (Nat → ClassId) × (Nat → Nat) × (State → Prop)
/-- a method: name, code, locals, return type, room -/
abbrev jM : Type := MethodName × ByteArray × Nat × Option FieldType × Room
def jv (G : jG) : Value → Value
  | .ref a => .ref (G.1.size + a)
  | .float x => .ref (G.2.2.2.1 x.toNat)
  | v => v
def jr (o : Option Nat) : Value := match o with
  | none => .null
  | some a => .ref a
def jI (n : Nat) (a : Nat → Int32) : jE := .inl (0, n, fun j => .int (a j))
def jL (n : Nat) (a : Nat → Int64) : jE := .inl (1, n, fun j => .long (a j))
def jC (n : Nat) (a : Nat → Int32) : jE := .inl (2, n, fun j => .int (a j))
def jZ (n : Nat) (a : Nat → Int32) : jE := .inl (3, n, fun j => .int (a j))
def jQ (t n : Nat) (a : Nat → Option Nat) : jE := .inl (t, n, fun j => jr (a j))
def jO (ci : Nat) (fs : List Value) : jE := .inr (ci, fs)
def j_set (h : jH) (k : Nat) (e : jE) : jH := (h.1, fun j => if j = k then some e else h.2 j)
def j_new (h : jH) (e : jE) : jH := (h.1 + 1, fun j => if j = h.1 then some e else h.2 j)
def j_tys (G : jG) : List (ClassId × FieldType) := [(G.2.2.1 0, .int), (G.2.2.1 1, .long), (G.2.2.1 2, .char), (G.2.2.1 3, .boolean), (G.2.2.1 4, .object RX6), (G.2.2.1 5, .object RX2), (G.2.2.1 6, .array .long)]
def j_at (G : jG) (a : Nat) (e : jE) (H : Heap) : Prop := match e with
  | .inl q => H[a]? = some (arrV (G.2.2.1 q.1) q.2.1 (fun j => jv G (q.2.2 j)))
  | .inr q => ∃ r : vw_C, vwCl[q.1]? = some r ∧ t_OB a (G.2.1.1 q.1) r.2.2 (G.2.1.2 q.1) H (fun k => jv G (vp_V q.2 k))
theorem j_at.kept {G : jG} {a : Nat} {e : jE} {H H1 : Heap} (h : j_at G a e H) (hq : H1[a]? = H[a]?) : j_at G a e H1 := by
  cases e with
  | inl x => exact hq.trans h
  | inr o =>
    obtain ⟨r, h1, h2⟩ := h
    exact ⟨r, h1, h2.kept hq⟩
def j_rep (G : jG) (h : jH) (H : Heap) : Prop := H.size = G.1.size + h.1 ∧ (∀ q : Nat, q < G.1.size → H[q]? = G.1[q]?) ∧ (∀ k : Nat, h.1 ≤ k → h.2 k = none) ∧ ∀ (k : Nat) (e : jE), h.2 k = some e → j_at G (G.1.size + k) e H
theorem j_rep.lt {G : jG} {h : jH} {H : Heap} (hR : j_rep G h H) {k : Nat} {e : jE} (hk : h.2 k = some e) : k < h.1 := by
  rcases Nat.lt_or_ge k h.1 with q | q
  · exact q
  · rw [hR.2.2.1 k q] at hk; cases hk
theorem j_rep.set {G : jG} {h : jH} {H H1 : Heap} (hR : j_rep G h H) {k : Nat} {e0 e : jE} (hk : h.2 k = some e0) (he : j_at G (G.1.size + k) e H1) (hz : H1.size = H.size) (oq : ∀ q : Nat, q ≠ G.1.size + k → H1[q]? = H[q]?) : j_rep G (j_set h k e) H1 := by
  have hlt := hR.lt hk
  refine ⟨hz.trans hR.1, fun q hq => (oq q (by omega)).trans (hR.2.1 q hq), fun j hj => ?_, fun j e1 hj => ?_⟩
  · have hj' : h.1 ≤ j := hj
    show (if j = k then some e else h.2 j) = none
    rw [if_neg (by omega)]
    exact hR.2.2.1 j hj
  · have hj' : (if j = k then some e else h.2 j) = some e1 := hj
    by_cases q : j = k
    · rw [if_pos q] at hj'
      cases hj'
      rw [q]
      exact he
    · rw [if_neg q] at hj'
      exact (hR.2.2.2 j e1 hj').kept (oq _ (by omega))
theorem j_rep.new {G : jG} {h : jH} {H H1 : Heap} (hR : j_rep G h H) {e : jE} (he : j_at G (G.1.size + h.1) e H1) (hz : H1.size = H.size + 1) (oq : ∀ q : Nat, q < H.size → H1[q]? = H[q]?) : j_rep G (j_new h e) H1 := by
  have h1 := hR.1
  refine ⟨by show H1.size = G.1.size + (h.1 + 1); omega, fun q hq => (oq q (by omega)).trans (hR.2.1 q hq), fun j hj => ?_, fun j e1 hj => ?_⟩
  · have hj' : h.1 + 1 ≤ j := hj
    show (if j = h.1 then some e else h.2 j) = none
    rw [if_neg (by omega)]
    exact hR.2.2.1 j (by omega)
  · have hj' : (if j = h.1 then some e else h.2 j) = some e1 := hj
    by_cases q : j = h.1
    · rw [if_pos q] at hj'
      cases hj'
      rw [q]
      exact he
    · rw [if_neg q] at hj'
      have := hR.lt hj'
      exact (hR.2.2.2 j e1 hj').kept (oq _ (by omega))
/-- what is known of what was there before stays known -/
def j_ok (G : jG) : Prop := ∀ u U : State, u.vm = U.vm ∨ u.WarmedH U.vm → (∀ q : Nat, q < G.1.size → U.heap[q]? = u.heap[q]?) → G.2.2.2.2 u → G.2.2.2.2 U
def j_nw (w : Cond) : Prop := match w with
  | .fieldLinkNest _ _ _ _ _ _ => True
  | .methodLinkNest _ _ _ _ => True
  | _ => False
def j_env (G : jG) (U : State) : Prop := j_ok G ∧ va_K G.2.1 vwCl (j_tys G) U ∧ (∀ w ∈ jNW, va_Nw w U) ∧ va_AO RX6 U ∧ va_AO RX2 U ∧ va_AOL U ∧ G.2.2.2.2 U
theorem jNW_ok : ∀ w ∈ jNW, j_nw w := by
  intro w hw
  simp only [jNW, List.mem_cons, List.not_mem_nil, or_false] at hw
  rcases hw with rfl | rfl | rfl | rfl | rfl | rfl | rfl | rfl | rfl | rfl | rfl | rfl | rfl | rfl | rfl | rfl | rfl | rfl | rfl | rfl | rfl | rfl | rfl <;> trivial
theorem j_env.warm {G : jG} {s U : State} (hW : s.WarmedH U.vm) (hH : ∀ q : Nat, q < G.1.size → U.heap[q]? = s.heap[q]?) (h : j_env G s) : j_env G U := by
  obtain ⟨h1, h2, h3, h4, h5, h6, h7⟩ := h
  refine ⟨h1, h2.moved hW.alike, fun w hw => ?_, h4.moved hW.alike, h5.moved hW.alike, h6.moved hW.alike, h1 s U (Or.inr hW) hH h7⟩
  have hz := h3 w hw
  have hn := jNW_ok w hw
  revert hn hz
  cases w <;> intro hz hn <;> first | exact va_Nw.warmF hW hz | exact va_Nw.warmM hW hz | exact absurd hn (fun q => q)
theorem j_nw_tab {w : Cond} (h : j_nw w) : w.onTables = true := by
  revert h
  cases w <;> intro h <;> first | rfl | exact absurd h (fun q => q)
theorem j_env.same {G : jG} {u U : State} (hv : u.vm = U.vm) (hH : u.heap = U.heap) (h : j_env G u) : j_env G U := by
  obtain ⟨h1, h2, h3, h4, h5, h6, h7⟩ := h
  have ha : u.vm.Alike U.vm := by rw [hv]; exact Vm.Alike.refl _
  refine ⟨h1, h2.moved ha, fun w hw => va_Nw.same (j_nw_tab (jNW_ok w hw)) hv (h3 w hw), h4.moved ha, h5.moved ha, h6.moved ha, h1 u U (Or.inl hv) (fun q _ => by rw [hH]) h7⟩
/-- a method's locals that are known -/
def jlk (i : Nat) : List (Nat × Value) → Option Value
  | [] => none
  | q :: t => cond (Nat.beq q.1 i) (some q.2) (jlk i t)
def j_c (G : jG) (lv : List (Nat × Value)) : List (Nat × Value) := lv.map (fun q => (q.1, jv G q.2))
theorem jlk_mem {i : Nat} {v : Value} : ∀ {lv : List (Nat × Value)}, jlk i lv = some v → (i, v) ∈ lv
  | [], h => by cases h
  | q :: t, h => by
    simp only [jlk] at h
    cases hb : Nat.beq q.1 i with
    | true =>
      rw [hb] at h
      simp only [cond_true, Option.some.injEq] at h
      have e : q.1 = i := Nat.eq_of_beq_eq_true hb
      rw [← e, ← h]
      exact List.mem_cons_self
    | false =>
      rw [hb] at h
      simp only [cond_false] at h
      exact List.mem_cons_of_mem _ (jlk_mem h)
theorem j_lv {G : jG} {ls : Array Slot} {n i : Nat} {v : Value} {lv : List (Nat × Value)} (hV : lv_has ls n (j_c G lv)) (h : jlk i lv = some v) : ls[i]? = some (.val (jv G v)) :=
  hV.2.2 (i, jv G v) (List.mem_map.mpr ⟨(i, v), jlk_mem h, rfl⟩)
def jst1 (i : Nat) (v : Value) (lv : List (Nat × Value)) : List (Nat × Value) := (i, v) :: lv.filter (fun q => !(q.1 == i) && !(q.1 + 1 == i && q.2.category == 2))
def jst2 (i : Nat) (v : Value) (lv : List (Nat × Value)) : List (Nat × Value) := (i, v) :: lv.filter (fun q => !(q.1 == i) && (!(q.1 == i + 1) && !(q.1 + 1 == i && q.2.category == 2)))
theorem jv_cat (G : jG) (v : Value) : (jv G v).category = v.category := by cases v <;> rfl
theorem jst1_c (G : jG) (i : Nat) (v : Value) (lv : List (Nat × Value)) : (i, jv G v) :: (j_c G lv).filter (fun q => !(q.1 == i) && !(q.1 + 1 == i && q.2.category == 2)) = j_c G (jst1 i v lv) := by
  simp only [j_c, jst1, List.map_cons, List.filter_map]
  congr 2
  apply List.filter_congr
  intro q _
  simp [jv_cat]
theorem jst2_c (G : jG) (i : Nat) (v : Value) (lv : List (Nat × Value)) : (i, jv G v) :: (j_c G lv).filter (fun q => !(q.1 == i) && (!(q.1 == i + 1) && !(q.1 + 1 == i && q.2.category == 2))) = j_c G (jst2 i v lv) := by
  simp only [j_c, jst2, List.map_cons, List.filter_map]
  congr 2
  apply List.filter_congr
  intro q _
  simp [jv_cat]
/-- what holds of the machine throughout a method -/
def JF (G : jG) (M : jM) (p : Program) (s : State) (m : MethodId) (args : Array Value) (meth : Method) (c : Code) : Prop :=
  p.tables.exec = Jvm.exec ∧ c.code = M.2.1 ∧ c.maxLocals = M.2.2.1 ∧ meth.sig.returnType = M.2.2.2.1 ∧ meth.locks = false ∧ meth.name = M.1.name ∧ s.vm.findClass M.1.cls = some m.cls ∧ (∀ w ∈ jWS, w.before args s = true) ∧ j_env G s ∧ (∀ q : Nat, q < G.1.size → s.heap[q]? = G.1[q]?) ∧ G.1.size ≤ s.heap.size
def j_Q (G : jG) (Q : Option Value → jH → Prop) : Array Value → State → Outcome → State → Prop := fun _ _ oc t => ∃ (v : Option Value) (h' : jH), oc = .returned (v.map (jv G)) ∧ Q v h' ∧ j_rep G h' t.heap
/-- from pc of method M on, with these locals, this stack and this heap: it returns, with Q -/
def J (l : Launch) (G : jG) (M : jM) (nc ns pc : Nat) (lv : List (Nat × Value)) (st : List Value) (h : jH) (Q : Option Value → jH → Prop) : Prop :=
  ∀ (p : Program) (e : Env) (s : State) (m : MethodId) (args : Array Value) (below : List Frame) (meth : Method) (c : Code) (H : Heap) (locs : List Loc) (ls : Array Slot),
    JF G M p s m args meth c → j_rep G h H → (∀ q ∈ locs, G.1.size ≤ q.base) → lv_has ls M.2.2.1 (j_c G lv) →
    W p l e M.2.2.2.2 s m args below meth c H locs nc ns (MQ below (j_Q G Q) args s M.2.2.2.2.cells M.2.2.2.2.slots (fun q => G.1.size ≤ q)) (F0 m pc ls (st.map (jv G)))
