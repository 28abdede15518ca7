section JHP
variable {l : Launch} {G : jG} {y : MethodName} {cc : ByteArray} {n : Nat} {r : Option FieldType} {rm : Room} {nc ns pc : Nat} {lv : List (Nat × Value)} {st : List Value} {h : jH} {Q : Option Value → jH → Prop}
/-- field fi of class ci, as own's pool entry idx names it -/
def jFld (own : String) (idx ci fi : Nat) (ty : FieldType) (fin : Bool) : Prop :=
  ∃ (C : String) (T : u_T) (N : Nat) (tyf : Nat → FieldType), vwCl[ci]? = some (C, T, N) ∧ fi < N ∧ (∀ w ∈ u_ws C T N, w ∈ jWS) ∧ (∀ k, k < N → parseFieldDescriptor (T k).2.2.1 = some (tyf k)) ∧ (∀ a, a < N → ∀ b, b < N → a ≠ b → (T a).2.1 ≠ (T b).2.1) ∧ (T fi).1 = C ∧ tyf fi = ty ∧ (T fi).2.2.2 = fin ∧ (Cond.fieldLink own idx C (T fi).2.1 (T fi).2.2.1 ∈ jWS ∨ ∃ host, Cond.fieldLinkNest own idx C (T fi).2.1 (T fi).2.2.1 host ∈ jNW)
theorem j_getf {k ci fi idx : Nat} {fs : List Value} {v : Value} {ty : FieldType} {fin : Bool} (hd : decode cc pc = .ok (.getfield idx, 3)) (hw : jFld y.cls idx ci fi ty fin) (hk : h.2 k = some (jO ci fs)) (hv : fs[fi]? = some v) (kk : J l G (y, cc, n, r, rm) nc ns (pc + 3) lv (v :: st) h Q) : J l G (y, cc, n, r, rm) nc ns pc lv (.ref k :: st) h Q := by
  intro p e s m args below meth c H locs ls hF hR hL hV
  obtain ⟨C, T, N, tyf, hc, hlt, hin, hty, hnm, hT1, hty1, hfin, hlink⟩ := hw
  obtain ⟨hx, hb, hml, hret, hlk, hnm2, hown, hts, henv, hs0, hz⟩ := id hF
  obtain ⟨r0, h1, cell, q1, q2, q3, q4⟩ := hR.2.2.2 k _ hk
  have hr : r0 = (C, T, N) := Option.some.inj (h1.symm.trans hc)
  subst hr
  obtain ⟨hS, hfc, kC, hkC, hkind⟩ := henv.2.1.1 ci _ hc
  obtain ⟨cf, kf, fi', f, hi, hsl⟩ := hS fi hlt
  have hst := (u_facts hfc hkC (u_lays hts hin hlt) hi).1
  have hslot : cell.slots[f.slot]? = some (jv G v) := by
    rw [hsl, q4 fi hlt]
    simp [vp_V, hv]
  rw [hT1] at hi
  rcases hlink with hl | ⟨host, hl⟩
  · exact W.getf hx hb hown (hts _ hl) hi hst q1 (by rw [q3]; exact fun h => by cases h) (v := jv G v) hslot rfl rfl hd (kk p e s m args below meth c H locs ls hF hR hL hV)
  · exact va_Wgetf hx hb hown (va_Nw.use rfl (henv.2.2.1 _ hl)) hi hst q1 (by rw [q3]; exact fun h => by cases h) (v := jv G v) hslot rfl rfl hd (kk p e s m args below meth c H locs ls hF hR hL hV)
theorem j_fset {fs : List Value} {fi : Nat} (hl : fi < fs.length) (v : Value) (j : Nat) : updV (fun k => jv G (vp_V fs k)) fi (jv G v) j = jv G (vp_V (fs.set fi v) j) := by
  rw [← vp_updV_set hl v j]
  by_cases e : j = fi <;> simp [updV, e]
theorem j_locs {locs : List Loc} {a i : Nat} (hL : ∀ q ∈ locs, G.1.size ≤ q.base) : ∀ q ∈ locs ++ [⟨G.1.size + a, i⟩], G.1.size ≤ q.base := by
  intro q hq
  rcases List.mem_append.mp hq with h1 | h1
  · exact hL q h1
  · rw [List.mem_singleton.mp h1]
    exact Nat.le_add_right _ _
theorem j_putf {k ci fi idx : Nat} {fs : List Value} {v : Value} {ty : FieldType} (hd : decode cc pc = .ok (.putfield idx, 3)) (hw : jFld y.cls idx ci fi ty false) (hk : h.2 k = some (jO ci fs)) (hn : narrow ty (jv G v) = jv G v) (hft : fits ty (jv G v) = true) (hl : fi < fs.length) (kk : J l G (y, cc, n, r, rm) nc ns (pc + 3) lv st (j_set h k (jO ci (fs.set fi v))) Q) : J l G (y, cc, n, r, rm) nc ns pc lv (v :: .ref k :: st) h Q := by
  intro p e s m args below meth c H locs ls hF hR hL hV
  obtain ⟨C, T, N, tyf, hc, hlt, hin, hty, hnm, hT1, hty1, hfin, hlink⟩ := hw
  obtain ⟨hx, hb, hml, hret, hlk, hnm2, hown, hts, henv, hs0, hz⟩ := id hF
  obtain ⟨r0, h1, cell, q1, q2, q3, q4⟩ := hR.2.2.2 k _ hk
  have hr : r0 = (C, T, N) := Option.some.inj (h1.symm.trans hc)
  subst hr
  have hap := va_apart (own := y.cls) hts hin tyf hty hnm henv.2.1 hc
  obtain ⟨hS, hfc, kC, hkC, hkind⟩ := henv.2.1.1 ci _ hc
  obtain ⟨cf, kf, fi', f, hi, hsl⟩ := hS fi hlt
  have hlay := hts _ (hin _ (u_in_lay hlt))
  unfold u_lay at hlay
  rw [if_neg (by rw [hfin]; decide)] at hlay
  have hst := (u_facts hfc hkC (u_lays hts hin hlt) hi).1
  have h6 := u_store hfc hkC hkind hlay hi ((hty fi hlt).trans (congrArg some hty1)) hn hft
  rw [hT1] at hi
  have key : ∀ H' : Heap, H'[G.1.size + k]? = some (cell.setSlot f.slot (jv G v)) → H'.size = H.size → (∀ q, q ≠ G.1.size + k → H'[q]? = H[q]?) → W p l e rm s m args below meth c H' (locs ++ [⟨G.1.size + k, f.slot⟩]) nc ns (MQ below (j_Q G Q) args s rm.cells rm.slots (fun q => G.1.size ≤ q)) (F0 m (pc + 3) ls (st.map (jv G))) := by
    intro H' e1 e2 e3
    rw [hsl] at e1
    exact kk p e s m args below meth c H' _ ls hF (hR.set hk ⟨_, hc, t_OB.to (V := updV (fun k => jv G (vp_V fs k)) fi (jv G v)) ⟨_, e1, q2, q3, t_set q4 hap hlt (jv G v)⟩ (fun j _ => j_fset hl v j)⟩ e2 e3) (j_locs hL) hV
  rcases hlink with hl2 | ⟨host, hl2⟩
  · exact W.putK hx hb (f := f) ⟨hown, hts _ hl2, ⟨_, _, _, hi⟩, hst⟩ (by rw [q2]; exact h6) q1 q3 (by rw [hsl]; exact k2_hasslot (q4 fi hlt)) rfl rfl hd key
  · exact va_WputK hx hb (f := f) hown (va_Nw.use rfl (henv.2.2.1 _ hl2)) hi hst (by rw [q2]; exact h6) q1 q3 (by rw [hsl]; exact k2_hasslot (q4 fi hlt)) rfl rfl hd key
/-- a final field, in its class's constructor -/
theorem j_putF {k ci fi idx : Nat} {fs : List Value} {v : Value} {ty : FieldType} (hd : decode cc pc = .ok (.putfield idx, 3)) (hw : jFld y.cls idx ci fi ty true) (hC : (vwCl[ci]?).map (fun q => q.1) = some y.cls) (hy : y.name = "<init>") (hlk : ∃ (C : String) (T : u_T) (N : Nat), vwCl[ci]? = some (C, T, N) ∧ Cond.fieldLink y.cls idx C (T fi).2.1 (T fi).2.2.1 ∈ jWS) (hk : h.2 k = some (jO ci fs)) (hn : narrow ty (jv G v) = jv G v) (hft : fits ty (jv G v) = true) (hl : fi < fs.length) (kk : J l G (y, cc, n, r, rm) nc ns (pc + 3) lv st (j_set h k (jO ci (fs.set fi v))) Q) : J l G (y, cc, n, r, rm) nc ns pc lv (v :: .ref k :: st) h Q := by
  intro p e s m args below meth c H locs ls hF hR hL hV
  obtain ⟨C, T, N, tyf, hc, hlt, hin, hty, hnm, hT1, hty1, hfin, -⟩ := hw
  obtain ⟨C2, T2, N2, hc2, hlink⟩ := hlk
  cases hc.symm.trans hc2
  have hyC : C = y.cls := by
    rw [hc] at hC
    exact Option.some.inj hC
  obtain ⟨hx, hb, hml, hret, hlk, hnm2, hown, hts, henv, hs0, hz⟩ := id hF
  obtain ⟨r0, h1, cell, q1, q2, q3, q4⟩ := hR.2.2.2 k _ hk
  have hr : r0 = (C, T, N) := Option.some.inj (h1.symm.trans hc)
  subst hr
  have hap := va_apart (own := y.cls) hts hin tyf hty hnm henv.2.1 hc
  obtain ⟨hS, hfc, kC, hkC, hkind⟩ := henv.2.1.1 ci _ hc
  obtain ⟨cf, kf, fi', f, hi, hsl⟩ := hS fi hlt
  have hlay := hts _ (hin _ (u_in_lay hlt))
  unfold u_lay at hlay
  rw [if_pos hfin] at hlay
  have hst := (u_facts hfc hkC (u_lays hts hin hlt) hi).1
  have h6 := u_fits hfc hkC hkind (u_lays hts hin hlt) hi ((hty fi hlt).trans (congrArg some hty1)) hn hft
  have hcf : m.cls = cf := by
    rw [hT1] at hi hlay
    rw [hyC] at hi hlay
    exact laid_decl hown hlay hi
  rw [hT1] at hi
  refine W.putFinK hx hb hown (hts _ hlink) hi hst hcf (hnm2.trans hy) (by rw [q2]; exact h6) q1 q3 (by rw [hsl]; exact k2_hasslot (q4 fi hlt)) rfl rfl hd fun H' e1 e2 e3 => ?_
  rw [hsl] at e1
  exact kk p e s m args below meth c H' _ ls hF (hR.set hk ⟨_, hc, t_OB.to (V := updV (fun k => jv G (vp_V fs k)) fi (jv G v)) ⟨_, e1, q2, q3, t_set q4 hap hlt (jv G v)⟩ (fun j _ => j_fset hl v j)⟩ e2 e3) (j_locs hL) hV
/-- an index: what it is, and that it is within -/
def jix (i : Int32) (q N : Nat) : Prop := ¬ i < 0 ∧ i.toNatClampNeg = q ∧ q < N
theorem jix_in {i : Int32} {q N : Nat} (hx : jix i q N) {cA : ClassId} {f : Nat → Value} : ¬ (i < 0 ∨ (arrV cA N f).slots.size ≤ i.toNatClampNeg) := by
  rw [arrV_size, hx.2.1]
  intro z
  rcases z with z | z
  · exact hx.1 z
  · exact absurd hx.2.2 (Nat.not_lt.mpr z)
theorem jix_rd {i : Int32} {q N : Nat} (hx : jix i q N) {cA : ClassId} {f : Nat → Value} : (arrV cA N f).slots[i.toNatClampNeg]? = some (f q) := by
  rw [hx.2.1]
  exact arrV_read cA f hx.2.2
theorem jix_nI {q N : Nat} (h : q < N) (hN : N < 2 ^ 31) : jix (nI q) q N := ⟨nI_pos (by omega), nI_clamp (by omega), h⟩
theorem jix_st {cA : ClassId} {N q : Nat} {f : Nat → Value} {v : Value} : (arrV cA N (fun j => jv G (f j))).setSlot q (jv G v) = arrV cA N (fun j => jv G (va_up f q v j)) := by
  rw [arrV_store]
  refine congrArg (arrV cA N) (funext fun j => ?_)
  by_cases e : j = q <;> simp [updV, va_up, e]
theorem j_ty (t : Nat) {U : State} (henv : j_env G U) {ty : FieldType} (ht : (j_tys G)[t]? = some (G.2.2.1 t, ty)) (N : Nat) (f : Nat → Value) : U.isArrayOf (arrV (G.2.2.1 t) N f) ty := (henv.2.1.2 t _ ht).1 N f
theorem j_iald {k N q : Nat} {a : Nat → Int32} {i : Int32} (hd : decode cc pc = .ok (.iaload, 1)) (hk : h.2 k = some (jI N a)) (hx : jix i q N) (kk : J l G (y, cc, n, r, rm) nc ns (pc + 1) lv (.int (a q) :: st) h Q) : J l G (y, cc, n, r, rm) nc ns pc lv (.int i :: .ref k :: st) h Q :=
  fun p e s m args below meth c H locs ls hF hR hL hV => W.iald (v := .int (a q)) hF.1 hF.2.1 (hR.2.2.2 k _ hk) (j_ty 0 hF.2.2.2.2.2.2.2.2.1 rfl _ _) (fun q => by cases q) (jix_in hx) (jix_rd hx) rfl rfl hd (kk p e s m args below meth c H locs ls hF hR hL hV)
theorem j_lald {k N q : Nat} {a : Nat → Int64} {i : Int32} (hd : decode cc pc = .ok (.laload, 1)) (hk : h.2 k = some (jL N a)) (hx : jix i q N) (kk : J l G (y, cc, n, r, rm) nc ns (pc + 1) lv (.long (a q) :: st) h Q) : J l G (y, cc, n, r, rm) nc ns pc lv (.int i :: .ref k :: st) h Q :=
  fun p e s m args below meth c H locs ls hF hR hL hV => W.lald (v := .long (a q)) hF.1 hF.2.1 (hR.2.2.2 k _ hk) (j_ty 1 hF.2.2.2.2.2.2.2.2.1 rfl _ _) (fun q => by cases q) (jix_in hx) (jix_rd hx) rfl rfl hd (kk p e s m args below meth c H locs ls hF hR hL hV)
theorem j_cald {k N q : Nat} {a : Nat → Int32} {i : Int32} (hd : decode cc pc = .ok (.caload, 1)) (hk : h.2 k = some (jC N a)) (hx : jix i q N) (kk : J l G (y, cc, n, r, rm) nc ns (pc + 1) lv (.int (a q) :: st) h Q) : J l G (y, cc, n, r, rm) nc ns pc lv (.int i :: .ref k :: st) h Q :=
  fun p e s m args below meth c H locs ls hF hR hL hV => W.cald (v := .int (a q)) hF.1 hF.2.1 (hR.2.2.2 k _ hk) (j_ty 2 hF.2.2.2.2.2.2.2.2.1 rfl _ _) (fun q => by cases q) (jix_in hx) (jix_rd hx) rfl rfl hd (kk p e s m args below meth c H locs ls hF hR hL hV)
theorem j_zald {k N q : Nat} {a : Nat → Int32} {i : Int32} (hd : decode cc pc = .ok (.baload, 1)) (hk : h.2 k = some (jZ N a)) (hx : jix i q N) (kk : J l G (y, cc, n, r, rm) nc ns (pc + 1) lv (.int (a q) :: st) h Q) : J l G (y, cc, n, r, rm) nc ns pc lv (.int i :: .ref k :: st) h Q :=
  fun p e s m args below meth c H locs ls hF hR hL hV => W.zald (v := .int (a q)) hF.1 hF.2.1 (hR.2.2.2 k _ hk) (j_ty 3 hF.2.2.2.2.2.2.2.2.1 rfl _ _) (fun q => by cases q) (jix_in hx) (jix_rd hx) rfl rfl hd (kk p e s m args below meth c H locs ls hF hR hL hV)
theorem jv_jr (o : Option Nat) : jv G (jr o) = .null ∨ ∃ a, jv G (jr o) = .ref a := by
  cases o with
  | none => exact Or.inl rfl
  | some a => exact Or.inr ⟨_, rfl⟩
theorem j_aald {t k N q : Nat} {a : Nat → Option Nat} {i : Int32} {ty : FieldType} (hd : decode cc pc = .ok (.aaload, 1)) (ht : (j_tys G)[t]? = some (G.2.2.1 t, ty)) (hty : ty.isReference = true) (hk : h.2 k = some (jQ t N a)) (hx : jix i q N) (kk : J l G (y, cc, n, r, rm) nc ns (pc + 1) lv (jr (a q) :: st) h Q) : J l G (y, cc, n, r, rm) nc ns pc lv (.int i :: .ref k :: st) h Q :=
  fun p e s m args below meth c H locs ls hF hR hL hV => W.aald (v := jv G (jr (a q))) (ty := ty) hF.1 hF.2.1 (hR.2.2.2 k _ hk) (j_ty t hF.2.2.2.2.2.2.2.2.1 ht _ _) hty (fun q => by cases q) (jix_in hx) (jix_rd hx) rfl rfl hd (kk p e s m args below meth c H locs ls hF hR hL hV)
theorem j_alen {t k N : Nat} {f : Nat → Value} {ty : FieldType} (hd : decode cc pc = .ok (.arraylength, 1)) (ht : (j_tys G)[t]? = some (G.2.2.1 t, ty)) (hk : h.2 k = some (.inl (t, N, f))) (kk : J l G (y, cc, n, r, rm) nc ns (pc + 1) lv (.int (nI N) :: st) h Q) : J l G (y, cc, n, r, rm) nc ns pc lv (.ref k :: st) h Q :=
  fun p e s m args below meth c H locs ls hF hR hL hV => W.alen (n := nI N) hF.1 hF.2.1 (hR.2.2.2 k _ hk) (j_ty t hF.2.2.2.2.2.2.2.2.1 ht _ _) (by rw [arrV_size]; rfl) rfl rfl hd (kk p e s m args below meth c H locs ls hF hR hL hV)
theorem j_iast {k N q : Nat} {a : Nat → Int32} {i x : Int32} (hd : decode cc pc = .ok (.iastore, 1)) (hk : h.2 k = some (jI N a)) (hx : jix i q N) (kk : J l G (y, cc, n, r, rm) nc ns (pc + 1) lv st (j_set h k (jI N (va_up a q x))) Q) : J l G (y, cc, n, r, rm) nc ns pc lv (.int x :: .int i :: .ref k :: st) h Q := by
  intro p e s m args below meth c H locs ls hF hR hL hV
  refine W.iast hF.1 hF.2.1 (hR.2.2.2 k _ hk) (j_ty 0 hF.2.2.2.2.2.2.2.2.1 rfl _ _) (fun q => by cases q) (jix_in hx) rfl rfl hd fun H' e1 e2 e3 => ?_
  refine kk p e s m args below meth c H' _ ls hF (hR.set hk ?_ e2 e3) (j_locs hL) hV
  show H'[G.1.size + k]? = _
  rw [e1, hx.2.1]
  refine congrArg some ((jix_st (v := .int x)).trans (congrArg (arrV _ N) (funext fun j => ?_)))
  by_cases e : j = q <;> simp [va_up, e]
theorem j_last {k N q : Nat} {a : Nat → Int64} {i : Int32} {x : Int64} (hd : decode cc pc = .ok (.lastore, 1)) (hk : h.2 k = some (jL N a)) (hx : jix i q N) (kk : J l G (y, cc, n, r, rm) nc ns (pc + 1) lv st (j_set h k (jL N (va_up a q x))) Q) : J l G (y, cc, n, r, rm) nc ns pc lv (.long x :: .int i :: .ref k :: st) h Q := by
  intro p e s m args below meth c H locs ls hF hR hL hV
  refine W.last hF.1 hF.2.1 (hR.2.2.2 k _ hk) (j_ty 1 hF.2.2.2.2.2.2.2.2.1 rfl _ _) (fun q => by cases q) (jix_in hx) rfl rfl hd fun H' e1 e2 e3 => ?_
  refine kk p e s m args below meth c H' _ ls hF (hR.set hk ?_ e2 e3) (j_locs hL) hV
  show H'[G.1.size + k]? = _
  rw [e1, hx.2.1]
  refine congrArg some ((jix_st (v := .long x)).trans (congrArg (arrV _ N) (funext fun j => ?_)))
  by_cases e : j = q <;> simp [va_up, e]
theorem j_cast {k N q : Nat} {a : Nat → Int32} {i x : Int32} (hd : decode cc pc = .ok (.castore, 1)) (hk : h.2 k = some (jC N a)) (hx : jix i q N) (hn : narrow .char (.int x) = .int x) (kk : J l G (y, cc, n, r, rm) nc ns (pc + 1) lv st (j_set h k (jC N (va_up a q x))) Q) : J l G (y, cc, n, r, rm) nc ns pc lv (.int x :: .int i :: .ref k :: st) h Q := by
  intro p e s m args below meth c H locs ls hF hR hL hV
  refine W.cast hF.1 hF.2.1 (hR.2.2.2 k _ hk) (j_ty 2 hF.2.2.2.2.2.2.2.2.1 rfl _ _) (fun q => by cases q) (jix_in hx) rfl rfl hd fun H' e1 e2 e3 => ?_
  refine kk p e s m args below meth c H' _ ls hF (hR.set hk ?_ e2 e3) (j_locs hL) hV
  show H'[G.1.size + k]? = _
  rw [e1, hx.2.1, hn]
  refine congrArg some ((jix_st (v := .int x)).trans (congrArg (arrV _ N) (funext fun j => ?_)))
  by_cases e : j = q <;> simp [va_up, e]
theorem j_zast {k N q : Nat} {a : Nat → Int32} {i x : Int32} (hd : decode cc pc = .ok (.bastore, 1)) (hk : h.2 k = some (jZ N a)) (hx : jix i q N) (hn : narrow .boolean (.int x) = .int x) (kk : J l G (y, cc, n, r, rm) nc ns (pc + 1) lv st (j_set h k (jZ N (va_up a q x))) Q) : J l G (y, cc, n, r, rm) nc ns pc lv (.int x :: .int i :: .ref k :: st) h Q := by
  intro p e s m args below meth c H locs ls hF hR hL hV
  refine W.zast hF.1 hF.2.1 (hR.2.2.2 k _ hk) (j_ty 3 hF.2.2.2.2.2.2.2.2.1 rfl _ _) (fun q => by cases q) (jix_in hx) rfl rfl hd fun H' e1 e2 e3 => ?_
  refine kk p e s m args below meth c H' _ ls hF (hR.set hk ?_ e2 e3) (j_locs hL) hV
  show H'[G.1.size + k]? = _
  rw [e1, hx.2.1, hn]
  refine congrArg some ((jix_st (v := .int x)).trans (congrArg (arrV _ N) (funext fun j => ?_)))
  by_cases e : j = q <;> simp [va_up, e]
/-- an object into an array of its class -/
theorem j_aast {t k N q x ci : Nat} {a : Nat → Option Nat} {i : Int32} {fs : List Value} {C : String} {T : u_T} {N1 : Nat} (hd : decode cc pc = .ok (.aastore, 1)) (ht : (j_tys G)[t]? = some (G.2.2.1 t, .object C)) (hc : vwCl[ci]? = some (C, T, N1)) (hk : h.2 k = some (jQ t N a)) (hk2 : h.2 x = some (jO ci fs)) (hx : jix i q N) (kk : J l G (y, cc, n, r, rm) nc ns (pc + 1) lv st (j_set h k (jQ t N (va_up a q (some x)))) Q) : J l G (y, cc, n, r, rm) nc ns pc lv (.ref x :: .int i :: .ref k :: st) h Q := by
  intro p e s m args below meth c H locs ls hF hR hL hV
  have henv := hF.2.2.2.2.2.2.2.2.1
  obtain ⟨kA, comp, a1, a2, a3, a4⟩ := (henv.2.1.2 t _ ht).2
  obtain ⟨r0, h1, cell, q1, q2, q3, q4⟩ := hR.2.2.2 x _ hk2
  obtain ⟨-, hCA⟩ := henv.2.1.1 ci _ hc
  obtain ⟨hfc, kC, hkC, hkind⟩ := id hCA
  have hcomp : comp = G.2.1.1 ci := Option.some.inj (a3.symm.trans hfc)
  refine W.aast hF.1 hF.2.1 (hR.2.2.2 k _ hk) (fun q z => by cases z) (fun z => by cases z) a1 a2 rfl (by rw [hcomp]; exact hkC) ⟨hx.1, by rw [hx.2.1, arrV_size]; exact hx.2.2⟩ q1 (fun q z => by rw [q3] at z; cases z) (by rw [q2]; exact hkC) (by rw [q2, hcomp]; exact va_assign hCA) rfl rfl hd fun H' e1 e2 e3 => ?_
  refine kk p e s m args below meth c H' _ ls hF (hR.set hk ?_ e2 e3) (j_locs hL) hV
  show H'[G.1.size + k]? = _
  rw [e1, hx.2.1]
  refine congrArg some ((jix_st (v := .ref x)).trans (congrArg (arrV _ N) (funext fun j => ?_)))
  by_cases e : j = q <;> simp [va_up, e, jr]
/-- a new object -/
theorem j_newc {idx ci N : Nat} {C : String} {T : u_T} {tyf : Nat → FieldType} {fs : List Value} (hd : decode cc pc = .ok (.new idx, 3)) (hc : vwCl[ci]? = some (C, T, N)) (hin : ∀ w ∈ u_ws C T N, w ∈ jWS) (hty : ∀ k, k < N → parseFieldDescriptor (T k).2.2.1 = some (tyf k)) (hcl : Cond.classLink y.cls idx C ∈ jWS) (hins : Cond.instantiable C N ∈ jWS) (hini : Cond.initialized C ∈ jWS) (hfs : ∀ j, j < N → defaultValue (tyf j) = jv G (vp_V fs j)) (h1 : nc + 1 ≤ rm.cells) (h2 : ns + N ≤ rm.slots)
    (kk : J l G (y, cc, n, r, rm) (nc + 1) (ns + N) (pc + 3) lv (.ref h.1 :: st) (j_new h (jO ci fs)) Q) : J l G (y, cc, n, r, rm) nc ns pc lv st h Q := by
  intro p e s m args below meth c H locs ls hF hR hL hV
  obtain ⟨hx, hb, hml, hret, hlk, hnm2, hown, hts, henv, hs0, hz⟩ := id hF
  have hKn := henv.2.1.1 ci _ hc
  refine W.newcK hx hb hown (hts _ hcl) (hts _ hins) (hts _ hini) rfl hd h1 h2 hKn.2.1 hR.1 fun H1 kC hkC e1 z1 o1 => ?_
  exact kk p e s m args below meth c H1 locs ls hF (hR.new ⟨_, hc, (u_born tyf hts hin hKn hkC e1 hty).to hfs⟩ (by rw [z1, hR.1]) (fun q hq => o1 q (by rw [← hR.1]; exact hq))) hL hV
/-- a new array of numbers -/
theorem j_newa {atype : ArrayType} {ty : FieldType} {d : Value} (t : Nat) {i : Int32} {N : Nat} (hd : decode cc pc = .ok (.newarray atype, 2)) (hty : newarray.typeOf atype = ty) (ht : (j_tys G)[t]? = some (G.2.2.1 t, ty)) (hra : ∀ (U : State) (cA : ClassId), va_RA U cA ty → U.vm.findClass ("[" ++ ty.toString) = some cA) (hdv : defaultValue ty = d) (hjd : jv G d = d) (hw : Cond.arrayClass ty ∈ jWS) (hi : ¬ i < 0) (hN : i.toNatClampNeg = N) (hby : N * componentBytes ty ≤ 536870912) (h1 : nc + 1 ≤ rm.cells) (h2 : ns + N ≤ rm.slots)
    (kk : J l G (y, cc, n, r, rm) (nc + 1) (ns + N) (pc + 2) lv (.ref h.1 :: st) (j_new h (.inl (t, N, fun _ => d))) Q) : J l G (y, cc, n, r, rm) nc ns pc lv (.int i :: st) h Q := by
  intro p e s m args below meth c H locs ls hF hR hL hV
  obtain ⟨hx, hb, hml, hret, hlk, hnm2, hown, hts, henv, hs0, hz⟩ := id hF
  subst hty
  refine va_newaK hx hb (hts _ hw) rfl hd rfl hi hN hby h1 h2 hR.1 fun H1 cA e1 z1 o1 hAr hNm => ?_
  have hcA : cA = G.2.2.1 t := Option.some.inj (hNm.symm.trans (hra s _ (henv.2.1.2 t _ ht).2))
  refine kk p e s m args below meth c H1 locs ls hF (hR.new ?_ (by rw [z1, hR.1]) (fun q hq => o1 q (by rw [← hR.1]; exact hq))) hL hV
  show H1[G.1.size + h.1]? = some (arrV (G.2.2.1 t) N (fun _ => jv G d))
  rw [e1, hcA, hdv, hjd]
theorem j_newI {i : Int32} {N : Nat} (hd : decode cc pc = .ok (.newarray .int, 2)) (hw : Cond.arrayClass .int ∈ jWS) (hi : ¬ i < 0) (hN : i.toNatClampNeg = N) (hby : N * 4 ≤ 536870912) (h1 : nc + 1 ≤ rm.cells) (h2 : ns + N ≤ rm.slots) (kk : J l G (y, cc, n, r, rm) (nc + 1) (ns + N) (pc + 2) lv (.ref h.1 :: st) (j_new h (jI N (fun _ => 0))) Q) : J l G (y, cc, n, r, rm) nc ns pc lv (.int i :: st) h Q :=
  j_newa 0 (d := .int 0) hd rfl rfl (fun _ _ h => h) rfl rfl hw hi hN hby h1 h2 kk
theorem j_newL {i : Int32} {N : Nat} (hd : decode cc pc = .ok (.newarray .long, 2)) (hw : Cond.arrayClass .long ∈ jWS) (hi : ¬ i < 0) (hN : i.toNatClampNeg = N) (hby : N * 8 ≤ 536870912) (h1 : nc + 1 ≤ rm.cells) (h2 : ns + N ≤ rm.slots) (kk : J l G (y, cc, n, r, rm) (nc + 1) (ns + N) (pc + 2) lv (.ref h.1 :: st) (j_new h (jL N (fun _ => 0))) Q) : J l G (y, cc, n, r, rm) nc ns pc lv (.int i :: st) h Q :=
  j_newa 1 (d := .long 0) hd rfl rfl (fun _ _ h => h) rfl rfl hw hi hN hby h1 h2 kk
theorem j_newC {i : Int32} {N : Nat} (hd : decode cc pc = .ok (.newarray .char, 2)) (hw : Cond.arrayClass .char ∈ jWS) (hi : ¬ i < 0) (hN : i.toNatClampNeg = N) (hby : N * 2 ≤ 536870912) (h1 : nc + 1 ≤ rm.cells) (h2 : ns + N ≤ rm.slots) (kk : J l G (y, cc, n, r, rm) (nc + 1) (ns + N) (pc + 2) lv (.ref h.1 :: st) (j_new h (jC N (fun _ => 0))) Q) : J l G (y, cc, n, r, rm) nc ns pc lv (.int i :: st) h Q :=
  j_newa 2 (d := .int 0) hd rfl rfl (fun _ _ h => h) rfl rfl hw hi hN hby h1 h2 kk
theorem j_newZ {i : Int32} {N : Nat} (hd : decode cc pc = .ok (.newarray .boolean, 2)) (hw : Cond.arrayClass .boolean ∈ jWS) (hi : ¬ i < 0) (hN : i.toNatClampNeg = N) (hby : N * 1 ≤ 536870912) (h1 : nc + 1 ≤ rm.cells) (h2 : ns + N ≤ rm.slots) (kk : J l G (y, cc, n, r, rm) (nc + 1) (ns + N) (pc + 2) lv (.ref h.1 :: st) (j_new h (jZ N (fun _ => 0))) Q) : J l G (y, cc, n, r, rm) nc ns pc lv (.int i :: st) h Q :=
  j_newa 3 (d := .int 0) hd rfl rfl (fun _ _ h => h) rfl rfl hw hi hN hby h1 h2 kk
/-- a new array of objects -/
theorem j_newq {idx : Nat} {C : String} (t : Nat) {i : Int32} {N : Nat} (hd : decode cc pc = .ok (.anewarray idx, 3)) (ht : (j_tys G)[t]? = some (G.2.2.1 t, .object C)) (hcl : Cond.classLink y.cls idx C ∈ jWS) (hao : ∀ U, j_env G U → va_AO C U) (hi : ¬ i < 0) (hN : i.toNatClampNeg = N) (hby : N * 4 ≤ 536870912) (h1 : nc + 1 ≤ rm.cells) (h2 : ns + N ≤ rm.slots)
    (kk : J l G (y, cc, n, r, rm) (nc + 1) (ns + N) (pc + 3) lv (.ref h.1 :: st) (j_new h (jQ t N (fun _ => none))) Q) : J l G (y, cc, n, r, rm) nc ns pc lv (.int i :: st) h Q := by
  intro p e s m args below meth c H locs ls hF hR hL hV
  obtain ⟨hx, hb, hml, hret, hlk, hnm2, hown, hts, henv, hs0, hz⟩ := id hF
  subst hN
  refine W.anew hx hb hown (hts _ hcl) (va_AO.use (hao s henv)) rfl hd rfl hi hby h1 h2 fun cA kA comp g1 g2 g3 g4 => ?_
  obtain ⟨kA2, comp2, a1, a2, a3, a4⟩ := (henv.2.1.2 t _ ht).2
  have hcA : cA = G.2.2.1 t := Option.some.inj (g1.symm.trans a4)
  have hst : (((.ref h.1 : Value) :: st).map (jv G)) = .ref H.size :: st.map (jv G) := by
    rw [hR.1]
    rfl
  show W p l e rm s m args below meth c _ locs _ _ _ (F0 m (pc + 3) ls (.ref H.size :: st.map (jv G)))
  rw [← hst]
  refine kk p e s m args below meth c _ locs ls hF (hR.new ?_ (by simp) (fun q hq => by rw [Array.getElem?_push, if_neg (Nat.ne_of_lt hq)])) hL hV
  show _ = some (arrV (G.2.2.1 t) _ (fun _ => jv G .null))
  rw [← hR.1, hcA, ← arrV_new]
  simp [jv]
/-- Object's constructor -/
theorem j_objInit {idx k : Nat} (hd : decode cc pc = .ok (.invokespecial idx, 3)) (hw : Cond.methodLink y.cls idx objectInit ∈ jWS) (hw2 : Cond.instanceMethod objectInit ∈ jWS) (hw3 : Cond.code objectInit ⟨#[0xb1]⟩ 1 none ∈ jWS) (h1 : 1 ≤ rm.frames) (h2 : (st.map fun v => v.category).sum + 12 ≤ rm.locals) (kk : J l G (y, cc, n, r, rm) nc ns (pc + 3) lv st h Q) : J l G (y, cc, n, r, rm) nc ns pc lv (.ref k :: st) h Q := by
  intro p e s m args below meth c H locs ls hF hR hL hV
  obtain ⟨hx, hb, hml, hret, hlk, hnm2, hown, hts, henv, hs0, hz⟩ := id hF
  have hcat : ((st.map (jv G)).map fun v => v.category).sum = (st.map fun v => v.category).sum := by
    rw [List.map_map]
    exact congrArg List.sum (List.map_congr_left (fun v _ => jv_cat G v))
  refine W.objInit hx hb hown (hts _ hw) (hts _ hw2) (hts _ hw3) rfl (by rw [hml]; exact hV.1) rfl hd h1 ?_ (kk p e s m args below meth c H locs ls hF hR hL hV)
  show 2 * 0 + ((st.map (jv G)).map fun v => v.category).sum + 12 ≤ rm.locals
  rw [hcat]
  omega
end JHP
