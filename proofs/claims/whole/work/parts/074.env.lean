/-- the five words -/
def g_tm (i : Nat) : Term := .string RX4 (([50, 60, 62, 68, 70] : List Nat).getD i 0)
theorem g_str {s : State} {A : Array Value} (hgv : (Jvm.Cond.and given_1 narrow_1).before A s = true) : ∃ adK adV : Nat → Nat, vk_S 5 jslen jsbyt adK adV (fun q => s.heap.size ≤ q) s s.heap ∧ ∀ i : Nat, i < 5 → (g_tm i).eval A s none [] s = some (.ref (adK i)) := by
  have hs := flat_of_before _ hgv
  refine vk_Sof ?_ ?_ ?_ ?_ ?_ ?_ ?_ (fun a ha => Nat.not_le.mpr ha)
  · intro i hi
    rcases (show i = 0 ∨ i = 1 ∨ i = 2 ∨ i = 3 ∨ i = 4 by omega) with rfl | rfl | rfl | rfl | rfl <;> decide
  · intro i hi
    rcases (show i = 0 ∨ i = 1 ∨ i = 2 ∨ i = 3 ∨ i = 4 by omega) with rfl | rfl | rfl | rfl | rfl <;> exact hs _ (by decide +kernel)
  · intro i hi
    rcases (show i = 0 ∨ i = 1 ∨ i = 2 ∨ i = 3 ∨ i = 4 by omega) with rfl | rfl | rfl | rfl | rfl <;> exact hs _ (by decide +kernel)
  · intro i hi
    rcases (show i = 0 ∨ i = 1 ∨ i = 2 ∨ i = 3 ∨ i = 4 by omega) with rfl | rfl | rfl | rfl | rfl <;> exact hs _ (by decide +kernel)
  · intro i hi
    rcases (show i = 0 ∨ i = 1 ∨ i = 2 ∨ i = 3 ∨ i = 4 by omega) with rfl | rfl | rfl | rfl | rfl <;> exact hs _ (by decide +kernel)
  · intro i hi j hj
    rcases (show i = 0 ∨ i = 1 ∨ i = 2 ∨ i = 3 ∨ i = 4 by omega) with rfl | rfl | rfl | rfl | rfl
    · have hj : j < 4 := hj
      rcases (show j = 0 ∨ j = 1 ∨ j = 2 ∨ j = 3 by omega) with rfl | rfl | rfl | rfl <;> exact hs _ (by decide +kernel)
    · have hj : j < 4 := hj
      rcases (show j = 0 ∨ j = 1 ∨ j = 2 ∨ j = 3 by omega) with rfl | rfl | rfl | rfl <;> exact hs _ (by decide +kernel)
    · have hj : j < 4 := hj
      rcases (show j = 0 ∨ j = 1 ∨ j = 2 ∨ j = 3 by omega) with rfl | rfl | rfl | rfl <;> exact hs _ (by decide +kernel)
    · have hj : j < 4 := hj
      rcases (show j = 0 ∨ j = 1 ∨ j = 2 ∨ j = 3 by omega) with rfl | rfl | rfl | rfl <;> exact hs _ (by decide +kernel)
    · have hj : j < 5 := hj
      rcases (show j = 0 ∨ j = 1 ∨ j = 2 ∨ j = 3 ∨ j = 4 by omega) with rfl | rfl | rfl | rfl | rfl <;> exact hs _ (by decide +kernel)
  · intro i j hi hj hne
    rcases (show i = 0 ∨ i = 1 ∨ i = 2 ∨ i = 3 ∨ i = 4 by omega) with rfl | rfl | rfl | rfl | rfl <;>
    rcases (show j = 0 ∨ j = 1 ∨ j = 2 ∨ j = 3 ∨ j = 4 by omega) with rfl | rfl | rfl | rfl | rfl <;>
    first
      | exact absurd rfl hne
      | exact Or.inl (hs _ (by decide +kernel))
      | exact Or.inr (hs _ (by decide +kernel))
/-- where what was there before lies -/
def g_ad (b f : Nat) (adK adV : Nat → Nat) (i : Nat) : Nat := if i = 0 then b else if i ≤ 5 then adK (i - 1) else if i ≤ 10 then adV (i - 6) else f
theorem g_adK {b f : Nat} {adK adV : Nat → Nat} {i : Nat} (h : i < 5) : g_ad b f adK adV (i + 1) = adK i := by
  unfold g_ad
  rw [if_neg (by omega), if_pos (by omega)]
  rfl
theorem g_adV {b f : Nat} {adK adV : Nat → Nat} {i : Nat} (h : i < 5) : g_ad b f adK adV (i + 6) = adV i := by
  unfold g_ad
  rw [if_neg (by omega), if_neg (by omega), if_pos (by omega)]
  rfl
/-- what is known of it -/
def g_X (z : Nat) (ad : Nat → Nat) (fv : Value) (b L : Nat) (xs : Nat → Int32) (U : State) : Prop :=
  (vk_S 5 jslen jsbyt (fun i => ad (i + 1)) (fun i => ad (i + 6)) (fun q => z ≤ q) U U.heap ∧ va_Z "java/lang/String" "COMPACT_STRINGS" "Z" (.int 1) (fun q => z ≤ q) U U.heap ∧ va_Z "jdk/internal/util/Preconditions" "SIOOBE_FORMATTER" "Ljava/util/function/BiFunction;" fv (fun q => z ≤ q) U U.heap ∧ (vk_R RX4 50 "ship" (ad 1) U ∧ vk_R RX4 60 "gear" (ad 2) U ∧ vk_R RX4 62 "cost" (ad 3) U ∧ vk_R RX4 68 "role" (ad 4) U ∧ vk_R RX4 70 "least" (ad 5) U)) ∧ va_X b L xs U U.heap
theorem g_Xok {z : Nat} {ad : Nat → Nat} {fv : Value} {b L : Nat} {xs : Nat → Int32} (hb : b < z) {u U : State} (hv : u.vm = U.vm ∨ u.WarmedH U.vm) (hH : ∀ q : Nat, q < z → U.heap[q]? = u.heap[q]?) (h : g_X z ad fv b L xs u) : g_X z ad fv b L xs U := by
  obtain ⟨⟨h1, h2, h3, h4, h5, h6, h7, h8⟩, h9⟩ := h
  have ha : u.vm.Alike U.vm := by
    rcases hv with q | q
    · rw [q]; exact Vm.Alike.refl _
    · exact q.alike
  have hR : ∀ {own tx : String} {k a : Nat}, vk_R own k tx a u → vk_R own k tx a U := fun r => by
    rcases hv with q | q
    · exact r.same q.symm
    · exact r.warm q
  have hk : ∀ a : Nat, a < u.heap.size → ¬ (fun q : Nat => z ≤ q) a → U.heap[a]? = u.heap[a]? := fun a _ hz => hH a (Nat.not_le.mp hz)
  exact ⟨⟨(h1.moved ha).kept hk, (h2.moved ha).kept hk, (h3.moved ha).kept hk, hR h4, hR h5, hR h6, hR h7, hR h8⟩, (h9.moved ha).kept (hH b hb)⟩
theorem g_env {s : State} {b L : Nat} {xs : Nat → Int32} (hts : ∀ w ∈ lw_tbl, w.before #[Value.ref b] s = true) (hX : va_X b L xs s s.heap) (hbl : b < s.heap.size) (hgv : (Jvm.Cond.and given_1 narrow_1).before #[Value.ref b] s = true) : ∃ (D : va_G) (cA : Nat → ClassId) (ad : Nat → Nat) (Xp : State → Prop), ad 0 = b ∧ j_env (s.heap, D, cA, ad, Xp) s ∧ j_gok (s.heap, D, cA, ad, Xp) ∧ jX0 (s.heap, D, cA, ad, Xp) L xs := by
  have hs := flat_of_before _ hgv
  obtain ⟨D, hD⟩ := g_cls (fun w hw => hts w (jWS_in hw))
  obtain ⟨cA, hA⟩ := g_arr hts
  obtain ⟨adK, adV, hK, hE⟩ := g_str hgv
  have hn : ∀ a : Nat, a < s.heap.size → ¬ (fun q : Nat => s.heap.size ≤ q) a := fun a ha => Nat.not_le.mpr ha
  have hZ1 : va_Z "java/lang/String" "COMPACT_STRINGS" "Z" (.int 1) (fun q => s.heap.size ≤ q) s s.heap := va_Zof (hts _ (lw_in (List.mem_of_getElem? (i := 246) (by decide +kernel)))) (hts _ (lw_in (List.mem_of_getElem? (i := 10) (by decide +kernel)))) (va_eqi (hs _ (by decide +kernel))) hn
  have hZ2 : va_Zq "jdk/internal/util/Preconditions" "SIOOBE_FORMATTER" "Ljava/util/function/BiFunction;" (fun q => s.heap.size ≤ q) s s.heap := va_Zqof (hts _ (lw_in (List.mem_of_getElem? (i := 262) (by decide +kernel)))) (hts _ (lw_in (List.mem_of_getElem? (i := 12) (by decide +kernel)))) (hs _ (by decide +kernel)) hn
  have key : ∀ (fv fw : Value) (f : Nat), (fv = .null ∨ fv = .float 11) → (∀ D cA Xp, jv (s.heap, D, cA, g_ad b f adK adV, Xp) fv = fw) → va_Z "jdk/internal/util/Preconditions" "SIOOBE_FORMATTER" "Ljava/util/function/BiFunction;" fw (fun q => s.heap.size ≤ q) s s.heap → ∃ (D : va_G) (cA : Nat → ClassId) (ad : Nat → Nat) (Xp : State → Prop), ad 0 = b ∧ j_env (s.heap, D, cA, ad, Xp) s ∧ j_gok (s.heap, D, cA, ad, Xp) ∧ jX0 (s.heap, D, cA, ad, Xp) L xs := by
    intro fv fw f hf hj hz
    have hx : g_X s.heap.size (g_ad b f adK adV) fw b L xs s := by
      refine ⟨⟨⟨fun i hi => ?_, fun i j hi hj => ?_⟩, hZ1, hz, ?_, ?_, ?_, ?_, ?_⟩, hX⟩
      · show va_O "java/lang/String" (g_ad b f adK adV (i + 1)) _ s s.heap ∧ va_OF "java/lang/String" "coder" "B" (.int 0) (g_ad b f adK adV (i + 1)) _ s s.heap ∧ va_OF "java/lang/String" "value" "[B" (.ref (g_ad b f adK adV (i + 6))) (g_ad b f adK adV (i + 1)) _ s s.heap ∧ va_T .byte (g_ad b f adK adV (i + 6)) _ _ _ s s.heap
        rw [g_adK hi, g_adV hi]
        exact hK.1 i hi
      · show g_ad b f adK adV (i + 1) = g_ad b f adK adV (j + 1) → i = j
        rw [g_adK hi, g_adK hj]
        exact hK.2 i j hi hj
      · exact vk_R.of (hts _ (lw_in (List.mem_of_getElem? (i := 232) (by decide +kernel)))) (by rw [g_adK (i := 0) (by omega)]; exact hE 0 (by omega))
      · exact vk_R.of (hts _ (lw_in (List.mem_of_getElem? (i := 301) (by decide +kernel)))) (by rw [g_adK (i := 1) (by omega)]; exact hE 1 (by omega))
      · exact vk_R.of (hts _ (lw_in (List.mem_of_getElem? (i := 302) (by decide +kernel)))) (by rw [g_adK (i := 2) (by omega)]; exact hE 2 (by omega))
      · exact vk_R.of (hts _ (lw_in (List.mem_of_getElem? (i := 306) (by decide +kernel)))) (by rw [g_adK (i := 3) (by omega)]; exact hE 3 (by omega))
      · exact vk_R.of (hts _ (lw_in (List.mem_of_getElem? (i := 307) (by decide +kernel)))) (by rw [g_adK (i := 4) (by omega)]; exact hE 4 (by omega))
    refine ⟨D, cA, g_ad b f adK adV, g_X s.heap.size (g_ad b f adK adV) fw b L xs, rfl, ⟨fun u U hv hH h => g_Xok hbl hv hH h, ⟨hD, hA D _ _⟩, g_nw hts, va_AO.of (hts _ (lw_in (List.mem_of_getElem? (i := 71) (by decide +kernel)))), va_AO.of (hts _ (lw_in (List.mem_of_getElem? (i := 99) (by decide +kernel)))), g_aolS hts, hx⟩, ⟨fv, hf, fun U h => ⟨h.1.1, h.1.2.1, ?_, h.1.2.2.2⟩⟩, fun U h => ⟨h.2, Nat.not_le.mpr hbl⟩⟩
    rw [hj]
    exact h.1.2.2.1
  rcases hZ2 with q | ⟨t, q⟩
  · exact key .null .null 0 (Or.inl rfl) (fun _ _ _ => rfl) q
  · exact key (.float 11) (.ref t) t (Or.inr rfl) (fun _ _ _ => rfl) q
