section JMN
variable {p : Program} {l : Launch} {e : Env} {R : Room} {s : State} {m : MethodId} {args : Array Value} {below : List Frame} {meth : Method} {c : Code} {T : State} {locs : List Loc} {cells slots : Nat}
/-- the outer array when i of its four rows are there -/
def jm_o (cA : ClassId) (h0 i : Nat) : Cell := arrV cA 4 (fun j => if j < i then .ref (h0 + 1 + j) else .null)
theorem jm_o_next (cA : ClassId) (h0 i : Nat) : (jm_o cA h0 i).setSlot i (.ref (h0 + 1 + i)) = jm_o cA h0 (i + 1) := by
  unfold jm_o
  rw [arrV_store]
  refine congrArg (arrV cA 4) (funext fun j => ?_)
  by_cases e : j = i
  · subst e
    simp [updV]
  · by_cases q : j < i
    · simp [updV, e, q, Nat.lt_succ_of_lt q]
    · simp [updV, e, q, show ¬ j < i + 1 by omega]
theorem jm_o_0 (cA : ClassId) (h0 : Nat) : ({ cls := cA, slots := Array.replicate 4 .null, vm := .none } : Cell) = jm_o cA h0 0 := by
  rw [arrV_new]
  unfold jm_o
  refine congrArg (arrV cA 4) (funext fun j => ?_)
  simp
/-- where the loop stands when i rows are there -/
def jm_I (p : Program) (l : Launch) (e : Env) (R : Room) (s : State) (m : MethodId) (args : Array Value) (below : List Frame) (meth : Method) (c : Code) (T : State) (vm1 : Vm) (locs : List Loc) (cells slots : Nat) (cA comp : ClassId) (i : Nat) (U : State) : Prop :=
  ∃ L : List Loc, Stand p l e R s m args below meth c U (locs ++ L) (cells + 1 + i) (slots + 4 + i * 12) ∧ (∀ q ∈ L, q.base = T.heap.size) ∧ U.heap.size = T.heap.size + 1 + i ∧ (∀ q : Nat, q < T.heap.size → U.heap[q]? = T.heap[q]?) ∧ U.heap[T.heap.size]? = some (jm_o cA T.heap.size i) ∧ (∀ j : Nat, j < i → U.heap[T.heap.size + 1 + j]? = some (arrV comp 12 (fun _ => .long 0))) ∧ U.vm = vm1 ∧ U.slotsUsed = T.slotsUsed + 4 + i * 12
theorem jm_step_ {vm1 : Vm} {cA comp : ClassId} {i : Nat} {U : State} (h : jm_I p l e R s m args below meth c T vm1 locs cells slots cA comp i U) (hi : i < 4) : jm_I p l e R s m args below meth c T vm1 locs cells slots cA comp (i + 1) ((U.pushCell { cls := comp, slots := Array.replicate 12 (.long 0), vm := .none }).setCell T.heap.size (jm_o cA T.heap.size (i + 1))) := by
  obtain ⟨L, X, hL, hz, ho, hu, hr, hv, hs⟩ := h
  have hlt : T.heap.size < U.heap.size := by omega
  have hcell : (U.pushCell { cls := comp, slots := Array.replicate 12 (.long 0), vm := .none }).heap[T.heap.size]? = some (jm_o cA T.heap.size i) := by
    rw [State.heap_pushCell_of_lt (h := hlt)]; exact hu
  have X2 := (X.pushed { cls := comp, slots := Array.replicate 12 (.long 0), vm := .none }).stored hcell i (.ref (T.heap.size + 1 + i))
  rw [jm_o_next] at X2
  refine ⟨L ++ [⟨T.heap.size, i⟩], ?_, ?_, ?_, ?_, ?_, ?_, ?_, ?_⟩
  · rw [← List.append_assoc]
    have e1 : (Array.replicate 12 (Value.long 0)).size = 12 := by simp
    have e2 : slots + 4 + (i + 1) * 12 = slots + 4 + i * 12 + 12 := by omega
    rw [e2]
    simpa using X2
  · intro q hq
    rcases List.mem_append.mp hq with z | z
    · exact hL q z
    · rw [List.mem_singleton.mp z]
  · show ((U.pushCell _).setCell _ _).heap.size = _
    simp [State.setCell, State.pushCell]
    omega
  · intro q hq
    rw [State.heap_setCell_other (Nat.ne_of_gt hq), State.heap_pushCell_of_lt (h := by omega)]
    exact ho q hq
  · exact State.heap_setCell_self hcell
  · intro j hj
    rw [State.heap_setCell_other (show T.heap.size ≠ T.heap.size + 1 + j by omega)]
    rcases Nat.lt_or_ge j i with z | z
    · rw [State.heap_pushCell_of_lt (h := by omega)]
      exact hr j z
    · have ej : j = i := by omega
      subst ej
      rw [← hz, State.heap_pushCell_size, arrV_new]
  · exact hv
  · show (U.pushCell _).slotsUsed = _
    simp [hs]
    omega
end JMN
