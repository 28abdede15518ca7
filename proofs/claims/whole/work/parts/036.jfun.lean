section JFU
variable {l : Launch} {G : jG} {y : MethodName} {cc : ByteArray} {n : Nat} {r : Option FieldType} {rm : Room} {nc ns pc : Nat} {lv : List (Nat × Value)} {st : List Value} {h : jH} {Q : Option Value → jH → Prop}
/-- what was just written is read -/
theorem j_laldS {k N q : Nat} {a : Nat → Int64} {x : Int64} {i : Int32} (hd : decode cc pc = .ok (.laload, 1)) (hk : h.2 k = some (jL N (va_up a q x))) (hx : jix i q N) (kk : J l G (y, cc, n, r, rm) nc ns (pc + 1) lv (.long x :: st) h Q) : J l G (y, cc, n, r, rm) nc ns pc lv (.int i :: .ref k :: st) h Q :=
  j_lald hd hk hx (by rw [va_up_self]; exact kk)
theorem j_ialdS {k N q : Nat} {a : Nat → Int32} {x : Int32} {i : Int32} (hd : decode cc pc = .ok (.iaload, 1)) (hk : h.2 k = some (jI N (va_up a q x))) (hx : jix i q N) (kk : J l G (y, cc, n, r, rm) nc ns (pc + 1) lv (.int x :: st) h Q) : J l G (y, cc, n, r, rm) nc ns pc lv (.int i :: .ref k :: st) h Q :=
  j_iald hd hk hx (by rw [va_up_self]; exact kk)
/-- reading by a known value -/
theorem j_laldV {k N q : Nat} {a : Nat → Int64} {x : Int64} {i : Int32} (hd : decode cc pc = .ok (.laload, 1)) (hk : h.2 k = some (jL N a)) (hx : jix i q N) (hv : a q = x) (kk : J l G (y, cc, n, r, rm) nc ns (pc + 1) lv (.long x :: st) h Q) : J l G (y, cc, n, r, rm) nc ns pc lv (.int i :: .ref k :: st) h Q :=
  j_lald hd hk hx (by rw [hv]; exact kk)
theorem j_ialdV {k N q : Nat} {a : Nat → Int32} {x : Int32} {i : Int32} (hd : decode cc pc = .ok (.iaload, 1)) (hk : h.2 k = some (jI N a)) (hx : jix i q N) (hv : a q = x) (kk : J l G (y, cc, n, r, rm) nc ns (pc + 1) lv (.int x :: st) h Q) : J l G (y, cc, n, r, rm) nc ns pc lv (.int i :: .ref k :: st) h Q :=
  j_iald hd hk hx (by rw [hv]; exact kk)
theorem j_caldV {k N q : Nat} {a : Nat → Int32} {x : Int32} {i : Int32} (hd : decode cc pc = .ok (.caload, 1)) (hk : h.2 k = some (jC N a)) (hx : jix i q N) (hv : a q = x) (kk : J l G (y, cc, n, r, rm) nc ns (pc + 1) lv (.int x :: st) h Q) : J l G (y, cc, n, r, rm) nc ns pc lv (.int i :: .ref k :: st) h Q :=
  j_cald hd hk hx (by rw [hv]; exact kk)
end JFU
/-- an array's contents after i steps that write v k at place k -/
def j_f0 {α : Type} (f : Nat → α) (v : Nat → α) : Nat → (Nat → α)
  | 0 => f
  | i + 1 => va_up (j_f0 f v i) i (v i)
theorem j_f0_at {α : Type} (f : Nat → α) (v : Nat → α) : ∀ i j, j_f0 f v i j = if j < i then v j else f j
  | 0, j => by simp only [j_f0]; rw [if_neg (by omega)]
  | i + 1, j => by
    simp only [j_f0, va_up, j_f0_at f v i j]
    by_cases e : j = i
    · subst e
      rw [if_pos rfl, if_pos (by omega)]
    · rw [if_neg e]
      by_cases q : j < i
      · rw [if_pos q, if_pos (by omega)]
      · rw [if_neg q, if_neg (by omega)]
/-- the sum of those of the first n longs whose int is x -/
def j_sc (a : Nat → Int64) (c : Nat → Int32) (x : Int32) : Nat → Int64
  | 0 => 0
  | i + 1 => if c i = x then j_sc a c x i + a i else j_sc a c x i
theorem j_sc_t {a : Nat → Int64} {c : Nat → Int32} {x : Int32} {i : Nat} (h : c i = x) : j_sc a c x (i + 1) = j_sc a c x i + a i := if_pos h
theorem j_sc_f {a : Nat → Int64} {c : Nat → Int32} {x : Int32} {i : Nat} (h : ¬ c i = x) : j_sc a c x (i + 1) = j_sc a c x i := if_neg h
/-- the first of the greatest of the first n longs -/
def j_mx (c : Nat → Int64) : Nat → Nat
  | 0 => 0
  | i + 1 => if c (j_mx c i) < c i then i else j_mx c i
theorem j_mx_le (c : Nat → Int64) : ∀ i, j_mx c i ≤ i - 1
  | 0 => Nat.le_refl _
  | i + 1 => by
    have := j_mx_le c i
    simp only [j_mx]
    split <;> omega
theorem j_mx_t {c : Nat → Int64} {i : Nat} (h : ¬ c i ≤ c (j_mx c i)) : j_mx c (i + 1) = i := if_pos (Int64.not_le.mp h)
theorem j_mx_f {c : Nat → Int64} {i : Nat} (h : c i ≤ c (j_mx c i)) : j_mx c (i + 1) = j_mx c i := if_neg (Int64.not_lt.mpr h)
theorem j_mx_1 (c : Nat → Int64) : j_mx c 1 = 0 := by simp [j_mx]
/-- shares and cuts after g cents have been given -/
def j_gv (n : Nat) (s c : Nat → Int64) : Nat → (Nat → Int64) × (Nat → Int64)
  | 0 => (s, c)
  | g + 1 => (va_up (j_gv n s c g).1 (j_mx (j_gv n s c g).2 n) ((j_gv n s c g).1 (j_mx (j_gv n s c g).2 n) + 1), va_up (j_gv n s c g).2 (j_mx (j_gv n s c g).2 n) (-1))
theorem j_lkc {k : Int64} {g : Nat} (hg : g < 2147483648) : k ≤ (nI g).toInt64 ↔ k.toInt ≤ (g : Int) := by
  rw [nI_l (by omega), Int64.le_iff_toInt_le, lN_toInt (by omega)]
/-- what lacks after i of the shares -/
def j_ld (s : Int64) (q : Nat → Int64) : Nat → Int64
  | 0 => s
  | i + 1 => j_ld s q i - q i
/-- how many of the first n ints are above 0 -/
def j_ct (d : Nat → Int32) : Nat → Nat
  | 0 => 0
  | i + 1 => if 0 < d i then j_ct d i + 1 else j_ct d i
theorem j_ct_le (d : Nat → Int32) : ∀ i, j_ct d i ≤ i
  | 0 => Nat.le_refl _
  | i + 1 => by
    have := j_ct_le d i
    simp only [j_ct]
    split <;> omega
theorem j_ct_t {d : Nat → Int32} {i : Nat} (h : ¬ d i ≤ 0) : j_ct d (i + 1) = j_ct d i + 1 := if_pos (Int32.not_le.mp h)
theorem j_ct_f {d : Nat → Int32} {i : Nat} (h : d i ≤ 0) : j_ct d (i + 1) = j_ct d i := if_neg (Int32.not_lt.mpr h)
