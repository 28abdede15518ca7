section JNA
variable {l : Launch} {G : jG} {y : MethodName} {cc : ByteArray} {n : Nat} {r : Option FieldType} {rm : Room} {nc ns pc : Nat} {lv : List (Nat × Value)} {st : List Value} {h : jH} {Q : Option Value → jH → Prop}
theorem j_iaddN {a b : Nat} (hd : decode cc pc = .ok (.iadd, 1)) (k : J l G (y, cc, n, r, rm) nc ns (pc + 1) lv (.int (nI (a + b)) :: st) h Q) : J l G (y, cc, n, r, rm) nc ns pc lv (.int (nI b) :: .int (nI a) :: st) h Q :=
  j_iadd hd (by rw [nI_add]; exact k)
theorem j_isubN {a b : Nat} (hd : decode cc pc = .ok (.isub, 1)) (hb : b ≤ a) (k : J l G (y, cc, n, r, rm) nc ns (pc + 1) lv (.int (nI (a - b)) :: st) h Q) : J l G (y, cc, n, r, rm) nc ns pc lv (.int (nI b) :: .int (nI a) :: st) h Q :=
  j_isub hd (by rw [pk_sub hb]; exact k)
theorem j_imulN {a b : Nat} (hd : decode cc pc = .ok (.imul, 1)) (k : J l G (y, cc, n, r, rm) nc ns (pc + 1) lv (.int (nI (a * b)) :: st) h Q) : J l G (y, cc, n, r, rm) nc ns pc lv (.int (nI b) :: .int (nI a) :: st) h Q :=
  j_imul hd (by rw [pk_mul]; exact k)
theorem j_idivN {a b : Nat} (hd : decode cc pc = .ok (.idiv, 1)) (h0 : 0 < b) (ha : a < 2147483648) (hb : b < 2147483648) (k : J l G (y, cc, n, r, rm) nc ns (pc + 1) lv (.int (nI (a / b)) :: st) h Q) : J l G (y, cc, n, r, rm) nc ns pc lv (.int (nI b) :: .int (nI a) :: st) h Q :=
  j_idiv hd (nI_ne0 h0 (by omega)) (by rw [pk_div (by omega) h0 (by omega)]; exact k)
theorem j_i2lN {a : Nat} (hd : decode cc pc = .ok (.i2l, 1)) (ha : a < 2147483648) (k : J l G (y, cc, n, r, rm) nc ns (pc + 1) lv (.long (lN a) :: st) h Q) : J l G (y, cc, n, r, rm) nc ns pc lv (.int (nI a) :: st) h Q :=
  j_i2l hd (by rw [nI_l (by omega)]; exact k)
theorem j_iincN {i a d : Nat} (hd : decode cc pc = .ok (.iinc i (d : Int), 3)) (hl : jlk i lv = some (.int (nI a))) (hn : i < n) (k : J l G (y, cc, n, r, rm) nc ns (pc + 3) (jst1 i (.int (nI (a + d))) lv) (st) h Q) : J l G (y, cc, n, r, rm) nc ns pc lv (st) h Q :=
  j_iinc (v := nI (a + d)) hd hl (by rw [← nI_add]; rfl) hn k
theorem j_icmp_eqN {a b : Nat} {off : Int} {tgt : Nat} (hd : decode cc pc = .ok (.if_icmp .eq off, 3)) (ht : (pc : Int) + off = (tgt : Int)) (ha : a < 2147483648) (hb : b < 2147483648) (kt : a = b → J l G (y, cc, n, r, rm) nc ns tgt lv (st) h Q) (kf : ¬ a = b → J l G (y, cc, n, r, rm) nc ns (pc + 3) lv (st) h Q) : J l G (y, cc, n, r, rm) nc ns pc lv (.int (nI b) :: .int (nI a) :: st) h Q :=
  j_icmp_eq hd ht (fun q => kt ((nI_eq (a := a) (b := b) (by omega) (by omega)).mp q)) (fun q => kf (fun z => q ((nI_eq (a := a) (b := b) (by omega) (by omega)).mpr z)))
theorem j_icmp_neN {a b : Nat} {off : Int} {tgt : Nat} (hd : decode cc pc = .ok (.if_icmp .ne off, 3)) (ht : (pc : Int) + off = (tgt : Int)) (ha : a < 2147483648) (hb : b < 2147483648) (kt : ¬ a = b → J l G (y, cc, n, r, rm) nc ns tgt lv (st) h Q) (kf : a = b → J l G (y, cc, n, r, rm) nc ns (pc + 3) lv (st) h Q) : J l G (y, cc, n, r, rm) nc ns pc lv (.int (nI b) :: .int (nI a) :: st) h Q :=
  j_icmp_ne hd ht (fun q => kt (fun z => q ((nI_eq (a := a) (b := b) (by omega) (by omega)).mpr z))) (fun q => kf ((nI_eq (a := a) (b := b) (by omega) (by omega)).mp q))
theorem j_icmp_ltN {a b : Nat} {off : Int} {tgt : Nat} (hd : decode cc pc = .ok (.if_icmp .lt off, 3)) (ht : (pc : Int) + off = (tgt : Int)) (ha : a < 2147483648) (hb : b < 2147483648) (kt : a < b → J l G (y, cc, n, r, rm) nc ns tgt lv (st) h Q) (kf : ¬ a < b → J l G (y, cc, n, r, rm) nc ns (pc + 3) lv (st) h Q) : J l G (y, cc, n, r, rm) nc ns pc lv (.int (nI b) :: .int (nI a) :: st) h Q :=
  j_icmp_lt hd ht (fun q => kt ((nI_ltI (a := a) (b := b) (by omega) (by omega)).mp q)) (fun q => kf (fun z => q ((nI_ltI (a := a) (b := b) (by omega) (by omega)).mpr z)))
theorem j_icmp_geN {a b : Nat} {off : Int} {tgt : Nat} (hd : decode cc pc = .ok (.if_icmp .ge off, 3)) (ht : (pc : Int) + off = (tgt : Int)) (ha : a < 2147483648) (hb : b < 2147483648) (kt : b ≤ a → J l G (y, cc, n, r, rm) nc ns tgt lv (st) h Q) (kf : ¬ b ≤ a → J l G (y, cc, n, r, rm) nc ns (pc + 3) lv (st) h Q) : J l G (y, cc, n, r, rm) nc ns pc lv (.int (nI b) :: .int (nI a) :: st) h Q :=
  j_icmp_ge hd ht (fun q => kt ((nI_leI (a := b) (b := a) (by omega) (by omega)).mp q)) (fun q => kf (fun z => q ((nI_leI (a := b) (b := a) (by omega) (by omega)).mpr z)))
theorem j_icmp_gtN {a b : Nat} {off : Int} {tgt : Nat} (hd : decode cc pc = .ok (.if_icmp .gt off, 3)) (ht : (pc : Int) + off = (tgt : Int)) (ha : a < 2147483648) (hb : b < 2147483648) (kt : b < a → J l G (y, cc, n, r, rm) nc ns tgt lv (st) h Q) (kf : ¬ b < a → J l G (y, cc, n, r, rm) nc ns (pc + 3) lv (st) h Q) : J l G (y, cc, n, r, rm) nc ns pc lv (.int (nI b) :: .int (nI a) :: st) h Q :=
  j_icmp_gt hd ht (fun q => kt ((nI_ltI (a := b) (b := a) (by omega) (by omega)).mp q)) (fun q => kf (fun z => q ((nI_ltI (a := b) (b := a) (by omega) (by omega)).mpr z)))
theorem j_icmp_leN {a b : Nat} {off : Int} {tgt : Nat} (hd : decode cc pc = .ok (.if_icmp .le off, 3)) (ht : (pc : Int) + off = (tgt : Int)) (ha : a < 2147483648) (hb : b < 2147483648) (kt : a ≤ b → J l G (y, cc, n, r, rm) nc ns tgt lv (st) h Q) (kf : ¬ a ≤ b → J l G (y, cc, n, r, rm) nc ns (pc + 3) lv (st) h Q) : J l G (y, cc, n, r, rm) nc ns pc lv (.int (nI b) :: .int (nI a) :: st) h Q :=
  j_icmp_le hd ht (fun q => kt ((nI_leI (a := a) (b := b) (by omega) (by omega)).mp q)) (fun q => kf (fun z => q ((nI_leI (a := a) (b := b) (by omega) (by omega)).mpr z)))
theorem j_if_eqN {a : Nat} {off : Int} {tgt : Nat} (hd : decode cc pc = .ok (.ifCond .eq off, 3)) (ht : (pc : Int) + off = (tgt : Int)) (ha : a < 2147483648) (kt : a = 0 → J l G (y, cc, n, r, rm) nc ns tgt lv (st) h Q) (kf : ¬ a = 0 → J l G (y, cc, n, r, rm) nc ns (pc + 3) lv (st) h Q) : J l G (y, cc, n, r, rm) nc ns pc lv (.int (nI a) :: st) h Q :=
  j_if_eq hd ht (fun q => kt ((nI_eq (a := a) (b := 0) (by omega) (by omega)).mp q)) (fun q => kf (fun z => q ((nI_eq (a := a) (b := 0) (by omega) (by omega)).mpr z)))
theorem j_if_neN {a : Nat} {off : Int} {tgt : Nat} (hd : decode cc pc = .ok (.ifCond .ne off, 3)) (ht : (pc : Int) + off = (tgt : Int)) (ha : a < 2147483648) (kt : ¬ a = 0 → J l G (y, cc, n, r, rm) nc ns tgt lv (st) h Q) (kf : a = 0 → J l G (y, cc, n, r, rm) nc ns (pc + 3) lv (st) h Q) : J l G (y, cc, n, r, rm) nc ns pc lv (.int (nI a) :: st) h Q :=
  j_if_ne hd ht (fun q => kt (fun z => q ((nI_eq (a := a) (b := 0) (by omega) (by omega)).mpr z))) (fun q => kf ((nI_eq (a := a) (b := 0) (by omega) (by omega)).mp q))
theorem j_if_ltN {a : Nat} {off : Int} {tgt : Nat} (hd : decode cc pc = .ok (.ifCond .lt off, 3)) (ht : (pc : Int) + off = (tgt : Int)) (ha : a < 2147483648) (kt : a < 0 → J l G (y, cc, n, r, rm) nc ns tgt lv (st) h Q) (kf : ¬ a < 0 → J l G (y, cc, n, r, rm) nc ns (pc + 3) lv (st) h Q) : J l G (y, cc, n, r, rm) nc ns pc lv (.int (nI a) :: st) h Q :=
  j_if_lt hd ht (fun q => kt ((nI_ltI (a := a) (b := 0) (by omega) (by omega)).mp q)) (fun q => kf (fun z => q ((nI_ltI (a := a) (b := 0) (by omega) (by omega)).mpr z)))
theorem j_if_geN {a : Nat} {off : Int} {tgt : Nat} (hd : decode cc pc = .ok (.ifCond .ge off, 3)) (ht : (pc : Int) + off = (tgt : Int)) (ha : a < 2147483648) (kt : 0 ≤ a → J l G (y, cc, n, r, rm) nc ns tgt lv (st) h Q) (kf : ¬ 0 ≤ a → J l G (y, cc, n, r, rm) nc ns (pc + 3) lv (st) h Q) : J l G (y, cc, n, r, rm) nc ns pc lv (.int (nI a) :: st) h Q :=
  j_if_ge hd ht (fun q => kt ((nI_leI (a := 0) (b := a) (by omega) (by omega)).mp q)) (fun q => kf (fun z => q ((nI_leI (a := 0) (b := a) (by omega) (by omega)).mpr z)))
theorem j_if_gtN {a : Nat} {off : Int} {tgt : Nat} (hd : decode cc pc = .ok (.ifCond .gt off, 3)) (ht : (pc : Int) + off = (tgt : Int)) (ha : a < 2147483648) (kt : 0 < a → J l G (y, cc, n, r, rm) nc ns tgt lv (st) h Q) (kf : ¬ 0 < a → J l G (y, cc, n, r, rm) nc ns (pc + 3) lv (st) h Q) : J l G (y, cc, n, r, rm) nc ns pc lv (.int (nI a) :: st) h Q :=
  j_if_gt hd ht (fun q => kt ((nI_ltI (a := 0) (b := a) (by omega) (by omega)).mp q)) (fun q => kf (fun z => q ((nI_ltI (a := 0) (b := a) (by omega) (by omega)).mpr z)))
theorem j_if_leN {a : Nat} {off : Int} {tgt : Nat} (hd : decode cc pc = .ok (.ifCond .le off, 3)) (ht : (pc : Int) + off = (tgt : Int)) (ha : a < 2147483648) (kt : a ≤ 0 → J l G (y, cc, n, r, rm) nc ns tgt lv (st) h Q) (kf : ¬ a ≤ 0 → J l G (y, cc, n, r, rm) nc ns (pc + 3) lv (st) h Q) : J l G (y, cc, n, r, rm) nc ns pc lv (.int (nI a) :: st) h Q :=
  j_if_le hd ht (fun q => kt ((nI_leI (a := a) (b := 0) (by omega) (by omega)).mp q)) (fun q => kf (fun z => q ((nI_leI (a := a) (b := 0) (by omega) (by omega)).mpr z)))
theorem j_for {N : Nat} {S : Nat → Prop} (hs : ∀ i, i < N → S (i + 1) → S i) (he : S N) : ∀ i, i ≤ N → S i := by
  have key : ∀ d i, i + d = N → S i := by
    intro d
    induction d with
    | zero => intro i hi; have : i = N := by omega
              rw [this]; exact he
    | succ d ih => intro i hi; exact hs i (by omega) (ih (i + 1) (by omega))
  intro i hi
  exact key (N - i) i (by omega)
theorem j_set_id {h : jH} {k : Nat} {e : jE} (H : h.2 k = some e) : j_set h k e = h := by
  refine Prod.ext rfl (funext fun j => ?_)
  by_cases q : j = k
  · subst q; simp [j_set, H]
  · simp [j_set, q]
theorem j_pad {k : Nat} {e : jE} (H : h.2 k = some e) (kk : J l G (y, cc, n, r, rm) nc ns pc lv (st) (j_set h k e) Q) : J l G (y, cc, n, r, rm) nc ns pc lv (st) h Q := by
  rw [j_set_id H] at kk
  exact kk
theorem j_aaldR {t k N q x : Nat} {a : Nat → Option Nat} {i : Int32} {ty : FieldType} (hd : decode cc pc = .ok (.aaload, 1)) (ht : (j_tys G)[t]? = some (G.2.2.1 t, ty)) (hty : ty.isReference = true) (hk : h.2 k = some (jQ t N a)) (hx : jix i q N) (hq : a q = some x) (kk : J l G (y, cc, n, r, rm) nc ns (pc + 1) lv (.ref x :: st) h Q) : J l G (y, cc, n, r, rm) nc ns pc lv (.int i :: .ref k :: st) h Q :=
  j_aald hd ht hty hk hx (by rw [hq]; exact kk)
theorem j_aaldN {t k N q : Nat} {a : Nat → Option Nat} {i : Int32} {ty : FieldType} (hd : decode cc pc = .ok (.aaload, 1)) (ht : (j_tys G)[t]? = some (G.2.2.1 t, ty)) (hty : ty.isReference = true) (hk : h.2 k = some (jQ t N a)) (hx : jix i q N) (hq : a q = none) (kk : J l G (y, cc, n, r, rm) nc ns (pc + 1) lv (.null :: st) h Q) : J l G (y, cc, n, r, rm) nc ns pc lv (.int i :: .ref k :: st) h Q :=
  j_aald hd ht hty hk hx (by rw [hq]; exact kk)
/-- an array's contents after i steps that write v k at place o + k -/
def j_fl {α : Type} (f : Nat → α) (o : Nat) (v : Nat → α) : Nat → (Nat → α)
  | 0 => f
  | i + 1 => va_up (j_fl f o v i) (o + i) (v i)
theorem j_fl_at {α : Type} (f : Nat → α) (o : Nat) (v : Nat → α) : ∀ i j, j_fl f o v i j = if o ≤ j ∧ j < o + i then v (j - o) else f j
  | 0, j => by simp only [j_fl]; rw [if_neg (by omega)]
  | i + 1, j => by
    simp only [j_fl, va_up, j_fl_at f o v i j]
    by_cases e : j = o + i
    · subst e
      rw [if_pos rfl, if_pos (by omega), Nat.add_sub_cancel_left]
    · rw [if_neg e]
      by_cases q : o ≤ j ∧ j < o + i
      · rw [if_pos q, if_pos (by omega)]
      · rw [if_neg q, if_neg (by omega)]
/-- the sum of the first n of a row of longs -/
def j_sm (a : Nat → Int64) : Nat → Int64
  | 0 => 0
  | i + 1 => j_sm a i + a i
end JNA
