noncomputable def x_if {α : Type} (c : Prop) (A B : α) : α := @ite α c (Classical.propDecidable c) A B
theorem x_if_t {α : Type} {c : Prop} {A B : α} (h : c) : x_if c A B = A := @if_pos c (Classical.propDecidable c) h α A B
theorem x_if_f {α : Type} {c : Prop} {A B : α} (h : ¬ c) : x_if c A B = B := @if_neg c (Classical.propDecidable c) h α A B
/-- right or not, where the text is read to, words, what is said -/
abbrev x_T : Type := Int32 × Nat × Int32 × (Nat → Int32)
noncomputable def x_pc (tx : Nat → Int32) (L e : Nat) (w : Int32) (fs : Nat → Int32) (p o : Nat) : x_T :=
  x_if (fs (32 + p) = 1) (0, e, w, fs) (x_if (x_ok tx L e (100 - fs o)) (1, x_ne tx L e, w + 1 + 1, va_up (va_up fs p (x_v tx L e)) (32 + p) 1) (0, x_ne tx L e, w + 1, fs))
noncomputable def x_vl (tx : Nat → Int32) (L e : Nat) (w : Int32) (fs : Nat → Int32) (b : Nat) (m : Int32) : x_T :=
  x_if (x_ok tx L e 9) (x_if (x_ok tx L (x_ne tx L e) m) (1, x_ne tx L (x_ne tx L e), w + 1 + 1 + 1, va_up fs (b + (x_v tx L e).toNatClampNeg) (x_v tx L (x_ne tx L e))) (0, x_ne tx L (x_ne tx L e), w + 1 + 1, fs)) (0, x_ne tx L e, w + 1, fs)
noncomputable def x_sen (tx : Nat → Int32) (L f e : Nat) (w : Int32) (fs : Nat → Int32) : x_T :=
  x_if (x_is tx f e [115, 104, 105, 112]) (x_pc tx L e w fs 0 1) (x_if (x_is tx f e [103, 101, 97, 114]) (x_pc tx L e w fs 1 0) (x_if (x_is tx f e [99, 111, 115, 116]) (x_vl tx L e w fs 2 2) (x_if (x_is tx f e [114, 111, 108, 101]) (x_vl tx L e w fs 12 1000) (x_if (x_is tx f e [108, 101, 97, 115, 116]) (x_vl tx L e w fs 22 999999) (0, e, w, fs)))))
/-- what is said, in the class's own rows -/
def xR (fs f1 f2 f3 f4 : Nat → Int32) : Prop := (∀ p, p < 2 → (fs (32 + p) = 1 ∧ f1 p = fs p ∧ 0 ≤ fs p) ∨ (fs (32 + p) = 0 ∧ f1 p = -1 ∧ fs p = 0)) ∧ (∀ k, k < 10 → f2 k = fs (2 + k)) ∧ (∀ k, k < 10 → f3 k = fs (12 + k)) ∧ ∀ k, k < 10 → f4 k = fs (22 + k)
theorem xR.set {fs f1 f2 f3 f4 : Nat → Int32} (h : xR fs f1 f2 f3 f4) {p : Nat} (hp : p < 2) : f1 p = -1 ↔ ¬ fs (32 + p) = 1 := by
  rcases h.1 p hp with ⟨a, b, c⟩ | ⟨a, b, c⟩
  · refine ⟨fun z => ?_, fun z => absurd a z⟩
    rw [← b, z] at c
    exact absurd c (by decide)
  · exact ⟨fun _ => by rw [a]; decide, fun _ => b⟩
theorem xR.of {fs f1 f2 f3 f4 : Nat → Int32} (h : xR fs f1 f2 f3 f4) {p : Nat} (hp : p < 2) : (if f1 p < 0 then 0 else f1 p) = fs p := by
  rcases h.1 p hp with ⟨a, b, c⟩ | ⟨a, b, c⟩
  · rw [b, if_neg (Int32.not_lt.mpr c)]
  · rw [b, c, if_pos (by decide)]
theorem va_up_e {α : Type} (f : Nat → α) (q : Nat) (x : α) : va_up f q x q = x := by simp [va_up]
theorem va_up_n {α : Type} (f : Nat → α) {q j : Nat} (x : α) (h : j ≠ q) : va_up f q x j = f j := by simp [va_up, h]
theorem xR.pc {fs f1 f2 f3 f4 : Nat → Int32} (h : xR fs f1 f2 f3 f4) {p : Nat} (hp : p < 2) {v : Int32} (hv : 0 ≤ v) : xR (va_up (va_up fs p v) (32 + p) 1) (va_up f1 p v) f2 f3 f4 := by
  refine ⟨fun q hq => ?_, fun k hk => ?_, fun k hk => ?_, fun k hk => ?_⟩
  · by_cases e : q = p
    · subst e
      refine Or.inl ⟨va_up_e _ _ _, ?_, ?_⟩
      · rw [va_up_e, va_up_n _ _ (by omega), va_up_e]
      · rw [va_up_n _ _ (by omega), va_up_e]; exact hv
    · rw [va_up_n (va_up fs p v) 1 (show 32 + q ≠ 32 + p by omega), va_up_n (va_up fs p v) 1 (show q ≠ 32 + p by omega), va_up_n fs v (show 32 + q ≠ p by omega), va_up_n fs v e, va_up_n f1 v e]
      exact h.1 q hq
  · rw [va_up_n _ _ (by omega), va_up_n _ _ (by omega)]; exact h.2.1 k hk
  · rw [va_up_n _ _ (by omega), va_up_n _ _ (by omega)]; exact h.2.2.1 k hk
  · rw [va_up_n _ _ (by omega), va_up_n _ _ (by omega)]; exact h.2.2.2 k hk

theorem xR.v2 {fs f1 f2 f3 f4 : Nat → Int32} (h : xR fs f1 f2 f3 f4) {q : Nat} (hq : q < 10) {v : Int32} : xR (va_up fs (2 + q) v) f1 (va_up f2 q v) f3 f4 := by
  refine ⟨fun p hp => ?_, fun k hk => ?_, fun k hk => ?_, fun k hk => ?_⟩
  · rw [va_up_n _ _ (by omega), va_up_n _ _ (by omega)]; exact h.1 p hp
  · by_cases e : k = q
    · subst e; rw [va_up_e, va_up_e]
    · rw [va_up_n _ _ e, va_up_n _ _ (by omega)]; exact h.2.1 k hk
  · rw [va_up_n _ _ (by omega)]; exact h.2.2.1 k hk
  · rw [va_up_n _ _ (by omega)]; exact h.2.2.2 k hk

theorem xR.v3 {fs f1 f2 f3 f4 : Nat → Int32} (h : xR fs f1 f2 f3 f4) {q : Nat} (hq : q < 10) {v : Int32} : xR (va_up fs (12 + q) v) f1 f2 (va_up f3 q v) f4 := by
  refine ⟨fun p hp => ?_, fun k hk => ?_, fun k hk => ?_, fun k hk => ?_⟩
  · rw [va_up_n _ _ (by omega), va_up_n _ _ (by omega)]; exact h.1 p hp
  · rw [va_up_n _ _ (by omega)]; exact h.2.1 k hk
  · by_cases e : k = q
    · subst e; rw [va_up_e, va_up_e]
    · rw [va_up_n _ _ e, va_up_n _ _ (by omega)]; exact h.2.2.1 k hk
  · rw [va_up_n _ _ (by omega)]; exact h.2.2.2 k hk

theorem xR.v4 {fs f1 f2 f3 f4 : Nat → Int32} (h : xR fs f1 f2 f3 f4) {q : Nat} (hq : q < 10) {v : Int32} : xR (va_up fs (22 + q) v) f1 f2 f3 (va_up f4 q v) := by
  refine ⟨fun p hp => ?_, fun k hk => ?_, fun k hk => ?_, fun k hk => ?_⟩
  · rw [va_up_n _ _ (by omega), va_up_n _ _ (by omega)]; exact h.1 p hp
  · rw [va_up_n _ _ (by omega)]; exact h.2.1 k hk
  · rw [va_up_n _ _ (by omega)]; exact h.2.2.1 k hk
  · by_cases e : k = q
    · subst e; rw [va_up_e, va_up_e]
    · rw [va_up_n _ _ e, va_up_n _ _ (by omega)]; exact h.2.2.2 k hk

theorem x_lt10 {tx : Nat → Int32} {L a : Nat} (ha : a ≤ L) (h : x_ok tx L a 9) : (x_v tx L a).toNatClampNeg < 10 := (x_ix10 ha h).2.2
theorem j_padE {h : jH} {k : Nat} {e : jE} (H : h.2 k = some e) : j_set h k e = h := by
  refine Prod.ext rfl (funext fun j => ?_)
  show (if j = k then some e else h.2 j) = h.2 j
  by_cases q : j = k
  · rw [if_pos q, q, H]
  · rw [if_neg q]

set_option maxRecDepth 20000 in
theorem s_X8_sen {l : Launch} {G : jG} {h : jH} {Q : Option Value → jH → Prop} {cl es op ps ts wd : Int32} {L e f : Nat} {tx : Nat → Int32} {fs : Nat → Int32} (H0 : h.2 27 = some (mO (nI L) (nI e) (nI f) wd ps ts es op cl)) (H1 : h.2 28 = some (jI 600 tx)) (H2 : h.2 30 = some (jI 34 fs)) (hL : L ≤ 600) (hf : f ≤ e) (he : e ≤ L)
    (K : ∀ fr : Int32, Q (some (.int (x_sen tx L f e wd fs).1)) (j_set (j_set h 27 (mO (nI L) (nI (x_sen tx L f e wd fs).2.1) fr (x_sen tx L f e wd fs).2.2.1 ps ts es op cl)) 30 (jI 34 (x_sen tx L f e wd fs).2.2.2))) : J l G mX8_isSentence 0 0 0 (lv_args 0 [.ref 27]) [] h Q := by
  refine s_X8_isSentence H0 H1 H2 hL hf he ?_ ?_ ?_ ?_ ?_ ?_ ?_ ?_ ?_ ?_ ?_ ?_ ?_ ?_ ?_ ?_
  · intro mn0 mo0 mo1
    have n0 : x_is tx f e [115, 104, 105, 112] := mn0
    have o0 : ¬ fs (32 + 0) = 1 := mo0
    have o1 : x_ok tx L e (100 - fs 1) := mo1
    have er : x_sen tx L f e wd fs = (1, x_ne tx L e, wd + 1 + 1, va_up (va_up fs 0 (x_v tx L e)) (32 + 0) 1) := by
      unfold x_sen
      rw [x_if_t n0]
      unfold x_pc
      rw [x_if_f o0, x_if_t o1]
    have q := K (nI (x_ws tx L e))
    rw [er] at q
    exact q
  · intro mn0 mo0 mo1
    have n0 : x_is tx f e [115, 104, 105, 112] := mn0
    have o0 : ¬ fs (32 + 0) = 1 := mo0
    have o1 : ¬ x_ok tx L e (100 - fs 1) := mo1
    have er : x_sen tx L f e wd fs = (0, x_ne tx L e, wd + 1, fs) := by
      unfold x_sen
      rw [x_if_t n0]
      unfold x_pc
      rw [x_if_f o0, x_if_f o1]
    have q := K (nI (x_ws tx L e))
    rw [er] at q
    have q2 : Q (some (.int 0)) (j_set (j_set h 27 (mO (nI L) (nI (x_ne tx L e)) (nI (x_ws tx L e)) (wd + 1) ps ts es op cl)) 30 (jI 34 fs)) := q
    rw [j_padE (j_hn (by decide) H2)] at q2
    exact q2
  · intro mn0 mo0
    have n0 : x_is tx f e [115, 104, 105, 112] := mn0
    have o0 : fs (32 + 0) = 1 := mo0
    have er : x_sen tx L f e wd fs = (0, e, wd, fs) := by
      unfold x_sen
      rw [x_if_t n0]
      unfold x_pc
      rw [x_if_t o0]
    have q := K (nI f)
    rw [er] at q
    have q2 : Q (some (.int 0)) (j_set (j_set h 27 (mO (nI L) (nI e) (nI f) wd ps ts es op cl)) 30 (jI 34 fs)) := q
    rw [j_padE H0, j_padE H2] at q2
    exact q2
  · intro mn0 mn1 mo0 mo1
    have n0 : ¬ x_is tx f e [115, 104, 105, 112] := mn0
    have n1 : x_is tx f e [103, 101, 97, 114] := mn1
    have o0 : ¬ fs (32 + 1) = 1 := mo0
    have o1 : x_ok tx L e (100 - fs 0) := mo1
    have er : x_sen tx L f e wd fs = (1, x_ne tx L e, wd + 1 + 1, va_up (va_up fs 1 (x_v tx L e)) (32 + 1) 1) := by
      unfold x_sen
      rw [x_if_f n0, x_if_t n1]
      unfold x_pc
      rw [x_if_f o0, x_if_t o1]
    have q := K (nI (x_ws tx L e))
    rw [er] at q
    exact q
  · intro mn0 mn1 mo0 mo1
    have n0 : ¬ x_is tx f e [115, 104, 105, 112] := mn0
    have n1 : x_is tx f e [103, 101, 97, 114] := mn1
    have o0 : ¬ fs (32 + 1) = 1 := mo0
    have o1 : ¬ x_ok tx L e (100 - fs 0) := mo1
    have er : x_sen tx L f e wd fs = (0, x_ne tx L e, wd + 1, fs) := by
      unfold x_sen
      rw [x_if_f n0, x_if_t n1]
      unfold x_pc
      rw [x_if_f o0, x_if_f o1]
    have q := K (nI (x_ws tx L e))
    rw [er] at q
    have q2 : Q (some (.int 0)) (j_set (j_set h 27 (mO (nI L) (nI (x_ne tx L e)) (nI (x_ws tx L e)) (wd + 1) ps ts es op cl)) 30 (jI 34 fs)) := q
    rw [j_padE (j_hn (by decide) H2)] at q2
    exact q2
  · intro mn0 mn1 mo0
    have n0 : ¬ x_is tx f e [115, 104, 105, 112] := mn0
    have n1 : x_is tx f e [103, 101, 97, 114] := mn1
    have o0 : fs (32 + 1) = 1 := mo0
    have er : x_sen tx L f e wd fs = (0, e, wd, fs) := by
      unfold x_sen
      rw [x_if_f n0, x_if_t n1]
      unfold x_pc
      rw [x_if_t o0]
    have q := K (nI f)
    rw [er] at q
    have q2 : Q (some (.int 0)) (j_set (j_set h 27 (mO (nI L) (nI e) (nI f) wd ps ts es op cl)) 30 (jI 34 fs)) := q
    rw [j_padE H0, j_padE H2] at q2
    exact q2
  · intro mn0 mn1 mn2 mo0 mo1
    have n0 : ¬ x_is tx f e [115, 104, 105, 112] := mn0
    have n1 : ¬ x_is tx f e [103, 101, 97, 114] := mn1
    have n2 : x_is tx f e [99, 111, 115, 116] := mn2
    have o0 : x_ok tx L e 9 := mo0
    have o1 : x_ok tx L (x_ne tx L e) 2 := mo1
    have er : x_sen tx L f e wd fs = (1, x_ne tx L (x_ne tx L e), wd + 1 + 1 + 1, va_up fs (2 + (x_v tx L e).toNatClampNeg) (x_v tx L (x_ne tx L e))) := by
      unfold x_sen
      rw [x_if_f n0, x_if_f n1, x_if_t n2]
      unfold x_vl
      rw [x_if_t o0, x_if_t o1]
    have q := K (nI (x_ws tx L (x_ne tx L e)))
    rw [er] at q
    exact q
  · intro mn0 mn1 mn2 mo0 mo1
    have n0 : ¬ x_is tx f e [115, 104, 105, 112] := mn0
    have n1 : ¬ x_is tx f e [103, 101, 97, 114] := mn1
    have n2 : x_is tx f e [99, 111, 115, 116] := mn2
    have o0 : x_ok tx L e 9 := mo0
    have o1 : ¬ x_ok tx L (x_ne tx L e) 2 := mo1
    have er : x_sen tx L f e wd fs = (0, x_ne tx L (x_ne tx L e), wd + 1 + 1, fs) := by
      unfold x_sen
      rw [x_if_f n0, x_if_f n1, x_if_t n2]
      unfold x_vl
      rw [x_if_t o0, x_if_f o1]
    have q := K (nI (x_ws tx L (x_ne tx L e)))
    rw [er] at q
    have q2 : Q (some (.int 0)) (j_set (j_set h 27 (mO (nI L) (nI (x_ne tx L (x_ne tx L e))) (nI (x_ws tx L (x_ne tx L e))) (wd + 1 + 1) ps ts es op cl)) 30 (jI 34 fs)) := q
    rw [j_padE (j_hn (by decide) H2)] at q2
    exact q2
  · intro mn0 mn1 mn2 mo0
    have n0 : ¬ x_is tx f e [115, 104, 105, 112] := mn0
    have n1 : ¬ x_is tx f e [103, 101, 97, 114] := mn1
    have n2 : x_is tx f e [99, 111, 115, 116] := mn2
    have o0 : ¬ x_ok tx L e 9 := mo0
    have er : x_sen tx L f e wd fs = (0, x_ne tx L e, wd + 1, fs) := by
      unfold x_sen
      rw [x_if_f n0, x_if_f n1, x_if_t n2]
      unfold x_vl
      rw [x_if_f o0]
    have q := K (nI (x_ws tx L e))
    rw [er] at q
    have q2 : Q (some (.int 0)) (j_set (j_set h 27 (mO (nI L) (nI (x_ne tx L e)) (nI (x_ws tx L e)) (wd + 1) ps ts es op cl)) 30 (jI 34 fs)) := q
    rw [j_padE (j_hn (by decide) H2)] at q2
    exact q2
  · intro mn0 mn1 mn2 mn3 mo0 mo1
    have n0 : ¬ x_is tx f e [115, 104, 105, 112] := mn0
    have n1 : ¬ x_is tx f e [103, 101, 97, 114] := mn1
    have n2 : ¬ x_is tx f e [99, 111, 115, 116] := mn2
    have n3 : x_is tx f e [114, 111, 108, 101] := mn3
    have o0 : x_ok tx L e 9 := mo0
    have o1 : x_ok tx L (x_ne tx L e) 1000 := mo1
    have er : x_sen tx L f e wd fs = (1, x_ne tx L (x_ne tx L e), wd + 1 + 1 + 1, va_up fs (12 + (x_v tx L e).toNatClampNeg) (x_v tx L (x_ne tx L e))) := by
      unfold x_sen
      rw [x_if_f n0, x_if_f n1, x_if_f n2, x_if_t n3]
      unfold x_vl
      rw [x_if_t o0, x_if_t o1]
    have q := K (nI (x_ws tx L (x_ne tx L e)))
    rw [er] at q
    exact q
  · intro mn0 mn1 mn2 mn3 mo0 mo1
    have n0 : ¬ x_is tx f e [115, 104, 105, 112] := mn0
    have n1 : ¬ x_is tx f e [103, 101, 97, 114] := mn1
    have n2 : ¬ x_is tx f e [99, 111, 115, 116] := mn2
    have n3 : x_is tx f e [114, 111, 108, 101] := mn3
    have o0 : x_ok tx L e 9 := mo0
    have o1 : ¬ x_ok tx L (x_ne tx L e) 1000 := mo1
    have er : x_sen tx L f e wd fs = (0, x_ne tx L (x_ne tx L e), wd + 1 + 1, fs) := by
      unfold x_sen
      rw [x_if_f n0, x_if_f n1, x_if_f n2, x_if_t n3]
      unfold x_vl
      rw [x_if_t o0, x_if_f o1]
    have q := K (nI (x_ws tx L (x_ne tx L e)))
    rw [er] at q
    have q2 : Q (some (.int 0)) (j_set (j_set h 27 (mO (nI L) (nI (x_ne tx L (x_ne tx L e))) (nI (x_ws tx L (x_ne tx L e))) (wd + 1 + 1) ps ts es op cl)) 30 (jI 34 fs)) := q
    rw [j_padE (j_hn (by decide) H2)] at q2
    exact q2
  · intro mn0 mn1 mn2 mn3 mo0
    have n0 : ¬ x_is tx f e [115, 104, 105, 112] := mn0
    have n1 : ¬ x_is tx f e [103, 101, 97, 114] := mn1
    have n2 : ¬ x_is tx f e [99, 111, 115, 116] := mn2
    have n3 : x_is tx f e [114, 111, 108, 101] := mn3
    have o0 : ¬ x_ok tx L e 9 := mo0
    have er : x_sen tx L f e wd fs = (0, x_ne tx L e, wd + 1, fs) := by
      unfold x_sen
      rw [x_if_f n0, x_if_f n1, x_if_f n2, x_if_t n3]
      unfold x_vl
      rw [x_if_f o0]
    have q := K (nI (x_ws tx L e))
    rw [er] at q
    have q2 : Q (some (.int 0)) (j_set (j_set h 27 (mO (nI L) (nI (x_ne tx L e)) (nI (x_ws tx L e)) (wd + 1) ps ts es op cl)) 30 (jI 34 fs)) := q
    rw [j_padE (j_hn (by decide) H2)] at q2
    exact q2
  · intro mn0 mn1 mn2 mn3 mn4 mo0 mo1
    have n0 : ¬ x_is tx f e [115, 104, 105, 112] := mn0
    have n1 : ¬ x_is tx f e [103, 101, 97, 114] := mn1
    have n2 : ¬ x_is tx f e [99, 111, 115, 116] := mn2
    have n3 : ¬ x_is tx f e [114, 111, 108, 101] := mn3
    have n4 : x_is tx f e [108, 101, 97, 115, 116] := mn4
    have o0 : x_ok tx L e 9 := mo0
    have o1 : x_ok tx L (x_ne tx L e) 999999 := mo1
    have er : x_sen tx L f e wd fs = (1, x_ne tx L (x_ne tx L e), wd + 1 + 1 + 1, va_up fs (22 + (x_v tx L e).toNatClampNeg) (x_v tx L (x_ne tx L e))) := by
      unfold x_sen
      rw [x_if_f n0, x_if_f n1, x_if_f n2, x_if_f n3, x_if_t n4]
      unfold x_vl
      rw [x_if_t o0, x_if_t o1]
    have q := K (nI (x_ws tx L (x_ne tx L e)))
    rw [er] at q
    exact q
  · intro mn0 mn1 mn2 mn3 mn4 mo0 mo1
    have n0 : ¬ x_is tx f e [115, 104, 105, 112] := mn0
    have n1 : ¬ x_is tx f e [103, 101, 97, 114] := mn1
    have n2 : ¬ x_is tx f e [99, 111, 115, 116] := mn2
    have n3 : ¬ x_is tx f e [114, 111, 108, 101] := mn3
    have n4 : x_is tx f e [108, 101, 97, 115, 116] := mn4
    have o0 : x_ok tx L e 9 := mo0
    have o1 : ¬ x_ok tx L (x_ne tx L e) 999999 := mo1
    have er : x_sen tx L f e wd fs = (0, x_ne tx L (x_ne tx L e), wd + 1 + 1, fs) := by
      unfold x_sen
      rw [x_if_f n0, x_if_f n1, x_if_f n2, x_if_f n3, x_if_t n4]
      unfold x_vl
      rw [x_if_t o0, x_if_f o1]
    have q := K (nI (x_ws tx L (x_ne tx L e)))
    rw [er] at q
    have q2 : Q (some (.int 0)) (j_set (j_set h 27 (mO (nI L) (nI (x_ne tx L (x_ne tx L e))) (nI (x_ws tx L (x_ne tx L e))) (wd + 1 + 1) ps ts es op cl)) 30 (jI 34 fs)) := q
    rw [j_padE (j_hn (by decide) H2)] at q2
    exact q2
  · intro mn0 mn1 mn2 mn3 mn4 mo0
    have n0 : ¬ x_is tx f e [115, 104, 105, 112] := mn0
    have n1 : ¬ x_is tx f e [103, 101, 97, 114] := mn1
    have n2 : ¬ x_is tx f e [99, 111, 115, 116] := mn2
    have n3 : ¬ x_is tx f e [114, 111, 108, 101] := mn3
    have n4 : x_is tx f e [108, 101, 97, 115, 116] := mn4
    have o0 : ¬ x_ok tx L e 9 := mo0
    have er : x_sen tx L f e wd fs = (0, x_ne tx L e, wd + 1, fs) := by
      unfold x_sen
      rw [x_if_f n0, x_if_f n1, x_if_f n2, x_if_f n3, x_if_t n4]
      unfold x_vl
      rw [x_if_f o0]
    have q := K (nI (x_ws tx L e))
    rw [er] at q
    have q2 : Q (some (.int 0)) (j_set (j_set h 27 (mO (nI L) (nI (x_ne tx L e)) (nI (x_ws tx L e)) (wd + 1) ps ts es op cl)) 30 (jI 34 fs)) := q
    rw [j_padE (j_hn (by decide) H2)] at q2
    exact q2
  · intro mn0 mn1 mn2 mn3 mn4
    have n0 : ¬ x_is tx f e [115, 104, 105, 112] := mn0
    have n1 : ¬ x_is tx f e [103, 101, 97, 114] := mn1
    have n2 : ¬ x_is tx f e [99, 111, 115, 116] := mn2
    have n3 : ¬ x_is tx f e [114, 111, 108, 101] := mn3
    have n4 : ¬ x_is tx f e [108, 101, 97, 115, 116] := mn4
    have er : x_sen tx L f e wd fs = (0, e, wd, fs) := by
      unfold x_sen
      rw [x_if_f n0, x_if_f n1, x_if_f n2, x_if_f n3, x_if_f n4]
    have q := K (nI f)
    rw [er] at q
    have q2 : Q (some (.int 0)) (j_set (j_set h 27 (mO (nI L) (nI e) (nI f) wd ps ts es op cl)) 30 (jI 34 fs)) := q
    rw [j_padE H0, j_padE H2] at q2
    exact q2

set_option maxRecDepth 20000 in
theorem s_X4_sen {l : Launch} {G : jG} {h : jH} {Q : Option Value → jH → Prop} {dq L e f : Nat} {wn : Int32} {f1 f2 f3 f4 by_ fs : Nat → Int32} (H0 : h.2 dq = some (jO 4 [.ref (dq + 1), .ref (dq + 2), .ref (dq + 3), .ref (dq + 4)])) (H1 : h.2 (dq + 1) = some (jI 2 f1)) (H2 : h.2 (dq + 2) = some (jI 10 f2)) (H3 : h.2 (dq + 3) = some (jI 10 f3)) (H4 : h.2 (dq + 4) = some (jI 10 f4)) (H5 : h.2 1 = some (jO 5 [.ref 2, .int (nI L), .int (nI f), .int (nI e), .int wn])) (H6 : h.2 2 = some (jC 600 by_)) (hgok : j_gok G) (hL : L ≤ 600) (hf : f ≤ e) (he : e ≤ L) (hdq : 17 ≤ dq) (hx : xR fs f1 f2 f3 f4)
    (K : ∀ (ws wn' : Int32) (g1 g2 g3 g4 : Nat → Int32), ((x_sen by_ L f e wn fs).1 = 1 → xR (x_sen by_ L f e wn fs).2.2.2 g1 g2 g3 g4 ∧ wn' + 1 = (x_sen by_ L f e wn fs).2.2.1) → (¬ (x_sen by_ L f e wn fs).1 = 1 → wn' = (x_sen by_ L f e wn fs).2.2.1) → Q (some (.int (x_sen by_ L f e wn fs).1)) (j_set (j_set (j_set (j_set (j_set h 1 (jO 5 [.ref 2, .int (nI L), .int ws, .int (nI (x_sen by_ L f e wn fs).2.1), .int wn'])) (dq + 1) (jI 2 g1)) (dq + 2) (jI 10 g2)) (dq + 3) (jI 10 g3)) (dq + 4) (jI 10 g4))) : J l G mX4_takeSentence 0 0 0 (lv_args 0 [.ref dq, .ref 1]) [] h Q := by
  refine s_X4_takeSentence H0 H1 H2 H3 H4 H5 H6 hgok hL hf he hdq ?_ ?_ ?_ ?_ ?_ ?_ ?_ ?_ ?_ ?_ ?_ ?_ ?_ ?_ ?_ ?_
  · intro mn0 mo0 mo1
    have n0 : x_is by_ f e [115, 104, 105, 112] := mn0
    have o0 : ¬ fs (32 + 0) = 1 := (hx.set (by decide)).mp mo0
    rw [hx.of (p := 1) (by decide)] at mo1
    have o1 : x_ok by_ L e (100 - fs 1) := mo1
    have er : x_sen by_ L f e wn fs = (1, x_ne by_ L e, wn + 1 + 1, va_up (va_up fs 0 (x_v by_ L e)) (32 + 0) 1) := by
      unfold x_sen
      rw [x_if_t n0]
      unfold x_pc
      rw [x_if_f o0, x_if_t o1]
    have q := K (nI (x_ws by_ L e)) (wn + 1) (va_up f1 0 (x_v by_ L e)) f2 f3 f4
    rw [er] at q
    have q1 := q (fun _ => ⟨hx.pc (by decide) (x_v_nn he o1), rfl⟩) (fun z => absurd rfl z)
    have q2 : Q (some (.int 1)) (j_set (j_set (j_set (j_set (j_set h 1 (jO 5 [.ref 2, .int (nI L), .int (nI (x_ws by_ L e)), .int (nI (x_ne by_ L e)), .int (wn + 1)])) (dq + 1) (jI 2 (va_up f1 0 (x_v by_ L e)))) (dq + 2) (jI 10 f2)) (dq + 3) (jI 10 f3)) (dq + 4) (jI 10 f4)) := q1
    rw [j_padE (j_hn (by omega) (j_hn (by omega) H2)), j_padE (j_hn (by omega) (j_hn (by omega) H3)), j_padE (j_hn (by omega) (j_hn (by omega) H4))] at q2
    exact q2
  · intro mn0 mo0 mo1
    have n0 : x_is by_ f e [115, 104, 105, 112] := mn0
    have o0 : ¬ fs (32 + 0) = 1 := (hx.set (by decide)).mp mo0
    rw [hx.of (p := 1) (by decide)] at mo1
    have o1 : ¬ x_ok by_ L e (100 - fs 1) := mo1
    have er : x_sen by_ L f e wn fs = (0, x_ne by_ L e, wn + 1, fs) := by
      unfold x_sen
      rw [x_if_t n0]
      unfold x_pc
      rw [x_if_f o0, x_if_f o1]
    have q := K (nI (x_ws by_ L e)) (wn + 1) (va_up f1 0 (-1)) f2 f3 f4
    rw [er] at q
    have q1 := q (fun z => absurd (show (0 : Int32) = 1 from z) (by decide)) (fun _ => rfl)
    have q2 : Q (some (.int 0)) (j_set (j_set (j_set (j_set (j_set h 1 (jO 5 [.ref 2, .int (nI L), .int (nI (x_ws by_ L e)), .int (nI (x_ne by_ L e)), .int (wn + 1)])) (dq + 1) (jI 2 (va_up f1 0 (-1)))) (dq + 2) (jI 10 f2)) (dq + 3) (jI 10 f3)) (dq + 4) (jI 10 f4)) := q1
    rw [j_padE (j_hn (by omega) (j_hn (by omega) H2)), j_padE (j_hn (by omega) (j_hn (by omega) H3)), j_padE (j_hn (by omega) (j_hn (by omega) H4))] at q2
    exact q2
  · intro mn0 mo0
    have n0 : x_is by_ f e [115, 104, 105, 112] := mn0
    have o0 : fs (32 + 0) = 1 := Classical.byContradiction fun z => mo0 ((hx.set (by decide)).mpr z)
    have er : x_sen by_ L f e wn fs = (0, e, wn, fs) := by
      unfold x_sen
      rw [x_if_t n0]
      unfold x_pc
      rw [x_if_t o0]
    have q := K (nI f) (wn) f1 f2 f3 f4
    rw [er] at q
    have q1 := q (fun z => absurd (show (0 : Int32) = 1 from z) (by decide)) (fun _ => rfl)
    have q2 : Q (some (.int 0)) (j_set (j_set (j_set (j_set (j_set h 1 (jO 5 [.ref 2, .int (nI L), .int (nI f), .int (nI (e)), .int (wn)])) (dq + 1) (jI 2 f1)) (dq + 2) (jI 10 f2)) (dq + 3) (jI 10 f3)) (dq + 4) (jI 10 f4)) := q1
    rw [j_padE H5, j_padE H1, j_padE H2, j_padE H3, j_padE H4] at q2
    exact q2
  · intro mn0 mn1 mo0 mo1
    have n0 : ¬ x_is by_ f e [115, 104, 105, 112] := mn0
    have n1 : x_is by_ f e [103, 101, 97, 114] := mn1
    have o0 : ¬ fs (32 + 1) = 1 := (hx.set (by decide)).mp mo0
    rw [hx.of (p := 0) (by decide)] at mo1
    have o1 : x_ok by_ L e (100 - fs 0) := mo1
    have er : x_sen by_ L f e wn fs = (1, x_ne by_ L e, wn + 1 + 1, va_up (va_up fs 1 (x_v by_ L e)) (32 + 1) 1) := by
      unfold x_sen
      rw [x_if_f n0, x_if_t n1]
      unfold x_pc
      rw [x_if_f o0, x_if_t o1]
    have q := K (nI (x_ws by_ L e)) (wn + 1) (va_up f1 1 (x_v by_ L e)) f2 f3 f4
    rw [er] at q
    have q1 := q (fun _ => ⟨hx.pc (by decide) (x_v_nn he o1), rfl⟩) (fun z => absurd rfl z)
    have q2 : Q (some (.int 1)) (j_set (j_set (j_set (j_set (j_set h 1 (jO 5 [.ref 2, .int (nI L), .int (nI (x_ws by_ L e)), .int (nI (x_ne by_ L e)), .int (wn + 1)])) (dq + 1) (jI 2 (va_up f1 1 (x_v by_ L e)))) (dq + 2) (jI 10 f2)) (dq + 3) (jI 10 f3)) (dq + 4) (jI 10 f4)) := q1
    rw [j_padE (j_hn (by omega) (j_hn (by omega) H2)), j_padE (j_hn (by omega) (j_hn (by omega) H3)), j_padE (j_hn (by omega) (j_hn (by omega) H4))] at q2
    exact q2
  · intro mn0 mn1 mo0 mo1
    have n0 : ¬ x_is by_ f e [115, 104, 105, 112] := mn0
    have n1 : x_is by_ f e [103, 101, 97, 114] := mn1
    have o0 : ¬ fs (32 + 1) = 1 := (hx.set (by decide)).mp mo0
    rw [hx.of (p := 0) (by decide)] at mo1
    have o1 : ¬ x_ok by_ L e (100 - fs 0) := mo1
    have er : x_sen by_ L f e wn fs = (0, x_ne by_ L e, wn + 1, fs) := by
      unfold x_sen
      rw [x_if_f n0, x_if_t n1]
      unfold x_pc
      rw [x_if_f o0, x_if_f o1]
    have q := K (nI (x_ws by_ L e)) (wn + 1) (va_up f1 1 (-1)) f2 f3 f4
    rw [er] at q
    have q1 := q (fun z => absurd (show (0 : Int32) = 1 from z) (by decide)) (fun _ => rfl)
    have q2 : Q (some (.int 0)) (j_set (j_set (j_set (j_set (j_set h 1 (jO 5 [.ref 2, .int (nI L), .int (nI (x_ws by_ L e)), .int (nI (x_ne by_ L e)), .int (wn + 1)])) (dq + 1) (jI 2 (va_up f1 1 (-1)))) (dq + 2) (jI 10 f2)) (dq + 3) (jI 10 f3)) (dq + 4) (jI 10 f4)) := q1
    rw [j_padE (j_hn (by omega) (j_hn (by omega) H2)), j_padE (j_hn (by omega) (j_hn (by omega) H3)), j_padE (j_hn (by omega) (j_hn (by omega) H4))] at q2
    exact q2
  · intro mn0 mn1 mo0
    have n0 : ¬ x_is by_ f e [115, 104, 105, 112] := mn0
    have n1 : x_is by_ f e [103, 101, 97, 114] := mn1
    have o0 : fs (32 + 1) = 1 := Classical.byContradiction fun z => mo0 ((hx.set (by decide)).mpr z)
    have er : x_sen by_ L f e wn fs = (0, e, wn, fs) := by
      unfold x_sen
      rw [x_if_f n0, x_if_t n1]
      unfold x_pc
      rw [x_if_t o0]
    have q := K (nI f) (wn) f1 f2 f3 f4
    rw [er] at q
    have q1 := q (fun z => absurd (show (0 : Int32) = 1 from z) (by decide)) (fun _ => rfl)
    have q2 : Q (some (.int 0)) (j_set (j_set (j_set (j_set (j_set h 1 (jO 5 [.ref 2, .int (nI L), .int (nI f), .int (nI (e)), .int (wn)])) (dq + 1) (jI 2 f1)) (dq + 2) (jI 10 f2)) (dq + 3) (jI 10 f3)) (dq + 4) (jI 10 f4)) := q1
    rw [j_padE H5, j_padE H1, j_padE H2, j_padE H3, j_padE H4] at q2
    exact q2
  · intro mn0 mn1 mn2 mo0 mo1
    have n0 : ¬ x_is by_ f e [115, 104, 105, 112] := mn0
    have n1 : ¬ x_is by_ f e [103, 101, 97, 114] := mn1
    have n2 : x_is by_ f e [99, 111, 115, 116] := mn2
    have o0 : x_ok by_ L e 9 := mo0
    have o1 : x_ok by_ L (x_ne by_ L e) 2 := mo1
    have er : x_sen by_ L f e wn fs = (1, x_ne by_ L (x_ne by_ L e), wn + 1 + 1 + 1, va_up fs (2 + (x_v by_ L e).toNatClampNeg) (x_v by_ L (x_ne by_ L e))) := by
      unfold x_sen
      rw [x_if_f n0, x_if_f n1, x_if_t n2]
      unfold x_vl
      rw [x_if_t o0, x_if_t o1]
    have q := K (nI (x_ws by_ L (x_ne by_ L e))) (wn + 1 + 1) f1 (va_up f2 ((x_v by_ L e).toNatClampNeg) (x_v by_ L (x_ne by_ L e))) f3 f4
    rw [er] at q
    have q1 := q (fun _ => ⟨hx.v2 (x_lt10 he o0), rfl⟩) (fun z => absurd rfl z)
    have q2 : Q (some (.int 1)) (j_set (j_set (j_set (j_set (j_set h 1 (jO 5 [.ref 2, .int (nI L), .int (nI (x_ws by_ L (x_ne by_ L e))), .int (nI (x_ne by_ L (x_ne by_ L e))), .int (wn + 1 + 1)])) (dq + 1) (jI 2 f1)) (dq + 2) (jI 10 (va_up f2 ((x_v by_ L e).toNatClampNeg) (x_v by_ L (x_ne by_ L e))))) (dq + 3) (jI 10 f3)) (dq + 4) (jI 10 f4)) := q1
    rw [j_padE (j_hn (by omega) H1), j_padE (j_hn (by omega) (j_hn (by omega) H3)), j_padE (j_hn (by omega) (j_hn (by omega) H4))] at q2
    exact q2
  · intro mn0 mn1 mn2 mo0 mo1
    have n0 : ¬ x_is by_ f e [115, 104, 105, 112] := mn0
    have n1 : ¬ x_is by_ f e [103, 101, 97, 114] := mn1
    have n2 : x_is by_ f e [99, 111, 115, 116] := mn2
    have o0 : x_ok by_ L e 9 := mo0
    have o1 : ¬ x_ok by_ L (x_ne by_ L e) 2 := mo1
    have er : x_sen by_ L f e wn fs = (0, x_ne by_ L (x_ne by_ L e), wn + 1 + 1, fs) := by
      unfold x_sen
      rw [x_if_f n0, x_if_f n1, x_if_t n2]
      unfold x_vl
      rw [x_if_t o0, x_if_f o1]
    have q := K (nI (x_ws by_ L (x_ne by_ L e))) (wn + 1 + 1) f1 f2 f3 f4
    rw [er] at q
    have q1 := q (fun z => absurd (show (0 : Int32) = 1 from z) (by decide)) (fun _ => rfl)
    have q2 : Q (some (.int 0)) (j_set (j_set (j_set (j_set (j_set h 1 (jO 5 [.ref 2, .int (nI L), .int (nI (x_ws by_ L (x_ne by_ L e))), .int (nI (x_ne by_ L (x_ne by_ L e))), .int (wn + 1 + 1)])) (dq + 1) (jI 2 f1)) (dq + 2) (jI 10 f2)) (dq + 3) (jI 10 f3)) (dq + 4) (jI 10 f4)) := q1
    rw [j_padE (j_hn (by omega) H1), j_padE (j_hn (by omega) H2), j_padE (j_hn (by omega) H3), j_padE (j_hn (by omega) H4)] at q2
    exact q2
  · intro mn0 mn1 mn2 mo0
    have n0 : ¬ x_is by_ f e [115, 104, 105, 112] := mn0
    have n1 : ¬ x_is by_ f e [103, 101, 97, 114] := mn1
    have n2 : x_is by_ f e [99, 111, 115, 116] := mn2
    have o0 : ¬ x_ok by_ L e 9 := mo0
    have er : x_sen by_ L f e wn fs = (0, x_ne by_ L e, wn + 1, fs) := by
      unfold x_sen
      rw [x_if_f n0, x_if_f n1, x_if_t n2]
      unfold x_vl
      rw [x_if_f o0]
    have q := K (nI (x_ws by_ L e)) (wn + 1) f1 f2 f3 f4
    rw [er] at q
    have q1 := q (fun z => absurd (show (0 : Int32) = 1 from z) (by decide)) (fun _ => rfl)
    have q2 : Q (some (.int 0)) (j_set (j_set (j_set (j_set (j_set h 1 (jO 5 [.ref 2, .int (nI L), .int (nI (x_ws by_ L e)), .int (nI (x_ne by_ L e)), .int (wn + 1)])) (dq + 1) (jI 2 f1)) (dq + 2) (jI 10 f2)) (dq + 3) (jI 10 f3)) (dq + 4) (jI 10 f4)) := q1
    rw [j_padE (j_hn (by omega) H1), j_padE (j_hn (by omega) H2), j_padE (j_hn (by omega) H3), j_padE (j_hn (by omega) H4)] at q2
    exact q2
  · intro mn0 mn1 mn2 mn3 mo0 mo1
    have n0 : ¬ x_is by_ f e [115, 104, 105, 112] := mn0
    have n1 : ¬ x_is by_ f e [103, 101, 97, 114] := mn1
    have n2 : ¬ x_is by_ f e [99, 111, 115, 116] := mn2
    have n3 : x_is by_ f e [114, 111, 108, 101] := mn3
    have o0 : x_ok by_ L e 9 := mo0
    have o1 : x_ok by_ L (x_ne by_ L e) 1000 := mo1
    have er : x_sen by_ L f e wn fs = (1, x_ne by_ L (x_ne by_ L e), wn + 1 + 1 + 1, va_up fs (12 + (x_v by_ L e).toNatClampNeg) (x_v by_ L (x_ne by_ L e))) := by
      unfold x_sen
      rw [x_if_f n0, x_if_f n1, x_if_f n2, x_if_t n3]
      unfold x_vl
      rw [x_if_t o0, x_if_t o1]
    have q := K (nI (x_ws by_ L (x_ne by_ L e))) (wn + 1 + 1) f1 f2 (va_up f3 ((x_v by_ L e).toNatClampNeg) (x_v by_ L (x_ne by_ L e))) f4
    rw [er] at q
    have q1 := q (fun _ => ⟨hx.v3 (x_lt10 he o0), rfl⟩) (fun z => absurd rfl z)
    have q2 : Q (some (.int 1)) (j_set (j_set (j_set (j_set (j_set h 1 (jO 5 [.ref 2, .int (nI L), .int (nI (x_ws by_ L (x_ne by_ L e))), .int (nI (x_ne by_ L (x_ne by_ L e))), .int (wn + 1 + 1)])) (dq + 1) (jI 2 f1)) (dq + 2) (jI 10 f2)) (dq + 3) (jI 10 (va_up f3 ((x_v by_ L e).toNatClampNeg) (x_v by_ L (x_ne by_ L e))))) (dq + 4) (jI 10 f4)) := q1
    rw [j_padE (j_hn (by omega) H1), j_padE (j_hn (by omega) H2), j_padE (j_hn (by omega) (j_hn (by omega) H4))] at q2
    exact q2
  · intro mn0 mn1 mn2 mn3 mo0 mo1
    have n0 : ¬ x_is by_ f e [115, 104, 105, 112] := mn0
    have n1 : ¬ x_is by_ f e [103, 101, 97, 114] := mn1
    have n2 : ¬ x_is by_ f e [99, 111, 115, 116] := mn2
    have n3 : x_is by_ f e [114, 111, 108, 101] := mn3
    have o0 : x_ok by_ L e 9 := mo0
    have o1 : ¬ x_ok by_ L (x_ne by_ L e) 1000 := mo1
    have er : x_sen by_ L f e wn fs = (0, x_ne by_ L (x_ne by_ L e), wn + 1 + 1, fs) := by
      unfold x_sen
      rw [x_if_f n0, x_if_f n1, x_if_f n2, x_if_t n3]
      unfold x_vl
      rw [x_if_t o0, x_if_f o1]
    have q := K (nI (x_ws by_ L (x_ne by_ L e))) (wn + 1 + 1) f1 f2 f3 f4
    rw [er] at q
    have q1 := q (fun z => absurd (show (0 : Int32) = 1 from z) (by decide)) (fun _ => rfl)
    have q2 : Q (some (.int 0)) (j_set (j_set (j_set (j_set (j_set h 1 (jO 5 [.ref 2, .int (nI L), .int (nI (x_ws by_ L (x_ne by_ L e))), .int (nI (x_ne by_ L (x_ne by_ L e))), .int (wn + 1 + 1)])) (dq + 1) (jI 2 f1)) (dq + 2) (jI 10 f2)) (dq + 3) (jI 10 f3)) (dq + 4) (jI 10 f4)) := q1
    rw [j_padE (j_hn (by omega) H1), j_padE (j_hn (by omega) H2), j_padE (j_hn (by omega) H3), j_padE (j_hn (by omega) H4)] at q2
    exact q2
  · intro mn0 mn1 mn2 mn3 mo0
    have n0 : ¬ x_is by_ f e [115, 104, 105, 112] := mn0
    have n1 : ¬ x_is by_ f e [103, 101, 97, 114] := mn1
    have n2 : ¬ x_is by_ f e [99, 111, 115, 116] := mn2
    have n3 : x_is by_ f e [114, 111, 108, 101] := mn3
    have o0 : ¬ x_ok by_ L e 9 := mo0
    have er : x_sen by_ L f e wn fs = (0, x_ne by_ L e, wn + 1, fs) := by
      unfold x_sen
      rw [x_if_f n0, x_if_f n1, x_if_f n2, x_if_t n3]
      unfold x_vl
      rw [x_if_f o0]
    have q := K (nI (x_ws by_ L e)) (wn + 1) f1 f2 f3 f4
    rw [er] at q
    have q1 := q (fun z => absurd (show (0 : Int32) = 1 from z) (by decide)) (fun _ => rfl)
    have q2 : Q (some (.int 0)) (j_set (j_set (j_set (j_set (j_set h 1 (jO 5 [.ref 2, .int (nI L), .int (nI (x_ws by_ L e)), .int (nI (x_ne by_ L e)), .int (wn + 1)])) (dq + 1) (jI 2 f1)) (dq + 2) (jI 10 f2)) (dq + 3) (jI 10 f3)) (dq + 4) (jI 10 f4)) := q1
    rw [j_padE (j_hn (by omega) H1), j_padE (j_hn (by omega) H2), j_padE (j_hn (by omega) H3), j_padE (j_hn (by omega) H4)] at q2
    exact q2
  · intro mn0 mn1 mn2 mn3 mn4 mo0 mo1
    have n0 : ¬ x_is by_ f e [115, 104, 105, 112] := mn0
    have n1 : ¬ x_is by_ f e [103, 101, 97, 114] := mn1
    have n2 : ¬ x_is by_ f e [99, 111, 115, 116] := mn2
    have n3 : ¬ x_is by_ f e [114, 111, 108, 101] := mn3
    have n4 : x_is by_ f e [108, 101, 97, 115, 116] := mn4
    have o0 : x_ok by_ L e 9 := mo0
    have o1 : x_ok by_ L (x_ne by_ L e) 999999 := mo1
    have er : x_sen by_ L f e wn fs = (1, x_ne by_ L (x_ne by_ L e), wn + 1 + 1 + 1, va_up fs (22 + (x_v by_ L e).toNatClampNeg) (x_v by_ L (x_ne by_ L e))) := by
      unfold x_sen
      rw [x_if_f n0, x_if_f n1, x_if_f n2, x_if_f n3, x_if_t n4]
      unfold x_vl
      rw [x_if_t o0, x_if_t o1]
    have q := K (nI (x_ws by_ L (x_ne by_ L e))) (wn + 1 + 1) f1 f2 f3 (va_up f4 ((x_v by_ L e).toNatClampNeg) (x_v by_ L (x_ne by_ L e)))
    rw [er] at q
    have q1 := q (fun _ => ⟨hx.v4 (x_lt10 he o0), rfl⟩) (fun z => absurd rfl z)
    have q2 : Q (some (.int 1)) (j_set (j_set (j_set (j_set (j_set h 1 (jO 5 [.ref 2, .int (nI L), .int (nI (x_ws by_ L (x_ne by_ L e))), .int (nI (x_ne by_ L (x_ne by_ L e))), .int (wn + 1 + 1)])) (dq + 1) (jI 2 f1)) (dq + 2) (jI 10 f2)) (dq + 3) (jI 10 f3)) (dq + 4) (jI 10 (va_up f4 ((x_v by_ L e).toNatClampNeg) (x_v by_ L (x_ne by_ L e))))) := q1
    rw [j_padE (j_hn (by omega) H1), j_padE (j_hn (by omega) H2), j_padE (j_hn (by omega) H3)] at q2
    exact q2
  · intro mn0 mn1 mn2 mn3 mn4 mo0 mo1
    have n0 : ¬ x_is by_ f e [115, 104, 105, 112] := mn0
    have n1 : ¬ x_is by_ f e [103, 101, 97, 114] := mn1
    have n2 : ¬ x_is by_ f e [99, 111, 115, 116] := mn2
    have n3 : ¬ x_is by_ f e [114, 111, 108, 101] := mn3
    have n4 : x_is by_ f e [108, 101, 97, 115, 116] := mn4
    have o0 : x_ok by_ L e 9 := mo0
    have o1 : ¬ x_ok by_ L (x_ne by_ L e) 999999 := mo1
    have er : x_sen by_ L f e wn fs = (0, x_ne by_ L (x_ne by_ L e), wn + 1 + 1, fs) := by
      unfold x_sen
      rw [x_if_f n0, x_if_f n1, x_if_f n2, x_if_f n3, x_if_t n4]
      unfold x_vl
      rw [x_if_t o0, x_if_f o1]
    have q := K (nI (x_ws by_ L (x_ne by_ L e))) (wn + 1 + 1) f1 f2 f3 f4
    rw [er] at q
    have q1 := q (fun z => absurd (show (0 : Int32) = 1 from z) (by decide)) (fun _ => rfl)
    have q2 : Q (some (.int 0)) (j_set (j_set (j_set (j_set (j_set h 1 (jO 5 [.ref 2, .int (nI L), .int (nI (x_ws by_ L (x_ne by_ L e))), .int (nI (x_ne by_ L (x_ne by_ L e))), .int (wn + 1 + 1)])) (dq + 1) (jI 2 f1)) (dq + 2) (jI 10 f2)) (dq + 3) (jI 10 f3)) (dq + 4) (jI 10 f4)) := q1
    rw [j_padE (j_hn (by omega) H1), j_padE (j_hn (by omega) H2), j_padE (j_hn (by omega) H3), j_padE (j_hn (by omega) H4)] at q2
    exact q2
  · intro mn0 mn1 mn2 mn3 mn4 mo0
    have n0 : ¬ x_is by_ f e [115, 104, 105, 112] := mn0
    have n1 : ¬ x_is by_ f e [103, 101, 97, 114] := mn1
    have n2 : ¬ x_is by_ f e [99, 111, 115, 116] := mn2
    have n3 : ¬ x_is by_ f e [114, 111, 108, 101] := mn3
    have n4 : x_is by_ f e [108, 101, 97, 115, 116] := mn4
    have o0 : ¬ x_ok by_ L e 9 := mo0
    have er : x_sen by_ L f e wn fs = (0, x_ne by_ L e, wn + 1, fs) := by
      unfold x_sen
      rw [x_if_f n0, x_if_f n1, x_if_f n2, x_if_f n3, x_if_t n4]
      unfold x_vl
      rw [x_if_f o0]
    have q := K (nI (x_ws by_ L e)) (wn + 1) f1 f2 f3 f4
    rw [er] at q
    have q1 := q (fun z => absurd (show (0 : Int32) = 1 from z) (by decide)) (fun _ => rfl)
    have q2 : Q (some (.int 0)) (j_set (j_set (j_set (j_set (j_set h 1 (jO 5 [.ref 2, .int (nI L), .int (nI (x_ws by_ L e)), .int (nI (x_ne by_ L e)), .int (wn + 1)])) (dq + 1) (jI 2 f1)) (dq + 2) (jI 10 f2)) (dq + 3) (jI 10 f3)) (dq + 4) (jI 10 f4)) := q1
    rw [j_padE (j_hn (by omega) H1), j_padE (j_hn (by omega) H2), j_padE (j_hn (by omega) H3), j_padE (j_hn (by omega) H4)] at q2
    exact q2
  · intro mn0 mn1 mn2 mn3 mn4
    have n0 : ¬ x_is by_ f e [115, 104, 105, 112] := mn0
    have n1 : ¬ x_is by_ f e [103, 101, 97, 114] := mn1
    have n2 : ¬ x_is by_ f e [99, 111, 115, 116] := mn2
    have n3 : ¬ x_is by_ f e [114, 111, 108, 101] := mn3
    have n4 : ¬ x_is by_ f e [108, 101, 97, 115, 116] := mn4
    have er : x_sen by_ L f e wn fs = (0, e, wn, fs) := by
      unfold x_sen
      rw [x_if_f n0, x_if_f n1, x_if_f n2, x_if_f n3, x_if_f n4]
    have q := K (nI f) (wn) f1 f2 f3 f4
    rw [er] at q
    have q1 := q (fun z => absurd (show (0 : Int32) = 1 from z) (by decide)) (fun _ => rfl)
    have q2 : Q (some (.int 0)) (j_set (j_set (j_set (j_set (j_set h 1 (jO 5 [.ref 2, .int (nI L), .int (nI f), .int (nI (e)), .int (wn)])) (dq + 1) (jI 2 f1)) (dq + 2) (jI 10 f2)) (dq + 3) (jI 10 f3)) (dq + 4) (jI 10 f4)) := q1
    rw [j_padE H5, j_padE H1, j_padE H2, j_padE H3, j_padE H4] at q2
    exact q2
