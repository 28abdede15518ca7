def iM (h : jH) (L P T E C : Nat) (op at_ fr wd : Int32) (tx rs fs : Nat → Int32) (lo : Nat → Int64) (ro : Nat → Int32) (ad : Nat → Int64) (sh : Nat → Int32) (sa co : Nat → Int64) (dy se : Nat → Int32) (pa ss w1 w2 w3 : Nat → Int64) (ey er tk tn ac : Nat → Int32) (am : Nat → Int64) : Prop :=
  h.2 27 = some (mO (nI L) at_ fr wd (nI P) (nI T) (nI E) op (nI C)) ∧ h.2 28 = some (jI 600 tx) ∧ h.2 29 = some (jI 34 rs) ∧ h.2 30 = some (jI 34 fs) ∧ h.2 31 = some (jL 4 lo) ∧ h.2 32 = some (jI 12 ro) ∧ h.2 33 = some (jL 12 ad) ∧ h.2 34 = some (jI 20 sh) ∧ h.2 35 = some (jL 20 sa) ∧ h.2 36 = some (jL 200 co) ∧ h.2 37 = some (jI 240 dy) ∧ h.2 38 = some (jZ 20 se) ∧ h.2 39 = some (jL 120 pa) ∧ h.2 40 = some (jL 960 ss) ∧ h.2 41 = some (jL 12 w1) ∧ h.2 42 = some (jL 12 w2) ∧ h.2 43 = some (jL 12 w3) ∧ h.2 44 = some (jI 61 ey) ∧ h.2 45 = some (jI 61 er) ∧ h.2 46 = some (jI 61 tk) ∧ h.2 47 = some (jI 61 tn) ∧ h.2 48 = some (jI 488 ac) ∧ h.2 49 = some (jL 488 am)

def iX (h : jH) (L P T E C n ru dq dr : Nat) (op ws we wn : Int32) (tx ro : Nat → Int32) (ad lo : Nat → Int64) (ta : Nat → Option Nat) (pw ps cu : Nat → Int64) (ea : Nat → Option Nat) : Prop :=
  h.2 0 = some (jO 7 [.ref 1, .ref 3, .ref 6, .ref 7, .ref 8, .ref 12, .ref ru, .ref dq, .int (nI T)]) ∧ h.2 1 = some (jO 5 [.ref 2, .int (nI L), .int ws, .int we, .int wn]) ∧ h.2 2 = some (jC 600 tx) ∧ h.2 3 = some (jO 1 [.ref 4, .ref 5, .int (nI P)]) ∧ h.2 4 = some (jI 12 ro) ∧ h.2 5 = some (jL 12 ad) ∧ h.2 6 = some (jL 4 lo) ∧ h.2 7 = some (jQ 4 20 ta) ∧ h.2 8 = some (jO 3 [.ref 9, .ref 10, .ref 11, .int (nI n)]) ∧ h.2 9 = some (jL 12 pw) ∧ h.2 10 = some (jL 12 ps) ∧ h.2 11 = some (jL 12 cu) ∧ h.2 12 = some (jO 0 [.ref 13, .int (nI E), .ref dr, .int op, .int (nI C)]) ∧ h.2 13 = some (jQ 5 60 ea)

def iW (h : jH) (R dr : Nat) (dd : Int32) (da : Nat → Int32) (dm : Nat → Int64) : Prop :=
  h.2 dr = some (jO 2 [.ref (dr + 1), .ref (dr + 2), .int (nI R), .int dd, .int 0, .int 0]) ∧ h.2 (dr + 1) = some (jI 8 da) ∧ h.2 (dr + 2) = some (jL 8 dm)

def iY (h : jH) (ru dq : Nat) (f1 f2 f3 f4 g1 g2 g3 g4 : Nat → Int32) : Prop :=
  h.2 ru = some (jO 4 [.ref (ru + 1), .ref (ru + 2), .ref (ru + 3), .ref (ru + 4)]) ∧ h.2 (ru + 1) = some (jI 2 f1) ∧ h.2 (ru + 2) = some (jI 10 f2) ∧ h.2 (ru + 3) = some (jI 10 f3) ∧ h.2 (ru + 4) = some (jI 10 f4) ∧ h.2 dq = some (jO 4 [.ref (dq + 1), .ref (dq + 2), .ref (dq + 3), .ref (dq + 4)]) ∧ h.2 (dq + 1) = some (jI 2 g1) ∧ h.2 (dq + 2) = some (jI 10 g2) ∧ h.2 (dq + 3) = some (jI 10 g3) ∧ h.2 (dq + 4) = some (jI 10 g4)

def iT (h : jH) (T : Nat) (tb shp : Nat → Nat) (sa : Nat → Int64) (se : Nat → Int32) (cst : Nat → Nat → Int64) (dys : Nat → Nat → Int32) (prt : Nat → Nat → Int64) (shs : Nat → Nat → Nat → Int64) : Prop :=
  ∀ t, t < T → h.2 (tb t) = some (jO 6 [.int (nI (shp t)), .long (sa t), .ref (tb t + 1), .ref (tb t + 2), .ref (tb t + 3), .ref (tb t + 4), .int (se t)]) ∧ h.2 (tb t + 1) = some (jL 10 (cst t)) ∧ h.2 (tb t + 2) = some (jI 12 (dys t)) ∧ h.2 (tb t + 3) = some (jL 6 (prt t)) ∧ h.2 (tb t + 4) = some (jQ 6 4 (j_rows (tb t + 5))) ∧ h.2 (tb t + 5) = some (jL 12 (shs t 0)) ∧ h.2 (tb t + 6) = some (jL 12 (shs t 1)) ∧ h.2 (tb t + 7) = some (jL 12 (shs t 2)) ∧ h.2 (tb t + 8) = some (jL 12 (shs t 3))

def iE (h : jH) (E : Nat) (eb rr : Nat → Nat) (ey tk tn : Nat → Int32) (eac : Nat → Nat → Int32) (eam : Nat → Nat → Int64) : Prop :=
  ∀ e, e < E → h.2 (eb e) = some (jO 2 [.ref (eb e + 1), .ref (eb e + 2), .int (nI (rr e)), .int (ey (e + 1)), .int (tk (e + 1)), .int (tn (e + 1))]) ∧ h.2 (eb e + 1) = some (jI 8 (eac e)) ∧ h.2 (eb e + 2) = some (jL 8 (eam e))

def iD (nx : Nat) (T E dr : Nat) (tb eb : Nat → Nat) : Prop :=
  50 ≤ nx ∧ (∀ t, t < T → 50 ≤ tb t ∧ tb t + 9 ≤ nx) ∧ (∀ t u, t < T → u < T → t ≠ u → tb t + 9 ≤ tb u ∨ tb u + 9 ≤ tb t) ∧ (∀ e, e < E → (eb e = 14 ∨ 50 ≤ eb e) ∧ eb e + 3 ≤ nx) ∧ (∀ e f, e < E → f < E → e ≠ f → eb e + 3 ≤ eb f ∨ eb f + 3 ≤ eb e) ∧ (∀ e t, e < E → t < T → eb e + 3 ≤ tb t ∨ tb t + 9 ≤ eb e) ∧ (dr = 14 ∨ 50 ≤ dr) ∧ dr + 3 ≤ nx ∧ (∀ e, e < E → eb e + 3 ≤ dr ∨ dr + 3 ≤ eb e) ∧ ∀ t, t < T → dr + 3 ≤ tb t ∨ tb t + 9 ≤ dr

def iN (L P T E C R R0 n ru dq : Nat) (op : Int32) : Prop :=
  L ≤ 600 ∧ P ≤ 12 ∧ T ≤ 20 ∧ E ≤ 60 ∧ C ≤ 120 ∧ R ≤ 8 ∧ R0 ≤ 8 ∧ n ≤ 12 ∧ ((ru = 17 ∧ dq = 22) ∨ (ru = 22 ∧ dq = 17)) ∧ (op = 0 ∨ op = 1)

/-- bounds of what a text says -/
def xB (rs : Nat → Int32) : Prop := (∃ a b : Nat, rs 0 = nI a ∧ rs 1 = nI b ∧ a + b ≤ 100) ∧ (∀ k, k < 10 → ∃ w : Nat, w ≤ 1000 ∧ rs (12 + k) = nI w) ∧ ∀ k, k < 10 → ∃ w : Nat, w ≤ 999999 ∧ rs (22 + k) = nI w

def iU (P : Nat) (rs f1 f2 f3 f4 ro : Nat → Int32) (rn : Nat → Nat) : Prop :=
  xR rs f1 f2 f3 f4 ∧ xB rs ∧ ∀ p, p < P → ro p = nI (rn p) ∧ rn p < 10

def iS (c : Nat) (P T : Nat) (ta : Nat → Option Nat) (tb shp : Nat → Nat) (sh se : Nat → Int32) (sa : Nat → Int64) (cst : Nat → Nat → Int64) (dys : Nat → Nat → Int32) (prt : Nat → Nat → Int64) (shs : Nat → Nat → Nat → Int64) (co : Nat → Int64) (dy : Nat → Int32) (pa ss lo : Nat → Int64) : Prop :=
  (∀ t, t < T → ta t = some (tb t) ∧ shp t < 4 ∧ sh t = nI (shp t) ∧ (se t = 0 ∨ se t = 1) ∧ 0 ≤ (sa t).toInt ∧ (sa t).toInt ≤ 1000000000000 ∧ (∀ k, k < 10 → cst t k = co (10 * t + k) ∧ 0 ≤ (co (10 * t + k)).toInt ∧ (co (10 * t + k)).toInt ≤ c * 1000000000) ∧ (∀ p, p < 12 → dys t p = dy (12 * t + p) ∧ ∃ d : Nat, d ≤ 400 ∧ dy (12 * t + p) = nI d ∧ (P ≤ p → d = 0)) ∧ (∀ k, k < 6 → prt t k = pa (6 * t + k)) ∧ ∀ p w, p < 12 → w < 4 → shs t w p = ss (48 * t + 4 * p + w)) ∧ (∀ t, T ≤ t → t < 20 → se t = 0 ∧ (∀ k, k < 10 → co (10 * t + k) = 0) ∧ (∀ p, p < 12 → dy (12 * t + p) = 0) ∧ (∀ k, k < 6 → pa (6 * t + k) = 0) ∧ ∀ p w, p < 12 → w < 4 → ss (48 * t + 4 * p + w) = 0) ∧ ∀ s, s < 4 → 0 ≤ (lo s).toInt ∧ (lo s).toInt ≤ c * 10000000000000

def iB (E R R0 : Nat) (op dd : Int32) (ea : Nat → Option Nat) (eb rr : Nat → Nat) (ey er tk tn : Nat → Int32) (eac : Nat → Nat → Int32) (eam : Nat → Nat → Int64) (ac : Nat → Int32) (am : Nat → Int64) (da : Nat → Int32) (dm : Nat → Int64) : Prop :=
  (∀ e, e < E → ea e = some (eb e) ∧ er (e + 1) = nI (rr e) ∧ rr e ≤ 8 ∧ 0 ≤ tk (e + 1) ∧ 0 ≤ tn (e + 1) ∧ ∀ k, k < rr e → eac e k = ac (8 * (e + 1) + k) ∧ eam e k = am (8 * (e + 1) + k)) ∧ er 0 = nI R0 ∧ (¬ op = 0 → R = R0 ∧ dd = ey 0 ∧ ∀ k, k < R → da k = ac k ∧ dm k = am k)

def iV (c : Nat) (h : jH) : Prop :=
  ∀ X : Prop, (∀ (L P T E C R R0 n ru dq dr : Nat) (op at_ fr wd ws we wn dd : Int32) (tx rs fs ro sh dy se ey er tk tn ac f1 f2 f3 f4 g1 g2 g3 g4 da : Nat → Int32) (lo ad sa co pa ss w1 w2 w3 am pw ps cu dm : Nat → Int64) (ta ea : Nat → Option Nat) (shp tb eb rr rn : Nat → Nat) (cst prt eam : Nat → Nat → Int64) (dys eac : Nat → Nat → Int32) (shs : Nat → Nat → Nat → Int64), iM h L P T E C op at_ fr wd tx rs fs lo ro ad sh sa co dy se pa ss w1 w2 w3 ey er tk tn ac am → iX h L P T E C n ru dq dr op ws we wn tx ro ad lo ta pw ps cu ea → iW h R dr dd da dm → iY h ru dq f1 f2 f3 f4 g1 g2 g3 g4 → iT h T tb shp sa se cst dys prt shs → iE h E eb rr ey tk tn eac eam → iD h.1 T E dr tb eb → iN  L P T E C R R0 n ru dq op → iU  P rs f1 f2 f3 f4 ro rn → iS c P T ta tb shp sh se sa cst dys prt shs co dy pa ss lo → iB  E R R0 op dd ea eb rr ey er tk tn eac eam ac am da dm → X) → X

theorem iT_set {h : jH} {T : Nat} {tb shp : Nat → Nat} {sa : Nat → Int64} {se : Nat → Int32} {cst : Nat → Nat → Int64} {dys : Nat → Nat → Int32} {prt : Nat → Nat → Int64} {shs : Nat → Nat → Nat → Int64} {a : Nat} {e : jE} (hT : iT h T tb shp sa se cst dys prt shs) (ha : ∀ t, t < T → a < tb t ∨ tb t + 9 ≤ a) : iT (j_set h a e) T tb shp sa se cst dys prt shs := by
  intro t ht
  have q := ha t ht
  obtain ⟨h0, h1, h2, h3, h4, h5, h6, h7, h8⟩ := hT t ht
  exact ⟨j_hn (by omega) h0, j_hn (by omega) h1, j_hn (by omega) h2, j_hn (by omega) h3, j_hn (by omega) h4, j_hn (by omega) h5, j_hn (by omega) h6, j_hn (by omega) h7, j_hn (by omega) h8⟩
theorem iE_set {h : jH} {E : Nat} {eb rr : Nat → Nat} {ey tk tn : Nat → Int32} {eac : Nat → Nat → Int32} {eam : Nat → Nat → Int64} {a : Nat} {x : jE} (hE : iE h E eb rr ey tk tn eac eam) (ha : ∀ e, e < E → a < eb e ∨ eb e + 3 ≤ a) : iE (j_set h a x) E eb rr ey tk tn eac eam := by
  intro e he
  have q := ha e he
  obtain ⟨h0, h1, h2⟩ := hE e he
  exact ⟨j_hn (by omega) h0, j_hn (by omega) h1, j_hn (by omega) h2⟩

theorem iW_set {h : jH} {R dr : Nat} {dd : Int32} {da : Nat → Int32} {dm : Nat → Int64} {a : Nat} {e : jE} (hW : iW h R dr dd da dm) (ha : a < dr ∨ dr + 3 ≤ a) : iW (j_set h a e) R dr dd da dm := by
  obtain ⟨h0, h1, h2⟩ := hW
  exact ⟨j_hn (by omega) h0, j_hn (by omega) h1, j_hn (by omega) h2⟩
theorem iY_set {h : jH} {ru dq : Nat} {f1 f2 f3 f4 g1 g2 g3 g4 : Nat → Int32} {a : Nat} {e : jE} (hY : iY h ru dq f1 f2 f3 f4 g1 g2 g3 g4) (hr : (ru = 17 ∧ dq = 22) ∨ (ru = 22 ∧ dq = 17)) (ha : a < 17 ∨ 27 ≤ a) : iY (j_set h a e) ru dq f1 f2 f3 f4 g1 g2 g3 g4 := by
  obtain ⟨h0, h1, h2, h3, h4, k0, k1, k2, k3, k4⟩ := hY
  exact ⟨j_hn (by omega) h0, j_hn (by omega) h1, j_hn (by omega) h2, j_hn (by omega) h3, j_hn (by omega) h4, j_hn (by omega) k0, j_hn (by omega) k1, j_hn (by omega) k2, j_hn (by omega) k3, j_hn (by omega) k4⟩
theorem iT_lo {h : jH} {nx : Nat} {T : Nat} {tb shp : Nat → Nat} {sa : Nat → Int64} {se : Nat → Int32} {cst : Nat → Nat → Int64} {dys : Nat → Nat → Int32} {prt : Nat → Nat → Int64} {shs : Nat → Nat → Nat → Int64} {E dr : Nat} {eb : Nat → Nat} {a : Nat} {e : jE} (hD : iD nx T E dr tb eb) (ha : a < 50) (hT : iT h T tb shp sa se cst dys prt shs) : iT (j_set h a e) T tb shp sa se cst dys prt shs :=
  iT_set hT (fun t ht => Or.inl (Nat.lt_of_lt_of_le ha (hD.2.1 t ht).1))
theorem iE_lo {h : jH} {nx : Nat} {E : Nat} {eb rr : Nat → Nat} {ey tk tn : Nat → Int32} {eac : Nat → Nat → Int32} {eam : Nat → Nat → Int64} {T dr : Nat} {tb : Nat → Nat} {a : Nat} {x : jE} (hD : iD nx T E dr tb eb) (ha : a < 14 ∨ (17 ≤ a ∧ a < 50)) (hE : iE h E eb rr ey tk tn eac eam) : iE (j_set h a x) E eb rr ey tk tn eac eam :=
  iE_set hE (fun e he => by have q := (hD.2.2.2.1 e he).1; omega)
theorem iW_lo {h : jH} {nx T E : Nat} {tb eb : Nat → Nat} {R dr : Nat} {dd : Int32} {da : Nat → Int32} {dm : Nat → Int64} {a : Nat} {e : jE} (hD : iD nx T E dr tb eb) (ha : a < 14 ∨ (17 ≤ a ∧ a < 50)) (hW : iW h R dr dd da dm) : iW (j_set h a e) R dr dd da dm :=
  iW_set hW (by have q := hD.2.2.2.2.2.2.1; omega)
