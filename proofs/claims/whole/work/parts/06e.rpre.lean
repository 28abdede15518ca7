/-- the trips but one -/
def iTo (h : jH) (t : Nat) (T : Nat) (tb shp : Nat → Nat) (sa : Nat → Int64) (se : Nat → Int32) (cst : Nat → Nat → Int64) (dys : Nat → Nat → Int32) (prt : Nat → Nat → Int64) (shs : Nat → Nat → Nat → Int64) : Prop := ∀ u, u < T → u ≠ t → h.2 (tb u) = some (jO 6 [.int (nI (shp u)), .long (sa u), .ref (tb u + 1), .ref (tb u + 2), .ref (tb u + 3), .ref (tb u + 4), .int (se u)]) ∧ h.2 (tb u + 1) = some (jL 10 (cst u)) ∧ h.2 (tb u + 2) = some (jI 12 (dys u)) ∧ h.2 (tb u + 3) = some (jL 6 (prt u)) ∧ h.2 (tb u + 4) = some (jQ 6 4 (j_rows (tb u + 5))) ∧ h.2 (tb u + 5) = some (jL 12 (shs u 0)) ∧ h.2 (tb u + 6) = some (jL 12 (shs u 1)) ∧ h.2 (tb u + 7) = some (jL 12 (shs u 2)) ∧ h.2 (tb u + 8) = some (jL 12 (shs u 3))
theorem iTo_of {h : jH} {t : Nat} {T : Nat} {tb shp : Nat → Nat} {sa : Nat → Int64} {se : Nat → Int32} {cst : Nat → Nat → Int64} {dys : Nat → Nat → Int32} {prt : Nat → Nat → Int64} {shs : Nat → Nat → Nat → Int64} (hT : iT h T tb shp sa se cst dys prt shs) : iTo h t T tb shp sa se cst dys prt shs := fun u hu _ => hT u hu
theorem iTo_set {h : jH} {t : Nat} {T : Nat} {tb shp : Nat → Nat} {sa : Nat → Int64} {se : Nat → Int32} {cst : Nat → Nat → Int64} {dys : Nat → Nat → Int32} {prt : Nat → Nat → Int64} {shs : Nat → Nat → Nat → Int64} {a : Nat} {e : jE} (ha : ∀ u, u < T → u ≠ t → a < tb u ∨ tb u + 9 ≤ a) (hT : iTo h t T tb shp sa se cst dys prt shs) : iTo (j_set h a e) t T tb shp sa se cst dys prt shs := by
  intro u hu hn
  have q := ha u hu hn
  obtain ⟨h0, h1, h2, h3, h4, h5, h6, h7, h8⟩ := hT u hu hn
  exact ⟨j_hn (by omega) h0, j_hn (by omega) h1, j_hn (by omega) h2, j_hn (by omega) h3, j_hn (by omega) h4, j_hn (by omega) h5, j_hn (by omega) h6, j_hn (by omega) h7, j_hn (by omega) h8⟩
theorem iTo_lo {h : jH} {t nx : Nat} {T : Nat} {tb shp : Nat → Nat} {sa : Nat → Int64} {se : Nat → Int32} {cst : Nat → Nat → Int64} {dys : Nat → Nat → Int32} {prt : Nat → Nat → Int64} {shs : Nat → Nat → Nat → Int64} {E dr : Nat} {eb : Nat → Nat} {a : Nat} {e : jE} (hD : iD nx T E dr tb eb) (ha : a < 50) (hT : iTo h t T tb shp sa se cst dys prt shs) : iTo (j_set h a e) t T tb shp sa se cst dys prt shs :=
  iTo_set (fun u hu _ => Or.inl (Nat.lt_of_lt_of_le ha (hD.2.1 u hu).1)) hT
theorem iTo_in {h : jH} {t nx : Nat} {T : Nat} {tb shp : Nat → Nat} {sa : Nat → Int64} {se : Nat → Int32} {cst : Nat → Nat → Int64} {dys : Nat → Nat → Int32} {prt : Nat → Nat → Int64} {shs : Nat → Nat → Nat → Int64} {E dr : Nat} {eb : Nat → Nat} {a : Nat} {e : jE} (hD : iD nx T E dr tb eb) (ht : t < T) (ha : tb t ≤ a ∧ a < tb t + 9) (hT : iTo h t T tb shp sa se cst dys prt shs) : iTo (j_set h a e) t T tb shp sa se cst dys prt shs :=
  iTo_set (fun u hu hn => by have q := hD.2.2.1 u t hu ht hn; omega) hT
theorem iT_mk {h : jH} {t : Nat} {T : Nat} {tb shp : Nat → Nat} {sa : Nat → Int64} {se : Nat → Int32} {cst : Nat → Nat → Int64} {dys : Nat → Nat → Int32} {prt : Nat → Nat → Int64} {shs : Nat → Nat → Nat → Int64} {x : Int32} {p r0 r1 r2 r3 : Nat → Int64} (hT : iTo h t T tb shp sa se cst dys prt shs) (h0 : h.2 (tb t) = some (jO 6 [.int (nI (shp t)), .long (sa t), .ref (tb t + 1), .ref (tb t + 2), .ref (tb t + 3), .ref (tb t + 4), .int x])) (h1 : h.2 (tb t + 1) = some (jL 10 (cst t))) (h2 : h.2 (tb t + 2) = some (jI 12 (dys t))) (h3 : h.2 (tb t + 3) = some (jL 6 p)) (h4 : h.2 (tb t + 4) = some (jQ 6 4 (j_rows (tb t + 5)))) (h5 : h.2 (tb t + 5) = some (jL 12 r0)) (h6 : h.2 (tb t + 6) = some (jL 12 r1)) (h7 : h.2 (tb t + 7) = some (jL 12 r2)) (h8 : h.2 (tb t + 8) = some (jL 12 r3)) : iT h T tb shp sa (va_up se t x) cst dys (va_up prt t p) (va_up shs t (o_4 r0 r1 r2 r3)) := by
  intro u hu
  by_cases q : u = t
  · subst q
    rw [va_up_e, va_up_e, va_up_e]
    exact ⟨h0, h1, h2, h3, h4, h5, h6, h7, h8⟩
  · rw [va_up_n _ _ q, va_up_n _ _ q, va_up_n _ _ q]
    exact hT u hu q
theorem iS_settle {c : Nat} {P T : Nat} {ta : Nat → Option Nat} {tb shp : Nat → Nat} {sh se : Nat → Int32} {sa : Nat → Int64} {cst : Nat → Nat → Int64} {dys : Nat → Nat → Int32} {prt : Nat → Nat → Int64} {shs : Nat → Nat → Nat → Int64} {co : Nat → Int64} {dy : Nat → Int32} {pa ss lo : Nat → Int64} {t : Nat} {p r0 r1 r2 r3 pa' ss' lo' : Nat → Int64} (h : iS c P T ta tb shp sh se sa cst dys prt shs co dy pa ss lo) (ht : t < T) (hp : ∀ k, k < 6 → p k = pa' (6 * t + k)) (hpo : ∀ j, (j < 6 * t ∨ 6 * t + 6 ≤ j) → pa' j = pa j) (hr : ∀ q w, q < 12 → w < 4 → o_4 r0 r1 r2 r3 w q = ss' (48 * t + 4 * q + w)) (hso : ∀ j, (j < 48 * t ∨ 48 * t + 48 ≤ j) → ss' j = ss j) (hlo : ∀ s, s < 4 → 0 ≤ (lo' s).toInt ∧ (lo' s).toInt ≤ ((c + 1 : Nat) : Int) * 10000000000000) : iS (c + 1) P T ta tb shp sh (va_up se t 1) sa cst dys (va_up prt t p) (va_up shs t (o_4 r0 r1 r2 r3)) co dy pa' ss' lo' := by
  have h := iS_up h
  refine ⟨fun u hu => ?_, fun u h1 h2 => ?_, hlo⟩
  · obtain ⟨a1, a2, a3, a4, a5, a6, a7, a8, a9, b1⟩ := h.1 u hu
    by_cases q : u = t
    · subst q
      rw [va_up_e, va_up_e, va_up_e]
      exact ⟨a1, a2, a3, Or.inr rfl, a5, a6, a7, a8, hp, hr⟩
    · rw [va_up_n _ _ q, va_up_n _ _ q, va_up_n _ _ q]
      refine ⟨a1, a2, a3, a4, a5, a6, a7, a8, fun k hk => ?_, fun i w hi hw => ?_⟩
      · rw [hpo _ (by omega)]; exact a9 k hk
      · rw [hso _ (by omega)]; exact b1 i w hi hw
  · obtain ⟨a1, a2, a3, a4, a5⟩ := h.2.1 u h1 h2
    refine ⟨(va_up_n _ _ (by omega)).trans a1, a2, a3, fun k hk => ?_, fun i w hi hw => ?_⟩
    · rw [hpo _ (by omega)]; exact a4 k hk
    · rw [hso _ (by omega)]; exact a5 i w hi hw

theorem iD_s {h : jH} {k : Nat} {e : jE} {T E dr : Nat} {tb eb : Nat → Nat} (hD : iD h.1 T E dr tb eb) : iD (j_set h k e).1 T E dr tb eb := hD

theorem n_lk {a b k : Nat} (h : a < 50) (hb : 50 ≤ b) : a ≠ b + k := by omega
theorem n_l0 {a b : Nat} (h : a < 50) (hb : 50 ≤ b) : a ≠ b := by omega
theorem n_kl {a b k : Nat} (h : a < 50) (hb : 50 ≤ b) : b + k ≠ a := by omega
theorem n_0l {a b : Nat} (h : a < 50) (hb : 50 ≤ b) : b ≠ a := by omega
theorem n_kk {b i j : Nat} (h : i ≠ j) : b + i ≠ b + j := by omega
theorem n_0k {b j : Nat} (h : 0 < j) : b ≠ b + j := by omega
theorem n_k0 {b j : Nat} (h : 0 < j) : b + j ≠ b := by omega
