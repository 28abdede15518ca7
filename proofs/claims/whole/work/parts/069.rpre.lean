theorem iT_upC {h : jH} {T : Nat} {tb shp : Nat → Nat} {sa : Nat → Int64} {se : Nat → Int32} {cst : Nat → Nat → Int64} {dys : Nat → Nat → Int32} {prt : Nat → Nat → Int64} {shs : Nat → Nat → Nat → Int64} {nx E dr t : Nat} {eb : Nat → Nat} {f : Nat → Int64} (hD : iD nx T E dr tb eb) (ht : t < T) (hT : iT h T tb shp sa se cst dys prt shs) : iT (j_set h (tb t + 1) (jL 10 f)) T tb shp sa se (va_up cst t f) dys prt shs := by
  intro u hu
  obtain ⟨h0, h1, h2, h3, h4, h5, h6, h7, h8⟩ := hT u hu
  by_cases q : u = t
  · subst q
    rw [va_up_e]
    exact ⟨j_hn (by omega) h0, j_hs, j_hn (by omega) h2, j_hn (by omega) h3, j_hn (by omega) h4, j_hn (by omega) h5, j_hn (by omega) h6, j_hn (by omega) h7, j_hn (by omega) h8⟩
  · have z := hD.2.2.1 u t hu ht q
    rw [va_up_n _ _ q]
    exact ⟨j_hn (by omega) h0, j_hn (by omega) h1, j_hn (by omega) h2, j_hn (by omega) h3, j_hn (by omega) h4, j_hn (by omega) h5, j_hn (by omega) h6, j_hn (by omega) h7, j_hn (by omega) h8⟩
theorem iT_upD {h : jH} {T : Nat} {tb shp : Nat → Nat} {sa : Nat → Int64} {se : Nat → Int32} {cst : Nat → Nat → Int64} {dys : Nat → Nat → Int32} {prt : Nat → Nat → Int64} {shs : Nat → Nat → Nat → Int64} {nx E dr t : Nat} {eb : Nat → Nat} {f : Nat → Int32} (hD : iD nx T E dr tb eb) (ht : t < T) (hT : iT h T tb shp sa se cst dys prt shs) : iT (j_set h (tb t + 2) (jI 12 f)) T tb shp sa se cst (va_up dys t f) prt shs := by
  intro u hu
  obtain ⟨h0, h1, h2, h3, h4, h5, h6, h7, h8⟩ := hT u hu
  by_cases q : u = t
  · subst q
    rw [va_up_e]
    exact ⟨j_hn (by omega) h0, j_hn (by omega) h1, j_hs, j_hn (by omega) h3, j_hn (by omega) h4, j_hn (by omega) h5, j_hn (by omega) h6, j_hn (by omega) h7, j_hn (by omega) h8⟩
  · have z := hD.2.2.1 u t hu ht q
    rw [va_up_n _ _ q]
    exact ⟨j_hn (by omega) h0, j_hn (by omega) h1, j_hn (by omega) h2, j_hn (by omega) h3, j_hn (by omega) h4, j_hn (by omega) h5, j_hn (by omega) h6, j_hn (by omega) h7, j_hn (by omega) h8⟩
theorem iT_add {h : jH} {T : Nat} {tb shp : Nat → Nat} {sa : Nat → Int64} {se : Nat → Int32} {cst : Nat → Nat → Int64} {dys : Nat → Nat → Int32} {prt : Nat → Nat → Int64} {shs : Nat → Nat → Nat → Int64} {a sp : Nat} {v : Int64} (hT : iT h T tb shp sa se cst dys prt shs) (hz : se T = 0) (h0 : h.2 a = some (jO 6 [.int (nI sp), .long v, .ref (a + 1), .ref (a + 2), .ref (a + 3), .ref (a + 4), .int 0])) (h1 : h.2 (a + 1) = some (jL 10 (fun _ => 0))) (h2 : h.2 (a + 2) = some (jI 12 (fun _ => 0))) (h3 : h.2 (a + 3) = some (jL 6 (fun _ => 0))) (h4 : h.2 (a + 4) = some (jQ 6 4 (j_rows (a + 5)))) (h5 : h.2 (a + 5) = some (jL 12 (fun _ => 0))) (h6 : h.2 (a + 6) = some (jL 12 (fun _ => 0))) (h7 : h.2 (a + 7) = some (jL 12 (fun _ => 0))) (h8 : h.2 (a + 8) = some (jL 12 (fun _ => 0))) : iT h (T + 1) (va_up tb T a) (va_up shp T sp) (va_up sa T v) se (va_up cst T (fun _ => 0)) (va_up dys T (fun _ => 0)) (va_up prt T (fun _ => 0)) (va_up shs T (fun _ _ => 0)) := by
  intro u hu
  by_cases q : u = T
  · subst q
    simp only [va_up_e]
    rw [hz]
    exact ⟨h0, h1, h2, h3, h4, h5, h6, h7, h8⟩
  · rw [va_up_n _ _ q, va_up_n _ _ q, va_up_n _ _ q, va_up_n _ _ q, va_up_n _ _ q, va_up_n _ _ q, va_up_n _ _ q]
    exact hT u (by omega)
theorem n64_add {a b : Int64} (h0 : 0 ≤ a.toInt) (h1 : 0 ≤ b.toInt) (h2 : a.toInt + b.toInt < 9223372036854775808) : (a + b).toInt = a.toInt + b.toInt := by
  rw [Int64.toInt_add]
  exact Int.bmod_eq_of_le (by omega) (by omega)
theorem iS_cost {c : Nat} {P T : Nat} {ta : Nat → Option Nat} {tb shp : Nat → Nat} {sh se : Nat → Int32} {sa : Nat → Int64} {cst : Nat → Nat → Int64} {dys : Nat → Nat → Int32} {prt : Nat → Nat → Int64} {shs : Nat → Nat → Nat → Int64} {co : Nat → Int64} {dy : Nat → Int32} {pa ss lo : Nat → Int64} {t k : Nat} {v : Int64} (hc : c < 512) (h : iS c P T ta tb shp sh se sa cst dys prt shs co dy pa ss lo) (ht : t < T) (hk : k < 10) (hv : 1 ≤ v.toInt) (hv2 : v.toInt ≤ 1000000000) : iS (c + 1) P T ta tb shp sh se sa (va_up cst t (va_up (cst t) k (cst t k + v))) dys prt shs (va_up co (10 * t + k) (co (10 * t + k) + v)) dy pa ss lo := by
  refine ⟨fun u hu => ?_, fun u h1 h2 => ?_, fun s hs => ⟨(h.2.2 s hs).1, by have := (h.2.2 s hs).2; omega⟩⟩
  · obtain ⟨a1, a2, a3, a4, a5, a6, a7, a8, a9, b1⟩ := h.1 u hu
    refine ⟨a1, a2, a3, a4, a5, a6, fun i hi => ?_, a8, a9, b1⟩
    obtain ⟨e1, e2, e3⟩ := a7 i hi
    by_cases q : u = t
    · subst q
      by_cases q2 : i = k
      · subst q2
        rw [va_up_e, va_up_e, va_up_e, e1]
        have z := n64_add e2 (show 0 ≤ v.toInt by omega) (by omega)
        exact ⟨rfl, by omega, by omega⟩
      · rw [va_up_e, va_up_n _ _ q2, va_up_n _ _ (by omega)]
        exact ⟨e1, e2, by omega⟩
    · rw [va_up_n _ _ q, va_up_n _ _ (by omega)]
      exact ⟨e1, e2, by omega⟩
  · obtain ⟨a1, a2, a3, a4, a5⟩ := h.2.1 u h1 h2
    refine ⟨a1, fun i hi => ?_, a3, a4, a5⟩
    rw [va_up_n _ _ (by omega)]
    exact a2 i hi
theorem iS_days {c : Nat} {P T : Nat} {ta : Nat → Option Nat} {tb shp : Nat → Nat} {sh se : Nat → Int32} {sa : Nat → Int64} {cst : Nat → Nat → Int64} {dys : Nat → Nat → Int32} {prt : Nat → Nat → Int64} {shs : Nat → Nat → Nat → Int64} {co : Nat → Int64} {dy : Nat → Int32} {pa ss lo : Nat → Int64} {t p d : Nat} {n0 : Int32} (h : iS c P T ta tb shp sh se sa cst dys prt shs co dy pa ss lo) (ht : t < T) (hp : p < P) (hP : P ≤ 12) (hd : d ≤ 400) (hn : n0 = nI d) : iS (c + 1) P T ta tb shp sh se sa cst (va_up dys t (va_up (dys t) p n0)) prt shs co (va_up dy (12 * t + p) n0) pa ss lo := by
  have h := iS_up h
  refine ⟨fun u hu => ?_, fun u h1 h2 => ?_, h.2.2⟩
  · obtain ⟨a1, a2, a3, a4, a5, a6, a7, a8, a9, b1⟩ := h.1 u hu
    refine ⟨a1, a2, a3, a4, a5, a6, a7, fun i hi => ?_, a9, b1⟩
    obtain ⟨e1, e2⟩ := a8 i hi
    by_cases q : u = t
    · subst q
      by_cases q2 : i = p
      · subst q2
        rw [va_up_e, va_up_e, va_up_e]
        exact ⟨rfl, d, hd, hn, fun z => by omega⟩
      · rw [va_up_e, va_up_n _ _ q2, va_up_n _ _ (by omega)]
        exact ⟨e1, e2⟩
    · rw [va_up_n _ _ q, va_up_n _ _ (by omega)]
      exact ⟨e1, e2⟩
  · obtain ⟨a1, a2, a3, a4, a5⟩ := h.2.1 u h1 h2
    refine ⟨a1, a2, fun i hi => ?_, a4, a5⟩
    rw [va_up_n _ _ (by omega)]
    exact a3 i hi
theorem iS_trip {c : Nat} {P T : Nat} {ta : Nat → Option Nat} {tb shp : Nat → Nat} {sh se : Nat → Int32} {sa : Nat → Int64} {cst : Nat → Nat → Int64} {dys : Nat → Nat → Int32} {prt : Nat → Nat → Int64} {shs : Nat → Nat → Nat → Int64} {co : Nat → Int64} {dy : Nat → Int32} {pa ss lo : Nat → Int64} {nx sp : Nat} {v : Int64} (h : iS c P T ta tb shp sh se sa cst dys prt shs co dy pa ss lo) (hT : T < 20) (hs : sp < 4) (hv : 0 ≤ v.toInt) (hv2 : v.toInt ≤ 1000000000000) : iS (c + 1) P (T + 1) (va_up ta T (some nx)) (va_up tb T nx) (va_up shp T sp) (va_up sh T (nI sp)) se (va_up sa T v) (va_up cst T (fun _ => 0)) (va_up dys T (fun _ => 0)) (va_up prt T (fun _ => 0)) (va_up shs T (fun _ _ => 0)) co dy pa ss lo := by
  have h := iS_up h
  refine ⟨fun u hu => ?_, fun u h1 h2 => h.2.1 u (by omega) h2, h.2.2⟩
  by_cases q : u = T
  · subst q
    obtain ⟨a1, a2, a3, a4, a5⟩ := h.2.1 u (Nat.le_refl u) hT
    simp only [va_up_e]
    refine ⟨trivial, hs, trivial, Or.inl a1, hv, hv2, fun i hi => ?_, fun i hi => ?_, fun i hi => (a4 i hi).symm, fun i w hi hw => (a5 i w hi hw).symm⟩
    · rw [a2 i hi]
      exact ⟨rfl, by decide, by rw [n64_0]; omega⟩
    · rw [a3 i hi]
      exact ⟨rfl, 0, by omega, rfl, fun _ => rfl⟩
  · rw [va_up_n _ _ q, va_up_n _ _ q, va_up_n _ _ q, va_up_n _ _ q, va_up_n _ _ q, va_up_n _ _ q, va_up_n _ _ q, va_up_n _ _ q, va_up_n _ _ q]
    exact h.1 u (by omega)
