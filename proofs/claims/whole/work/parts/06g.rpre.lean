theorem x_if_c {α : Type} {c : Prop} {A B : α} {P : α → Prop} (h1 : c → P A) (h2 : ¬ c → P B) : P (x_if c A B) := by
  by_cases q : c
  · rw [x_if_t q]; exact h1 q
  · rw [x_if_f q]; exact h2 q
theorem x_pc_B {tx : Nat → Int32} {L e : Nat} {w : Int32} {fs : Nat → Int32} {p o : Nat} (he : e ≤ L) (hpo : (p = 0 ∧ o = 1) ∨ (p = 1 ∧ o = 0)) (h : xB fs) : xB (x_pc tx L e w fs p o).2.2.2 := by
  unfold x_pc
  refine x_if_c (P := fun r : x_T => xB r.2.2.2) (fun _ => h) (fun _ => x_if_c (P := fun r : x_T => xB r.2.2.2) (fun hok => ?_) (fun _ => h))
  obtain ⟨v, hv, ev⟩ := x_v_nat he hok
  have hle := hok.2.2.2
  obtain ⟨⟨a, b, ha, hb, hab⟩, h2, h3⟩ := h
  show xB (va_up (va_up fs p (x_v tx L e)) (32 + p) 1)
  rw [ev] at hle ⊢
  have e100 : (100 : Int32) = nI 100 := rfl
  refine ⟨?_, fun k hk => ?_, fun k hk => ?_⟩
  · rcases hpo with ⟨rfl, rfl⟩ | ⟨rfl, rfl⟩
    · rw [hb, e100, pk_sub (by omega)] at hle
      have := (nI_leI (by omega) (by omega)).mp hle
      exact ⟨v, b, rfl, hb, by omega⟩
    · rw [ha, e100, pk_sub (by omega)] at hle
      have := (nI_leI (by omega) (by omega)).mp hle
      exact ⟨a, v, ha, rfl, by omega⟩
  · rw [va_up_n _ _ (by omega), va_up_n _ _ (by omega)]; exact h2 k hk
  · rw [va_up_n _ _ (by omega), va_up_n _ _ (by omega)]; exact h3 k hk
theorem x_vl_B {tx : Nat → Int32} {L e : Nat} {w : Int32} {fs : Nat → Int32} {b : Nat} {m : Int32} (he : e ≤ L) (hb : b = 2 ∨ (b = 12 ∧ m = 1000) ∨ (b = 22 ∧ m = 999999)) (h : xB fs) : xB (x_vl tx L e w fs b m).2.2.2 := by
  unfold x_vl
  refine x_if_c (P := fun r : x_T => xB r.2.2.2) (fun h9 => x_if_c (P := fun r : x_T => xB r.2.2.2) (fun hok => ?_) (fun _ => h)) (fun _ => h)
  obtain ⟨i, hi, ei⟩ := x_v_nat he h9
  obtain ⟨v, hv, ev⟩ := x_v_nat (x_ne_le tx he) hok
  have hle := hok.2.2.2
  have hle9 := h9.2.2.2
  obtain ⟨h1, h2, h3⟩ := h
  show xB (va_up fs (b + (x_v tx L e).toNatClampNeg) (x_v tx L (x_ne tx L e)))
  rw [ev] at hle ⊢
  rw [ei] at hle9 ⊢
  rw [nI_clamp (by omega)]
  have e9 : (9 : Int32) = nI 9 := rfl
  rw [e9] at hle9
  have hi9 := (nI_leI (by omega) (by omega)).mp hle9
  refine ⟨?_, fun k hk => ?_, fun k hk => ?_⟩
  · rw [va_up_n _ _ (by omega), va_up_n _ _ (by omega)]; exact h1
  · by_cases q : 12 + k = b + i
    · rw [q, va_up_e]
      have hm : m = 1000 := by
        rcases hb with q2 | ⟨q2, q3⟩ | ⟨q2, q3⟩
        · omega
        · exact q3
        · omega
      rw [hm, show (1000 : Int32) = nI 1000 from rfl] at hle
      exact ⟨v, (nI_leI (by omega) (by omega)).mp hle, rfl⟩
    · rw [va_up_n _ _ q]; exact h2 k hk
  · by_cases q : 22 + k = b + i
    · rw [q, va_up_e]
      exact ⟨v, by omega, rfl⟩
    · rw [va_up_n _ _ q]; exact h3 k hk
theorem x_sen_B {tx : Nat → Int32} {L f e : Nat} {w : Int32} {fs : Nat → Int32} (he : e ≤ L) (h : xB fs) : xB (x_sen tx L f e w fs).2.2.2 := by
  unfold x_sen
  exact x_if_c (P := fun r : x_T => xB r.2.2.2) (fun _ => x_pc_B he (Or.inl ⟨rfl, rfl⟩) h) (fun _ => x_if_c (P := fun r : x_T => xB r.2.2.2) (fun _ => x_pc_B he (Or.inr ⟨rfl, rfl⟩) h) (fun _ => x_if_c (P := fun r : x_T => xB r.2.2.2) (fun _ => x_vl_B he (Or.inl rfl) h) (fun _ => x_if_c (P := fun r : x_T => xB r.2.2.2) (fun _ => x_vl_B he (Or.inr (Or.inl ⟨rfl, rfl⟩)) h) (fun _ => x_if_c (P := fun r : x_T => xB r.2.2.2) (fun _ => x_vl_B he (Or.inr (Or.inr ⟨rfl, rfl⟩)) h) (fun _ => h)))))
theorem x_rd_B {tx : Nat → Int32} {L : Nat} : ∀ (k a : Nat) (w : Int32) (n : Nat) (fs : Nat → Int32), a ≤ L → xB fs → xB (x_rd tx L k a w n fs).2.2.2
  | 0, a, w, n, fs, _, h => h
  | k + 1, a, w, n, fs, ha, h => by
    by_cases c : x_ne tx L a ≤ x_ws tx L a
    · rw [x_rd_e c]; exact h
    · by_cases d : (x_sen tx L (x_ws tx L a) (x_ne tx L a) w fs).1 = 1
      · rw [x_rd_s c d]
        exact x_rd_B k _ _ _ _ (x_sen_ok tx (x_ne_le tx ha) w fs).2.1 (x_sen_B (x_ne_le tx ha) h)
      · rw [x_rd_n c d]; exact h
theorem x_f0_B {fs : Nat → Int32} (h : x_f0 fs) : xB fs := by
  refine ⟨⟨0, 0, h 0 (by omega), h 1 (by omega), by omega⟩, fun k hk => ⟨1, by omega, ?_⟩, fun k hk => ⟨0, by omega, ?_⟩⟩
  · rw [h (12 + k) (by omega), if_pos (by omega)]; rfl
  · rw [h (22 + k) (by omega), if_neg (by omega)]; rfl
theorem xB_cg {a b : Nat → Int32} (h : ∀ k, k < 34 → b k = a k) (ha : xB a) : xB b := by
  refine ⟨?_, fun k hk => ?_, fun k hk => ?_⟩
  · rw [h 0 (by omega), h 1 (by omega)]; exact ha.1
  · rw [h (12 + k) (by omega)]; exact ha.2.1 k hk
  · rw [h (22 + k) (by omega)]; exact ha.2.2 k hk
theorem xR_cg {a b f1 f2 f3 f4 : Nat → Int32} (h : ∀ k, k < 34 → b k = a k) (ha : xR a f1 f2 f3 f4) : xR b f1 f2 f3 f4 := by
  refine ⟨fun p hp => ?_, fun k hk => ?_, fun k hk => ?_, fun k hk => ?_⟩
  · rw [h (32 + p) (by omega), h p (by omega)]; exact ha.1 p hp
  · rw [h (2 + k) (by omega)]; exact ha.2.1 k hk
  · rw [h (12 + k) (by omega)]; exact ha.2.2.1 k hk
  · rw [h (22 + k) (by omega)]; exact ha.2.2.2 k hk
