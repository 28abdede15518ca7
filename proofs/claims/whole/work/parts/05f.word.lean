theorem js_ll : ∀ i, i < 5 → (jsbyt.getD i []).length = jslen.getD i 0 := by decide

set_option maxRecDepth 20000 in
theorem s_X5_wordIs {l : Launch} {G : jG} {h : jH} {Q : Option Value → jH → Prop} {L e f i : Nat} {wn : Int32} {x : UInt32} {by_ : Nat → Int32}  (H0 : h.2 1 = some (jO 5 [.ref 2, .int (nI L), .int (nI f), .int (nI e), .int wn])) (H1 : h.2 2 = some (jC 600 by_)) (hgok : j_gok G) (hi : i < 5) (hxi : x.toNat = i + 1) (hf : f ≤ e) (he : e ≤ 600) (K1 : x_is by_ f e (jsbyt.getD i []) → Q (some (.int 1)) h) (K2 : ¬ x_is by_ f e (jsbyt.getD i []) → Q (some (.int 0)) h) : J l G mX5_wordIs 0 0 0 (lv_args 0 [.ref 1, .float x]) [] h Q := by
  obtain ⟨fv, hv, hG⟩ := hgok
  have hl := js_len i hi
  have hll := js_ll i hi
  refine j_aload_n (pc := 0) dX5_wordIs_0 rfl ?_
  refine j_getf (pc := 1) dX5_wordIs_1 jfX5_19 H0 rfl ?_
  refine j_aload_n (pc := 4) dX5_wordIs_4 rfl ?_
  refine j_getf (pc := 5) dX5_wordIs_5 jfX5_25 H0 rfl ?_
  refine j_isubN (a := e) (b := f) (pc := 8) dX5_wordIs_8 (by omega) ?_
  refine j_xload_n (pc := 9) dX5_wordIs_9 rfl ?_
  refine j_callX (pc := 10) (rm' := rmJ0_length_8abf5) [] hG hi hxi dX5_wordIs_10 jlX5_32 rfl ⟨Nat.le_of_ble_eq_true rfl, Nat.le_of_ble_eq_true rfl, Nat.le_of_ble_eq_true rfl, Nat.le_of_ble_eq_true rfl, Nat.le_of_ble_eq_true rfl, Nat.le_of_ble_eq_true rfl⟩ rfl ?_
  refine s_J0_length hG hi hxi ?_
  show J l G mX5_wordIs _ _ 13 _ [.int (nI (jslen.getD i 0)), .int (nI (e - f))] h Q
  refine j_icmp_eqN (a := e - f) (b := jslen.getD i 0) (pc := 13) (tgt := 18) dX5_wordIs_13 (by decide) (by omega) (by omega) (fun c1 => ?_) (fun c1 => ?_)
  · refine j_iconst (pc := 18) (v := 0) dX5_wordIs_18 (by decide) ?_
    refine j_istore_n (pc := 19) dX5_wordIs_19 (by decide) ?_
    refine j_sub (lv' := [(0, .ref 1), (1, .float x), (2, .int (nI 0))]) rfl ?_
    refine j_for (N := (jslen.getD i 0)) (S := fun q => (∀ k, k < q → by_ (f + k) = (jsbyt.getD i []).getD k 0) → J l G mX5_wordIs 0 0 20 [(0, .ref 1), (1, .float x), (2, .int (nI q))] [] h Q) ?_ ?_ 0 (Nat.zero_le _) (fun k hk => absurd hk (by omega))
    · intro q hq ih hm
      refine j_iload_n (pc := 20) dX5_wordIs_20 rfl ?_
      refine j_xload_n (pc := 21) dX5_wordIs_21 rfl ?_
      refine j_callX (pc := 22) (rm' := rmJ0_length_8abf5) [] hG hi hxi dX5_wordIs_22 jlX5_32 rfl ⟨Nat.le_of_ble_eq_true rfl, Nat.le_of_ble_eq_true rfl, Nat.le_of_ble_eq_true rfl, Nat.le_of_ble_eq_true rfl, Nat.le_of_ble_eq_true rfl, Nat.le_of_ble_eq_true rfl⟩ rfl ?_
      refine s_J0_length hG hi hxi ?_
      show J l G mX5_wordIs _ _ 25 _ [.int (nI (jslen.getD i 0)), .int (nI q)] h Q
      refine j_icmp_geN (a := q) (b := jslen.getD i 0) (pc := 25) (tgt := 55) dX5_wordIs_25 (by decide) (by omega) (by omega) (fun c2 => ?_) (fun c2 => ?_)
      · exfalso; omega
      · refine j_aload_n (pc := 28) dX5_wordIs_28 rfl ?_
        refine j_getf (pc := 29) dX5_wordIs_29 jfX5_11 H0 rfl ?_
        refine j_aload_n (pc := 32) dX5_wordIs_32 rfl ?_
        refine j_getf (pc := 33) dX5_wordIs_33 jfX5_25 H0 rfl ?_
        refine j_iload_n (pc := 36) dX5_wordIs_36 rfl ?_
        refine j_iaddN (a := f) (b := q) (pc := 37) dX5_wordIs_37 ?_
        refine j_cald (pc := 38) dX5_wordIs_38 H1 (jix_nI (by omega) (by decide)) ?_
        refine j_xload_n (pc := 39) dX5_wordIs_39 rfl ?_
        refine j_iload_n (pc := 40) dX5_wordIs_40 rfl ?_
        refine j_callX (pc := 41) (rm' := rmJ0_charAt_5068e) [.int (nI q)] hG hi hxi dX5_wordIs_41 jlX5_37 rfl ⟨Nat.le_of_ble_eq_true rfl, Nat.le_of_ble_eq_true rfl, Nat.le_of_ble_eq_true rfl, Nat.le_of_ble_eq_true rfl, Nat.le_of_ble_eq_true rfl, Nat.le_of_ble_eq_true rfl⟩ rfl ?_
        refine s_J0_charAt hG hv hi hxi (by omega) ?_
        show J l G mX5_wordIs _ _ 44 _ [.int ((jsbyt.getD i []).getD q 0), .int (by_ (f + q))] h Q
        refine j_icmp_eq (pc := 44) (tgt := 49) dX5_wordIs_44 (by decide) (fun c3 => ?_) (fun c3 => ?_)
        · refine j_iincN (a := q) (d := 1) (pc := 49) dX5_wordIs_49 rfl (by decide) ?_
          refine j_goto (pc := 52) (tgt := 20) dX5_wordIs_52 (by decide) ?_
          exact j_sub rfl (ih (fun k hk => by
            rcases Nat.lt_or_ge k q with z | z
            · exact hm k z
            · rw [show k = q by omega]; exact c3))
        · refine j_iconst (pc := 47) (v := 0) dX5_wordIs_47 (by decide) ?_
          exact j_iret (pc := 48) dX5_wordIs_48 rfl rfl (Nat.le_of_ble_eq_true rfl) (Nat.le_of_ble_eq_true rfl) (K2 (fun z => c3 (z.2 q (by omega))))
    · intro hm
      refine j_iload_n (pc := 20) dX5_wordIs_20 rfl ?_
      refine j_xload_n (pc := 21) dX5_wordIs_21 rfl ?_
      refine j_callX (pc := 22) (rm' := rmJ0_length_8abf5) [] hG hi hxi dX5_wordIs_22 jlX5_32 rfl ⟨Nat.le_of_ble_eq_true rfl, Nat.le_of_ble_eq_true rfl, Nat.le_of_ble_eq_true rfl, Nat.le_of_ble_eq_true rfl, Nat.le_of_ble_eq_true rfl, Nat.le_of_ble_eq_true rfl⟩ rfl ?_
      refine s_J0_length hG hi hxi ?_
      show J l G mX5_wordIs _ _ 25 _ [.int (nI (jslen.getD i 0)), .int (nI (jslen.getD i 0))] h Q
      refine j_icmp_geN (a := jslen.getD i 0) (b := jslen.getD i 0) (pc := 25) (tgt := 55) dX5_wordIs_25 (by decide) (by omega) (by omega) (fun c4 => ?_) (fun c4 => ?_)
      · refine j_iconst (pc := 55) (v := 1) dX5_wordIs_55 (by decide) ?_
        exact j_iret (pc := 56) dX5_wordIs_56 rfl rfl (Nat.le_of_ble_eq_true rfl) (Nat.le_of_ble_eq_true rfl) (K1 ⟨by omega, fun k hk => hm k (by omega)⟩)
      · exfalso; omega
  · refine j_iconst (pc := 16) (v := 0) dX5_wordIs_16 (by decide) ?_
    exact j_iret (pc := 17) dX5_wordIs_17 rfl rfl (Nat.le_of_ble_eq_true rfl) (Nat.le_of_ble_eq_true rfl) (K2 (fun z => absurd z.1 (by omega)))
