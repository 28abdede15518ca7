theorem j_nmL {l : Launch} {G : jG} {M : jM} {nc ns pc : Nat} {lv : List (Nat × Value)} {st : List Value} {h : jH} {Q : Option Value → jH → Prop} {x : Int64} (k : ∀ v : Int64, v = x → J l G M nc ns pc lv (.long v :: st) h Q) : J l G M nc ns pc lv (.long x :: st) h Q := k x rfl
theorem j_nmI {l : Launch} {G : jG} {M : jM} {nc ns pc : Nat} {lv : List (Nat × Value)} {st : List Value} {h : jH} {Q : Option Value → jH → Prop} {x : Int32} (k : ∀ v : Int32, v = x → J l G M nc ns pc lv (.int v :: st) h Q) : J l G M nc ns pc lv (.int x :: st) h Q := k x rfl
theorem j_sm_eq {a b : Nat → Int64} : ∀ {n : Nat}, (∀ k, k < n → a k = b k) → j_sm a n = j_sm b n
  | 0, _ => rfl
  | n + 1, h => by
    simp only [j_sm]
    rw [j_sm_eq (n := n) (fun k hk => h k (by omega)), h n (by omega)]
theorem j_sm_f0 (f v : Nat → Int64) (n : Nat) : j_sm (j_f0 f v n) n = j_sm v n := j_sm_eq (fun k hk => by rw [j_f0_at, if_pos hk])
theorem j_pos {a : Nat → Int64} {P : Nat} (h : ¬ j_sm a P ≤ 0) : 1 ≤ P := by
  cases P with
  | zero => exact absurd (show (0 : Int64) ≤ 0 by decide) h
  | succ n => omega
/-- how many of the first are above 0, as the model counts -/
def j_mn (d : Nat → Int32) : Nat → Int32
  | 0 => 0
  | i + 1 => j_mn d i + (if d i ≤ 0 then 0 else 1)
/-- the ship's part, the advances and the shares after i persons, as the model settles -/
def j_ms (t : Nat) (ls gt : Nat → Int64) (z : Int64 × (Nat → Int64) × (Nat → Int64)) : Nat → Int64 × (Nat → Int64) × (Nat → Int64)
  | 0 => z
  | i + 1 => ((j_ms t ls gt z i).1 - (if ls i ≤ gt i then 0 else ls i - gt i),
      va_up (j_ms t ls gt z i).2.1 i ((j_ms t ls gt z i).2.1 i - (if gt i + (if ls i ≤ gt i then 0 else ls i - gt i) ≤ (j_ms t ls gt z i).2.1 i then gt i + (if ls i ≤ gt i then 0 else ls i - gt i) else (j_ms t ls gt z i).2.1 i)),
      va_up (va_up (va_up (va_up (j_ms t ls gt z i).2.2 (48 * t + 4 * i) (gt i)) (48 * t + 4 * i + 1) (if ls i ≤ gt i then 0 else ls i - gt i)) (48 * t + 4 * i + 2) (if gt i + (if ls i ≤ gt i then 0 else ls i - gt i) ≤ (j_ms t ls gt z i).2.1 i then gt i + (if ls i ≤ gt i then 0 else ls i - gt i) else (j_ms t ls gt z i).2.1 i)) (48 * t + 4 * i + 3) ((gt i + (if ls i ≤ gt i then 0 else ls i - gt i)) - (if gt i + (if ls i ≤ gt i then 0 else ls i - gt i) ≤ (j_ms t ls gt z i).2.1 i then gt i + (if ls i ≤ gt i then 0 else ls i - gt i) else (j_ms t ls gt z i).2.1 i)))

set_option maxRecDepth 20000 in
theorem s_X8_settle {l : Launch} {G : jG} {h : jH} {Q : Option Value → jH → Prop} {at_ cl es fr op sz t0 wd : Int32} {T P : Nat} {ru : Nat → Int32} {lo : Nat → Int64} {ro : Nat → Int32} {ad : Nat → Int64} {sh : Nat → Int32} {sa : Nat → Int64} {co : Nat → Int64} {da : Nat → Int32} {se : Nat → Int32} {pa : Nat → Int64} {ss : Nat → Int64} {we : Nat → Int64} {ge : Nat → Int64} {re : Nat → Int64} {rn spn : Nat → Nat}  (H0 : h.2 27 = some (mO sz at_ fr wd (nI P) (nI T) es op cl)) (H1 : h.2 29 = some (jI 34 ru)) (H2 : h.2 31 = some (jL 4 lo)) (H3 : h.2 32 = some (jI 12 ro)) (H4 : h.2 33 = some (jL 12 ad)) (H5 : h.2 34 = some (jI 20 sh)) (H6 : h.2 35 = some (jL 20 sa)) (H7 : h.2 36 = some (jL 200 co)) (H8 : h.2 37 = some (jI 240 da)) (H9 : h.2 38 = some (jZ 20 se)) (H10 : h.2 39 = some (jL 120 pa)) (H11 : h.2 40 = some (jL 960 ss)) (H12 : h.2 41 = some (jL 12 we)) (H13 : h.2 42 = some (jL 12 ge)) (H14 : h.2 43 = some (jL 12 re)) (hT : T ≤ 20) (hP : P ≤ 12) (hsp : ∀ t, t < T → sh t = nI (spn t) ∧ spn t < 4) (hro : ∀ p, p < P → ro p = nI (rn p) ∧ rn p < 10) (hw100 : ¬ j_sm (va_up (va_up (va_up we 0 ((ru 0).toInt64)) 1 ((ru 1).toInt64)) 2 (((100 - (ru 0)) - (ru 1)).toInt64)) 3 = 0) (K1 : t0 < 0 → Q (some (.int (-1))) h) (K2 : ¬ (t0 < 0) → (nI T) ≤ t0 → Q (some (.int (-1))) h) (K3 : ¬ (t0 < 0) → ¬ ((nI T) ≤ t0) → ∀ t : Nat, t0 = nI t → t < T → (se t) = 0 → ∀ lf0 : Int64, lf0 = (((sa t) - (j_tc (fun k => co (10 * t + k)) (fun k => ru (2 + k)) 0 0 10)) - (lo (spn t))) → ∀ ls1 : Int64, ls1 = (if 0 ≤ lf0 then 0 else -lf0) → ∀ lf : Int64, lf = (if 0 ≤ lf0 then lf0 else 0) → ∀ ow0 : Int64, ow0 = (((o_pcG 3 lf (va_up (va_up (va_up we 0 ((ru 0).toInt64)) 1 ((ru 1).toInt64)) 2 (((100 - (ru 0)) - (ru 1)).toInt64)) ge re) 0) - (j_tc (fun k => co (10 * t + k)) (fun k => ru (2 + k)) 2 0 10)) → ∀ cr0 : Int64, cr0 = (((o_pcG 3 lf (va_up (va_up (va_up we 0 ((ru 0).toInt64)) 1 ((ru 1).toInt64)) 2 (((100 - (ru 0)) - (ru 1)).toInt64)) ge re) 2) - (j_tc (fun k => co (10 * t + k)) (fun k => ru (2 + k)) 1 0 10)) → ∀ ow1 : Int64, ow1 = (ow0 + (if 0 ≤ cr0 then 0 else cr0)) → ∀ crw : Int64, crw = (if 0 ≤ cr0 then cr0 else 0) → (j_sm (fun k => (da (12 * t + k)).toInt64 * (ru (12 + rn k)).toInt64) P) ≤ 0 → Q (some (.int (j_mn (fun k => da (12 * t + k)) P))) (j_set (j_set (j_set (j_set (j_set (j_set (j_set (j_set h 38 (jZ 20 (va_up se t 1))) 39 (jL 120 (va_up (va_up (va_up (va_up (va_up (va_up pa ((6 * t) + 4) (lo (spn t))) ((6 * t) + 5) ls1) (6 * t) lf) ((6 * t) + 2) ((o_pcG 3 lf (va_up (va_up (va_up we 0 ((ru 0).toInt64)) 1 ((ru 1).toInt64)) 2 (((100 - (ru 0)) - (ru 1)).toInt64)) ge re) 1)) ((6 * t) + 3) crw) ((6 * t) + 1) ((j_ms t (fun k => (da (12 * t + k)).toInt64 * (ru (22 + rn k)).toInt64) (j_f0 (o_pcG 3 lf (va_up (va_up (va_up we 0 ((ru 0).toInt64)) 1 ((ru 1).toInt64)) 2 (((100 - (ru 0)) - (ru 1)).toInt64)) ge re) (fun _ => 0) P) (ow1 + crw, ad, ss) P).1)))) 31 (jL 4 (va_up lo (spn t) ls1))) 41 (jL 12 (j_f0 (va_up (va_up (va_up we 0 ((ru 0).toInt64)) 1 ((ru 1).toInt64)) 2 (((100 - (ru 0)) - (ru 1)).toInt64)) (fun k => (da (12 * t + k)).toInt64 * (ru (12 + rn k)).toInt64) P))) 42 (jL 12 (j_f0 (o_pcG 3 lf (va_up (va_up (va_up we 0 ((ru 0).toInt64)) 1 ((ru 1).toInt64)) 2 (((100 - (ru 0)) - (ru 1)).toInt64)) ge re) (fun _ => 0) P))) 43 (jL 12 (o_pcR 3 lf (va_up (va_up (va_up we 0 ((ru 0).toInt64)) 1 ((ru 1).toInt64)) 2 (((100 - (ru 0)) - (ru 1)).toInt64)) ge re))) 33 (jL 12 ((j_ms t (fun k => (da (12 * t + k)).toInt64 * (ru (22 + rn k)).toInt64) (j_f0 (o_pcG 3 lf (va_up (va_up (va_up we 0 ((ru 0).toInt64)) 1 ((ru 1).toInt64)) 2 (((100 - (ru 0)) - (ru 1)).toInt64)) ge re) (fun _ => 0) P) (ow1 + crw, ad, ss) P).2.1))) 40 (jL 960 ((j_ms t (fun k => (da (12 * t + k)).toInt64 * (ru (22 + rn k)).toInt64) (j_f0 (o_pcG 3 lf (va_up (va_up (va_up we 0 ((ru 0).toInt64)) 1 ((ru 1).toInt64)) 2 (((100 - (ru 0)) - (ru 1)).toInt64)) ge re) (fun _ => 0) P) (ow1 + crw, ad, ss) P).2.2)))) (K4 : ¬ (t0 < 0) → ¬ ((nI T) ≤ t0) → ∀ t : Nat, t0 = nI t → t < T → (se t) = 0 → ∀ lf0 : Int64, lf0 = (((sa t) - (j_tc (fun k => co (10 * t + k)) (fun k => ru (2 + k)) 0 0 10)) - (lo (spn t))) → ∀ ls1 : Int64, ls1 = (if 0 ≤ lf0 then 0 else -lf0) → ∀ lf : Int64, lf = (if 0 ≤ lf0 then lf0 else 0) → ∀ ow0 : Int64, ow0 = (((o_pcG 3 lf (va_up (va_up (va_up we 0 ((ru 0).toInt64)) 1 ((ru 1).toInt64)) 2 (((100 - (ru 0)) - (ru 1)).toInt64)) ge re) 0) - (j_tc (fun k => co (10 * t + k)) (fun k => ru (2 + k)) 2 0 10)) → ∀ cr0 : Int64, cr0 = (((o_pcG 3 lf (va_up (va_up (va_up we 0 ((ru 0).toInt64)) 1 ((ru 1).toInt64)) 2 (((100 - (ru 0)) - (ru 1)).toInt64)) ge re) 2) - (j_tc (fun k => co (10 * t + k)) (fun k => ru (2 + k)) 1 0 10)) → ∀ ow1 : Int64, ow1 = (ow0 + (if 0 ≤ cr0 then 0 else cr0)) → ∀ crw : Int64, crw = (if 0 ≤ cr0 then cr0 else 0) → ¬ ((j_sm (fun k => (da (12 * t + k)).toInt64 * (ru (12 + rn k)).toInt64) P) ≤ 0) → Q (some (.int (j_mn (fun k => da (12 * t + k)) P))) (j_set (j_set (j_set (j_set (j_set (j_set (j_set (j_set h 38 (jZ 20 (va_up se t 1))) 39 (jL 120 (va_up (va_up (va_up (va_up (va_up (va_up pa ((6 * t) + 4) (lo (spn t))) ((6 * t) + 5) ls1) (6 * t) lf) ((6 * t) + 2) ((o_pcG 3 lf (va_up (va_up (va_up we 0 ((ru 0).toInt64)) 1 ((ru 1).toInt64)) 2 (((100 - (ru 0)) - (ru 1)).toInt64)) ge re) 1)) ((6 * t) + 3) crw) ((6 * t) + 1) ((j_ms t (fun k => (da (12 * t + k)).toInt64 * (ru (22 + rn k)).toInt64) (o_pcG P crw (j_f0 (va_up (va_up (va_up we 0 ((ru 0).toInt64)) 1 ((ru 1).toInt64)) 2 (((100 - (ru 0)) - (ru 1)).toInt64)) (fun k => (da (12 * t + k)).toInt64 * (ru (12 + rn k)).toInt64) P) (j_f0 (o_pcG 3 lf (va_up (va_up (va_up we 0 ((ru 0).toInt64)) 1 ((ru 1).toInt64)) 2 (((100 - (ru 0)) - (ru 1)).toInt64)) ge re) (fun _ => 0) P) (o_pcR 3 lf (va_up (va_up (va_up we 0 ((ru 0).toInt64)) 1 ((ru 1).toInt64)) 2 (((100 - (ru 0)) - (ru 1)).toInt64)) ge re)) (ow1, ad, ss) P).1)))) 31 (jL 4 (va_up lo (spn t) ls1))) 41 (jL 12 (j_f0 (va_up (va_up (va_up we 0 ((ru 0).toInt64)) 1 ((ru 1).toInt64)) 2 (((100 - (ru 0)) - (ru 1)).toInt64)) (fun k => (da (12 * t + k)).toInt64 * (ru (12 + rn k)).toInt64) P))) 42 (jL 12 (o_pcG P crw (j_f0 (va_up (va_up (va_up we 0 ((ru 0).toInt64)) 1 ((ru 1).toInt64)) 2 (((100 - (ru 0)) - (ru 1)).toInt64)) (fun k => (da (12 * t + k)).toInt64 * (ru (12 + rn k)).toInt64) P) (j_f0 (o_pcG 3 lf (va_up (va_up (va_up we 0 ((ru 0).toInt64)) 1 ((ru 1).toInt64)) 2 (((100 - (ru 0)) - (ru 1)).toInt64)) ge re) (fun _ => 0) P) (o_pcR 3 lf (va_up (va_up (va_up we 0 ((ru 0).toInt64)) 1 ((ru 1).toInt64)) 2 (((100 - (ru 0)) - (ru 1)).toInt64)) ge re)))) 43 (jL 12 (o_pcR P crw (j_f0 (va_up (va_up (va_up we 0 ((ru 0).toInt64)) 1 ((ru 1).toInt64)) 2 (((100 - (ru 0)) - (ru 1)).toInt64)) (fun k => (da (12 * t + k)).toInt64 * (ru (12 + rn k)).toInt64) P) (j_f0 (o_pcG 3 lf (va_up (va_up (va_up we 0 ((ru 0).toInt64)) 1 ((ru 1).toInt64)) 2 (((100 - (ru 0)) - (ru 1)).toInt64)) ge re) (fun _ => 0) P) (o_pcR 3 lf (va_up (va_up (va_up we 0 ((ru 0).toInt64)) 1 ((ru 1).toInt64)) 2 (((100 - (ru 0)) - (ru 1)).toInt64)) ge re)))) 33 (jL 12 ((j_ms t (fun k => (da (12 * t + k)).toInt64 * (ru (22 + rn k)).toInt64) (o_pcG P crw (j_f0 (va_up (va_up (va_up we 0 ((ru 0).toInt64)) 1 ((ru 1).toInt64)) 2 (((100 - (ru 0)) - (ru 1)).toInt64)) (fun k => (da (12 * t + k)).toInt64 * (ru (12 + rn k)).toInt64) P) (j_f0 (o_pcG 3 lf (va_up (va_up (va_up we 0 ((ru 0).toInt64)) 1 ((ru 1).toInt64)) 2 (((100 - (ru 0)) - (ru 1)).toInt64)) ge re) (fun _ => 0) P) (o_pcR 3 lf (va_up (va_up (va_up we 0 ((ru 0).toInt64)) 1 ((ru 1).toInt64)) 2 (((100 - (ru 0)) - (ru 1)).toInt64)) ge re)) (ow1, ad, ss) P).2.1))) 40 (jL 960 ((j_ms t (fun k => (da (12 * t + k)).toInt64 * (ru (22 + rn k)).toInt64) (o_pcG P crw (j_f0 (va_up (va_up (va_up we 0 ((ru 0).toInt64)) 1 ((ru 1).toInt64)) 2 (((100 - (ru 0)) - (ru 1)).toInt64)) (fun k => (da (12 * t + k)).toInt64 * (ru (12 + rn k)).toInt64) P) (j_f0 (o_pcG 3 lf (va_up (va_up (va_up we 0 ((ru 0).toInt64)) 1 ((ru 1).toInt64)) 2 (((100 - (ru 0)) - (ru 1)).toInt64)) ge re) (fun _ => 0) P) (o_pcR 3 lf (va_up (va_up (va_up we 0 ((ru 0).toInt64)) 1 ((ru 1).toInt64)) 2 (((100 - (ru 0)) - (ru 1)).toInt64)) ge re)) (ow1, ad, ss) P).2.2)))) (K5 : ¬ (t0 < 0) → ¬ ((nI T) ≤ t0) → ∀ t : Nat, t0 = nI t → t < T → ¬ (se t) = 0 → Q (some (.int (-1))) h) : J l G mX8_settle 0 0 0 (lv_args 0 [.ref 27, .int t0]) [] h Q := by
  refine j_aload_n (pc := 0) dX8_settle_0 rfl ?_
  refine j_iload_n (pc := 1) dX8_settle_1 rfl ?_
  refine j_V1 (rm' := rmX8_isTrip) (pc := 2) dX8_settle_2 jlX8_141 H0 rfl ⟨Nat.le_of_ble_eq_true rfl, Nat.le_of_ble_eq_true rfl, Nat.le_of_ble_eq_true rfl, Nat.le_of_ble_eq_true rfl, Nat.le_of_ble_eq_true rfl, Nat.le_of_ble_eq_true rfl⟩ ?_
  refine s_X8_isTrip H0 (fun c1 => ?_) (fun c2 c3 => ?_) (fun c4 c5 => ?_)
  · show J l G mX8_settle _ _ 5 _ [.int 0] h Q
    refine j_if_eq (pc := 5) (tgt := 17) dX8_settle_5 (by decide) (fun c6 => ?_) (fun c6 => ?_)
    · refine j_iconst (pc := 17) (v := -1) dX8_settle_17 (by decide) ?_
      exact j_iret (pc := 18) dX8_settle_18 rfl rfl (Nat.le_of_ble_eq_true rfl) (Nat.le_of_ble_eq_true rfl) (K1 c1)
    · exact absurd c6 (by decide)
  · show J l G mX8_settle _ _ 5 _ [.int 0] h Q
    refine j_if_eq (pc := 5) (tgt := 17) dX8_settle_5 (by decide) (fun c7 => ?_) (fun c7 => ?_)
    · refine j_iconst (pc := 17) (v := -1) dX8_settle_17 (by decide) ?_
      exact j_iret (pc := 18) dX8_settle_18 rfl rfl (Nat.le_of_ble_eq_true rfl) (Nat.le_of_ble_eq_true rfl) (K2 c2 c3)
    · exact absurd c7 (by decide)
  · show J l G mX8_settle _ _ 5 _ [.int 1] h Q
    refine j_if_eq (pc := 5) (tgt := 17) dX8_settle_5 (by decide) (fun c8 => ?_) (fun c8 => ?_)
    · exact absurd c8 (by decide)
    · obtain ⟨t, ht, rfl⟩ : ∃ t : Nat, t < T ∧ t0 = nI t := jn_ge c4 c5 (jn_P (by omega))
      have hs4 := (hsp t ht).2
      refine j_aload_n (pc := 8) dX8_settle_8 rfl ?_
      refine j_getf (pc := 9) dX8_settle_9 jfX8_41 H0 rfl ?_
      refine j_iload_n (pc := 12) dX8_settle_12 rfl ?_
      refine j_zald (pc := 13) dX8_settle_13 H9 (jix_nI (by omega) (by decide)) ?_
      refine j_if_eq (pc := 14) (tgt := 19) dX8_settle_14 (by decide) (fun c9 => ?_) (fun c9 => ?_)
      · refine j_aload_n (pc := 19) dX8_settle_19 rfl ?_
        refine j_getf (pc := 20) dX8_settle_20 jfX8_41 H0 rfl ?_
        refine j_iload_n (pc := 23) dX8_settle_23 rfl ?_
        refine j_iconst (pc := 24) (v := 1) dX8_settle_24 (by decide) ?_
        refine j_zast (pc := 25) dX8_settle_25 H9 (jix_nI (by omega) (by decide)) rfl ?_
        refine j_aload_n (pc := 26) dX8_settle_26 rfl ?_
        refine j_getf (pc := 27) dX8_settle_27 jfX8_29 (j_hn (by decide) H0) rfl ?_
        refine j_iload_n (pc := 30) dX8_settle_30 rfl ?_
        refine j_ialdV (pc := 31) dX8_settle_31 (j_hn (by decide) H5) (jix_nI (by omega) (by decide)) (hsp t ht).1 ?_
        refine j_istore_n (pc := 32) dX8_settle_32 (by decide) ?_
        refine j_aload_n (pc := 33) dX8_settle_33 rfl ?_
        refine j_getf (pc := 34) dX8_settle_34 jfX8_32 (j_hn (by decide) H0) rfl ?_
        refine j_iload_n (pc := 37) dX8_settle_37 rfl ?_
        refine j_lald (pc := 38) dX8_settle_38 (j_hn (by decide) H6) (jix_nI (by omega) (by decide)) ?_
        refine j_aload_n (pc := 39) dX8_settle_39 rfl ?_
        refine j_iload_n (pc := 40) dX8_settle_40 rfl ?_
        refine j_iconst (pc := 41) (v := 0) dX8_settle_41 (by decide) ?_
        refine j_V2 (rm' := rmX8_costsOf) (pc := 42) dX8_settle_42 jlX8_148 (j_hn (by decide) H0) rfl ⟨Nat.le_of_ble_eq_true rfl, Nat.le_of_ble_eq_true rfl, Nat.le_of_ble_eq_true rfl, Nat.le_of_ble_eq_true rfl, Nat.le_of_ble_eq_true rfl, Nat.le_of_ble_eq_true rfl⟩ ?_
        refine s_X8_costsOf (t := t) (j_hn (by decide) H0) (j_hn (by decide) H1) (j_hn (by decide) H7) (by omega) ?_
        show J l G mX8_settle _ _ 45 _ [.long (j_tc (fun k => co (10 * t + k)) (fun k => ru (2 + k)) 0 0 10), .long (sa t)] (j_set h 38 (jZ 20 (va_up se t 1))) Q
        refine j_lsub (pc := 45) dX8_settle_45 ?_
        refine j_aload_n (pc := 46) dX8_settle_46 rfl ?_
        refine j_getf (pc := 47) dX8_settle_47 jfX8_19 (j_hn (by decide) H0) rfl ?_
        refine j_iload_n (pc := 50) dX8_settle_50 rfl ?_
        refine j_lald (pc := 51) dX8_settle_51 (j_hn (by decide) H2) (jix_nI (by omega) (by decide)) ?_
        refine j_lsub (pc := 52) dX8_settle_52 ?_
        refine j_nmL (fun lf0 hlf0 => ?_)
        refine j_lstore_n (pc := 53) dX8_settle_53 (by decide) ?_
        refine j_aload_n (pc := 54) dX8_settle_54 rfl ?_
        refine j_getf (pc := 55) dX8_settle_55 jfX8_45 (j_hn (by decide) H0) rfl ?_
        refine j_bipush (pc := 58) (v := 6) dX8_settle_58 (by decide) ?_
        refine j_iload_n (pc := 60) dX8_settle_60 rfl ?_
        refine j_imulN (a := 6) (b := t) (pc := 61) dX8_settle_61 ?_
        refine j_iconst (pc := 62) (v := 4) dX8_settle_62 (by decide) ?_
        refine j_iaddN (a := 6 * t) (b := 4) (pc := 63) dX8_settle_63 ?_
        refine j_aload_n (pc := 64) dX8_settle_64 rfl ?_
        refine j_getf (pc := 65) dX8_settle_65 jfX8_19 (j_hn (by decide) H0) rfl ?_
        refine j_iload_n (pc := 68) dX8_settle_68 rfl ?_
        refine j_lald (pc := 69) dX8_settle_69 (j_hn (by decide) H2) (jix_nI (by omega) (by decide)) ?_
        refine j_last (pc := 70) dX8_settle_70 (j_hn (by decide) H10) (jix_nI (by omega) (by decide)) ?_
        refine j_aload_n (pc := 71) dX8_settle_71 rfl ?_
        refine j_getf (pc := 72) dX8_settle_72 jfX8_19 (j_hn (by decide) (j_hn (by decide) H0)) rfl ?_
        refine j_iload_n (pc := 75) dX8_settle_75 rfl ?_
        refine j_lload_n (pc := 76) dX8_settle_76 rfl ?_
        refine j_lconst (pc := 77) (v := 0) dX8_settle_77 (by decide) ?_
        have KT1 : J l G mX8_settle 0 0 88 [(0, .ref 27), (1, .int (nI t)), (2, .int (nI (spn t))), (3, .long lf0)] [.long (if 0 ≤ lf0 then 0 else -lf0), .int (nI (spn t)), .ref 31] (j_set (j_set h 38 (jZ 20 (va_up se t 1))) 39 (jL 120 (va_up pa ((6 * t) + 4) (lo (spn t))))) Q := by
          refine j_nmL (fun ls1 hls1 => ?_)
          refine j_last (pc := 88) dX8_settle_88 (j_hn (by decide) (j_hn (by decide) H2)) (jix_nI (by omega) (by decide)) ?_
          refine j_lload_n (pc := 89) dX8_settle_89 rfl ?_
          refine j_lconst (pc := 90) (v := 0) dX8_settle_90 (by decide) ?_
          have KT2 : J l G mX8_settle 0 0 100 [(0, .ref 27), (1, .int (nI t)), (2, .int (nI (spn t))), (3, .long lf0)] [.long (if 0 ≤ lf0 then lf0 else 0)] (j_set (j_set (j_set h 38 (jZ 20 (va_up se t 1))) 39 (jL 120 (va_up pa ((6 * t) + 4) (lo (spn t))))) 31 (jL 4 (va_up lo (spn t) ls1))) Q := by
            refine j_nmL (fun lf hlf => ?_)
            refine j_lstore_n (pc := 100) dX8_settle_100 (by decide) ?_
            refine j_aload_n (pc := 101) dX8_settle_101 rfl ?_
            refine j_getf (pc := 102) dX8_settle_102 jfX8_45 (j_hn (by decide) (j_hn (by decide) (j_hn (by decide) H0))) rfl ?_
            refine j_bipush (pc := 105) (v := 6) dX8_settle_105 (by decide) ?_
            refine j_iload_n (pc := 107) dX8_settle_107 rfl ?_
            refine j_imulN (a := 6) (b := t) (pc := 108) dX8_settle_108 ?_
            refine j_iconst (pc := 109) (v := 5) dX8_settle_109 (by decide) ?_
            refine j_iaddN (a := 6 * t) (b := 5) (pc := 110) dX8_settle_110 ?_
            refine j_aload_n (pc := 111) dX8_settle_111 rfl ?_
            refine j_getf (pc := 112) dX8_settle_112 jfX8_19 (j_hn (by decide) (j_hn (by decide) (j_hn (by decide) H0))) rfl ?_
            refine j_iload_n (pc := 115) dX8_settle_115 rfl ?_
            refine j_laldS (pc := 116) dX8_settle_116 j_hs (jix_nI (by omega) (by decide)) ?_
            refine j_last (pc := 117) dX8_settle_117 (j_hn (by decide) j_hs) (jix_nI (by omega) (by decide)) ?_
            rw [j_ss1 (a := 39) (b0 := 31) (by decide)]
            refine j_aload_n (pc := 118) dX8_settle_118 rfl ?_
            refine j_getf (pc := 119) dX8_settle_119 jfX8_45 (j_hn (by decide) (j_hn (by decide) (j_hn (by decide) H0))) rfl ?_
            refine j_bipush (pc := 122) (v := 6) dX8_settle_122 (by decide) ?_
            refine j_iload_n (pc := 124) dX8_settle_124 rfl ?_
            refine j_imulN (a := 6) (b := t) (pc := 125) dX8_settle_125 ?_
            refine j_lload_n (pc := 126) dX8_settle_126 rfl ?_
            refine j_last (pc := 127) dX8_settle_127 (j_hn (by decide) j_hs) (jix_nI (by omega) (by decide)) ?_
            rw [j_ss1 (a := 39) (b0 := 31) (by decide)]
            refine j_aload_n (pc := 128) dX8_settle_128 rfl ?_
            refine j_getf (pc := 129) dX8_settle_129 jfX8_51 (j_hn (by decide) (j_hn (by decide) (j_hn (by decide) H0))) rfl ?_
            refine j_iconst (pc := 132) (v := 0) dX8_settle_132 (by decide) ?_
            refine j_aload_n (pc := 133) dX8_settle_133 rfl ?_
            refine j_getf (pc := 134) dX8_settle_134 jfX8_13 (j_hn (by decide) (j_hn (by decide) (j_hn (by decide) H0))) rfl ?_
            refine j_iconst (pc := 137) (v := 0) dX8_settle_137 (by decide) ?_
            refine j_iald (pc := 138) dX8_settle_138 (j_hn (by decide) (j_hn (by decide) (j_hn (by decide) H1))) (jix_nI (q := 0) (by decide) (by decide)) ?_
            refine j_i2l (pc := 139) dX8_settle_139 ?_
            refine j_last (pc := 140) dX8_settle_140 (j_hn (by decide) (j_hn (by decide) (j_hn (by decide) H12))) (jix_nI (q := 0) (by decide) (by decide)) ?_
            refine j_aload_n (pc := 141) dX8_settle_141 rfl ?_
            refine j_getf (pc := 142) dX8_settle_142 jfX8_51 (j_hn (by decide) (j_hn (by decide) (j_hn (by decide) (j_hn (by decide) H0)))) rfl ?_
            refine j_iconst (pc := 145) (v := 1) dX8_settle_145 (by decide) ?_
            refine j_aload_n (pc := 146) dX8_settle_146 rfl ?_
            refine j_getf (pc := 147) dX8_settle_147 jfX8_13 (j_hn (by decide) (j_hn (by decide) (j_hn (by decide) (j_hn (by decide) H0)))) rfl ?_
            refine j_iconst (pc := 150) (v := 1) dX8_settle_150 (by decide) ?_
            refine j_iald (pc := 151) dX8_settle_151 (j_hn (by decide) (j_hn (by decide) (j_hn (by decide) (j_hn (by decide) H1)))) (jix_nI (q := 1) (by decide) (by decide)) ?_
            refine j_i2l (pc := 152) dX8_settle_152 ?_
            refine j_last (pc := 153) dX8_settle_153 j_hs (jix_nI (q := 1) (by decide) (by decide)) ?_
            rw [j_ss0 (a := 41)]
            refine j_aload_n (pc := 154) dX8_settle_154 rfl ?_
            refine j_getf (pc := 155) dX8_settle_155 jfX8_51 (j_hn (by decide) (j_hn (by decide) (j_hn (by decide) (j_hn (by decide) H0)))) rfl ?_
            refine j_iconst (pc := 158) (v := 2) dX8_settle_158 (by decide) ?_
            refine j_bipush (pc := 159) (v := 100) dX8_settle_159 (by decide) ?_
            refine j_aload_n (pc := 161) dX8_settle_161 rfl ?_
            refine j_getf (pc := 162) dX8_settle_162 jfX8_13 (j_hn (by decide) (j_hn (by decide) (j_hn (by decide) (j_hn (by decide) H0)))) rfl ?_
            refine j_iconst (pc := 165) (v := 0) dX8_settle_165 (by decide) ?_
            refine j_iald (pc := 166) dX8_settle_166 (j_hn (by decide) (j_hn (by decide) (j_hn (by decide) (j_hn (by decide) H1)))) (jix_nI (q := 0) (by decide) (by decide)) ?_
            refine j_isub (pc := 167) dX8_settle_167 ?_
            refine j_aload_n (pc := 168) dX8_settle_168 rfl ?_
            refine j_getf (pc := 169) dX8_settle_169 jfX8_13 (j_hn (by decide) (j_hn (by decide) (j_hn (by decide) (j_hn (by decide) H0)))) rfl ?_
            refine j_iconst (pc := 172) (v := 1) dX8_settle_172 (by decide) ?_
            refine j_iald (pc := 173) dX8_settle_173 (j_hn (by decide) (j_hn (by decide) (j_hn (by decide) (j_hn (by decide) H1)))) (jix_nI (q := 1) (by decide) (by decide)) ?_
            refine j_isub (pc := 174) dX8_settle_174 ?_
            refine j_i2l (pc := 175) dX8_settle_175 ?_
            refine j_last (pc := 176) dX8_settle_176 j_hs (jix_nI (q := 2) (by decide) (by decide)) ?_
            rw [j_ss0 (a := 41)]
            refine j_aload_n (pc := 177) dX8_settle_177 rfl ?_
            refine j_lload_n (pc := 178) dX8_settle_178 rfl ?_
            refine j_iconst (pc := 179) (v := 3) dX8_settle_179 (by decide) ?_
            refine j_V2 (rm' := rmX8_partByCents) (pc := 180) dX8_settle_180 jlX8_152 (j_hn (by decide) (j_hn (by decide) (j_hn (by decide) (j_hn (by decide) H0)))) rfl ⟨Nat.le_of_ble_eq_true rfl, Nat.le_of_ble_eq_true rfl, Nat.le_of_ble_eq_true rfl, Nat.le_of_ble_eq_true rfl, Nat.le_of_ble_eq_true rfl, Nat.le_of_ble_eq_true rfl⟩ ?_
            refine s_X8_partByCents (n := 3) (j_hn (by decide) (j_hn (by decide) (j_hn (by decide) (j_hn (by decide) H0)))) j_hs (j_hn (by decide) (j_hn (by decide) (j_hn (by decide) (j_hn (by decide) H13)))) (j_hn (by decide) (j_hn (by decide) (j_hn (by decide) (j_hn (by decide) H14)))) (by decide) (by decide) hw100 ?_
            show J l G mX8_settle _ _ 183 _ [] (j_set (j_set (j_set (j_set (j_set (j_set h 38 (jZ 20 (va_up se t 1))) 39 (jL 120 (va_up (va_up (va_up pa ((6 * t) + 4) (lo (spn t))) ((6 * t) + 5) ls1) (6 * t) lf))) 31 (jL 4 (va_up lo (spn t) ls1))) 41 (jL 12 (va_up (va_up (va_up we 0 ((ru 0).toInt64)) 1 ((ru 1).toInt64)) 2 (((100 - (ru 0)) - (ru 1)).toInt64)))) 42 (jL 12 (o_pcG 3 lf (va_up (va_up (va_up we 0 ((ru 0).toInt64)) 1 ((ru 1).toInt64)) 2 (((100 - (ru 0)) - (ru 1)).toInt64)) ge re))) 43 (jL 12 (o_pcR 3 lf (va_up (va_up (va_up we 0 ((ru 0).toInt64)) 1 ((ru 1).toInt64)) 2 (((100 - (ru 0)) - (ru 1)).toInt64)) ge re))) Q
            refine j_aload_n (pc := 183) dX8_settle_183 rfl ?_
            refine j_getf (pc := 184) dX8_settle_184 jfX8_54 (j_hn (by decide) (j_hn (by decide) (j_hn (by decide) (j_hn (by decide) (j_hn (by decide) (j_hn (by decide) H0)))))) rfl ?_
            refine j_iconst (pc := 187) (v := 0) dX8_settle_187 (by decide) ?_
            refine j_lald (pc := 188) dX8_settle_188 (j_hn (by decide) j_hs) (jix_nI (q := 0) (by decide) (by decide)) ?_
            refine j_aload_n (pc := 189) dX8_settle_189 rfl ?_
            refine j_iload_n (pc := 190) dX8_settle_190 rfl ?_
            refine j_iconst (pc := 191) (v := 2) dX8_settle_191 (by decide) ?_
            refine j_V2 (rm' := rmX8_costsOf) (pc := 192) dX8_settle_192 jlX8_148 (j_hn (by decide) (j_hn (by decide) (j_hn (by decide) (j_hn (by decide) (j_hn (by decide) (j_hn (by decide) H0)))))) rfl ⟨Nat.le_of_ble_eq_true rfl, Nat.le_of_ble_eq_true rfl, Nat.le_of_ble_eq_true rfl, Nat.le_of_ble_eq_true rfl, Nat.le_of_ble_eq_true rfl, Nat.le_of_ble_eq_true rfl⟩ ?_
            refine s_X8_costsOf (t := t) (j_hn (by decide) (j_hn (by decide) (j_hn (by decide) (j_hn (by decide) (j_hn (by decide) (j_hn (by decide) H0)))))) (j_hn (by decide) (j_hn (by decide) (j_hn (by decide) (j_hn (by decide) (j_hn (by decide) (j_hn (by decide) H1)))))) (j_hn (by decide) (j_hn (by decide) (j_hn (by decide) (j_hn (by decide) (j_hn (by decide) (j_hn (by decide) H7)))))) (by omega) ?_
            show J l G mX8_settle _ _ 195 _ [.long (j_tc (fun k => co (10 * t + k)) (fun k => ru (2 + k)) 2 0 10), .long ((o_pcG 3 lf (va_up (va_up (va_up we 0 ((ru 0).toInt64)) 1 ((ru 1).toInt64)) 2 (((100 - (ru 0)) - (ru 1)).toInt64)) ge re) 0)] (j_set (j_set (j_set (j_set (j_set (j_set h 38 (jZ 20 (va_up se t 1))) 39 (jL 120 (va_up (va_up (va_up pa ((6 * t) + 4) (lo (spn t))) ((6 * t) + 5) ls1) (6 * t) lf))) 31 (jL 4 (va_up lo (spn t) ls1))) 41 (jL 12 (va_up (va_up (va_up we 0 ((ru 0).toInt64)) 1 ((ru 1).toInt64)) 2 (((100 - (ru 0)) - (ru 1)).toInt64)))) 42 (jL 12 (o_pcG 3 lf (va_up (va_up (va_up we 0 ((ru 0).toInt64)) 1 ((ru 1).toInt64)) 2 (((100 - (ru 0)) - (ru 1)).toInt64)) ge re))) 43 (jL 12 (o_pcR 3 lf (va_up (va_up (va_up we 0 ((ru 0).toInt64)) 1 ((ru 1).toInt64)) 2 (((100 - (ru 0)) - (ru 1)).toInt64)) ge re))) Q
            refine j_lsub (pc := 195) dX8_settle_195 ?_
            refine j_nmL (fun ow0 how0 => ?_)
            refine j_lstore (pc := 196) dX8_settle_196 (by decide) ?_
            refine j_aload_n (pc := 198) dX8_settle_198 rfl ?_
            refine j_getf (pc := 199) dX8_settle_199 jfX8_45 (j_hn (by decide) (j_hn (by decide) (j_hn (by decide) (j_hn (by decide) (j_hn (by decide) (j_hn (by decide) H0)))))) rfl ?_
            refine j_bipush (pc := 202) (v := 6) dX8_settle_202 (by decide) ?_
            refine j_iload_n (pc := 204) dX8_settle_204 rfl ?_
            refine j_imulN (a := 6) (b := t) (pc := 205) dX8_settle_205 ?_
            refine j_iconst (pc := 206) (v := 2) dX8_settle_206 (by decide) ?_
            refine j_iaddN (a := 6 * t) (b := 2) (pc := 207) dX8_settle_207 ?_
            refine j_aload_n (pc := 208) dX8_settle_208 rfl ?_
            refine j_getf (pc := 209) dX8_settle_209 jfX8_54 (j_hn (by decide) (j_hn (by decide) (j_hn (by decide) (j_hn (by decide) (j_hn (by decide) (j_hn (by decide) H0)))))) rfl ?_
            refine j_iconst (pc := 212) (v := 1) dX8_settle_212 (by decide) ?_
            refine j_lald (pc := 213) dX8_settle_213 (j_hn (by decide) j_hs) (jix_nI (q := 1) (by decide) (by decide)) ?_
            refine j_last (pc := 214) dX8_settle_214 (j_hn (by decide) (j_hn (by decide) (j_hn (by decide) (j_hn (by decide) j_hs)))) (jix_nI (by omega) (by decide)) ?_
            rw [j_ss4 (a := 39) (b0 := 31) (b1 := 41) (b2 := 42) (b3 := 43) (by decide) (by decide) (by decide) (by decide)]
            refine j_aload_n (pc := 215) dX8_settle_215 rfl ?_
            refine j_getf (pc := 216) dX8_settle_216 jfX8_54 (j_hn (by decide) (j_hn (by decide) (j_hn (by decide) (j_hn (by decide) (j_hn (by decide) (j_hn (by decide) H0)))))) rfl ?_
            refine j_iconst (pc := 219) (v := 2) dX8_settle_219 (by decide) ?_
            refine j_lald (pc := 220) dX8_settle_220 (j_hn (by decide) j_hs) (jix_nI (q := 2) (by decide) (by decide)) ?_
            refine j_aload_n (pc := 221) dX8_settle_221 rfl ?_
            refine j_iload_n (pc := 222) dX8_settle_222 rfl ?_
            refine j_iconst (pc := 223) (v := 1) dX8_settle_223 (by decide) ?_
            refine j_V2 (rm' := rmX8_costsOf) (pc := 224) dX8_settle_224 jlX8_148 (j_hn (by decide) (j_hn (by decide) (j_hn (by decide) (j_hn (by decide) (j_hn (by decide) (j_hn (by decide) H0)))))) rfl ⟨Nat.le_of_ble_eq_true rfl, Nat.le_of_ble_eq_true rfl, Nat.le_of_ble_eq_true rfl, Nat.le_of_ble_eq_true rfl, Nat.le_of_ble_eq_true rfl, Nat.le_of_ble_eq_true rfl⟩ ?_
            refine s_X8_costsOf (t := t) (j_hn (by decide) (j_hn (by decide) (j_hn (by decide) (j_hn (by decide) (j_hn (by decide) (j_hn (by decide) H0)))))) (j_hn (by decide) (j_hn (by decide) (j_hn (by decide) (j_hn (by decide) (j_hn (by decide) (j_hn (by decide) H1)))))) (j_hn (by decide) (j_hn (by decide) (j_hn (by decide) (j_hn (by decide) (j_hn (by decide) (j_hn (by decide) H7)))))) (by omega) ?_
            show J l G mX8_settle _ _ 227 _ [.long (j_tc (fun k => co (10 * t + k)) (fun k => ru (2 + k)) 1 0 10), .long ((o_pcG 3 lf (va_up (va_up (va_up we 0 ((ru 0).toInt64)) 1 ((ru 1).toInt64)) 2 (((100 - (ru 0)) - (ru 1)).toInt64)) ge re) 2)] (j_set (j_set (j_set (j_set (j_set (j_set h 38 (jZ 20 (va_up se t 1))) 39 (jL 120 (va_up (va_up (va_up (va_up pa ((6 * t) + 4) (lo (spn t))) ((6 * t) + 5) ls1) (6 * t) lf) ((6 * t) + 2) ((o_pcG 3 lf (va_up (va_up (va_up we 0 ((ru 0).toInt64)) 1 ((ru 1).toInt64)) 2 (((100 - (ru 0)) - (ru 1)).toInt64)) ge re) 1)))) 31 (jL 4 (va_up lo (spn t) ls1))) 41 (jL 12 (va_up (va_up (va_up we 0 ((ru 0).toInt64)) 1 ((ru 1).toInt64)) 2 (((100 - (ru 0)) - (ru 1)).toInt64)))) 42 (jL 12 (o_pcG 3 lf (va_up (va_up (va_up we 0 ((ru 0).toInt64)) 1 ((ru 1).toInt64)) 2 (((100 - (ru 0)) - (ru 1)).toInt64)) ge re))) 43 (jL 12 (o_pcR 3 lf (va_up (va_up (va_up we 0 ((ru 0).toInt64)) 1 ((ru 1).toInt64)) 2 (((100 - (ru 0)) - (ru 1)).toInt64)) ge re))) Q
            refine j_lsub (pc := 227) dX8_settle_227 ?_
            refine j_nmL (fun cr0 hcr0 => ?_)
            refine j_lstore (pc := 228) dX8_settle_228 (by decide) ?_
            refine j_lload (pc := 230) dX8_settle_230 rfl ?_
            refine j_lload (pc := 232) dX8_settle_232 rfl ?_
            refine j_lconst (pc := 234) (v := 0) dX8_settle_234 (by decide) ?_
            have KT3 : J l G mX8_settle 0 0 245 [(0, .ref 27), (1, .int (nI t)), (2, .int (nI (spn t))), (3, .long lf), (5, .long ow0), (7, .long cr0)] [.long (if 0 ≤ cr0 then 0 else cr0), .long ow0] (j_set (j_set (j_set (j_set (j_set (j_set h 38 (jZ 20 (va_up se t 1))) 39 (jL 120 (va_up (va_up (va_up (va_up pa ((6 * t) + 4) (lo (spn t))) ((6 * t) + 5) ls1) (6 * t) lf) ((6 * t) + 2) ((o_pcG 3 lf (va_up (va_up (va_up we 0 ((ru 0).toInt64)) 1 ((ru 1).toInt64)) 2 (((100 - (ru 0)) - (ru 1)).toInt64)) ge re) 1)))) 31 (jL 4 (va_up lo (spn t) ls1))) 41 (jL 12 (va_up (va_up (va_up we 0 ((ru 0).toInt64)) 1 ((ru 1).toInt64)) 2 (((100 - (ru 0)) - (ru 1)).toInt64)))) 42 (jL 12 (o_pcG 3 lf (va_up (va_up (va_up we 0 ((ru 0).toInt64)) 1 ((ru 1).toInt64)) 2 (((100 - (ru 0)) - (ru 1)).toInt64)) ge re))) 43 (jL 12 (o_pcR 3 lf (va_up (va_up (va_up we 0 ((ru 0).toInt64)) 1 ((ru 1).toInt64)) 2 (((100 - (ru 0)) - (ru 1)).toInt64)) ge re))) Q := by
              refine j_ladd (pc := 245) dX8_settle_245 ?_
              refine j_nmL (fun ow1 how1 => ?_)
              refine j_lstore (pc := 246) dX8_settle_246 (by decide) ?_
              refine j_lload (pc := 248) dX8_settle_248 rfl ?_
              refine j_lconst (pc := 250) (v := 0) dX8_settle_250 (by decide) ?_
              have KT4 : J l G mX8_settle 0 0 261 [(0, .ref 27), (1, .int (nI t)), (2, .int (nI (spn t))), (3, .long lf), (5, .long ow1), (7, .long cr0)] [.long (if 0 ≤ cr0 then cr0 else 0)] (j_set (j_set (j_set (j_set (j_set (j_set h 38 (jZ 20 (va_up se t 1))) 39 (jL 120 (va_up (va_up (va_up (va_up pa ((6 * t) + 4) (lo (spn t))) ((6 * t) + 5) ls1) (6 * t) lf) ((6 * t) + 2) ((o_pcG 3 lf (va_up (va_up (va_up we 0 ((ru 0).toInt64)) 1 ((ru 1).toInt64)) 2 (((100 - (ru 0)) - (ru 1)).toInt64)) ge re) 1)))) 31 (jL 4 (va_up lo (spn t) ls1))) 41 (jL 12 (va_up (va_up (va_up we 0 ((ru 0).toInt64)) 1 ((ru 1).toInt64)) 2 (((100 - (ru 0)) - (ru 1)).toInt64)))) 42 (jL 12 (o_pcG 3 lf (va_up (va_up (va_up we 0 ((ru 0).toInt64)) 1 ((ru 1).toInt64)) 2 (((100 - (ru 0)) - (ru 1)).toInt64)) ge re))) 43 (jL 12 (o_pcR 3 lf (va_up (va_up (va_up we 0 ((ru 0).toInt64)) 1 ((ru 1).toInt64)) 2 (((100 - (ru 0)) - (ru 1)).toInt64)) ge re))) Q := by
                refine j_nmL (fun crw hcrw => ?_)
                refine j_lstore (pc := 261) dX8_settle_261 (by decide) ?_
                refine j_aload_n (pc := 263) dX8_settle_263 rfl ?_
                refine j_getf (pc := 264) dX8_settle_264 jfX8_45 (j_hn (by decide) (j_hn (by decide) (j_hn (by decide) (j_hn (by decide) (j_hn (by decide) (j_hn (by decide) H0)))))) rfl ?_
                refine j_bipush (pc := 267) (v := 6) dX8_settle_267 (by decide) ?_
                refine j_iload_n (pc := 269) dX8_settle_269 rfl ?_
                refine j_imulN (a := 6) (b := t) (pc := 270) dX8_settle_270 ?_
                refine j_iconst (pc := 271) (v := 3) dX8_settle_271 (by decide) ?_
                refine j_iaddN (a := 6 * t) (b := 3) (pc := 272) dX8_settle_272 ?_
                refine j_lload (pc := 273) dX8_settle_273 rfl ?_
                refine j_last (pc := 275) dX8_settle_275 (j_hn (by decide) (j_hn (by decide) (j_hn (by decide) (j_hn (by decide) j_hs)))) (jix_nI (by omega) (by decide)) ?_
                rw [j_ss4 (a := 39) (b0 := 31) (b1 := 41) (b2 := 42) (b3 := 43) (by decide) (by decide) (by decide) (by decide)]
                refine j_lconst (pc := 276) (v := 0) dX8_settle_276 (by decide) ?_
                refine j_lstore (pc := 277) dX8_settle_277 (by decide) ?_
                refine j_iconst (pc := 279) (v := 0) dX8_settle_279 (by decide) ?_
                refine j_istore (pc := 280) dX8_settle_280 (by decide) ?_
                refine j_iconst (pc := 282) (v := 0) dX8_settle_282 (by decide) ?_
                refine j_istore (pc := 283) dX8_settle_283 (by decide) ?_
                refine j_sub (lv' := [(0, .ref 27), (1, .int (nI t)), (2, .int (nI (spn t))), (3, .long lf), (5, .long ow1), (7, .long crw), (9, .long (j_sm (fun k => (da (12 * t + k)).toInt64 * (ru (12 + rn k)).toInt64) 0)), (11, .int (j_mn (fun k => da (12 * t + k)) 0)), (12, .int (nI 0))]) rfl ?_
                refine j_for (N := P) (S := fun i1 => J l G mX8_settle 0 0 285 [(0, .ref 27), (1, .int (nI t)), (2, .int (nI (spn t))), (3, .long lf), (5, .long ow1), (7, .long crw), (9, .long (j_sm (fun k => (da (12 * t + k)).toInt64 * (ru (12 + rn k)).toInt64) i1)), (11, .int (j_mn (fun k => da (12 * t + k)) i1)), (12, .int (nI i1))] [] (j_set (j_set (j_set (j_set (j_set (j_set h 38 (jZ 20 (va_up se t 1))) 39 (jL 120 (va_up (va_up (va_up (va_up (va_up pa ((6 * t) + 4) (lo (spn t))) ((6 * t) + 5) ls1) (6 * t) lf) ((6 * t) + 2) ((o_pcG 3 lf (va_up (va_up (va_up we 0 ((ru 0).toInt64)) 1 ((ru 1).toInt64)) 2 (((100 - (ru 0)) - (ru 1)).toInt64)) ge re) 1)) ((6 * t) + 3) crw))) 31 (jL 4 (va_up lo (spn t) ls1))) 41 (jL 12 (j_f0 (va_up (va_up (va_up we 0 ((ru 0).toInt64)) 1 ((ru 1).toInt64)) 2 (((100 - (ru 0)) - (ru 1)).toInt64)) (fun k => (da (12 * t + k)).toInt64 * (ru (12 + rn k)).toInt64) i1))) 42 (jL 12 (j_f0 (o_pcG 3 lf (va_up (va_up (va_up we 0 ((ru 0).toInt64)) 1 ((ru 1).toInt64)) 2 (((100 - (ru 0)) - (ru 1)).toInt64)) ge re) (fun _ => 0) i1))) 43 (jL 12 (o_pcR 3 lf (va_up (va_up (va_up we 0 ((ru 0).toInt64)) 1 ((ru 1).toInt64)) 2 (((100 - (ru 0)) - (ru 1)).toInt64)) ge re))) Q) ?_ ?_ 0 (Nat.zero_le _)
                · intro i1 hi1 ih1
                  have hr2 := (hro i1 hi1).2
                  refine j_iload (pc := 285) dX8_settle_285 rfl ?_
                  refine j_aload_n (pc := 287) dX8_settle_287 rfl ?_
                  refine j_getf (pc := 288) dX8_settle_288 jfX8_123 (j_hn (by decide) (j_hn (by decide) (j_hn (by decide) (j_hn (by decide) (j_hn (by decide) (j_hn (by decide) H0)))))) rfl ?_
                  refine j_icmp_geN (a := i1) (b := P) (pc := 291) (tgt := 376) dX8_settle_291 (by decide) (by omega) (by omega) (fun c10 => ?_) (fun c10 => ?_)
                  · exfalso; omega
                  · refine j_aload_n (pc := 294) dX8_settle_294 rfl ?_
                    refine j_getf (pc := 295) dX8_settle_295 jfX8_38 (j_hn (by decide) (j_hn (by decide) (j_hn (by decide) (j_hn (by decide) (j_hn (by decide) (j_hn (by decide) H0)))))) rfl ?_
                    refine j_bipush (pc := 298) (v := 12) dX8_settle_298 (by decide) ?_
                    refine j_iload_n (pc := 300) dX8_settle_300 rfl ?_
                    refine j_imulN (a := 12) (b := t) (pc := 301) dX8_settle_301 ?_
                    refine j_iload (pc := 302) dX8_settle_302 rfl ?_
                    refine j_iaddN (a := 12 * t) (b := i1) (pc := 304) dX8_settle_304 ?_
                    refine j_iald (pc := 305) dX8_settle_305 (j_hn (by decide) (j_hn (by decide) (j_hn (by decide) (j_hn (by decide) (j_hn (by decide) (j_hn (by decide) H8)))))) (jix_nI (by omega) (by decide)) ?_
                    refine j_istore (pc := 306) dX8_settle_306 (by decide) ?_
                    refine j_aload_n (pc := 308) dX8_settle_308 rfl ?_
                    refine j_getf (pc := 309) dX8_settle_309 jfX8_51 (j_hn (by decide) (j_hn (by decide) (j_hn (by decide) (j_hn (by decide) (j_hn (by decide) (j_hn (by decide) H0)))))) rfl ?_
                    refine j_iload (pc := 312) dX8_settle_312 rfl ?_
                    refine j_iload (pc := 314) dX8_settle_314 rfl ?_
                    refine j_i2l (pc := 316) dX8_settle_316 ?_
                    refine j_aload_n (pc := 317) dX8_settle_317 rfl ?_
                    refine j_getf (pc := 318) dX8_settle_318 jfX8_13 (j_hn (by decide) (j_hn (by decide) (j_hn (by decide) (j_hn (by decide) (j_hn (by decide) (j_hn (by decide) H0)))))) rfl ?_
                    refine j_bipush (pc := 321) (v := 12) dX8_settle_321 (by decide) ?_
                    refine j_aload_n (pc := 323) dX8_settle_323 rfl ?_
                    refine j_getf (pc := 324) dX8_settle_324 jfX8_23 (j_hn (by decide) (j_hn (by decide) (j_hn (by decide) (j_hn (by decide) (j_hn (by decide) (j_hn (by decide) H0)))))) rfl ?_
                    refine j_iload (pc := 327) dX8_settle_327 rfl ?_
                    refine j_ialdV (pc := 329) dX8_settle_329 (j_hn (by decide) (j_hn (by decide) (j_hn (by decide) (j_hn (by decide) (j_hn (by decide) (j_hn (by decide) H3)))))) (jix_nI (by omega) (by decide)) (hro i1 (by omega)).1 ?_
                    refine j_iaddN (a := 12) (b := rn i1) (pc := 330) dX8_settle_330 ?_
                    refine j_iald (pc := 331) dX8_settle_331 (j_hn (by decide) (j_hn (by decide) (j_hn (by decide) (j_hn (by decide) (j_hn (by decide) (j_hn (by decide) H1)))))) (jix_nI (by omega) (by decide)) ?_
                    refine j_i2l (pc := 332) dX8_settle_332 ?_
                    refine j_lmul (pc := 333) dX8_settle_333 ?_
                    refine j_last (pc := 334) dX8_settle_334 (j_hn (by decide) (j_hn (by decide) j_hs)) (jix_nI (by omega) (by decide)) ?_
                    rw [j_ss2 (a := 41) (b0 := 42) (b1 := 43) (by decide) (by decide)]
                    refine j_aload_n (pc := 335) dX8_settle_335 rfl ?_
                    refine j_getf (pc := 336) dX8_settle_336 jfX8_54 (j_hn (by decide) (j_hn (by decide) (j_hn (by decide) (j_hn (by decide) (j_hn (by decide) (j_hn (by decide) H0)))))) rfl ?_
                    refine j_iload (pc := 339) dX8_settle_339 rfl ?_
                    refine j_lconst (pc := 341) (v := 0) dX8_settle_341 (by decide) ?_
                    refine j_last (pc := 342) dX8_settle_342 (j_hn (by decide) j_hs) (jix_nI (by omega) (by decide)) ?_
                    rw [j_ss1 (a := 42) (b0 := 43) (by decide)]
                    refine j_lload (pc := 343) dX8_settle_343 rfl ?_
                    refine j_aload_n (pc := 345) dX8_settle_345 rfl ?_
                    refine j_getf (pc := 346) dX8_settle_346 jfX8_51 (j_hn (by decide) (j_hn (by decide) (j_hn (by decide) (j_hn (by decide) (j_hn (by decide) (j_hn (by decide) H0)))))) rfl ?_
                    refine j_iload (pc := 349) dX8_settle_349 rfl ?_
                    refine j_laldS (pc := 351) dX8_settle_351 (j_hn (by decide) (j_hn (by decide) j_hs)) (jix_nI (by omega) (by decide)) ?_
                    refine j_ladd (pc := 352) dX8_settle_352 ?_
                    refine j_lstore (pc := 353) dX8_settle_353 (by decide) ?_
                    refine j_iload (pc := 355) dX8_settle_355 rfl ?_
                    refine j_iload (pc := 357) dX8_settle_357 rfl ?_
                    have KT5 : J l G mX8_settle 0 0 367 [(0, .ref 27), (1, .int (nI t)), (2, .int (nI (spn t))), (3, .long lf), (5, .long ow1), (7, .long crw), (9, .long ((j_sm (fun k => (da (12 * t + k)).toInt64 * (ru (12 + rn k)).toInt64) i1) + (((da ((12 * t) + i1)).toInt64) * ((ru (12 + (rn i1))).toInt64)))), (11, .int (j_mn (fun k => da (12 * t + k)) i1)), (12, .int (nI i1)), (13, .int (da ((12 * t) + i1)))] [.int (if (da ((12 * t) + i1)) ≤ 0 then 0 else 1), .int (j_mn (fun k => da (12 * t + k)) i1)] (j_set (j_set (j_set (j_set (j_set (j_set h 38 (jZ 20 (va_up se t 1))) 39 (jL 120 (va_up (va_up (va_up (va_up (va_up pa ((6 * t) + 4) (lo (spn t))) ((6 * t) + 5) ls1) (6 * t) lf) ((6 * t) + 2) ((o_pcG 3 lf (va_up (va_up (va_up we 0 ((ru 0).toInt64)) 1 ((ru 1).toInt64)) 2 (((100 - (ru 0)) - (ru 1)).toInt64)) ge re) 1)) ((6 * t) + 3) crw))) 31 (jL 4 (va_up lo (spn t) ls1))) 41 (jL 12 (va_up (j_f0 (va_up (va_up (va_up we 0 ((ru 0).toInt64)) 1 ((ru 1).toInt64)) 2 (((100 - (ru 0)) - (ru 1)).toInt64)) (fun k => (da (12 * t + k)).toInt64 * (ru (12 + rn k)).toInt64) i1) i1 (((da ((12 * t) + i1)).toInt64) * ((ru (12 + (rn i1))).toInt64))))) 42 (jL 12 (va_up (j_f0 (o_pcG 3 lf (va_up (va_up (va_up we 0 ((ru 0).toInt64)) 1 ((ru 1).toInt64)) 2 (((100 - (ru 0)) - (ru 1)).toInt64)) ge re) (fun _ => 0) i1) i1 0))) 43 (jL 12 (o_pcR 3 lf (va_up (va_up (va_up we 0 ((ru 0).toInt64)) 1 ((ru 1).toInt64)) 2 (((100 - (ru 0)) - (ru 1)).toInt64)) ge re))) Q := by
                      refine j_iadd (pc := 367) dX8_settle_367 ?_
                      refine j_istore (pc := 368) dX8_settle_368 (by decide) ?_
                      refine j_iincN (a := i1) (d := 1) (pc := 370) dX8_settle_370 rfl (by decide) ?_
                      refine j_goto (pc := 373) (tgt := 285) dX8_settle_373 (by decide) ?_
                      exact j_sub rfl ih1
                    refine j_if_le (pc := 359) (tgt := 366) dX8_settle_359 (by decide) (fun c11 => ?_) (fun c11 => ?_)
                    · refine j_iconst (pc := 366) (v := 0) dX8_settle_366 (by decide) ?_
                      rw [if_pos c11] at KT5
                      exact j_sub rfl KT5
                    · refine j_iconst (pc := 362) (v := 1) dX8_settle_362 (by decide) ?_
                      refine j_goto (pc := 363) (tgt := 367) dX8_settle_363 (by decide) ?_
                      rw [if_neg c11] at KT5
                      exact j_sub rfl KT5
                · refine j_iload (pc := 285) dX8_settle_285 rfl ?_
                  refine j_aload_n (pc := 287) dX8_settle_287 rfl ?_
                  refine j_getf (pc := 288) dX8_settle_288 jfX8_123 (j_hn (by decide) (j_hn (by decide) (j_hn (by decide) (j_hn (by decide) (j_hn (by decide) (j_hn (by decide) H0)))))) rfl ?_
                  refine j_icmp_geN (a := P) (b := P) (pc := 291) (tgt := 376) dX8_settle_291 (by decide) (by omega) (by omega) (fun c12 => ?_) (fun c12 => ?_)
                  · refine j_lload (pc := 376) dX8_settle_376 rfl ?_
                    refine j_lconst (pc := 378) (v := 0) dX8_settle_378 (by decide) ?_
                    refine j_lc_le (pc := 379) (tgt := 396) dX8_settle_379 dX8_settle_380 (by decide) (fun c13 => ?_) (fun c13 => ?_)
                    · refine j_lload (pc := 396) dX8_settle_396 rfl ?_
                      refine j_lload (pc := 398) dX8_settle_398 rfl ?_
                      refine j_ladd (pc := 400) dX8_settle_400 ?_
                      refine j_lstore (pc := 401) dX8_settle_401 (by decide) ?_
                      refine j_iconst (pc := 403) (v := 0) dX8_settle_403 (by decide) ?_
                      refine j_istore (pc := 404) dX8_settle_404 (by decide) ?_
                      refine j_pad (j_hn (by decide) (j_hn (by decide) (j_hn (by decide) (j_hn (by decide) (j_hn (by decide) (j_hn (by decide) H4)))))) ?_
                      refine j_pad (j_hn (by decide) (j_hn (by decide) (j_hn (by decide) (j_hn (by decide) (j_hn (by decide) (j_hn (by decide) (j_hn (by decide) H11))))))) ?_
                      refine j_sub (lv' := [(0, .ref 27), (1, .int (nI t)), (2, .int (nI (spn t))), (3, .long lf), (5, .long ((j_ms t (fun k => (da (12 * t + k)).toInt64 * (ru (22 + rn k)).toInt64) (j_f0 (o_pcG 3 lf (va_up (va_up (va_up we 0 ((ru 0).toInt64)) 1 ((ru 1).toInt64)) 2 (((100 - (ru 0)) - (ru 1)).toInt64)) ge re) (fun _ => 0) P) (ow1 + crw, ad, ss) 0).1)), (7, .long crw), (9, .long (j_sm (fun k => (da (12 * t + k)).toInt64 * (ru (12 + rn k)).toInt64) P)), (11, .int (j_mn (fun k => da (12 * t + k)) P)), (12, .int (nI 0))]) rfl ?_
                      refine j_for (N := P) (S := fun i2 => J l G mX8_settle 0 0 406 [(0, .ref 27), (1, .int (nI t)), (2, .int (nI (spn t))), (3, .long lf), (5, .long ((j_ms t (fun k => (da (12 * t + k)).toInt64 * (ru (22 + rn k)).toInt64) (j_f0 (o_pcG 3 lf (va_up (va_up (va_up we 0 ((ru 0).toInt64)) 1 ((ru 1).toInt64)) 2 (((100 - (ru 0)) - (ru 1)).toInt64)) ge re) (fun _ => 0) P) (ow1 + crw, ad, ss) i2).1)), (7, .long crw), (9, .long (j_sm (fun k => (da (12 * t + k)).toInt64 * (ru (12 + rn k)).toInt64) P)), (11, .int (j_mn (fun k => da (12 * t + k)) P)), (12, .int (nI i2))] [] (j_set (j_set (j_set (j_set (j_set (j_set (j_set (j_set h 38 (jZ 20 (va_up se t 1))) 39 (jL 120 (va_up (va_up (va_up (va_up (va_up pa ((6 * t) + 4) (lo (spn t))) ((6 * t) + 5) ls1) (6 * t) lf) ((6 * t) + 2) ((o_pcG 3 lf (va_up (va_up (va_up we 0 ((ru 0).toInt64)) 1 ((ru 1).toInt64)) 2 (((100 - (ru 0)) - (ru 1)).toInt64)) ge re) 1)) ((6 * t) + 3) crw))) 31 (jL 4 (va_up lo (spn t) ls1))) 41 (jL 12 (j_f0 (va_up (va_up (va_up we 0 ((ru 0).toInt64)) 1 ((ru 1).toInt64)) 2 (((100 - (ru 0)) - (ru 1)).toInt64)) (fun k => (da (12 * t + k)).toInt64 * (ru (12 + rn k)).toInt64) P))) 42 (jL 12 (j_f0 (o_pcG 3 lf (va_up (va_up (va_up we 0 ((ru 0).toInt64)) 1 ((ru 1).toInt64)) 2 (((100 - (ru 0)) - (ru 1)).toInt64)) ge re) (fun _ => 0) P))) 43 (jL 12 (o_pcR 3 lf (va_up (va_up (va_up we 0 ((ru 0).toInt64)) 1 ((ru 1).toInt64)) 2 (((100 - (ru 0)) - (ru 1)).toInt64)) ge re))) 33 (jL 12 ((j_ms t (fun k => (da (12 * t + k)).toInt64 * (ru (22 + rn k)).toInt64) (j_f0 (o_pcG 3 lf (va_up (va_up (va_up we 0 ((ru 0).toInt64)) 1 ((ru 1).toInt64)) 2 (((100 - (ru 0)) - (ru 1)).toInt64)) ge re) (fun _ => 0) P) (ow1 + crw, ad, ss) i2).2.1))) 40 (jL 960 ((j_ms t (fun k => (da (12 * t + k)).toInt64 * (ru (22 + rn k)).toInt64) (j_f0 (o_pcG 3 lf (va_up (va_up (va_up we 0 ((ru 0).toInt64)) 1 ((ru 1).toInt64)) 2 (((100 - (ru 0)) - (ru 1)).toInt64)) ge re) (fun _ => 0) P) (ow1 + crw, ad, ss) i2).2.2))) Q) ?_ ?_ 0 (Nat.zero_le _)
                      · intro i2 hi2 ih2
                        have hr2 := (hro i2 hi2).2
                        refine j_iload (pc := 406) dX8_settle_406 rfl ?_
                        refine j_aload_n (pc := 408) dX8_settle_408 rfl ?_
                        refine j_getf (pc := 409) dX8_settle_409 jfX8_123 (j_hn (by decide) (j_hn (by decide) (j_hn (by decide) (j_hn (by decide) (j_hn (by decide) (j_hn (by decide) (j_hn (by decide) (j_hn (by decide) H0)))))))) rfl ?_
                        refine j_icmp_geN (a := i2) (b := P) (pc := 412) (tgt := 601) dX8_settle_412 (by decide) (by omega) (by omega) (fun c14 => ?_) (fun c14 => ?_)
                        · exfalso; omega
                        · refine j_bipush (pc := 415) (v := 48) dX8_settle_415 (by decide) ?_
                          refine j_iload_n (pc := 417) dX8_settle_417 rfl ?_
                          refine j_imulN (a := 48) (b := t) (pc := 418) dX8_settle_418 ?_
                          refine j_iconst (pc := 419) (v := 4) dX8_settle_419 (by decide) ?_
                          refine j_iload (pc := 420) dX8_settle_420 rfl ?_
                          refine j_imulN (a := 4) (b := i2) (pc := 422) dX8_settle_422 ?_
                          refine j_iaddN (a := 48 * t) (b := 4 * i2) (pc := 423) dX8_settle_423 ?_
                          refine j_istore (pc := 424) dX8_settle_424 (by decide) ?_
                          refine j_aload_n (pc := 426) dX8_settle_426 rfl ?_
                          refine j_getf (pc := 427) dX8_settle_427 jfX8_38 (j_hn (by decide) (j_hn (by decide) (j_hn (by decide) (j_hn (by decide) (j_hn (by decide) (j_hn (by decide) (j_hn (by decide) (j_hn (by decide) H0)))))))) rfl ?_
                          refine j_bipush (pc := 430) (v := 12) dX8_settle_430 (by decide) ?_
                          refine j_iload_n (pc := 432) dX8_settle_432 rfl ?_
                          refine j_imulN (a := 12) (b := t) (pc := 433) dX8_settle_433 ?_
                          refine j_iload (pc := 434) dX8_settle_434 rfl ?_
                          refine j_iaddN (a := 12 * t) (b := i2) (pc := 436) dX8_settle_436 ?_
                          refine j_iald (pc := 437) dX8_settle_437 (j_hn (by decide) (j_hn (by decide) (j_hn (by decide) (j_hn (by decide) (j_hn (by decide) (j_hn (by decide) (j_hn (by decide) (j_hn (by decide) H8)))))))) (jix_nI (by omega) (by decide)) ?_
                          refine j_i2l (pc := 438) dX8_settle_438 ?_
                          refine j_aload_n (pc := 439) dX8_settle_439 rfl ?_
                          refine j_getf (pc := 440) dX8_settle_440 jfX8_13 (j_hn (by decide) (j_hn (by decide) (j_hn (by decide) (j_hn (by decide) (j_hn (by decide) (j_hn (by decide) (j_hn (by decide) (j_hn (by decide) H0)))))))) rfl ?_
                          refine j_bipush (pc := 443) (v := 22) dX8_settle_443 (by decide) ?_
                          refine j_aload_n (pc := 445) dX8_settle_445 rfl ?_
                          refine j_getf (pc := 446) dX8_settle_446 jfX8_23 (j_hn (by decide) (j_hn (by decide) (j_hn (by decide) (j_hn (by decide) (j_hn (by decide) (j_hn (by decide) (j_hn (by decide) (j_hn (by decide) H0)))))))) rfl ?_
                          refine j_iload (pc := 449) dX8_settle_449 rfl ?_
                          refine j_ialdV (pc := 451) dX8_settle_451 (j_hn (by decide) (j_hn (by decide) (j_hn (by decide) (j_hn (by decide) (j_hn (by decide) (j_hn (by decide) (j_hn (by decide) (j_hn (by decide) H3)))))))) (jix_nI (by omega) (by decide)) (hro i2 (by omega)).1 ?_
                          refine j_iaddN (a := 22) (b := rn i2) (pc := 452) dX8_settle_452 ?_
                          refine j_iald (pc := 453) dX8_settle_453 (j_hn (by decide) (j_hn (by decide) (j_hn (by decide) (j_hn (by decide) (j_hn (by decide) (j_hn (by decide) (j_hn (by decide) (j_hn (by decide) H1)))))))) (jix_nI (by omega) (by decide)) ?_
                          refine j_i2l (pc := 454) dX8_settle_454 ?_
                          refine j_lmul (pc := 455) dX8_settle_455 ?_
                          refine j_lstore (pc := 456) dX8_settle_456 (by decide) ?_
                          refine j_lload (pc := 458) dX8_settle_458 rfl ?_
                          refine j_aload_n (pc := 460) dX8_settle_460 rfl ?_
                          refine j_getf (pc := 461) dX8_settle_461 jfX8_54 (j_hn (by decide) (j_hn (by decide) (j_hn (by decide) (j_hn (by decide) (j_hn (by decide) (j_hn (by decide) (j_hn (by decide) (j_hn (by decide) H0)))))))) rfl ?_
                          refine j_iload (pc := 464) dX8_settle_464 rfl ?_
                          refine j_lald (pc := 466) dX8_settle_466 (j_hn (by decide) (j_hn (by decide) (j_hn (by decide) j_hs))) (jix_nI (by omega) (by decide)) ?_
                          have KT6 : J l G mX8_settle 0 0 485 [(0, .ref 27), (1, .int (nI t)), (2, .int (nI (spn t))), (3, .long lf), (5, .long ((j_ms t (fun k => (da (12 * t + k)).toInt64 * (ru (22 + rn k)).toInt64) (j_f0 (o_pcG 3 lf (va_up (va_up (va_up we 0 ((ru 0).toInt64)) 1 ((ru 1).toInt64)) 2 (((100 - (ru 0)) - (ru 1)).toInt64)) ge re) (fun _ => 0) P) (ow1 + crw, ad, ss) i2).1)), (7, .long crw), (9, .long (j_sm (fun k => (da (12 * t + k)).toInt64 * (ru (12 + rn k)).toInt64) P)), (11, .int (j_mn (fun k => da (12 * t + k)) P)), (12, .int (nI i2)), (13, .int (nI ((48 * t) + (4 * i2)))), (14, .long (((da ((12 * t) + i2)).toInt64) * ((ru (22 + (rn i2))).toInt64)))] [.long (if (((da ((12 * t) + i2)).toInt64) * ((ru (22 + (rn i2))).toInt64)) ≤ ((j_f0 (o_pcG 3 lf (va_up (va_up (va_up we 0 ((ru 0).toInt64)) 1 ((ru 1).toInt64)) 2 (((100 - (ru 0)) - (ru 1)).toInt64)) ge re) (fun _ => 0) P) i2) then 0 else (((da ((12 * t) + i2)).toInt64) * ((ru (22 + (rn i2))).toInt64)) - ((j_f0 (o_pcG 3 lf (va_up (va_up (va_up we 0 ((ru 0).toInt64)) 1 ((ru 1).toInt64)) 2 (((100 - (ru 0)) - (ru 1)).toInt64)) ge re) (fun _ => 0) P) i2))] (j_set (j_set (j_set (j_set (j_set (j_set (j_set (j_set h 38 (jZ 20 (va_up se t 1))) 39 (jL 120 (va_up (va_up (va_up (va_up (va_up pa ((6 * t) + 4) (lo (spn t))) ((6 * t) + 5) ls1) (6 * t) lf) ((6 * t) + 2) ((o_pcG 3 lf (va_up (va_up (va_up we 0 ((ru 0).toInt64)) 1 ((ru 1).toInt64)) 2 (((100 - (ru 0)) - (ru 1)).toInt64)) ge re) 1)) ((6 * t) + 3) crw))) 31 (jL 4 (va_up lo (spn t) ls1))) 41 (jL 12 (j_f0 (va_up (va_up (va_up we 0 ((ru 0).toInt64)) 1 ((ru 1).toInt64)) 2 (((100 - (ru 0)) - (ru 1)).toInt64)) (fun k => (da (12 * t + k)).toInt64 * (ru (12 + rn k)).toInt64) P))) 42 (jL 12 (j_f0 (o_pcG 3 lf (va_up (va_up (va_up we 0 ((ru 0).toInt64)) 1 ((ru 1).toInt64)) 2 (((100 - (ru 0)) - (ru 1)).toInt64)) ge re) (fun _ => 0) P))) 43 (jL 12 (o_pcR 3 lf (va_up (va_up (va_up we 0 ((ru 0).toInt64)) 1 ((ru 1).toInt64)) 2 (((100 - (ru 0)) - (ru 1)).toInt64)) ge re))) 33 (jL 12 ((j_ms t (fun k => (da (12 * t + k)).toInt64 * (ru (22 + rn k)).toInt64) (j_f0 (o_pcG 3 lf (va_up (va_up (va_up we 0 ((ru 0).toInt64)) 1 ((ru 1).toInt64)) 2 (((100 - (ru 0)) - (ru 1)).toInt64)) ge re) (fun _ => 0) P) (ow1 + crw, ad, ss) i2).2.1))) 40 (jL 960 ((j_ms t (fun k => (da (12 * t + k)).toInt64 * (ru (22 + rn k)).toInt64) (j_f0 (o_pcG 3 lf (va_up (va_up (va_up we 0 ((ru 0).toInt64)) 1 ((ru 1).toInt64)) 2 (((100 - (ru 0)) - (ru 1)).toInt64)) ge re) (fun _ => 0) P) (ow1 + crw, ad, ss) i2).2.2))) Q := by
                            refine j_lstore (pc := 485) dX8_settle_485 (by decide) ?_
                            refine j_aload_n (pc := 487) dX8_settle_487 rfl ?_
                            refine j_getf (pc := 488) dX8_settle_488 jfX8_54 (j_hn (by decide) (j_hn (by decide) (j_hn (by decide) (j_hn (by decide) (j_hn (by decide) (j_hn (by decide) (j_hn (by decide) (j_hn (by decide) H0)))))))) rfl ?_
                            refine j_iload (pc := 491) dX8_settle_491 rfl ?_
                            refine j_lald (pc := 493) dX8_settle_493 (j_hn (by decide) (j_hn (by decide) (j_hn (by decide) j_hs))) (jix_nI (by omega) (by decide)) ?_
                            refine j_lload (pc := 494) dX8_settle_494 rfl ?_
                            refine j_ladd (pc := 496) dX8_settle_496 ?_
                            refine j_lstore (pc := 497) dX8_settle_497 (by decide) ?_
                            refine j_aload_n (pc := 499) dX8_settle_499 rfl ?_
                            refine j_getf (pc := 500) dX8_settle_500 jfX8_26 (j_hn (by decide) (j_hn (by decide) (j_hn (by decide) (j_hn (by decide) (j_hn (by decide) (j_hn (by decide) (j_hn (by decide) (j_hn (by decide) H0)))))))) rfl ?_
                            refine j_iload (pc := 503) dX8_settle_503 rfl ?_
                            refine j_lald (pc := 505) dX8_settle_505 (j_hn (by decide) j_hs) (jix_nI (by omega) (by decide)) ?_
                            refine j_lload (pc := 506) dX8_settle_506 rfl ?_
                            have KT7 : J l G mX8_settle 0 0 524 [(0, .ref 27), (1, .int (nI t)), (2, .int (nI (spn t))), (3, .long lf), (5, .long ((j_ms t (fun k => (da (12 * t + k)).toInt64 * (ru (22 + rn k)).toInt64) (j_f0 (o_pcG 3 lf (va_up (va_up (va_up we 0 ((ru 0).toInt64)) 1 ((ru 1).toInt64)) 2 (((100 - (ru 0)) - (ru 1)).toInt64)) ge re) (fun _ => 0) P) (ow1 + crw, ad, ss) i2).1)), (7, .long crw), (9, .long (j_sm (fun k => (da (12 * t + k)).toInt64 * (ru (12 + rn k)).toInt64) P)), (11, .int (j_mn (fun k => da (12 * t + k)) P)), (12, .int (nI i2)), (13, .int (nI ((48 * t) + (4 * i2)))), (14, .long (((da ((12 * t) + i2)).toInt64) * ((ru (22 + (rn i2))).toInt64))), (16, .long (if (((da ((12 * t) + i2)).toInt64) * ((ru (22 + (rn i2))).toInt64)) ≤ ((j_f0 (o_pcG 3 lf (va_up (va_up (va_up we 0 ((ru 0).toInt64)) 1 ((ru 1).toInt64)) 2 (((100 - (ru 0)) - (ru 1)).toInt64)) ge re) (fun _ => 0) P) i2) then 0 else (((da ((12 * t) + i2)).toInt64) * ((ru (22 + (rn i2))).toInt64)) - ((j_f0 (o_pcG 3 lf (va_up (va_up (va_up we 0 ((ru 0).toInt64)) 1 ((ru 1).toInt64)) 2 (((100 - (ru 0)) - (ru 1)).toInt64)) ge re) (fun _ => 0) P) i2))), (18, .long (((j_f0 (o_pcG 3 lf (va_up (va_up (va_up we 0 ((ru 0).toInt64)) 1 ((ru 1).toInt64)) 2 (((100 - (ru 0)) - (ru 1)).toInt64)) ge re) (fun _ => 0) P) i2) + (if (((da ((12 * t) + i2)).toInt64) * ((ru (22 + (rn i2))).toInt64)) ≤ ((j_f0 (o_pcG 3 lf (va_up (va_up (va_up we 0 ((ru 0).toInt64)) 1 ((ru 1).toInt64)) 2 (((100 - (ru 0)) - (ru 1)).toInt64)) ge re) (fun _ => 0) P) i2) then 0 else (((da ((12 * t) + i2)).toInt64) * ((ru (22 + (rn i2))).toInt64)) - ((j_f0 (o_pcG 3 lf (va_up (va_up (va_up we 0 ((ru 0).toInt64)) 1 ((ru 1).toInt64)) 2 (((100 - (ru 0)) - (ru 1)).toInt64)) ge re) (fun _ => 0) P) i2))))] [.long (if (((j_f0 (o_pcG 3 lf (va_up (va_up (va_up we 0 ((ru 0).toInt64)) 1 ((ru 1).toInt64)) 2 (((100 - (ru 0)) - (ru 1)).toInt64)) ge re) (fun _ => 0) P) i2) + (if (((da ((12 * t) + i2)).toInt64) * ((ru (22 + (rn i2))).toInt64)) ≤ ((j_f0 (o_pcG 3 lf (va_up (va_up (va_up we 0 ((ru 0).toInt64)) 1 ((ru 1).toInt64)) 2 (((100 - (ru 0)) - (ru 1)).toInt64)) ge re) (fun _ => 0) P) i2) then 0 else (((da ((12 * t) + i2)).toInt64) * ((ru (22 + (rn i2))).toInt64)) - ((j_f0 (o_pcG 3 lf (va_up (va_up (va_up we 0 ((ru 0).toInt64)) 1 ((ru 1).toInt64)) 2 (((100 - (ru 0)) - (ru 1)).toInt64)) ge re) (fun _ => 0) P) i2))) ≤ (((j_ms t (fun k => (da (12 * t + k)).toInt64 * (ru (22 + rn k)).toInt64) (j_f0 (o_pcG 3 lf (va_up (va_up (va_up we 0 ((ru 0).toInt64)) 1 ((ru 1).toInt64)) 2 (((100 - (ru 0)) - (ru 1)).toInt64)) ge re) (fun _ => 0) P) (ow1 + crw, ad, ss) i2).2.1) i2) then ((j_f0 (o_pcG 3 lf (va_up (va_up (va_up we 0 ((ru 0).toInt64)) 1 ((ru 1).toInt64)) 2 (((100 - (ru 0)) - (ru 1)).toInt64)) ge re) (fun _ => 0) P) i2) + (if (((da ((12 * t) + i2)).toInt64) * ((ru (22 + (rn i2))).toInt64)) ≤ ((j_f0 (o_pcG 3 lf (va_up (va_up (va_up we 0 ((ru 0).toInt64)) 1 ((ru 1).toInt64)) 2 (((100 - (ru 0)) - (ru 1)).toInt64)) ge re) (fun _ => 0) P) i2) then 0 else (((da ((12 * t) + i2)).toInt64) * ((ru (22 + (rn i2))).toInt64)) - ((j_f0 (o_pcG 3 lf (va_up (va_up (va_up we 0 ((ru 0).toInt64)) 1 ((ru 1).toInt64)) 2 (((100 - (ru 0)) - (ru 1)).toInt64)) ge re) (fun _ => 0) P) i2)) else ((j_ms t (fun k => (da (12 * t + k)).toInt64 * (ru (22 + rn k)).toInt64) (j_f0 (o_pcG 3 lf (va_up (va_up (va_up we 0 ((ru 0).toInt64)) 1 ((ru 1).toInt64)) 2 (((100 - (ru 0)) - (ru 1)).toInt64)) ge re) (fun _ => 0) P) (ow1 + crw, ad, ss) i2).2.1) i2)] (j_set (j_set (j_set (j_set (j_set (j_set (j_set (j_set h 38 (jZ 20 (va_up se t 1))) 39 (jL 120 (va_up (va_up (va_up (va_up (va_up pa ((6 * t) + 4) (lo (spn t))) ((6 * t) + 5) ls1) (6 * t) lf) ((6 * t) + 2) ((o_pcG 3 lf (va_up (va_up (va_up we 0 ((ru 0).toInt64)) 1 ((ru 1).toInt64)) 2 (((100 - (ru 0)) - (ru 1)).toInt64)) ge re) 1)) ((6 * t) + 3) crw))) 31 (jL 4 (va_up lo (spn t) ls1))) 41 (jL 12 (j_f0 (va_up (va_up (va_up we 0 ((ru 0).toInt64)) 1 ((ru 1).toInt64)) 2 (((100 - (ru 0)) - (ru 1)).toInt64)) (fun k => (da (12 * t + k)).toInt64 * (ru (12 + rn k)).toInt64) P))) 42 (jL 12 (j_f0 (o_pcG 3 lf (va_up (va_up (va_up we 0 ((ru 0).toInt64)) 1 ((ru 1).toInt64)) 2 (((100 - (ru 0)) - (ru 1)).toInt64)) ge re) (fun _ => 0) P))) 43 (jL 12 (o_pcR 3 lf (va_up (va_up (va_up we 0 ((ru 0).toInt64)) 1 ((ru 1).toInt64)) 2 (((100 - (ru 0)) - (ru 1)).toInt64)) ge re))) 33 (jL 12 ((j_ms t (fun k => (da (12 * t + k)).toInt64 * (ru (22 + rn k)).toInt64) (j_f0 (o_pcG 3 lf (va_up (va_up (va_up we 0 ((ru 0).toInt64)) 1 ((ru 1).toInt64)) 2 (((100 - (ru 0)) - (ru 1)).toInt64)) ge re) (fun _ => 0) P) (ow1 + crw, ad, ss) i2).2.1))) 40 (jL 960 ((j_ms t (fun k => (da (12 * t + k)).toInt64 * (ru (22 + rn k)).toInt64) (j_f0 (o_pcG 3 lf (va_up (va_up (va_up we 0 ((ru 0).toInt64)) 1 ((ru 1).toInt64)) 2 (((100 - (ru 0)) - (ru 1)).toInt64)) ge re) (fun _ => 0) P) (ow1 + crw, ad, ss) i2).2.2))) Q := by
                              refine j_lstore (pc := 524) dX8_settle_524 (by decide) ?_
                              refine j_lload (pc := 526) dX8_settle_526 rfl ?_
                              refine j_lload (pc := 528) dX8_settle_528 rfl ?_
                              refine j_lsub (pc := 530) dX8_settle_530 ?_
                              refine j_lstore (pc := 531) dX8_settle_531 (by decide) ?_
                              refine j_aload_n (pc := 533) dX8_settle_533 rfl ?_
                              refine j_getf (pc := 534) dX8_settle_534 jfX8_26 (j_hn (by decide) (j_hn (by decide) (j_hn (by decide) (j_hn (by decide) (j_hn (by decide) (j_hn (by decide) (j_hn (by decide) (j_hn (by decide) H0)))))))) rfl ?_
                              refine j_iload (pc := 537) dX8_settle_537 rfl ?_
                              refine j_dup2 (pc := 539) dX8_settle_539 rfl rfl ?_
                              refine j_lald (pc := 540) dX8_settle_540 (j_hn (by decide) j_hs) (jix_nI (by omega) (by decide)) ?_
                              refine j_lload (pc := 541) dX8_settle_541 rfl ?_
                              refine j_lsub (pc := 543) dX8_settle_543 ?_
                              refine j_last (pc := 544) dX8_settle_544 (j_hn (by decide) j_hs) (jix_nI (by omega) (by decide)) ?_
                              rw [j_ss1 (a := 33) (b0 := 40) (by decide)]
                              refine j_aload_n (pc := 545) dX8_settle_545 rfl ?_
                              refine j_getf (pc := 546) dX8_settle_546 jfX8_48 (j_hn (by decide) (j_hn (by decide) (j_hn (by decide) (j_hn (by decide) (j_hn (by decide) (j_hn (by decide) (j_hn (by decide) (j_hn (by decide) H0)))))))) rfl ?_
                              refine j_iload (pc := 549) dX8_settle_549 rfl ?_
                              refine j_aload_n (pc := 551) dX8_settle_551 rfl ?_
                              refine j_getf (pc := 552) dX8_settle_552 jfX8_54 (j_hn (by decide) (j_hn (by decide) (j_hn (by decide) (j_hn (by decide) (j_hn (by decide) (j_hn (by decide) (j_hn (by decide) (j_hn (by decide) H0)))))))) rfl ?_
                              refine j_iload (pc := 555) dX8_settle_555 rfl ?_
                              refine j_lald (pc := 557) dX8_settle_557 (j_hn (by decide) (j_hn (by decide) (j_hn (by decide) j_hs))) (jix_nI (by omega) (by decide)) ?_
                              refine j_last (pc := 558) dX8_settle_558 j_hs (jix_nI (by omega) (by decide)) ?_
                              rw [j_ss0 (a := 40)]
                              refine j_aload_n (pc := 559) dX8_settle_559 rfl ?_
                              refine j_getf (pc := 560) dX8_settle_560 jfX8_48 (j_hn (by decide) (j_hn (by decide) (j_hn (by decide) (j_hn (by decide) (j_hn (by decide) (j_hn (by decide) (j_hn (by decide) (j_hn (by decide) H0)))))))) rfl ?_
                              refine j_iload (pc := 563) dX8_settle_563 rfl ?_
                              refine j_iconst (pc := 565) (v := 1) dX8_settle_565 (by decide) ?_
                              refine j_iaddN (a := (48 * t) + (4 * i2)) (b := 1) (pc := 566) dX8_settle_566 ?_
                              refine j_lload (pc := 567) dX8_settle_567 rfl ?_
                              refine j_last (pc := 569) dX8_settle_569 j_hs (jix_nI (by omega) (by decide)) ?_
                              rw [j_ss0 (a := 40)]
                              refine j_aload_n (pc := 570) dX8_settle_570 rfl ?_
                              refine j_getf (pc := 571) dX8_settle_571 jfX8_48 (j_hn (by decide) (j_hn (by decide) (j_hn (by decide) (j_hn (by decide) (j_hn (by decide) (j_hn (by decide) (j_hn (by decide) (j_hn (by decide) H0)))))))) rfl ?_
                              refine j_iload (pc := 574) dX8_settle_574 rfl ?_
                              refine j_iconst (pc := 576) (v := 2) dX8_settle_576 (by decide) ?_
                              refine j_iaddN (a := (48 * t) + (4 * i2)) (b := 2) (pc := 577) dX8_settle_577 ?_
                              refine j_lload (pc := 578) dX8_settle_578 rfl ?_
                              refine j_last (pc := 580) dX8_settle_580 j_hs (jix_nI (by omega) (by decide)) ?_
                              rw [j_ss0 (a := 40)]
                              refine j_aload_n (pc := 581) dX8_settle_581 rfl ?_
                              refine j_getf (pc := 582) dX8_settle_582 jfX8_48 (j_hn (by decide) (j_hn (by decide) (j_hn (by decide) (j_hn (by decide) (j_hn (by decide) (j_hn (by decide) (j_hn (by decide) (j_hn (by decide) H0)))))))) rfl ?_
                              refine j_iload (pc := 585) dX8_settle_585 rfl ?_
                              refine j_iconst (pc := 587) (v := 3) dX8_settle_587 (by decide) ?_
                              refine j_iaddN (a := (48 * t) + (4 * i2)) (b := 3) (pc := 588) dX8_settle_588 ?_
                              refine j_lload (pc := 589) dX8_settle_589 rfl ?_
                              refine j_lload (pc := 591) dX8_settle_591 rfl ?_
                              refine j_lsub (pc := 593) dX8_settle_593 ?_
                              refine j_last (pc := 594) dX8_settle_594 j_hs (jix_nI (by omega) (by decide)) ?_
                              rw [j_ss0 (a := 40)]
                              refine j_iincN (a := i2) (d := 1) (pc := 595) dX8_settle_595 rfl (by decide) ?_
                              refine j_goto (pc := 598) (tgt := 406) dX8_settle_598 (by decide) ?_
                              exact j_sub rfl ih2
                            refine j_lc_ge (pc := 508) (tgt := 522) dX8_settle_508 dX8_settle_509 (by decide) (fun c15 => ?_) (fun c15 => ?_)
                            · refine j_lload (pc := 522) dX8_settle_522 rfl ?_
                              rw [if_pos c15] at KT7
                              exact j_sub rfl KT7
                            · refine j_aload_n (pc := 512) dX8_settle_512 rfl ?_
                              refine j_getf (pc := 513) dX8_settle_513 jfX8_26 (j_hn (by decide) (j_hn (by decide) (j_hn (by decide) (j_hn (by decide) (j_hn (by decide) (j_hn (by decide) (j_hn (by decide) (j_hn (by decide) H0)))))))) rfl ?_
                              refine j_iload (pc := 516) dX8_settle_516 rfl ?_
                              refine j_lald (pc := 518) dX8_settle_518 (j_hn (by decide) j_hs) (jix_nI (by omega) (by decide)) ?_
                              refine j_goto (pc := 519) (tgt := 524) dX8_settle_519 (by decide) ?_
                              rw [if_neg c15] at KT7
                              exact j_sub rfl KT7
                          refine j_lc_le (pc := 467) (tgt := 484) dX8_settle_467 dX8_settle_468 (by decide) (fun c16 => ?_) (fun c16 => ?_)
                          · refine j_lconst (pc := 484) (v := 0) dX8_settle_484 (by decide) ?_
                            rw [if_pos c16] at KT6
                            exact j_sub rfl KT6
                          · refine j_lload (pc := 471) dX8_settle_471 rfl ?_
                            refine j_aload_n (pc := 473) dX8_settle_473 rfl ?_
                            refine j_getf (pc := 474) dX8_settle_474 jfX8_54 (j_hn (by decide) (j_hn (by decide) (j_hn (by decide) (j_hn (by decide) (j_hn (by decide) (j_hn (by decide) (j_hn (by decide) (j_hn (by decide) H0)))))))) rfl ?_
                            refine j_iload (pc := 477) dX8_settle_477 rfl ?_
                            refine j_lald (pc := 479) dX8_settle_479 (j_hn (by decide) (j_hn (by decide) (j_hn (by decide) j_hs))) (jix_nI (by omega) (by decide)) ?_
                            refine j_lsub (pc := 480) dX8_settle_480 ?_
                            refine j_goto (pc := 481) (tgt := 485) dX8_settle_481 (by decide) ?_
                            rw [if_neg c16] at KT6
                            exact j_sub rfl KT6
                      · refine j_iload (pc := 406) dX8_settle_406 rfl ?_
                        refine j_aload_n (pc := 408) dX8_settle_408 rfl ?_
                        refine j_getf (pc := 409) dX8_settle_409 jfX8_123 (j_hn (by decide) (j_hn (by decide) (j_hn (by decide) (j_hn (by decide) (j_hn (by decide) (j_hn (by decide) (j_hn (by decide) (j_hn (by decide) H0)))))))) rfl ?_
                        refine j_icmp_geN (a := P) (b := P) (pc := 412) (tgt := 601) dX8_settle_412 (by decide) (by omega) (by omega) (fun c17 => ?_) (fun c17 => ?_)
                        · refine j_aload_n (pc := 601) dX8_settle_601 rfl ?_
                          refine j_getf (pc := 602) dX8_settle_602 jfX8_45 (j_hn (by decide) (j_hn (by decide) (j_hn (by decide) (j_hn (by decide) (j_hn (by decide) (j_hn (by decide) (j_hn (by decide) (j_hn (by decide) H0)))))))) rfl ?_
                          refine j_bipush (pc := 605) (v := 6) dX8_settle_605 (by decide) ?_
                          refine j_iload_n (pc := 607) dX8_settle_607 rfl ?_
                          refine j_imulN (a := 6) (b := t) (pc := 608) dX8_settle_608 ?_
                          refine j_iconst (pc := 609) (v := 1) dX8_settle_609 (by decide) ?_
                          refine j_iaddN (a := 6 * t) (b := 1) (pc := 610) dX8_settle_610 ?_
                          refine j_lload (pc := 611) dX8_settle_611 rfl ?_
                          refine j_last (pc := 613) dX8_settle_613 (j_hn (by decide) (j_hn (by decide) (j_hn (by decide) (j_hn (by decide) (j_hn (by decide) (j_hn (by decide) j_hs)))))) (jix_nI (by omega) (by decide)) ?_
                          rw [j_ss6 (a := 39) (b0 := 31) (b1 := 41) (b2 := 42) (b3 := 43) (b4 := 33) (b5 := 40) (by decide) (by decide) (by decide) (by decide) (by decide) (by decide)]
                          refine j_iload (pc := 614) dX8_settle_614 rfl ?_
                          exact j_iret (pc := 616) dX8_settle_616 rfl rfl (Nat.le_of_ble_eq_true rfl) (Nat.le_of_ble_eq_true rfl) (K3 c4 c5 t rfl ht c9 lf0 hlf0 ls1 hls1 lf hlf ow0 how0 cr0 hcr0 ow1 how1 crw hcrw c13)
                        · exfalso; omega
                    · refine j_aload_n (pc := 383) dX8_settle_383 rfl ?_
                      refine j_lload (pc := 384) dX8_settle_384 rfl ?_
                      refine j_aload_n (pc := 386) dX8_settle_386 rfl ?_
                      refine j_getf (pc := 387) dX8_settle_387 jfX8_123 (j_hn (by decide) (j_hn (by decide) (j_hn (by decide) (j_hn (by decide) (j_hn (by decide) (j_hn (by decide) H0)))))) rfl ?_
                      refine j_V2 (rm' := rmX8_partByCents) (pc := 390) dX8_settle_390 jlX8_152 (j_hn (by decide) (j_hn (by decide) (j_hn (by decide) (j_hn (by decide) (j_hn (by decide) (j_hn (by decide) H0)))))) rfl ⟨Nat.le_of_ble_eq_true rfl, Nat.le_of_ble_eq_true rfl, Nat.le_of_ble_eq_true rfl, Nat.le_of_ble_eq_true rfl, Nat.le_of_ble_eq_true rfl, Nat.le_of_ble_eq_true rfl⟩ ?_
                      refine s_X8_partByCents (n := P) (j_hn (by decide) (j_hn (by decide) (j_hn (by decide) (j_hn (by decide) (j_hn (by decide) (j_hn (by decide) H0)))))) (j_hn (by decide) (j_hn (by decide) j_hs)) (j_hn (by decide) j_hs) j_hs hP (j_pos c13) (by rw [j_sm_f0]; intro z; rw [z] at c13; exact c13 (by decide)) ?_
                      show J l G mX8_settle _ _ 393 _ [] (j_set (j_set (j_set (j_set (j_set (j_set (j_set (j_set h 38 (jZ 20 (va_up se t 1))) 39 (jL 120 (va_up (va_up (va_up (va_up (va_up pa ((6 * t) + 4) (lo (spn t))) ((6 * t) + 5) ls1) (6 * t) lf) ((6 * t) + 2) ((o_pcG 3 lf (va_up (va_up (va_up we 0 ((ru 0).toInt64)) 1 ((ru 1).toInt64)) 2 (((100 - (ru 0)) - (ru 1)).toInt64)) ge re) 1)) ((6 * t) + 3) crw))) 31 (jL 4 (va_up lo (spn t) ls1))) 41 (jL 12 (j_f0 (va_up (va_up (va_up we 0 ((ru 0).toInt64)) 1 ((ru 1).toInt64)) 2 (((100 - (ru 0)) - (ru 1)).toInt64)) (fun k => (da (12 * t + k)).toInt64 * (ru (12 + rn k)).toInt64) P))) 42 (jL 12 (j_f0 (o_pcG 3 lf (va_up (va_up (va_up we 0 ((ru 0).toInt64)) 1 ((ru 1).toInt64)) 2 (((100 - (ru 0)) - (ru 1)).toInt64)) ge re) (fun _ => 0) P))) 43 (jL 12 (o_pcR 3 lf (va_up (va_up (va_up we 0 ((ru 0).toInt64)) 1 ((ru 1).toInt64)) 2 (((100 - (ru 0)) - (ru 1)).toInt64)) ge re))) 42 (jL 12 (o_pcG P crw (j_f0 (va_up (va_up (va_up we 0 ((ru 0).toInt64)) 1 ((ru 1).toInt64)) 2 (((100 - (ru 0)) - (ru 1)).toInt64)) (fun k => (da (12 * t + k)).toInt64 * (ru (12 + rn k)).toInt64) P) (j_f0 (o_pcG 3 lf (va_up (va_up (va_up we 0 ((ru 0).toInt64)) 1 ((ru 1).toInt64)) 2 (((100 - (ru 0)) - (ru 1)).toInt64)) ge re) (fun _ => 0) P) (o_pcR 3 lf (va_up (va_up (va_up we 0 ((ru 0).toInt64)) 1 ((ru 1).toInt64)) 2 (((100 - (ru 0)) - (ru 1)).toInt64)) ge re)))) 43 (jL 12 (o_pcR P crw (j_f0 (va_up (va_up (va_up we 0 ((ru 0).toInt64)) 1 ((ru 1).toInt64)) 2 (((100 - (ru 0)) - (ru 1)).toInt64)) (fun k => (da (12 * t + k)).toInt64 * (ru (12 + rn k)).toInt64) P) (j_f0 (o_pcG 3 lf (va_up (va_up (va_up we 0 ((ru 0).toInt64)) 1 ((ru 1).toInt64)) 2 (((100 - (ru 0)) - (ru 1)).toInt64)) ge re) (fun _ => 0) P) (o_pcR 3 lf (va_up (va_up (va_up we 0 ((ru 0).toInt64)) 1 ((ru 1).toInt64)) 2 (((100 - (ru 0)) - (ru 1)).toInt64)) ge re)))) Q
                      rw [show (j_set (j_set (j_set (j_set (j_set (j_set (j_set (j_set h 38 (jZ 20 (va_up se t 1))) 39 (jL 120 (va_up (va_up (va_up (va_up (va_up pa ((6 * t) + 4) (lo (spn t))) ((6 * t) + 5) ls1) (6 * t) lf) ((6 * t) + 2) ((o_pcG 3 lf (va_up (va_up (va_up we 0 ((ru 0).toInt64)) 1 ((ru 1).toInt64)) 2 (((100 - (ru 0)) - (ru 1)).toInt64)) ge re) 1)) ((6 * t) + 3) crw))) 31 (jL 4 (va_up lo (spn t) ls1))) 41 (jL 12 (j_f0 (va_up (va_up (va_up we 0 ((ru 0).toInt64)) 1 ((ru 1).toInt64)) 2 (((100 - (ru 0)) - (ru 1)).toInt64)) (fun k => (da (12 * t + k)).toInt64 * (ru (12 + rn k)).toInt64) P))) 42 (jL 12 (j_f0 (o_pcG 3 lf (va_up (va_up (va_up we 0 ((ru 0).toInt64)) 1 ((ru 1).toInt64)) 2 (((100 - (ru 0)) - (ru 1)).toInt64)) ge re) (fun _ => 0) P))) 43 (jL 12 (o_pcR 3 lf (va_up (va_up (va_up we 0 ((ru 0).toInt64)) 1 ((ru 1).toInt64)) 2 (((100 - (ru 0)) - (ru 1)).toInt64)) ge re))) 42 (jL 12 (o_pcG P crw (j_f0 (va_up (va_up (va_up we 0 ((ru 0).toInt64)) 1 ((ru 1).toInt64)) 2 (((100 - (ru 0)) - (ru 1)).toInt64)) (fun k => (da (12 * t + k)).toInt64 * (ru (12 + rn k)).toInt64) P) (j_f0 (o_pcG 3 lf (va_up (va_up (va_up we 0 ((ru 0).toInt64)) 1 ((ru 1).toInt64)) 2 (((100 - (ru 0)) - (ru 1)).toInt64)) ge re) (fun _ => 0) P) (o_pcR 3 lf (va_up (va_up (va_up we 0 ((ru 0).toInt64)) 1 ((ru 1).toInt64)) 2 (((100 - (ru 0)) - (ru 1)).toInt64)) ge re)))) 43 (jL 12 (o_pcR P crw (j_f0 (va_up (va_up (va_up we 0 ((ru 0).toInt64)) 1 ((ru 1).toInt64)) 2 (((100 - (ru 0)) - (ru 1)).toInt64)) (fun k => (da (12 * t + k)).toInt64 * (ru (12 + rn k)).toInt64) P) (j_f0 (o_pcG 3 lf (va_up (va_up (va_up we 0 ((ru 0).toInt64)) 1 ((ru 1).toInt64)) 2 (((100 - (ru 0)) - (ru 1)).toInt64)) ge re) (fun _ => 0) P) (o_pcR 3 lf (va_up (va_up (va_up we 0 ((ru 0).toInt64)) 1 ((ru 1).toInt64)) 2 (((100 - (ru 0)) - (ru 1)).toInt64)) ge re)))) = (j_set (j_set (j_set (j_set (j_set (j_set h 38 (jZ 20 (va_up se t 1))) 39 (jL 120 (va_up (va_up (va_up (va_up (va_up pa ((6 * t) + 4) (lo (spn t))) ((6 * t) + 5) ls1) (6 * t) lf) ((6 * t) + 2) ((o_pcG 3 lf (va_up (va_up (va_up we 0 ((ru 0).toInt64)) 1 ((ru 1).toInt64)) 2 (((100 - (ru 0)) - (ru 1)).toInt64)) ge re) 1)) ((6 * t) + 3) crw))) 31 (jL 4 (va_up lo (spn t) ls1))) 41 (jL 12 (j_f0 (va_up (va_up (va_up we 0 ((ru 0).toInt64)) 1 ((ru 1).toInt64)) 2 (((100 - (ru 0)) - (ru 1)).toInt64)) (fun k => (da (12 * t + k)).toInt64 * (ru (12 + rn k)).toInt64) P))) 42 (jL 12 (o_pcG P crw (j_f0 (va_up (va_up (va_up we 0 ((ru 0).toInt64)) 1 ((ru 1).toInt64)) 2 (((100 - (ru 0)) - (ru 1)).toInt64)) (fun k => (da (12 * t + k)).toInt64 * (ru (12 + rn k)).toInt64) P) (j_f0 (o_pcG 3 lf (va_up (va_up (va_up we 0 ((ru 0).toInt64)) 1 ((ru 1).toInt64)) 2 (((100 - (ru 0)) - (ru 1)).toInt64)) ge re) (fun _ => 0) P) (o_pcR 3 lf (va_up (va_up (va_up we 0 ((ru 0).toInt64)) 1 ((ru 1).toInt64)) 2 (((100 - (ru 0)) - (ru 1)).toInt64)) ge re)))) 43 (jL 12 (o_pcR P crw (j_f0 (va_up (va_up (va_up we 0 ((ru 0).toInt64)) 1 ((ru 1).toInt64)) 2 (((100 - (ru 0)) - (ru 1)).toInt64)) (fun k => (da (12 * t + k)).toInt64 * (ru (12 + rn k)).toInt64) P) (j_f0 (o_pcG 3 lf (va_up (va_up (va_up we 0 ((ru 0).toInt64)) 1 ((ru 1).toInt64)) 2 (((100 - (ru 0)) - (ru 1)).toInt64)) ge re) (fun _ => 0) P) (o_pcR 3 lf (va_up (va_up (va_up we 0 ((ru 0).toInt64)) 1 ((ru 1).toInt64)) 2 (((100 - (ru 0)) - (ru 1)).toInt64)) ge re)))) from by rw [j_ss1 (a := 42) (b0 := 43) (by decide), j_ss0 (a := 43)]]
                      refine j_goto (pc := 393) (tgt := 403) dX8_settle_393 (by decide) ?_
                      refine j_iconst (pc := 403) (v := 0) dX8_settle_403 (by decide) ?_
                      refine j_istore (pc := 404) dX8_settle_404 (by decide) ?_
                      refine j_pad (j_hn (by decide) (j_hn (by decide) (j_hn (by decide) (j_hn (by decide) (j_hn (by decide) (j_hn (by decide) H4)))))) ?_
                      refine j_pad (j_hn (by decide) (j_hn (by decide) (j_hn (by decide) (j_hn (by decide) (j_hn (by decide) (j_hn (by decide) (j_hn (by decide) H11))))))) ?_
                      refine j_sub (lv' := [(0, .ref 27), (1, .int (nI t)), (2, .int (nI (spn t))), (3, .long lf), (5, .long ((j_ms t (fun k => (da (12 * t + k)).toInt64 * (ru (22 + rn k)).toInt64) (o_pcG P crw (j_f0 (va_up (va_up (va_up we 0 ((ru 0).toInt64)) 1 ((ru 1).toInt64)) 2 (((100 - (ru 0)) - (ru 1)).toInt64)) (fun k => (da (12 * t + k)).toInt64 * (ru (12 + rn k)).toInt64) P) (j_f0 (o_pcG 3 lf (va_up (va_up (va_up we 0 ((ru 0).toInt64)) 1 ((ru 1).toInt64)) 2 (((100 - (ru 0)) - (ru 1)).toInt64)) ge re) (fun _ => 0) P) (o_pcR 3 lf (va_up (va_up (va_up we 0 ((ru 0).toInt64)) 1 ((ru 1).toInt64)) 2 (((100 - (ru 0)) - (ru 1)).toInt64)) ge re)) (ow1, ad, ss) 0).1)), (7, .long crw), (9, .long (j_sm (fun k => (da (12 * t + k)).toInt64 * (ru (12 + rn k)).toInt64) P)), (11, .int (j_mn (fun k => da (12 * t + k)) P)), (12, .int (nI 0))]) rfl ?_
                      refine j_for (N := P) (S := fun i3 => J l G mX8_settle 0 0 406 [(0, .ref 27), (1, .int (nI t)), (2, .int (nI (spn t))), (3, .long lf), (5, .long ((j_ms t (fun k => (da (12 * t + k)).toInt64 * (ru (22 + rn k)).toInt64) (o_pcG P crw (j_f0 (va_up (va_up (va_up we 0 ((ru 0).toInt64)) 1 ((ru 1).toInt64)) 2 (((100 - (ru 0)) - (ru 1)).toInt64)) (fun k => (da (12 * t + k)).toInt64 * (ru (12 + rn k)).toInt64) P) (j_f0 (o_pcG 3 lf (va_up (va_up (va_up we 0 ((ru 0).toInt64)) 1 ((ru 1).toInt64)) 2 (((100 - (ru 0)) - (ru 1)).toInt64)) ge re) (fun _ => 0) P) (o_pcR 3 lf (va_up (va_up (va_up we 0 ((ru 0).toInt64)) 1 ((ru 1).toInt64)) 2 (((100 - (ru 0)) - (ru 1)).toInt64)) ge re)) (ow1, ad, ss) i3).1)), (7, .long crw), (9, .long (j_sm (fun k => (da (12 * t + k)).toInt64 * (ru (12 + rn k)).toInt64) P)), (11, .int (j_mn (fun k => da (12 * t + k)) P)), (12, .int (nI i3))] [] (j_set (j_set (j_set (j_set (j_set (j_set (j_set (j_set h 38 (jZ 20 (va_up se t 1))) 39 (jL 120 (va_up (va_up (va_up (va_up (va_up pa ((6 * t) + 4) (lo (spn t))) ((6 * t) + 5) ls1) (6 * t) lf) ((6 * t) + 2) ((o_pcG 3 lf (va_up (va_up (va_up we 0 ((ru 0).toInt64)) 1 ((ru 1).toInt64)) 2 (((100 - (ru 0)) - (ru 1)).toInt64)) ge re) 1)) ((6 * t) + 3) crw))) 31 (jL 4 (va_up lo (spn t) ls1))) 41 (jL 12 (j_f0 (va_up (va_up (va_up we 0 ((ru 0).toInt64)) 1 ((ru 1).toInt64)) 2 (((100 - (ru 0)) - (ru 1)).toInt64)) (fun k => (da (12 * t + k)).toInt64 * (ru (12 + rn k)).toInt64) P))) 42 (jL 12 (o_pcG P crw (j_f0 (va_up (va_up (va_up we 0 ((ru 0).toInt64)) 1 ((ru 1).toInt64)) 2 (((100 - (ru 0)) - (ru 1)).toInt64)) (fun k => (da (12 * t + k)).toInt64 * (ru (12 + rn k)).toInt64) P) (j_f0 (o_pcG 3 lf (va_up (va_up (va_up we 0 ((ru 0).toInt64)) 1 ((ru 1).toInt64)) 2 (((100 - (ru 0)) - (ru 1)).toInt64)) ge re) (fun _ => 0) P) (o_pcR 3 lf (va_up (va_up (va_up we 0 ((ru 0).toInt64)) 1 ((ru 1).toInt64)) 2 (((100 - (ru 0)) - (ru 1)).toInt64)) ge re)))) 43 (jL 12 (o_pcR P crw (j_f0 (va_up (va_up (va_up we 0 ((ru 0).toInt64)) 1 ((ru 1).toInt64)) 2 (((100 - (ru 0)) - (ru 1)).toInt64)) (fun k => (da (12 * t + k)).toInt64 * (ru (12 + rn k)).toInt64) P) (j_f0 (o_pcG 3 lf (va_up (va_up (va_up we 0 ((ru 0).toInt64)) 1 ((ru 1).toInt64)) 2 (((100 - (ru 0)) - (ru 1)).toInt64)) ge re) (fun _ => 0) P) (o_pcR 3 lf (va_up (va_up (va_up we 0 ((ru 0).toInt64)) 1 ((ru 1).toInt64)) 2 (((100 - (ru 0)) - (ru 1)).toInt64)) ge re)))) 33 (jL 12 ((j_ms t (fun k => (da (12 * t + k)).toInt64 * (ru (22 + rn k)).toInt64) (o_pcG P crw (j_f0 (va_up (va_up (va_up we 0 ((ru 0).toInt64)) 1 ((ru 1).toInt64)) 2 (((100 - (ru 0)) - (ru 1)).toInt64)) (fun k => (da (12 * t + k)).toInt64 * (ru (12 + rn k)).toInt64) P) (j_f0 (o_pcG 3 lf (va_up (va_up (va_up we 0 ((ru 0).toInt64)) 1 ((ru 1).toInt64)) 2 (((100 - (ru 0)) - (ru 1)).toInt64)) ge re) (fun _ => 0) P) (o_pcR 3 lf (va_up (va_up (va_up we 0 ((ru 0).toInt64)) 1 ((ru 1).toInt64)) 2 (((100 - (ru 0)) - (ru 1)).toInt64)) ge re)) (ow1, ad, ss) i3).2.1))) 40 (jL 960 ((j_ms t (fun k => (da (12 * t + k)).toInt64 * (ru (22 + rn k)).toInt64) (o_pcG P crw (j_f0 (va_up (va_up (va_up we 0 ((ru 0).toInt64)) 1 ((ru 1).toInt64)) 2 (((100 - (ru 0)) - (ru 1)).toInt64)) (fun k => (da (12 * t + k)).toInt64 * (ru (12 + rn k)).toInt64) P) (j_f0 (o_pcG 3 lf (va_up (va_up (va_up we 0 ((ru 0).toInt64)) 1 ((ru 1).toInt64)) 2 (((100 - (ru 0)) - (ru 1)).toInt64)) ge re) (fun _ => 0) P) (o_pcR 3 lf (va_up (va_up (va_up we 0 ((ru 0).toInt64)) 1 ((ru 1).toInt64)) 2 (((100 - (ru 0)) - (ru 1)).toInt64)) ge re)) (ow1, ad, ss) i3).2.2))) Q) ?_ ?_ 0 (Nat.zero_le _)
                      · intro i3 hi3 ih3
                        have hr2 := (hro i3 hi3).2
                        refine j_iload (pc := 406) dX8_settle_406 rfl ?_
                        refine j_aload_n (pc := 408) dX8_settle_408 rfl ?_
                        refine j_getf (pc := 409) dX8_settle_409 jfX8_123 (j_hn (by decide) (j_hn (by decide) (j_hn (by decide) (j_hn (by decide) (j_hn (by decide) (j_hn (by decide) (j_hn (by decide) (j_hn (by decide) H0)))))))) rfl ?_
                        refine j_icmp_geN (a := i3) (b := P) (pc := 412) (tgt := 601) dX8_settle_412 (by decide) (by omega) (by omega) (fun c18 => ?_) (fun c18 => ?_)
                        · exfalso; omega
                        · refine j_bipush (pc := 415) (v := 48) dX8_settle_415 (by decide) ?_
                          refine j_iload_n (pc := 417) dX8_settle_417 rfl ?_
                          refine j_imulN (a := 48) (b := t) (pc := 418) dX8_settle_418 ?_
                          refine j_iconst (pc := 419) (v := 4) dX8_settle_419 (by decide) ?_
                          refine j_iload (pc := 420) dX8_settle_420 rfl ?_
                          refine j_imulN (a := 4) (b := i3) (pc := 422) dX8_settle_422 ?_
                          refine j_iaddN (a := 48 * t) (b := 4 * i3) (pc := 423) dX8_settle_423 ?_
                          refine j_istore (pc := 424) dX8_settle_424 (by decide) ?_
                          refine j_aload_n (pc := 426) dX8_settle_426 rfl ?_
                          refine j_getf (pc := 427) dX8_settle_427 jfX8_38 (j_hn (by decide) (j_hn (by decide) (j_hn (by decide) (j_hn (by decide) (j_hn (by decide) (j_hn (by decide) (j_hn (by decide) (j_hn (by decide) H0)))))))) rfl ?_
                          refine j_bipush (pc := 430) (v := 12) dX8_settle_430 (by decide) ?_
                          refine j_iload_n (pc := 432) dX8_settle_432 rfl ?_
                          refine j_imulN (a := 12) (b := t) (pc := 433) dX8_settle_433 ?_
                          refine j_iload (pc := 434) dX8_settle_434 rfl ?_
                          refine j_iaddN (a := 12 * t) (b := i3) (pc := 436) dX8_settle_436 ?_
                          refine j_iald (pc := 437) dX8_settle_437 (j_hn (by decide) (j_hn (by decide) (j_hn (by decide) (j_hn (by decide) (j_hn (by decide) (j_hn (by decide) (j_hn (by decide) (j_hn (by decide) H8)))))))) (jix_nI (by omega) (by decide)) ?_
                          refine j_i2l (pc := 438) dX8_settle_438 ?_
                          refine j_aload_n (pc := 439) dX8_settle_439 rfl ?_
                          refine j_getf (pc := 440) dX8_settle_440 jfX8_13 (j_hn (by decide) (j_hn (by decide) (j_hn (by decide) (j_hn (by decide) (j_hn (by decide) (j_hn (by decide) (j_hn (by decide) (j_hn (by decide) H0)))))))) rfl ?_
                          refine j_bipush (pc := 443) (v := 22) dX8_settle_443 (by decide) ?_
                          refine j_aload_n (pc := 445) dX8_settle_445 rfl ?_
                          refine j_getf (pc := 446) dX8_settle_446 jfX8_23 (j_hn (by decide) (j_hn (by decide) (j_hn (by decide) (j_hn (by decide) (j_hn (by decide) (j_hn (by decide) (j_hn (by decide) (j_hn (by decide) H0)))))))) rfl ?_
                          refine j_iload (pc := 449) dX8_settle_449 rfl ?_
                          refine j_ialdV (pc := 451) dX8_settle_451 (j_hn (by decide) (j_hn (by decide) (j_hn (by decide) (j_hn (by decide) (j_hn (by decide) (j_hn (by decide) (j_hn (by decide) (j_hn (by decide) H3)))))))) (jix_nI (by omega) (by decide)) (hro i3 (by omega)).1 ?_
                          refine j_iaddN (a := 22) (b := rn i3) (pc := 452) dX8_settle_452 ?_
                          refine j_iald (pc := 453) dX8_settle_453 (j_hn (by decide) (j_hn (by decide) (j_hn (by decide) (j_hn (by decide) (j_hn (by decide) (j_hn (by decide) (j_hn (by decide) (j_hn (by decide) H1)))))))) (jix_nI (by omega) (by decide)) ?_
                          refine j_i2l (pc := 454) dX8_settle_454 ?_
                          refine j_lmul (pc := 455) dX8_settle_455 ?_
                          refine j_lstore (pc := 456) dX8_settle_456 (by decide) ?_
                          refine j_lload (pc := 458) dX8_settle_458 rfl ?_
                          refine j_aload_n (pc := 460) dX8_settle_460 rfl ?_
                          refine j_getf (pc := 461) dX8_settle_461 jfX8_54 (j_hn (by decide) (j_hn (by decide) (j_hn (by decide) (j_hn (by decide) (j_hn (by decide) (j_hn (by decide) (j_hn (by decide) (j_hn (by decide) H0)))))))) rfl ?_
                          refine j_iload (pc := 464) dX8_settle_464 rfl ?_
                          refine j_lald (pc := 466) dX8_settle_466 (j_hn (by decide) (j_hn (by decide) (j_hn (by decide) j_hs))) (jix_nI (by omega) (by decide)) ?_
                          have KT8 : J l G mX8_settle 0 0 485 [(0, .ref 27), (1, .int (nI t)), (2, .int (nI (spn t))), (3, .long lf), (5, .long ((j_ms t (fun k => (da (12 * t + k)).toInt64 * (ru (22 + rn k)).toInt64) (o_pcG P crw (j_f0 (va_up (va_up (va_up we 0 ((ru 0).toInt64)) 1 ((ru 1).toInt64)) 2 (((100 - (ru 0)) - (ru 1)).toInt64)) (fun k => (da (12 * t + k)).toInt64 * (ru (12 + rn k)).toInt64) P) (j_f0 (o_pcG 3 lf (va_up (va_up (va_up we 0 ((ru 0).toInt64)) 1 ((ru 1).toInt64)) 2 (((100 - (ru 0)) - (ru 1)).toInt64)) ge re) (fun _ => 0) P) (o_pcR 3 lf (va_up (va_up (va_up we 0 ((ru 0).toInt64)) 1 ((ru 1).toInt64)) 2 (((100 - (ru 0)) - (ru 1)).toInt64)) ge re)) (ow1, ad, ss) i3).1)), (7, .long crw), (9, .long (j_sm (fun k => (da (12 * t + k)).toInt64 * (ru (12 + rn k)).toInt64) P)), (11, .int (j_mn (fun k => da (12 * t + k)) P)), (12, .int (nI i3)), (13, .int (nI ((48 * t) + (4 * i3)))), (14, .long (((da ((12 * t) + i3)).toInt64) * ((ru (22 + (rn i3))).toInt64)))] [.long (if (((da ((12 * t) + i3)).toInt64) * ((ru (22 + (rn i3))).toInt64)) ≤ ((o_pcG P crw (j_f0 (va_up (va_up (va_up we 0 ((ru 0).toInt64)) 1 ((ru 1).toInt64)) 2 (((100 - (ru 0)) - (ru 1)).toInt64)) (fun k => (da (12 * t + k)).toInt64 * (ru (12 + rn k)).toInt64) P) (j_f0 (o_pcG 3 lf (va_up (va_up (va_up we 0 ((ru 0).toInt64)) 1 ((ru 1).toInt64)) 2 (((100 - (ru 0)) - (ru 1)).toInt64)) ge re) (fun _ => 0) P) (o_pcR 3 lf (va_up (va_up (va_up we 0 ((ru 0).toInt64)) 1 ((ru 1).toInt64)) 2 (((100 - (ru 0)) - (ru 1)).toInt64)) ge re)) i3) then 0 else (((da ((12 * t) + i3)).toInt64) * ((ru (22 + (rn i3))).toInt64)) - ((o_pcG P crw (j_f0 (va_up (va_up (va_up we 0 ((ru 0).toInt64)) 1 ((ru 1).toInt64)) 2 (((100 - (ru 0)) - (ru 1)).toInt64)) (fun k => (da (12 * t + k)).toInt64 * (ru (12 + rn k)).toInt64) P) (j_f0 (o_pcG 3 lf (va_up (va_up (va_up we 0 ((ru 0).toInt64)) 1 ((ru 1).toInt64)) 2 (((100 - (ru 0)) - (ru 1)).toInt64)) ge re) (fun _ => 0) P) (o_pcR 3 lf (va_up (va_up (va_up we 0 ((ru 0).toInt64)) 1 ((ru 1).toInt64)) 2 (((100 - (ru 0)) - (ru 1)).toInt64)) ge re)) i3))] (j_set (j_set (j_set (j_set (j_set (j_set (j_set (j_set h 38 (jZ 20 (va_up se t 1))) 39 (jL 120 (va_up (va_up (va_up (va_up (va_up pa ((6 * t) + 4) (lo (spn t))) ((6 * t) + 5) ls1) (6 * t) lf) ((6 * t) + 2) ((o_pcG 3 lf (va_up (va_up (va_up we 0 ((ru 0).toInt64)) 1 ((ru 1).toInt64)) 2 (((100 - (ru 0)) - (ru 1)).toInt64)) ge re) 1)) ((6 * t) + 3) crw))) 31 (jL 4 (va_up lo (spn t) ls1))) 41 (jL 12 (j_f0 (va_up (va_up (va_up we 0 ((ru 0).toInt64)) 1 ((ru 1).toInt64)) 2 (((100 - (ru 0)) - (ru 1)).toInt64)) (fun k => (da (12 * t + k)).toInt64 * (ru (12 + rn k)).toInt64) P))) 42 (jL 12 (o_pcG P crw (j_f0 (va_up (va_up (va_up we 0 ((ru 0).toInt64)) 1 ((ru 1).toInt64)) 2 (((100 - (ru 0)) - (ru 1)).toInt64)) (fun k => (da (12 * t + k)).toInt64 * (ru (12 + rn k)).toInt64) P) (j_f0 (o_pcG 3 lf (va_up (va_up (va_up we 0 ((ru 0).toInt64)) 1 ((ru 1).toInt64)) 2 (((100 - (ru 0)) - (ru 1)).toInt64)) ge re) (fun _ => 0) P) (o_pcR 3 lf (va_up (va_up (va_up we 0 ((ru 0).toInt64)) 1 ((ru 1).toInt64)) 2 (((100 - (ru 0)) - (ru 1)).toInt64)) ge re)))) 43 (jL 12 (o_pcR P crw (j_f0 (va_up (va_up (va_up we 0 ((ru 0).toInt64)) 1 ((ru 1).toInt64)) 2 (((100 - (ru 0)) - (ru 1)).toInt64)) (fun k => (da (12 * t + k)).toInt64 * (ru (12 + rn k)).toInt64) P) (j_f0 (o_pcG 3 lf (va_up (va_up (va_up we 0 ((ru 0).toInt64)) 1 ((ru 1).toInt64)) 2 (((100 - (ru 0)) - (ru 1)).toInt64)) ge re) (fun _ => 0) P) (o_pcR 3 lf (va_up (va_up (va_up we 0 ((ru 0).toInt64)) 1 ((ru 1).toInt64)) 2 (((100 - (ru 0)) - (ru 1)).toInt64)) ge re)))) 33 (jL 12 ((j_ms t (fun k => (da (12 * t + k)).toInt64 * (ru (22 + rn k)).toInt64) (o_pcG P crw (j_f0 (va_up (va_up (va_up we 0 ((ru 0).toInt64)) 1 ((ru 1).toInt64)) 2 (((100 - (ru 0)) - (ru 1)).toInt64)) (fun k => (da (12 * t + k)).toInt64 * (ru (12 + rn k)).toInt64) P) (j_f0 (o_pcG 3 lf (va_up (va_up (va_up we 0 ((ru 0).toInt64)) 1 ((ru 1).toInt64)) 2 (((100 - (ru 0)) - (ru 1)).toInt64)) ge re) (fun _ => 0) P) (o_pcR 3 lf (va_up (va_up (va_up we 0 ((ru 0).toInt64)) 1 ((ru 1).toInt64)) 2 (((100 - (ru 0)) - (ru 1)).toInt64)) ge re)) (ow1, ad, ss) i3).2.1))) 40 (jL 960 ((j_ms t (fun k => (da (12 * t + k)).toInt64 * (ru (22 + rn k)).toInt64) (o_pcG P crw (j_f0 (va_up (va_up (va_up we 0 ((ru 0).toInt64)) 1 ((ru 1).toInt64)) 2 (((100 - (ru 0)) - (ru 1)).toInt64)) (fun k => (da (12 * t + k)).toInt64 * (ru (12 + rn k)).toInt64) P) (j_f0 (o_pcG 3 lf (va_up (va_up (va_up we 0 ((ru 0).toInt64)) 1 ((ru 1).toInt64)) 2 (((100 - (ru 0)) - (ru 1)).toInt64)) ge re) (fun _ => 0) P) (o_pcR 3 lf (va_up (va_up (va_up we 0 ((ru 0).toInt64)) 1 ((ru 1).toInt64)) 2 (((100 - (ru 0)) - (ru 1)).toInt64)) ge re)) (ow1, ad, ss) i3).2.2))) Q := by
                            refine j_lstore (pc := 485) dX8_settle_485 (by decide) ?_
                            refine j_aload_n (pc := 487) dX8_settle_487 rfl ?_
                            refine j_getf (pc := 488) dX8_settle_488 jfX8_54 (j_hn (by decide) (j_hn (by decide) (j_hn (by decide) (j_hn (by decide) (j_hn (by decide) (j_hn (by decide) (j_hn (by decide) (j_hn (by decide) H0)))))))) rfl ?_
                            refine j_iload (pc := 491) dX8_settle_491 rfl ?_
                            refine j_lald (pc := 493) dX8_settle_493 (j_hn (by decide) (j_hn (by decide) (j_hn (by decide) j_hs))) (jix_nI (by omega) (by decide)) ?_
                            refine j_lload (pc := 494) dX8_settle_494 rfl ?_
                            refine j_ladd (pc := 496) dX8_settle_496 ?_
                            refine j_lstore (pc := 497) dX8_settle_497 (by decide) ?_
                            refine j_aload_n (pc := 499) dX8_settle_499 rfl ?_
                            refine j_getf (pc := 500) dX8_settle_500 jfX8_26 (j_hn (by decide) (j_hn (by decide) (j_hn (by decide) (j_hn (by decide) (j_hn (by decide) (j_hn (by decide) (j_hn (by decide) (j_hn (by decide) H0)))))))) rfl ?_
                            refine j_iload (pc := 503) dX8_settle_503 rfl ?_
                            refine j_lald (pc := 505) dX8_settle_505 (j_hn (by decide) j_hs) (jix_nI (by omega) (by decide)) ?_
                            refine j_lload (pc := 506) dX8_settle_506 rfl ?_
                            have KT9 : J l G mX8_settle 0 0 524 [(0, .ref 27), (1, .int (nI t)), (2, .int (nI (spn t))), (3, .long lf), (5, .long ((j_ms t (fun k => (da (12 * t + k)).toInt64 * (ru (22 + rn k)).toInt64) (o_pcG P crw (j_f0 (va_up (va_up (va_up we 0 ((ru 0).toInt64)) 1 ((ru 1).toInt64)) 2 (((100 - (ru 0)) - (ru 1)).toInt64)) (fun k => (da (12 * t + k)).toInt64 * (ru (12 + rn k)).toInt64) P) (j_f0 (o_pcG 3 lf (va_up (va_up (va_up we 0 ((ru 0).toInt64)) 1 ((ru 1).toInt64)) 2 (((100 - (ru 0)) - (ru 1)).toInt64)) ge re) (fun _ => 0) P) (o_pcR 3 lf (va_up (va_up (va_up we 0 ((ru 0).toInt64)) 1 ((ru 1).toInt64)) 2 (((100 - (ru 0)) - (ru 1)).toInt64)) ge re)) (ow1, ad, ss) i3).1)), (7, .long crw), (9, .long (j_sm (fun k => (da (12 * t + k)).toInt64 * (ru (12 + rn k)).toInt64) P)), (11, .int (j_mn (fun k => da (12 * t + k)) P)), (12, .int (nI i3)), (13, .int (nI ((48 * t) + (4 * i3)))), (14, .long (((da ((12 * t) + i3)).toInt64) * ((ru (22 + (rn i3))).toInt64))), (16, .long (if (((da ((12 * t) + i3)).toInt64) * ((ru (22 + (rn i3))).toInt64)) ≤ ((o_pcG P crw (j_f0 (va_up (va_up (va_up we 0 ((ru 0).toInt64)) 1 ((ru 1).toInt64)) 2 (((100 - (ru 0)) - (ru 1)).toInt64)) (fun k => (da (12 * t + k)).toInt64 * (ru (12 + rn k)).toInt64) P) (j_f0 (o_pcG 3 lf (va_up (va_up (va_up we 0 ((ru 0).toInt64)) 1 ((ru 1).toInt64)) 2 (((100 - (ru 0)) - (ru 1)).toInt64)) ge re) (fun _ => 0) P) (o_pcR 3 lf (va_up (va_up (va_up we 0 ((ru 0).toInt64)) 1 ((ru 1).toInt64)) 2 (((100 - (ru 0)) - (ru 1)).toInt64)) ge re)) i3) then 0 else (((da ((12 * t) + i3)).toInt64) * ((ru (22 + (rn i3))).toInt64)) - ((o_pcG P crw (j_f0 (va_up (va_up (va_up we 0 ((ru 0).toInt64)) 1 ((ru 1).toInt64)) 2 (((100 - (ru 0)) - (ru 1)).toInt64)) (fun k => (da (12 * t + k)).toInt64 * (ru (12 + rn k)).toInt64) P) (j_f0 (o_pcG 3 lf (va_up (va_up (va_up we 0 ((ru 0).toInt64)) 1 ((ru 1).toInt64)) 2 (((100 - (ru 0)) - (ru 1)).toInt64)) ge re) (fun _ => 0) P) (o_pcR 3 lf (va_up (va_up (va_up we 0 ((ru 0).toInt64)) 1 ((ru 1).toInt64)) 2 (((100 - (ru 0)) - (ru 1)).toInt64)) ge re)) i3))), (18, .long (((o_pcG P crw (j_f0 (va_up (va_up (va_up we 0 ((ru 0).toInt64)) 1 ((ru 1).toInt64)) 2 (((100 - (ru 0)) - (ru 1)).toInt64)) (fun k => (da (12 * t + k)).toInt64 * (ru (12 + rn k)).toInt64) P) (j_f0 (o_pcG 3 lf (va_up (va_up (va_up we 0 ((ru 0).toInt64)) 1 ((ru 1).toInt64)) 2 (((100 - (ru 0)) - (ru 1)).toInt64)) ge re) (fun _ => 0) P) (o_pcR 3 lf (va_up (va_up (va_up we 0 ((ru 0).toInt64)) 1 ((ru 1).toInt64)) 2 (((100 - (ru 0)) - (ru 1)).toInt64)) ge re)) i3) + (if (((da ((12 * t) + i3)).toInt64) * ((ru (22 + (rn i3))).toInt64)) ≤ ((o_pcG P crw (j_f0 (va_up (va_up (va_up we 0 ((ru 0).toInt64)) 1 ((ru 1).toInt64)) 2 (((100 - (ru 0)) - (ru 1)).toInt64)) (fun k => (da (12 * t + k)).toInt64 * (ru (12 + rn k)).toInt64) P) (j_f0 (o_pcG 3 lf (va_up (va_up (va_up we 0 ((ru 0).toInt64)) 1 ((ru 1).toInt64)) 2 (((100 - (ru 0)) - (ru 1)).toInt64)) ge re) (fun _ => 0) P) (o_pcR 3 lf (va_up (va_up (va_up we 0 ((ru 0).toInt64)) 1 ((ru 1).toInt64)) 2 (((100 - (ru 0)) - (ru 1)).toInt64)) ge re)) i3) then 0 else (((da ((12 * t) + i3)).toInt64) * ((ru (22 + (rn i3))).toInt64)) - ((o_pcG P crw (j_f0 (va_up (va_up (va_up we 0 ((ru 0).toInt64)) 1 ((ru 1).toInt64)) 2 (((100 - (ru 0)) - (ru 1)).toInt64)) (fun k => (da (12 * t + k)).toInt64 * (ru (12 + rn k)).toInt64) P) (j_f0 (o_pcG 3 lf (va_up (va_up (va_up we 0 ((ru 0).toInt64)) 1 ((ru 1).toInt64)) 2 (((100 - (ru 0)) - (ru 1)).toInt64)) ge re) (fun _ => 0) P) (o_pcR 3 lf (va_up (va_up (va_up we 0 ((ru 0).toInt64)) 1 ((ru 1).toInt64)) 2 (((100 - (ru 0)) - (ru 1)).toInt64)) ge re)) i3))))] [.long (if (((o_pcG P crw (j_f0 (va_up (va_up (va_up we 0 ((ru 0).toInt64)) 1 ((ru 1).toInt64)) 2 (((100 - (ru 0)) - (ru 1)).toInt64)) (fun k => (da (12 * t + k)).toInt64 * (ru (12 + rn k)).toInt64) P) (j_f0 (o_pcG 3 lf (va_up (va_up (va_up we 0 ((ru 0).toInt64)) 1 ((ru 1).toInt64)) 2 (((100 - (ru 0)) - (ru 1)).toInt64)) ge re) (fun _ => 0) P) (o_pcR 3 lf (va_up (va_up (va_up we 0 ((ru 0).toInt64)) 1 ((ru 1).toInt64)) 2 (((100 - (ru 0)) - (ru 1)).toInt64)) ge re)) i3) + (if (((da ((12 * t) + i3)).toInt64) * ((ru (22 + (rn i3))).toInt64)) ≤ ((o_pcG P crw (j_f0 (va_up (va_up (va_up we 0 ((ru 0).toInt64)) 1 ((ru 1).toInt64)) 2 (((100 - (ru 0)) - (ru 1)).toInt64)) (fun k => (da (12 * t + k)).toInt64 * (ru (12 + rn k)).toInt64) P) (j_f0 (o_pcG 3 lf (va_up (va_up (va_up we 0 ((ru 0).toInt64)) 1 ((ru 1).toInt64)) 2 (((100 - (ru 0)) - (ru 1)).toInt64)) ge re) (fun _ => 0) P) (o_pcR 3 lf (va_up (va_up (va_up we 0 ((ru 0).toInt64)) 1 ((ru 1).toInt64)) 2 (((100 - (ru 0)) - (ru 1)).toInt64)) ge re)) i3) then 0 else (((da ((12 * t) + i3)).toInt64) * ((ru (22 + (rn i3))).toInt64)) - ((o_pcG P crw (j_f0 (va_up (va_up (va_up we 0 ((ru 0).toInt64)) 1 ((ru 1).toInt64)) 2 (((100 - (ru 0)) - (ru 1)).toInt64)) (fun k => (da (12 * t + k)).toInt64 * (ru (12 + rn k)).toInt64) P) (j_f0 (o_pcG 3 lf (va_up (va_up (va_up we 0 ((ru 0).toInt64)) 1 ((ru 1).toInt64)) 2 (((100 - (ru 0)) - (ru 1)).toInt64)) ge re) (fun _ => 0) P) (o_pcR 3 lf (va_up (va_up (va_up we 0 ((ru 0).toInt64)) 1 ((ru 1).toInt64)) 2 (((100 - (ru 0)) - (ru 1)).toInt64)) ge re)) i3))) ≤ (((j_ms t (fun k => (da (12 * t + k)).toInt64 * (ru (22 + rn k)).toInt64) (o_pcG P crw (j_f0 (va_up (va_up (va_up we 0 ((ru 0).toInt64)) 1 ((ru 1).toInt64)) 2 (((100 - (ru 0)) - (ru 1)).toInt64)) (fun k => (da (12 * t + k)).toInt64 * (ru (12 + rn k)).toInt64) P) (j_f0 (o_pcG 3 lf (va_up (va_up (va_up we 0 ((ru 0).toInt64)) 1 ((ru 1).toInt64)) 2 (((100 - (ru 0)) - (ru 1)).toInt64)) ge re) (fun _ => 0) P) (o_pcR 3 lf (va_up (va_up (va_up we 0 ((ru 0).toInt64)) 1 ((ru 1).toInt64)) 2 (((100 - (ru 0)) - (ru 1)).toInt64)) ge re)) (ow1, ad, ss) i3).2.1) i3) then ((o_pcG P crw (j_f0 (va_up (va_up (va_up we 0 ((ru 0).toInt64)) 1 ((ru 1).toInt64)) 2 (((100 - (ru 0)) - (ru 1)).toInt64)) (fun k => (da (12 * t + k)).toInt64 * (ru (12 + rn k)).toInt64) P) (j_f0 (o_pcG 3 lf (va_up (va_up (va_up we 0 ((ru 0).toInt64)) 1 ((ru 1).toInt64)) 2 (((100 - (ru 0)) - (ru 1)).toInt64)) ge re) (fun _ => 0) P) (o_pcR 3 lf (va_up (va_up (va_up we 0 ((ru 0).toInt64)) 1 ((ru 1).toInt64)) 2 (((100 - (ru 0)) - (ru 1)).toInt64)) ge re)) i3) + (if (((da ((12 * t) + i3)).toInt64) * ((ru (22 + (rn i3))).toInt64)) ≤ ((o_pcG P crw (j_f0 (va_up (va_up (va_up we 0 ((ru 0).toInt64)) 1 ((ru 1).toInt64)) 2 (((100 - (ru 0)) - (ru 1)).toInt64)) (fun k => (da (12 * t + k)).toInt64 * (ru (12 + rn k)).toInt64) P) (j_f0 (o_pcG 3 lf (va_up (va_up (va_up we 0 ((ru 0).toInt64)) 1 ((ru 1).toInt64)) 2 (((100 - (ru 0)) - (ru 1)).toInt64)) ge re) (fun _ => 0) P) (o_pcR 3 lf (va_up (va_up (va_up we 0 ((ru 0).toInt64)) 1 ((ru 1).toInt64)) 2 (((100 - (ru 0)) - (ru 1)).toInt64)) ge re)) i3) then 0 else (((da ((12 * t) + i3)).toInt64) * ((ru (22 + (rn i3))).toInt64)) - ((o_pcG P crw (j_f0 (va_up (va_up (va_up we 0 ((ru 0).toInt64)) 1 ((ru 1).toInt64)) 2 (((100 - (ru 0)) - (ru 1)).toInt64)) (fun k => (da (12 * t + k)).toInt64 * (ru (12 + rn k)).toInt64) P) (j_f0 (o_pcG 3 lf (va_up (va_up (va_up we 0 ((ru 0).toInt64)) 1 ((ru 1).toInt64)) 2 (((100 - (ru 0)) - (ru 1)).toInt64)) ge re) (fun _ => 0) P) (o_pcR 3 lf (va_up (va_up (va_up we 0 ((ru 0).toInt64)) 1 ((ru 1).toInt64)) 2 (((100 - (ru 0)) - (ru 1)).toInt64)) ge re)) i3)) else ((j_ms t (fun k => (da (12 * t + k)).toInt64 * (ru (22 + rn k)).toInt64) (o_pcG P crw (j_f0 (va_up (va_up (va_up we 0 ((ru 0).toInt64)) 1 ((ru 1).toInt64)) 2 (((100 - (ru 0)) - (ru 1)).toInt64)) (fun k => (da (12 * t + k)).toInt64 * (ru (12 + rn k)).toInt64) P) (j_f0 (o_pcG 3 lf (va_up (va_up (va_up we 0 ((ru 0).toInt64)) 1 ((ru 1).toInt64)) 2 (((100 - (ru 0)) - (ru 1)).toInt64)) ge re) (fun _ => 0) P) (o_pcR 3 lf (va_up (va_up (va_up we 0 ((ru 0).toInt64)) 1 ((ru 1).toInt64)) 2 (((100 - (ru 0)) - (ru 1)).toInt64)) ge re)) (ow1, ad, ss) i3).2.1) i3)] (j_set (j_set (j_set (j_set (j_set (j_set (j_set (j_set h 38 (jZ 20 (va_up se t 1))) 39 (jL 120 (va_up (va_up (va_up (va_up (va_up pa ((6 * t) + 4) (lo (spn t))) ((6 * t) + 5) ls1) (6 * t) lf) ((6 * t) + 2) ((o_pcG 3 lf (va_up (va_up (va_up we 0 ((ru 0).toInt64)) 1 ((ru 1).toInt64)) 2 (((100 - (ru 0)) - (ru 1)).toInt64)) ge re) 1)) ((6 * t) + 3) crw))) 31 (jL 4 (va_up lo (spn t) ls1))) 41 (jL 12 (j_f0 (va_up (va_up (va_up we 0 ((ru 0).toInt64)) 1 ((ru 1).toInt64)) 2 (((100 - (ru 0)) - (ru 1)).toInt64)) (fun k => (da (12 * t + k)).toInt64 * (ru (12 + rn k)).toInt64) P))) 42 (jL 12 (o_pcG P crw (j_f0 (va_up (va_up (va_up we 0 ((ru 0).toInt64)) 1 ((ru 1).toInt64)) 2 (((100 - (ru 0)) - (ru 1)).toInt64)) (fun k => (da (12 * t + k)).toInt64 * (ru (12 + rn k)).toInt64) P) (j_f0 (o_pcG 3 lf (va_up (va_up (va_up we 0 ((ru 0).toInt64)) 1 ((ru 1).toInt64)) 2 (((100 - (ru 0)) - (ru 1)).toInt64)) ge re) (fun _ => 0) P) (o_pcR 3 lf (va_up (va_up (va_up we 0 ((ru 0).toInt64)) 1 ((ru 1).toInt64)) 2 (((100 - (ru 0)) - (ru 1)).toInt64)) ge re)))) 43 (jL 12 (o_pcR P crw (j_f0 (va_up (va_up (va_up we 0 ((ru 0).toInt64)) 1 ((ru 1).toInt64)) 2 (((100 - (ru 0)) - (ru 1)).toInt64)) (fun k => (da (12 * t + k)).toInt64 * (ru (12 + rn k)).toInt64) P) (j_f0 (o_pcG 3 lf (va_up (va_up (va_up we 0 ((ru 0).toInt64)) 1 ((ru 1).toInt64)) 2 (((100 - (ru 0)) - (ru 1)).toInt64)) ge re) (fun _ => 0) P) (o_pcR 3 lf (va_up (va_up (va_up we 0 ((ru 0).toInt64)) 1 ((ru 1).toInt64)) 2 (((100 - (ru 0)) - (ru 1)).toInt64)) ge re)))) 33 (jL 12 ((j_ms t (fun k => (da (12 * t + k)).toInt64 * (ru (22 + rn k)).toInt64) (o_pcG P crw (j_f0 (va_up (va_up (va_up we 0 ((ru 0).toInt64)) 1 ((ru 1).toInt64)) 2 (((100 - (ru 0)) - (ru 1)).toInt64)) (fun k => (da (12 * t + k)).toInt64 * (ru (12 + rn k)).toInt64) P) (j_f0 (o_pcG 3 lf (va_up (va_up (va_up we 0 ((ru 0).toInt64)) 1 ((ru 1).toInt64)) 2 (((100 - (ru 0)) - (ru 1)).toInt64)) ge re) (fun _ => 0) P) (o_pcR 3 lf (va_up (va_up (va_up we 0 ((ru 0).toInt64)) 1 ((ru 1).toInt64)) 2 (((100 - (ru 0)) - (ru 1)).toInt64)) ge re)) (ow1, ad, ss) i3).2.1))) 40 (jL 960 ((j_ms t (fun k => (da (12 * t + k)).toInt64 * (ru (22 + rn k)).toInt64) (o_pcG P crw (j_f0 (va_up (va_up (va_up we 0 ((ru 0).toInt64)) 1 ((ru 1).toInt64)) 2 (((100 - (ru 0)) - (ru 1)).toInt64)) (fun k => (da (12 * t + k)).toInt64 * (ru (12 + rn k)).toInt64) P) (j_f0 (o_pcG 3 lf (va_up (va_up (va_up we 0 ((ru 0).toInt64)) 1 ((ru 1).toInt64)) 2 (((100 - (ru 0)) - (ru 1)).toInt64)) ge re) (fun _ => 0) P) (o_pcR 3 lf (va_up (va_up (va_up we 0 ((ru 0).toInt64)) 1 ((ru 1).toInt64)) 2 (((100 - (ru 0)) - (ru 1)).toInt64)) ge re)) (ow1, ad, ss) i3).2.2))) Q := by
                              refine j_lstore (pc := 524) dX8_settle_524 (by decide) ?_
                              refine j_lload (pc := 526) dX8_settle_526 rfl ?_
                              refine j_lload (pc := 528) dX8_settle_528 rfl ?_
                              refine j_lsub (pc := 530) dX8_settle_530 ?_
                              refine j_lstore (pc := 531) dX8_settle_531 (by decide) ?_
                              refine j_aload_n (pc := 533) dX8_settle_533 rfl ?_
                              refine j_getf (pc := 534) dX8_settle_534 jfX8_26 (j_hn (by decide) (j_hn (by decide) (j_hn (by decide) (j_hn (by decide) (j_hn (by decide) (j_hn (by decide) (j_hn (by decide) (j_hn (by decide) H0)))))))) rfl ?_
                              refine j_iload (pc := 537) dX8_settle_537 rfl ?_
                              refine j_dup2 (pc := 539) dX8_settle_539 rfl rfl ?_
                              refine j_lald (pc := 540) dX8_settle_540 (j_hn (by decide) j_hs) (jix_nI (by omega) (by decide)) ?_
                              refine j_lload (pc := 541) dX8_settle_541 rfl ?_
                              refine j_lsub (pc := 543) dX8_settle_543 ?_
                              refine j_last (pc := 544) dX8_settle_544 (j_hn (by decide) j_hs) (jix_nI (by omega) (by decide)) ?_
                              rw [j_ss1 (a := 33) (b0 := 40) (by decide)]
                              refine j_aload_n (pc := 545) dX8_settle_545 rfl ?_
                              refine j_getf (pc := 546) dX8_settle_546 jfX8_48 (j_hn (by decide) (j_hn (by decide) (j_hn (by decide) (j_hn (by decide) (j_hn (by decide) (j_hn (by decide) (j_hn (by decide) (j_hn (by decide) H0)))))))) rfl ?_
                              refine j_iload (pc := 549) dX8_settle_549 rfl ?_
                              refine j_aload_n (pc := 551) dX8_settle_551 rfl ?_
                              refine j_getf (pc := 552) dX8_settle_552 jfX8_54 (j_hn (by decide) (j_hn (by decide) (j_hn (by decide) (j_hn (by decide) (j_hn (by decide) (j_hn (by decide) (j_hn (by decide) (j_hn (by decide) H0)))))))) rfl ?_
                              refine j_iload (pc := 555) dX8_settle_555 rfl ?_
                              refine j_lald (pc := 557) dX8_settle_557 (j_hn (by decide) (j_hn (by decide) (j_hn (by decide) j_hs))) (jix_nI (by omega) (by decide)) ?_
                              refine j_last (pc := 558) dX8_settle_558 j_hs (jix_nI (by omega) (by decide)) ?_
                              rw [j_ss0 (a := 40)]
                              refine j_aload_n (pc := 559) dX8_settle_559 rfl ?_
                              refine j_getf (pc := 560) dX8_settle_560 jfX8_48 (j_hn (by decide) (j_hn (by decide) (j_hn (by decide) (j_hn (by decide) (j_hn (by decide) (j_hn (by decide) (j_hn (by decide) (j_hn (by decide) H0)))))))) rfl ?_
                              refine j_iload (pc := 563) dX8_settle_563 rfl ?_
                              refine j_iconst (pc := 565) (v := 1) dX8_settle_565 (by decide) ?_
                              refine j_iaddN (a := (48 * t) + (4 * i3)) (b := 1) (pc := 566) dX8_settle_566 ?_
                              refine j_lload (pc := 567) dX8_settle_567 rfl ?_
                              refine j_last (pc := 569) dX8_settle_569 j_hs (jix_nI (by omega) (by decide)) ?_
                              rw [j_ss0 (a := 40)]
                              refine j_aload_n (pc := 570) dX8_settle_570 rfl ?_
                              refine j_getf (pc := 571) dX8_settle_571 jfX8_48 (j_hn (by decide) (j_hn (by decide) (j_hn (by decide) (j_hn (by decide) (j_hn (by decide) (j_hn (by decide) (j_hn (by decide) (j_hn (by decide) H0)))))))) rfl ?_
                              refine j_iload (pc := 574) dX8_settle_574 rfl ?_
                              refine j_iconst (pc := 576) (v := 2) dX8_settle_576 (by decide) ?_
                              refine j_iaddN (a := (48 * t) + (4 * i3)) (b := 2) (pc := 577) dX8_settle_577 ?_
                              refine j_lload (pc := 578) dX8_settle_578 rfl ?_
                              refine j_last (pc := 580) dX8_settle_580 j_hs (jix_nI (by omega) (by decide)) ?_
                              rw [j_ss0 (a := 40)]
                              refine j_aload_n (pc := 581) dX8_settle_581 rfl ?_
                              refine j_getf (pc := 582) dX8_settle_582 jfX8_48 (j_hn (by decide) (j_hn (by decide) (j_hn (by decide) (j_hn (by decide) (j_hn (by decide) (j_hn (by decide) (j_hn (by decide) (j_hn (by decide) H0)))))))) rfl ?_
                              refine j_iload (pc := 585) dX8_settle_585 rfl ?_
                              refine j_iconst (pc := 587) (v := 3) dX8_settle_587 (by decide) ?_
                              refine j_iaddN (a := (48 * t) + (4 * i3)) (b := 3) (pc := 588) dX8_settle_588 ?_
                              refine j_lload (pc := 589) dX8_settle_589 rfl ?_
                              refine j_lload (pc := 591) dX8_settle_591 rfl ?_
                              refine j_lsub (pc := 593) dX8_settle_593 ?_
                              refine j_last (pc := 594) dX8_settle_594 j_hs (jix_nI (by omega) (by decide)) ?_
                              rw [j_ss0 (a := 40)]
                              refine j_iincN (a := i3) (d := 1) (pc := 595) dX8_settle_595 rfl (by decide) ?_
                              refine j_goto (pc := 598) (tgt := 406) dX8_settle_598 (by decide) ?_
                              exact j_sub rfl ih3
                            refine j_lc_ge (pc := 508) (tgt := 522) dX8_settle_508 dX8_settle_509 (by decide) (fun c19 => ?_) (fun c19 => ?_)
                            · refine j_lload (pc := 522) dX8_settle_522 rfl ?_
                              rw [if_pos c19] at KT9
                              exact j_sub rfl KT9
                            · refine j_aload_n (pc := 512) dX8_settle_512 rfl ?_
                              refine j_getf (pc := 513) dX8_settle_513 jfX8_26 (j_hn (by decide) (j_hn (by decide) (j_hn (by decide) (j_hn (by decide) (j_hn (by decide) (j_hn (by decide) (j_hn (by decide) (j_hn (by decide) H0)))))))) rfl ?_
                              refine j_iload (pc := 516) dX8_settle_516 rfl ?_
                              refine j_lald (pc := 518) dX8_settle_518 (j_hn (by decide) j_hs) (jix_nI (by omega) (by decide)) ?_
                              refine j_goto (pc := 519) (tgt := 524) dX8_settle_519 (by decide) ?_
                              rw [if_neg c19] at KT9
                              exact j_sub rfl KT9
                          refine j_lc_le (pc := 467) (tgt := 484) dX8_settle_467 dX8_settle_468 (by decide) (fun c20 => ?_) (fun c20 => ?_)
                          · refine j_lconst (pc := 484) (v := 0) dX8_settle_484 (by decide) ?_
                            rw [if_pos c20] at KT8
                            exact j_sub rfl KT8
                          · refine j_lload (pc := 471) dX8_settle_471 rfl ?_
                            refine j_aload_n (pc := 473) dX8_settle_473 rfl ?_
                            refine j_getf (pc := 474) dX8_settle_474 jfX8_54 (j_hn (by decide) (j_hn (by decide) (j_hn (by decide) (j_hn (by decide) (j_hn (by decide) (j_hn (by decide) (j_hn (by decide) (j_hn (by decide) H0)))))))) rfl ?_
                            refine j_iload (pc := 477) dX8_settle_477 rfl ?_
                            refine j_lald (pc := 479) dX8_settle_479 (j_hn (by decide) (j_hn (by decide) (j_hn (by decide) j_hs))) (jix_nI (by omega) (by decide)) ?_
                            refine j_lsub (pc := 480) dX8_settle_480 ?_
                            refine j_goto (pc := 481) (tgt := 485) dX8_settle_481 (by decide) ?_
                            rw [if_neg c20] at KT8
                            exact j_sub rfl KT8
                      · refine j_iload (pc := 406) dX8_settle_406 rfl ?_
                        refine j_aload_n (pc := 408) dX8_settle_408 rfl ?_
                        refine j_getf (pc := 409) dX8_settle_409 jfX8_123 (j_hn (by decide) (j_hn (by decide) (j_hn (by decide) (j_hn (by decide) (j_hn (by decide) (j_hn (by decide) (j_hn (by decide) (j_hn (by decide) H0)))))))) rfl ?_
                        refine j_icmp_geN (a := P) (b := P) (pc := 412) (tgt := 601) dX8_settle_412 (by decide) (by omega) (by omega) (fun c21 => ?_) (fun c21 => ?_)
                        · refine j_aload_n (pc := 601) dX8_settle_601 rfl ?_
                          refine j_getf (pc := 602) dX8_settle_602 jfX8_45 (j_hn (by decide) (j_hn (by decide) (j_hn (by decide) (j_hn (by decide) (j_hn (by decide) (j_hn (by decide) (j_hn (by decide) (j_hn (by decide) H0)))))))) rfl ?_
                          refine j_bipush (pc := 605) (v := 6) dX8_settle_605 (by decide) ?_
                          refine j_iload_n (pc := 607) dX8_settle_607 rfl ?_
                          refine j_imulN (a := 6) (b := t) (pc := 608) dX8_settle_608 ?_
                          refine j_iconst (pc := 609) (v := 1) dX8_settle_609 (by decide) ?_
                          refine j_iaddN (a := 6 * t) (b := 1) (pc := 610) dX8_settle_610 ?_
                          refine j_lload (pc := 611) dX8_settle_611 rfl ?_
                          refine j_last (pc := 613) dX8_settle_613 (j_hn (by decide) (j_hn (by decide) (j_hn (by decide) (j_hn (by decide) (j_hn (by decide) (j_hn (by decide) j_hs)))))) (jix_nI (by omega) (by decide)) ?_
                          rw [j_ss6 (a := 39) (b0 := 31) (b1 := 41) (b2 := 42) (b3 := 43) (b4 := 33) (b5 := 40) (by decide) (by decide) (by decide) (by decide) (by decide) (by decide)]
                          refine j_iload (pc := 614) dX8_settle_614 rfl ?_
                          exact j_iret (pc := 616) dX8_settle_616 rfl rfl (Nat.le_of_ble_eq_true rfl) (Nat.le_of_ble_eq_true rfl) (K4 c4 c5 t rfl ht c9 lf0 hlf0 ls1 hls1 lf hlf ow0 how0 cr0 hcr0 ow1 how1 crw hcrw c13)
                        · exfalso; omega
                  · exfalso; omega
              refine j_lc_ge (pc := 251) (tgt := 259) dX8_settle_251 dX8_settle_252 (by decide) (fun c22 => ?_) (fun c22 => ?_)
              · refine j_lload (pc := 259) dX8_settle_259 rfl ?_
                rw [if_pos c22] at KT4
                exact j_sub rfl KT4
              · refine j_lconst (pc := 255) (v := 0) dX8_settle_255 (by decide) ?_
                refine j_goto (pc := 256) (tgt := 261) dX8_settle_256 (by decide) ?_
                rw [if_neg c22] at KT4
                exact j_sub rfl KT4
            refine j_lc_ge (pc := 235) (tgt := 244) dX8_settle_235 dX8_settle_236 (by decide) (fun c23 => ?_) (fun c23 => ?_)
            · refine j_lconst (pc := 244) (v := 0) dX8_settle_244 (by decide) ?_
              rw [if_pos c23] at KT3
              exact j_sub rfl KT3
            · refine j_lload (pc := 239) dX8_settle_239 rfl ?_
              refine j_goto (pc := 241) (tgt := 245) dX8_settle_241 (by decide) ?_
              rw [if_neg c23] at KT3
              exact j_sub rfl KT3
          refine j_lc_ge (pc := 91) (tgt := 99) dX8_settle_91 dX8_settle_92 (by decide) (fun c24 => ?_) (fun c24 => ?_)
          · refine j_lload_n (pc := 99) dX8_settle_99 rfl ?_
            rw [if_pos c24] at KT2
            exact j_sub rfl KT2
          · refine j_lconst (pc := 95) (v := 0) dX8_settle_95 (by decide) ?_
            refine j_goto (pc := 96) (tgt := 100) dX8_settle_96 (by decide) ?_
            rw [if_neg c24] at KT2
            exact j_sub rfl KT2
        refine j_lc_ge (pc := 78) (tgt := 87) dX8_settle_78 dX8_settle_79 (by decide) (fun c25 => ?_) (fun c25 => ?_)
        · refine j_lconst (pc := 87) (v := 0) dX8_settle_87 (by decide) ?_
          rw [if_pos c25] at KT1
          exact j_sub rfl KT1
        · refine j_lload_n (pc := 82) dX8_settle_82 rfl ?_
          refine j_lneg (pc := 83) dX8_settle_83 ?_
          refine j_goto (pc := 84) (tgt := 88) dX8_settle_84 (by decide) ?_
          rw [if_neg c25] at KT1
          exact j_sub rfl KT1
      · refine j_iconst (pc := 17) (v := -1) dX8_settle_17 (by decide) ?_
        exact j_iret (pc := 18) dX8_settle_18 rfl rfl (Nat.le_of_ble_eq_true rfl) (Nat.le_of_ble_eq_true rfl) (K5 c4 c5 t rfl ht c9)
