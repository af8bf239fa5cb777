
/-! THE LABORATORY: what its calls share; its questions -/
/-- one of these exceptions, and its ground -/
def fo_el : List (String × Prop) → String → Prop
  | [], _ => False
  | q :: l, E => (E = q.1 ∧ q.2) ∨ fo_el l E
theorem fo_el_app {m : List (String × Prop)} {E : String} : ∀ {l : List (String × Prop)}, fo_el l E → fo_el (l ++ m) E
  | [], h => h.elim
  | q :: l, h => h.elim Or.inl (fun h => Or.inr (fo_el_app h))
theorem fo_sym4 {α β γ δ : Type} {a a' : α} {b b' : β} {c c' : γ} {d d' : δ} (h : a' = a ∧ b' = b ∧ c' = c ∧ d' = d) : a = a' ∧ b = b' ∧ c = c' ∧ d = d' := ⟨h.1.symm, h.2.1.symm, h.2.2.1.symm, h.2.2.2.symm⟩
theorem fs_F.now {I : fo_Mi} {D : fo_Md} {np lim : Nat} {kd par n : Nat → Nat} {v : Nat → Nat → Nat} (h : fs_F I D 0 np lim kd par n v) : (∀ k, k < 4 → fs_S I (3 + 5 * k) (n k) (v k)) ∧ (∀ p, p < np → fs_P I (23 + 4 * p) (kd p) (par p)) ∧ (∀ p, p < np → ∀ k, k < 4 → I (23 + 4 * p + 1) k = nI (n k - fp_need (kd p) (par p)) ∧ D (23 + 4 * p + 2) k = fp_es (kd p) (par p) (v k) (n k) ∧ I (23 + 4 * p + 3) k = nI (fp_pts np kd par (v k) p (n k))) ∧ I 0 2 = nI np ∧ I 0 3 = nI lim ∧ np ≤ 8 ∧ 1 ≤ lim ∧ lim ≤ 9 ∧ ∀ k, k < 4 → n k ≤ 30 := by
  refine ⟨fun k hk => ?_, fun p hp => ?_, fun p hp k hk => ?_, h.1.2.2.1, h.1.2.2.2.1, h.1.2.1.1, h.1.2.1.2.1.1, h.1.2.1.2.1.2, h.1.2.1.2.2.2.1⟩
  · have := h.1.S hk
    rwa [Nat.zero_add] at this
  · have := h.1.P hp
    rwa [Nat.zero_add] at this
  · have := h.2.1 p hp k hk
    rwa [Nat.zero_add] at this


def fo_130 (x : Int32) : Bool := decide (1 ≤ x.toInt ∧ x.toInt ≤ 30)
theorem fo_130_lt {x : Int32} (h : x < nI 1) : fo_130 x = false := by
  have := Int32.lt_iff_toInt_lt.mp h
  rw [nI_toInt (by decide)] at this
  exact decide_eq_false (by omega)
theorem fo_130_gt {x : Int32} (h : nI 30 < x) : fo_130 x = false := by
  have := Int32.lt_iff_toInt_lt.mp h
  rw [nI_toInt (by decide)] at this
  exact decide_eq_false (by omega)
theorem fo_130_in {x : Int32} (h0 : ¬ x < nI 1) (h : x ≤ nI 30) : ∃ c, 1 ≤ c ∧ c ≤ 30 ∧ x = nI c := by
  have h1 : ¬ x.toInt < 1 := fun q => h0 (Int32.lt_iff_toInt_lt.mpr (by rw [nI_toInt (by decide)]; exact q))
  have h2 := Int32.le_iff_toInt_le.mp h
  rw [nI_toInt (by decide)] at h2
  refine ⟨x.toInt.toNat, by omega, by omega, ?_⟩
  apply Int32.toInt_inj.mp
  rw [nI_toInt (by omega)]
  omega
theorem fo_130_nI {c : Nat} (h1 : 1 ≤ c) (h2 : c ≤ 30) : fo_130 (nI c) = true := by
  refine decide_eq_true ?_
  rw [nI_toInt (by omega)]
  omega

set_option maxRecDepth 10000 in
set_option maxHeartbeats 4000000 in
theorem mX6_requireSeries {l : Launch} {Λ : fo_Lt} {I : fo_Mi} {D : fo_Md} {J : fo_Mj} {X : fo_Mi} (hfl : l.stackTraces = false) {x : Int32}  : fx_v l yX6_requireSeries cX6_requireSeries 1 6 90 1 6 Λ [.int (x)] I D J X ((fun I' D' J' X' => fo_inr x 4 = true ∧ I' = I ∧ D' = D ∧ J' = J ∧ X' = X)) ((fun E I' D' J' X' => fo_el [("java/lang/IndexOutOfBoundsException", fo_inr x 4 = false)] E ∧ I' = I ∧ D' = D ∧ J' = J)) := by
  refine fo_sxv hfl (by decide) [(0, .int (x))] rfl (Nat.le_of_ble_eq_true rfl) (fun K C fin out thr => ?_)
  refine fo_iload_n C dX6_requireSeries_0 0 rfl rfl 1 rfl ?_
  refine fo_qsi C dX6_requireSeries_1 (mX6_isSeries (x := x)) ls_X6_283 rfl ⟨Nat.le_of_ble_eq_true rfl, Nat.le_of_ble_eq_true rfl⟩ ⟨Nat.le_of_ble_eq_true rfl, Nat.le_of_ble_eq_true rfl⟩ [] rfl (Nat.le_of_ble_eq_true rfl) 4 rfl (fo_er ?_)
  refine fo_bif_ne C dX6_requireSeries_4 15 (by decide) 7 rfl (fun c7 => ?_) (fun c7 => ?_)
  · exact fin dX6_requireSeries_15 (Nat.le_of_ble_eq_true rfl) (Nat.le_of_ble_eq_true rfl) (⟨by assumption, rfl, rfl, rfl, rfl⟩)
  · exact thr tf_IndexOutOfBounds dX6_requireSeries_7 dX6_requireSeries_10 dX6_requireSeries_11 dX6_requireSeries_14 (by decide) (Nat.le_of_ble_eq_true rfl) (Nat.le_of_ble_eq_true rfl) (Nat.le_of_ble_eq_true rfl) (⟨Or.inl ⟨rfl, by simp_all⟩, rfl, rfl, rfl⟩)
set_option maxRecDepth 10000 in
set_option maxHeartbeats 4000000 in
theorem mX6_seriesAt {l : Launch} {Λ : fo_Lt} {I : fo_Mi} {D : fo_Md} {J : fo_Mj} {X : fo_Mi} (hfl : l.stackTraces = false) {x : Int32}  : fx_q l yX6_seriesAt cX6_seriesAt 2 (.object "ForecastLab$Series") 7 110 1 6 Λ [.ref (Λ.2.2.1 605), .int (x)] I D J X ((fun r I' D' J' X' => ∃ k, k < 4 ∧ x = nI k ∧ r = some (Λ.2.2.1 (3 + 5 * k)) ∧ I' = I ∧ D' = D ∧ J' = J ∧ X' = X)) ((fun E I' D' J' X' => fo_el [("java/lang/IndexOutOfBoundsException", fo_inr x 4 = false)] E ∧ I' = I ∧ D' = D ∧ J' = J)) := by
  refine fo_sxq hfl (by decide) [(0, .ref (Λ.2.2.1 605)), (1, .int (x))] rfl (Nat.le_of_ble_eq_true rfl) (fun K C fin out thr => ?_)
  refine fo_iload_n C dX6_seriesAt_0 1 rfl rfl 1 rfl ?_
  refine fo_ysv C dX6_seriesAt_1 (mX6_requireSeries hfl (x := x)) ls_X6_171 rfl ⟨Nat.le_of_ble_eq_true rfl, Nat.le_of_ble_eq_true rfl⟩ ⟨Nat.le_of_ble_eq_true rfl, Nat.le_of_ble_eq_true rfl⟩ [] rfl (Nat.le_of_ble_eq_true rfl) 4 rfl (fun E I9 D9 J9 X9 h9 => ?_) (fun I2 D3 J4 X5 p6 => ?_)
  · exact out (Nat.le_of_ble_eq_true rfl) (Nat.le_of_ble_eq_true rfl) ⟨fo_el_app h9.1, h9.2⟩
  obtain ⟨hin, z9⟩ := p6
  obtain ⟨rfl, rfl, rfl, rfl⟩ := fo_sym4 z9
  obtain ⟨k, hk, hk31, rfl⟩ := fo_inr_at hin
  refine fo_aload_n C dX6_seriesAt_4 0 rfl rfl 5 rfl ?_
  refine fo_get C dX6_seriesAt_5 fK8 (by decide : fo_k 605 = 8) (by decide) 0 (by decide) fl_X6_12 (v := .ref (Λ.2.2.1 0)) rfl 8 rfl ?_
  refine fo_get C dX6_seriesAt_8 fK7 (by decide : fo_k 0 = 7) (by decide) 0 (by decide) fl_X6_286 (v := .ref (Λ.2.2.1 1)) rfl 11 rfl ?_
  refine fo_iload_n C dX6_seriesAt_11 1 rfl rfl 12 rfl ?_
  refine fo_aaldS C dX6_seriesAt_12 (by decide : fo_k 1 = 25) (by rw [(show fo_n 1 = 4 from rfl)]; omega) (3 + 5 * k) (by omega) 13 rfl ?_
  exact fin dX6_seriesAt_13 (Or.inl ⟨_, rfl⟩) (Nat.le_of_ble_eq_true rfl) (Nat.le_of_ble_eq_true rfl) (⟨k, hk, rfl, rfl, rfl, rfl, rfl, rfl⟩)
set_option maxRecDepth 10000 in
set_option maxHeartbeats 4000000 in
theorem mX6_days {l : Launch} {Λ : fo_Lt} {I : fo_Mi} {D : fo_Md} {J : fo_Mj} {X : fo_Mi} (hfl : l.stackTraces = false) {np lim : Nat} {kd par n : Nat → Nat} {v : Nat → Nat → Nat} {x : Int32} (hf : fs_F I D 0 np lim kd par n v) : fx_i l yX6_days cX6_days 2 .int 8 131 1 6 Λ [.ref (Λ.2.2.1 605), .int (x)] I D J X ((fun r I' D' J' X' => ∃ k, k < 4 ∧ x = nI k ∧ r = nI (n k) ∧ I' = I ∧ D' = D ∧ J' = J)) ((fun E I' D' J' X' => fo_el [("java/lang/IndexOutOfBoundsException", fo_inr x 4 = false)] E ∧ I' = I ∧ D' = D ∧ J' = J)) := by
  obtain ⟨hS, hP, hC, hnp, hlim, h8, hl1, hl9, hn30⟩ := hf.now
  refine fo_sxi hfl (by decide) [(0, .ref (Λ.2.2.1 605)), (1, .int (x))] rfl (Nat.le_of_ble_eq_true rfl) (fun K C fin out thr => ?_)
  refine fo_aload_n C dX6_days_0 0 rfl rfl 1 rfl ?_
  refine fo_iload_n C dX6_days_1 1 rfl rfl 2 rfl ?_
  refine fo_yvq C dX6_days_2 (mX6_seriesAt hfl (x := x)) lv_X6_72 (by decide : fo_k 605 = 8) rfl (by decide) rfl ⟨Nat.le_of_ble_eq_true rfl, Nat.le_of_ble_eq_true rfl⟩ ⟨Nat.le_of_ble_eq_true rfl, Nat.le_of_ble_eq_true rfl⟩ [] rfl (Nat.le_of_ble_eq_true rfl) 5 rfl (fun E I9 D9 J9 X9 h9 => ?_) (fun r1 I2 D3 J4 X5 p6 => ?_)
  · exact out (Nat.le_of_ble_eq_true rfl) (Nat.le_of_ble_eq_true rfl) ⟨fo_el_app h9.1, h9.2⟩
  obtain ⟨k, hk, rfl, rfl, z9⟩ := p6
  obtain ⟨rfl, rfl, rfl, rfl⟩ := fo_sym4 z9
  have q7 := hn30 k (by omega)
  refine fo_get C dX6_days_5 fK6 ((hS k (by omega)).1) (by decide) 1 (by decide) fl_X6_88 (v := .int (nI (n k))) (congrArg (fun x => some (Value.int x)) ((hS k (by omega)).2.1)) 8 rfl ?_
  exact fin dX6_days_8 rfl (Nat.le_of_ble_eq_true rfl) (Nat.le_of_ble_eq_true rfl) (⟨k, hk, rfl, rfl, rfl, rfl, rfl⟩)
set_option maxRecDepth 10000 in
set_option maxHeartbeats 4000000 in
theorem mX6_value {l : Launch} {Λ : fo_Lt} {I : fo_Mi} {D : fo_Md} {J : fo_Mj} {X : fo_Mi} (hfl : l.stackTraces = false) {np lim : Nat} {kd par n : Nat → Nat} {v : Nat → Nat → Nat} {x : Int32} {z : Int32} (hf : fs_F I D 0 np lim kd par n v) : fx_i l yX6_value cX6_value 4 .int 8 131 2 12 Λ [.ref (Λ.2.2.1 605), .int (x), .int (z)] I D J X ((fun r I' D' J' X' => ∃ k, k < 4 ∧ x = nI k ∧ ∃ d, d < n k ∧ z = nI d ∧ r = nI (v k d) ∧ I' = I ∧ D' = D ∧ J' = J)) ((fun E I' D' J' X' => fo_el [("java/lang/IndexOutOfBoundsException", fo_inr x 4 = false), ("java/util/NoSuchElementException", ∃ k, k < 4 ∧ x = nI k ∧ fo_inr z (n k) = false)] E ∧ I' = I ∧ D' = D ∧ J' = J)) := by
  obtain ⟨hS, hP, hC, hnp, hlim, h8, hl1, hl9, hn30⟩ := hf.now
  refine fo_sxi hfl (by decide) [(0, .ref (Λ.2.2.1 605)), (1, .int (x)), (2, .int (z))] rfl (Nat.le_of_ble_eq_true rfl) (fun K C fin out thr => ?_)
  refine fo_aload_n C dX6_value_0 0 rfl rfl 1 rfl ?_
  refine fo_iload_n C dX6_value_1 1 rfl rfl 2 rfl ?_
  refine fo_yvq C dX6_value_2 (mX6_seriesAt hfl (x := x)) lv_X6_72 (by decide : fo_k 605 = 8) rfl (by decide) rfl ⟨Nat.le_of_ble_eq_true rfl, Nat.le_of_ble_eq_true rfl⟩ ⟨Nat.le_of_ble_eq_true rfl, Nat.le_of_ble_eq_true rfl⟩ [] rfl (Nat.le_of_ble_eq_true rfl) 5 rfl (fun E I9 D9 J9 X9 h9 => ?_) (fun r1 I2 D3 J4 X5 p6 => ?_)
  · exact out (Nat.le_of_ble_eq_true rfl) (Nat.le_of_ble_eq_true rfl) ⟨fo_el_app h9.1, h9.2⟩
  obtain ⟨k, hk, rfl, rfl, z9⟩ := p6
  obtain ⟨rfl, rfl, rfl, rfl⟩ := fo_sym4 z9
  refine fo_astore_n C dX6_value_5 rfl [(3, .ref (Λ.2.2.1 (3 + 5 * k))), (0, .ref (Λ.2.2.1 605)), (1, .int (nI k)), (2, .int (z))] rfl (by decide) 6 rfl ?_
  refine fo_aload_n C dX6_value_6 0 rfl rfl 7 rfl ?_
  refine fo_iload_n C dX6_value_7 3 rfl rfl 8 rfl ?_
  refine fo_qvi C dX6_value_8 (mX4_hasDay (x := z) (hS k hk)) lv_X6_95 ((hS k (by omega)).1) rfl (by decide) rfl ⟨Nat.le_of_ble_eq_true rfl, Nat.le_of_ble_eq_true rfl⟩ ⟨Nat.le_of_ble_eq_true rfl, Nat.le_of_ble_eq_true rfl⟩ [] rfl (Nat.le_of_ble_eq_true rfl) 11 rfl (fo_er ?_)
  refine fo_bif_ne C dX6_value_11 22 (by decide) 14 rfl (fun c13 => ?_) (fun c13 => ?_)
  · obtain ⟨d, hd, hd31, rfl⟩ := fo_inr_at c13
    have qk := hn30 k hk
    refine fo_aload_n C dX6_value_22 0 rfl rfl 23 rfl ?_
    refine fo_get C dX6_value_23 fK6 ((hS k (by omega)).1) (by decide) 0 (by decide) fl_X6_101 (v := .ref (Λ.2.2.1 (3 + 5 * k + 1))) rfl 26 rfl ?_
    refine fo_iload_n C dX6_value_26 3 rfl rfl 27 rfl ?_
    have q14 := (hS k (by omega)).2.2.2.2 d (by omega)
    refine fo_iald C dX6_value_27 (fo_S1k (hS k (by omega)).1) (by rw [fo_S1n (hS k (by omega)).1]; omega) (nI (v k d)) (((hS k (by omega)).2.2.2.1 _ (by omega))) 28 rfl ?_
    exact fin dX6_value_28 rfl (Nat.le_of_ble_eq_true rfl) (Nat.le_of_ble_eq_true rfl) (⟨k, hk, rfl, d, hd, rfl, rfl, rfl, rfl, rfl⟩)
  · exact thr tf_NoSuchElement dX6_value_14 dX6_value_17 dX6_value_18 dX6_value_21 (by decide) (Nat.le_of_ble_eq_true rfl) (Nat.le_of_ble_eq_true rfl) (Nat.le_of_ble_eq_true rfl) (⟨Or.inr (Or.inl ⟨rfl, ⟨k, hk, rfl, by simp_all⟩⟩), rfl, rfl, rfl⟩)
set_option maxRecDepth 10000 in
set_option maxHeartbeats 4000000 in
theorem mX6_range {l : Launch} {Λ : fo_Lt} {I : fo_Mi} {D : fo_Md} {J : fo_Mj} {X : fo_Mi} (hfl : l.stackTraces = false) {np lim : Nat} {kd par n : Nat → Nat} {v : Nat → Nat → Nat} {x : Int32} (hf : fs_F I D 0 np lim kd par n v) : fx_i l yX6_range cX6_range 3 .int 8 131 2 12 Λ [.ref (Λ.2.2.1 605), .int (x)] I D J X ((fun r I' D' J' X' => ∃ k, k < 4 ∧ x = nI k ∧ 0 < n k ∧ r = nI (fp_hi (v k) (n k - 1) - fp_lo (v k) (n k - 1)) ∧ I' = I ∧ D' = D ∧ J' = J)) ((fun E I' D' J' X' => fo_el [("java/lang/IndexOutOfBoundsException", fo_inr x 4 = false), ("java/util/NoSuchElementException", ∃ k, k < 4 ∧ x = nI k ∧ n k = 0)] E ∧ I' = I ∧ D' = D ∧ J' = J)) := by
  obtain ⟨hS, hP, hC, hnp, hlim, h8, hl1, hl9, hn30⟩ := hf.now
  refine fo_sxi hfl (by decide) [(0, .ref (Λ.2.2.1 605)), (1, .int (x))] rfl (Nat.le_of_ble_eq_true rfl) (fun K C fin out thr => ?_)
  refine fo_aload_n C dX6_range_0 0 rfl rfl 1 rfl ?_
  refine fo_iload_n C dX6_range_1 1 rfl rfl 2 rfl ?_
  refine fo_yvq C dX6_range_2 (mX6_seriesAt hfl (x := x)) lv_X6_72 (by decide : fo_k 605 = 8) rfl (by decide) rfl ⟨Nat.le_of_ble_eq_true rfl, Nat.le_of_ble_eq_true rfl⟩ ⟨Nat.le_of_ble_eq_true rfl, Nat.le_of_ble_eq_true rfl⟩ [] rfl (Nat.le_of_ble_eq_true rfl) 5 rfl (fun E I9 D9 J9 X9 h9 => ?_) (fun r1 I2 D3 J4 X5 p6 => ?_)
  · exact out (Nat.le_of_ble_eq_true rfl) (Nat.le_of_ble_eq_true rfl) ⟨fo_el_app h9.1, h9.2⟩
  obtain ⟨k, hk, rfl, rfl, z9⟩ := p6
  obtain ⟨rfl, rfl, rfl, rfl⟩ := fo_sym4 z9
  refine fo_astore_n C dX6_range_5 rfl [(2, .ref (Λ.2.2.1 (3 + 5 * k))), (0, .ref (Λ.2.2.1 605)), (1, .int (nI k))] rfl (by decide) 6 rfl ?_
  refine fo_aload_n C dX6_range_6 0 rfl rfl 7 rfl ?_
  have q7 := hn30 k (by omega)
  refine fo_get C dX6_range_7 fK6 ((hS k (by omega)).1) (by decide) 1 (by decide) fl_X6_88 (v := .int (nI (n k))) (congrArg (fun x => some (Value.int x)) ((hS k (by omega)).2.1)) 10 rfl ?_
  refine fo_nif_ne C (by omega) dX6_range_10 21 (by decide) 13 rfl (fun c8 => ?_) (fun c8 => ?_)
  · refine fo_aload_n C dX6_range_21 0 rfl rfl 22 rfl ?_
    refine fo_qvi C dX6_range_22 (mX4_spread (by omega) (hS k hk)) lv_X6_105 ((hS k (by omega)).1) rfl (by decide) rfl ⟨Nat.le_of_ble_eq_true rfl, Nat.le_of_ble_eq_true rfl⟩ ⟨Nat.le_of_ble_eq_true rfl, Nat.le_of_ble_eq_true rfl⟩ [] rfl (Nat.le_of_ble_eq_true rfl) 25 rfl (fo_er ?_)
    exact fin dX6_range_25 rfl (Nat.le_of_ble_eq_true rfl) (Nat.le_of_ble_eq_true rfl) (⟨k, hk, rfl, (by omega), rfl, rfl, rfl, rfl⟩)
  · exact thr tf_NoSuchElement dX6_range_13 dX6_range_16 dX6_range_17 dX6_range_20 (by decide) (Nat.le_of_ble_eq_true rfl) (Nat.le_of_ble_eq_true rfl) (Nat.le_of_ble_eq_true rfl) (⟨Or.inr (Or.inl ⟨rfl, ⟨k, hk, rfl, by omega⟩⟩), rfl, rfl, rfl⟩)
set_option maxRecDepth 10000 in
set_option maxHeartbeats 4000000 in
theorem mX6_seriesWithLast {l : Launch} {Λ : fo_Lt} {I : fo_Mi} {D : fo_Md} {J : fo_Mj} {X : fo_Mi} (hfl : l.stackTraces = false) {np lim : Nat} {kd par n : Nat → Nat} {v : Nat → Nat → Nat} {x : Int32} {z : Int32} (hf : fs_F I D 0 np lim kd par n v) : fx_q l yX6_seriesWithLast cX6_seriesWithLast 4 (.object "ForecastLab$Series") 8 131 2 12 Λ [.ref (Λ.2.2.1 605), .int (x), .int (z)] I D J X ((fun r I' D' J' X' => ∃ k, k < 4 ∧ x = nI k ∧ ∃ c, 1 ≤ c ∧ c ≤ n k ∧ z = nI c ∧ r = some (Λ.2.2.1 (3 + 5 * k)) ∧ I' = I ∧ D' = D ∧ J' = J)) ((fun E I' D' J' X' => fo_el [("java/lang/IndexOutOfBoundsException", fo_inr x 4 = false), ("java/lang/IllegalArgumentException", ∃ k, k < 4 ∧ x = nI k ∧ fo_130 z = false), ("java/util/NoSuchElementException", ∃ k, k < 4 ∧ x = nI k ∧ ∃ c, 1 ≤ c ∧ c ≤ 30 ∧ z = nI c ∧ n k < c)] E ∧ I' = I ∧ D' = D ∧ J' = J)) := by
  obtain ⟨hS, hP, hC, hnp, hlim, h8, hl1, hl9, hn30⟩ := hf.now
  refine fo_sxq hfl (by decide) [(0, .ref (Λ.2.2.1 605)), (1, .int (x)), (2, .int (z))] rfl (Nat.le_of_ble_eq_true rfl) (fun K C fin out thr => ?_)
  refine fo_aload_n C dX6_seriesWithLast_0 0 rfl rfl 1 rfl ?_
  refine fo_iload_n C dX6_seriesWithLast_1 1 rfl rfl 2 rfl ?_
  refine fo_yvq C dX6_seriesWithLast_2 (mX6_seriesAt hfl (x := x)) lv_X6_72 (by decide : fo_k 605 = 8) rfl (by decide) rfl ⟨Nat.le_of_ble_eq_true rfl, Nat.le_of_ble_eq_true rfl⟩ ⟨Nat.le_of_ble_eq_true rfl, Nat.le_of_ble_eq_true rfl⟩ [] rfl (Nat.le_of_ble_eq_true rfl) 5 rfl (fun E I9 D9 J9 X9 h9 => ?_) (fun r1 I2 D3 J4 X5 p6 => ?_)
  · exact out (Nat.le_of_ble_eq_true rfl) (Nat.le_of_ble_eq_true rfl) ⟨fo_el_app h9.1, h9.2⟩
  obtain ⟨k, hk, rfl, rfl, z9⟩ := p6
  obtain ⟨rfl, rfl, rfl, rfl⟩ := fo_sym4 z9
  refine fo_astore_n C dX6_seriesWithLast_5 rfl [(3, .ref (Λ.2.2.1 (3 + 5 * k))), (0, .ref (Λ.2.2.1 605)), (1, .int (nI k)), (2, .int (z))] rfl (by decide) 6 rfl ?_
  refine fo_iload_n C dX6_seriesWithLast_6 3 rfl rfl 7 rfl ?_
  refine fo_iconst C dX6_seriesWithLast_7 (nI 1) ki_1 8 rfl ?_
  refine fo_icmp_lt C dX6_seriesWithLast_8 17 (by decide) 11 rfl (fun c7 => ?_) (fun c7 => ?_)
  · exact thr tf_IllegalArgument dX6_seriesWithLast_17 dX6_seriesWithLast_20 dX6_seriesWithLast_21 dX6_seriesWithLast_24 (by decide) (Nat.le_of_ble_eq_true rfl) (Nat.le_of_ble_eq_true rfl) (Nat.le_of_ble_eq_true rfl) (⟨Or.inr (Or.inl ⟨rfl, ⟨k, hk, rfl, by first | exact fo_130_lt (by assumption) | exact fo_130_gt (Int32.not_le.mp (by assumption))⟩⟩), rfl, rfl, rfl⟩)
  · refine fo_iload_n C dX6_seriesWithLast_11 3 rfl rfl 12 rfl ?_
    refine fo_bipush C dX6_seriesWithLast_12 (nI 30) kb_30 14 rfl ?_
    refine fo_icmp_le C dX6_seriesWithLast_14 25 (by decide) 17 rfl (fun c8 => ?_) (fun c8 => ?_)
    · obtain ⟨c, hc1, hc2, rfl⟩ := fo_130_in (by assumption) c8
      refine fo_aload_n C dX6_seriesWithLast_25 0 rfl rfl 26 rfl ?_
      have q9 := hn30 k (by omega)
      refine fo_get C dX6_seriesWithLast_26 fK6 ((hS k (by omega)).1) (by decide) 1 (by decide) fl_X6_88 (v := .int (nI (n k))) (congrArg (fun x => some (Value.int x)) ((hS k (by omega)).2.1)) 29 rfl ?_
      refine fo_iload_n C dX6_seriesWithLast_29 3 rfl rfl 30 rfl ?_
      refine fo_ncmp_ge C (by omega) (by omega) dX6_seriesWithLast_30 41 (by decide) 33 rfl (fun c10 => ?_) (fun c10 => ?_)
      · refine fo_aload_n C dX6_seriesWithLast_41 0 rfl rfl 42 rfl ?_
        exact fin dX6_seriesWithLast_42 (Or.inl ⟨_, rfl⟩) (Nat.le_of_ble_eq_true rfl) (Nat.le_of_ble_eq_true rfl) (⟨k, hk, rfl, c, hc1, by omega, rfl, rfl, rfl, rfl, rfl⟩)
      · exact thr tf_NoSuchElement dX6_seriesWithLast_33 dX6_seriesWithLast_36 dX6_seriesWithLast_37 dX6_seriesWithLast_40 (by decide) (Nat.le_of_ble_eq_true rfl) (Nat.le_of_ble_eq_true rfl) (Nat.le_of_ble_eq_true rfl) (⟨Or.inr (Or.inr (Or.inl ⟨rfl, ⟨k, hk, rfl, c, hc1, hc2, rfl, by omega⟩⟩)), rfl, rfl, rfl⟩)
    · exact thr tf_IllegalArgument dX6_seriesWithLast_17 dX6_seriesWithLast_20 dX6_seriesWithLast_21 dX6_seriesWithLast_24 (by decide) (Nat.le_of_ble_eq_true rfl) (Nat.le_of_ble_eq_true rfl) (Nat.le_of_ble_eq_true rfl) (⟨Or.inr (Or.inl ⟨rfl, ⟨k, hk, rfl, by first | exact fo_130_lt (by assumption) | exact fo_130_gt (Int32.not_le.mp (by assumption))⟩⟩), rfl, rfl, rfl⟩)
set_option maxRecDepth 10000 in
set_option maxHeartbeats 4000000 in
theorem mX6_movingAverage {l : Launch} {Λ : fo_Lt} {I : fo_Mi} {D : fo_Md} {J : fo_Mj} {X : fo_Mi} (hfl : l.stackTraces = false) {np lim : Nat} {kd par n : Nat → Nat} {v : Nat → Nat → Nat} {x : Int32} {z : Int32} (hf : fs_F I D 0 np lim kd par n v) : fx_d l yX6_movingAverage cX6_movingAverage 4 9 154 2 12 Λ [.ref (Λ.2.2.1 605), .int (x), .int (z)] I D J X ((fun r I' D' J' X' => ∃ k, k < 4 ∧ x = nI k ∧ ∃ c, 1 ≤ c ∧ c ≤ n k ∧ z = nI c ∧ r = fp_mean (v k) (n k - c) c ∧ I' = I ∧ D' = D ∧ J' = J)) ((fun E I' D' J' X' => fo_el [("java/lang/IndexOutOfBoundsException", fo_inr x 4 = false), ("java/lang/IllegalArgumentException", ∃ k, k < 4 ∧ x = nI k ∧ fo_130 z = false), ("java/util/NoSuchElementException", ∃ k, k < 4 ∧ x = nI k ∧ ∃ c, 1 ≤ c ∧ c ≤ 30 ∧ z = nI c ∧ n k < c)] E ∧ I' = I ∧ D' = D ∧ J' = J)) := by
  obtain ⟨hS, hP, hC, hnp, hlim, h8, hl1, hl9, hn30⟩ := hf.now
  refine fo_sxd hfl (by decide) [(0, .ref (Λ.2.2.1 605)), (1, .int (x)), (2, .int (z))] rfl (Nat.le_of_ble_eq_true rfl) (fun K C fin out thr => ?_)
  refine fo_aload_n C dX6_movingAverage_0 0 rfl rfl 1 rfl ?_
  refine fo_iload_n C dX6_movingAverage_1 1 rfl rfl 2 rfl ?_
  refine fo_iload_n C dX6_movingAverage_2 2 rfl rfl 3 rfl ?_
  refine fo_yvq C dX6_movingAverage_3 (mX6_seriesWithLast hfl (x := x) (z := z) hf) lv_X6_109 (by decide : fo_k 605 = 8) rfl (by decide) rfl ⟨Nat.le_of_ble_eq_true rfl, Nat.le_of_ble_eq_true rfl⟩ ⟨Nat.le_of_ble_eq_true rfl, Nat.le_of_ble_eq_true rfl⟩ [] rfl (Nat.le_of_ble_eq_true rfl) 6 rfl (fun E I9 D9 J9 X9 h9 => ?_) (fun r1 I2 D3 J4 X5 p6 => ?_)
  · exact out (Nat.le_of_ble_eq_true rfl) (Nat.le_of_ble_eq_true rfl) ⟨fo_el_app h9.1, h9.2⟩
  obtain ⟨k, hk, rfl, c, hc1, hc2, rfl, rfl, z9⟩ := p6
  obtain ⟨rfl, rfl, rfl⟩ := fo_sym3 z9
  have qk := hn30 k hk
  refine fo_astore_n C dX6_movingAverage_6 rfl [(3, .ref (Λ.2.2.1 (3 + 5 * k))), (0, .ref (Λ.2.2.1 605)), (1, .int (nI k)), (2, .int (nI c))] rfl (by decide) 7 rfl ?_
  refine fo_aload_n C dX6_movingAverage_7 0 rfl rfl 8 rfl ?_
  refine fo_aload_n C dX6_movingAverage_8 0 rfl rfl 9 rfl ?_
  have q7 := hn30 k (by omega)
  refine fo_get C dX6_movingAverage_9 fK6 ((hS k (by omega)).1) (by decide) 1 (by decide) fl_X6_88 (v := .int (nI (n k))) (congrArg (fun x => some (Value.int x)) ((hS k (by omega)).2.1)) 12 rfl ?_
  refine fo_iload_n C dX6_movingAverage_12 3 rfl rfl 13 rfl ?_
  refine fo_qvd C dX6_movingAverage_13 (mX4_meanBefore (e := n k) (c := c) hc1 hc2 (by omega) (hS k hk)) lv_X6_113 ((hS k (by omega)).1) rfl (by decide) rfl ⟨Nat.le_of_ble_eq_true rfl, Nat.le_of_ble_eq_true rfl⟩ ⟨Nat.le_of_ble_eq_true rfl, Nat.le_of_ble_eq_true rfl⟩ [] rfl (Nat.le_of_ble_eq_true rfl) 16 rfl (fo_er ?_)
  exact fin dX6_movingAverage_16 (Nat.le_of_ble_eq_true rfl) (Nat.le_of_ble_eq_true rfl) (⟨k, hk, rfl, c, hc1, hc2, rfl, rfl, rfl, rfl, rfl⟩)
set_option maxRecDepth 10000 in
set_option maxHeartbeats 4000000 in
theorem mX6_movingAverageBySums {l : Launch} {Λ : fo_Lt} {I : fo_Mi} {D : fo_Md} {J : fo_Mj} {X : fo_Mi} (hfl : l.stackTraces = false) {np lim : Nat} {kd par n : Nat → Nat} {v : Nat → Nat → Nat} {x : Int32} {z : Int32} (hf : fs_F I D 0 np lim kd par n v) : fx_d l yX6_movingAverageBySums cX6_movingAverageBySums 3 9 154 2 12 Λ [.ref (Λ.2.2.1 605), .int (x), .int (z)] I D J X ((fun r I' D' J' X' => ∃ k, k < 4 ∧ x = nI k ∧ ∃ c, 1 ≤ c ∧ c ≤ n k ∧ z = nI c ∧ r = fp_mean (v k) (n k - c) c ∧ I' = I ∧ D' = D ∧ J' = J)) ((fun E I' D' J' X' => fo_el [("java/lang/IndexOutOfBoundsException", fo_inr x 4 = false), ("java/lang/IllegalArgumentException", ∃ k, k < 4 ∧ x = nI k ∧ fo_130 z = false), ("java/util/NoSuchElementException", ∃ k, k < 4 ∧ x = nI k ∧ ∃ c, 1 ≤ c ∧ c ≤ 30 ∧ z = nI c ∧ n k < c)] E ∧ I' = I ∧ D' = D ∧ J' = J)) := by
  obtain ⟨hS, hP, hC, hnp, hlim, h8, hl1, hl9, hn30⟩ := hf.now
  refine fo_sxd hfl (by decide) [(0, .ref (Λ.2.2.1 605)), (1, .int (x)), (2, .int (z))] rfl (Nat.le_of_ble_eq_true rfl) (fun K C fin out thr => ?_)
  refine fo_aload_n C dX6_movingAverageBySums_0 0 rfl rfl 1 rfl ?_
  refine fo_iload_n C dX6_movingAverageBySums_1 1 rfl rfl 2 rfl ?_
  refine fo_iload_n C dX6_movingAverageBySums_2 2 rfl rfl 3 rfl ?_
  refine fo_yvq C dX6_movingAverageBySums_3 (mX6_seriesWithLast hfl (x := x) (z := z) hf) lv_X6_109 (by decide : fo_k 605 = 8) rfl (by decide) rfl ⟨Nat.le_of_ble_eq_true rfl, Nat.le_of_ble_eq_true rfl⟩ ⟨Nat.le_of_ble_eq_true rfl, Nat.le_of_ble_eq_true rfl⟩ [] rfl (Nat.le_of_ble_eq_true rfl) 6 rfl (fun E I9 D9 J9 X9 h9 => ?_) (fun r1 I2 D3 J4 X5 p6 => ?_)
  · exact out (Nat.le_of_ble_eq_true rfl) (Nat.le_of_ble_eq_true rfl) ⟨fo_el_app h9.1, h9.2⟩
  obtain ⟨k, hk, rfl, c, hc1, hc2, rfl, rfl, z9⟩ := p6
  obtain ⟨rfl, rfl, rfl⟩ := fo_sym3 z9
  have qk := hn30 k hk
  refine fo_iload_n C dX6_movingAverageBySums_6 2 rfl rfl 7 rfl ?_
  refine fo_qvd C dX6_movingAverageBySums_7 (mX4_meanBySums hc1 hc2 (hS k hk)) lv_X6_117 ((hS k (by omega)).1) rfl (by decide) rfl ⟨Nat.le_of_ble_eq_true rfl, Nat.le_of_ble_eq_true rfl⟩ ⟨Nat.le_of_ble_eq_true rfl, Nat.le_of_ble_eq_true rfl⟩ [] rfl (Nat.le_of_ble_eq_true rfl) 10 rfl (fo_es (fun X11 => ?_))
  exact fin dX6_movingAverageBySums_10 (Nat.le_of_ble_eq_true rfl) (Nat.le_of_ble_eq_true rfl) (⟨k, hk, rfl, c, hc1, hc2, rfl, rfl, rfl, rfl, rfl⟩)
set_option maxRecDepth 10000 in
set_option maxHeartbeats 4000000 in
theorem mX6_median {l : Launch} {Λ : fo_Lt} {I : fo_Mi} {D : fo_Md} {J : fo_Mj} {X : fo_Mi} (hfl : l.stackTraces = false) {np lim : Nat} {kd par n : Nat → Nat} {v : Nat → Nat → Nat} {x : Int32} {z : Int32} (hf : fs_F I D 0 np lim kd par n v) : fx_i l yX6_median cX6_median 4 .int 9 154 2 12 Λ [.ref (Λ.2.2.1 605), .int (x), .int (z)] I D J X ((fun r I' D' J' X' => ∃ k, k < 4 ∧ x = nI k ∧ ∃ c, 1 ≤ c ∧ c ≤ n k ∧ z = nI c ∧ r = nI (fp_med (fun o => v k (n k - c + o)) c) ∧ I' = I ∧ D' = D ∧ J' = J)) ((fun E I' D' J' X' => fo_el [("java/lang/IndexOutOfBoundsException", fo_inr x 4 = false), ("java/lang/IllegalArgumentException", ∃ k, k < 4 ∧ x = nI k ∧ fo_130 z = false), ("java/util/NoSuchElementException", ∃ k, k < 4 ∧ x = nI k ∧ ∃ c, 1 ≤ c ∧ c ≤ 30 ∧ z = nI c ∧ n k < c)] E ∧ I' = I ∧ D' = D ∧ J' = J)) := by
  obtain ⟨hS, hP, hC, hnp, hlim, h8, hl1, hl9, hn30⟩ := hf.now
  refine fo_sxi hfl (by decide) [(0, .ref (Λ.2.2.1 605)), (1, .int (x)), (2, .int (z))] rfl (Nat.le_of_ble_eq_true rfl) (fun K C fin out thr => ?_)
  refine fo_aload_n C dX6_median_0 0 rfl rfl 1 rfl ?_
  refine fo_iload_n C dX6_median_1 1 rfl rfl 2 rfl ?_
  refine fo_iload_n C dX6_median_2 2 rfl rfl 3 rfl ?_
  refine fo_yvq C dX6_median_3 (mX6_seriesWithLast hfl (x := x) (z := z) hf) lv_X6_109 (by decide : fo_k 605 = 8) rfl (by decide) rfl ⟨Nat.le_of_ble_eq_true rfl, Nat.le_of_ble_eq_true rfl⟩ ⟨Nat.le_of_ble_eq_true rfl, Nat.le_of_ble_eq_true rfl⟩ [] rfl (Nat.le_of_ble_eq_true rfl) 6 rfl (fun E I9 D9 J9 X9 h9 => ?_) (fun r1 I2 D3 J4 X5 p6 => ?_)
  · exact out (Nat.le_of_ble_eq_true rfl) (Nat.le_of_ble_eq_true rfl) ⟨fo_el_app h9.1, h9.2⟩
  obtain ⟨k, hk, rfl, c, hc1, hc2, rfl, rfl, z9⟩ := p6
  obtain ⟨rfl, rfl, rfl⟩ := fo_sym3 z9
  have qk := hn30 k hk
  refine fo_astore_n C dX6_median_6 rfl [(3, .ref (Λ.2.2.1 (3 + 5 * k))), (0, .ref (Λ.2.2.1 605)), (1, .int (nI k)), (2, .int (nI c))] rfl (by decide) 7 rfl ?_
  refine fo_aload_n C dX6_median_7 0 rfl rfl 8 rfl ?_
  refine fo_aload_n C dX6_median_8 0 rfl rfl 9 rfl ?_
  refine fo_get C dX6_median_9 fK6 ((hS k (by omega)).1) (by decide) 0 (by decide) fl_X6_101 (v := .ref (Λ.2.2.1 (3 + 5 * k + 1))) rfl 12 rfl ?_
  refine fo_aload_n C dX6_median_12 0 rfl rfl 13 rfl ?_
  have q7 := hn30 k (by omega)
  refine fo_get C dX6_median_13 fK6 ((hS k (by omega)).1) (by decide) 1 (by decide) fl_X6_88 (v := .int (nI (n k))) (congrArg (fun x => some (Value.int x)) ((hS k (by omega)).2.1)) 16 rfl ?_
  refine fo_iload_n C dX6_median_16 3 rfl rfl 17 rfl ?_
  refine fo_isub C dX6_median_17 (nI ((n k) - c)) (pk_sub (by omega)) 18 rfl ?_
  refine fo_iload_n C dX6_median_18 3 rfl rfl 19 rfl ?_
  refine fo_qvi C dX6_median_19 (mX4_medianOf_v (a := n k - c) (c := c) hc1 (by omega) (hS k hk)) lv_X6_121 ((hS k (by omega)).1) rfl (by decide) rfl ⟨Nat.le_of_ble_eq_true rfl, Nat.le_of_ble_eq_true rfl⟩ ⟨Nat.le_of_ble_eq_true rfl, Nat.le_of_ble_eq_true rfl⟩ [] rfl (Nat.le_of_ble_eq_true rfl) 22 rfl (fo_es (fun X12 => ?_))
  exact fin dX6_median_22 rfl (Nat.le_of_ble_eq_true rfl) (Nat.le_of_ble_eq_true rfl) (⟨k, hk, rfl, c, hc1, hc2, rfl, rfl, rfl, rfl, rfl⟩)
set_option maxRecDepth 10000 in
set_option maxHeartbeats 4000000 in
theorem mX6_medianByCounting {l : Launch} {Λ : fo_Lt} {I : fo_Mi} {D : fo_Md} {J : fo_Mj} {X : fo_Mi} (hfl : l.stackTraces = false) {np lim : Nat} {kd par n : Nat → Nat} {v : Nat → Nat → Nat} {x : Int32} {z : Int32} (hf : fs_F I D 0 np lim kd par n v) : fx_i l yX6_medianByCounting cX6_medianByCounting 3 .int 9 154 2 12 Λ [.ref (Λ.2.2.1 605), .int (x), .int (z)] I D J X ((fun r I' D' J' X' => ∃ k, k < 4 ∧ x = nI k ∧ ∃ c, 1 ≤ c ∧ c ≤ n k ∧ z = nI c ∧ r = nI (fp_med (fun o => v k (n k - c + o)) c) ∧ I' = I ∧ D' = D ∧ J' = J)) ((fun E I' D' J' X' => fo_el [("java/lang/IndexOutOfBoundsException", fo_inr x 4 = false), ("java/lang/IllegalArgumentException", ∃ k, k < 4 ∧ x = nI k ∧ fo_130 z = false), ("java/util/NoSuchElementException", ∃ k, k < 4 ∧ x = nI k ∧ ∃ c, 1 ≤ c ∧ c ≤ 30 ∧ z = nI c ∧ n k < c)] E ∧ I' = I ∧ D' = D ∧ J' = J)) := by
  obtain ⟨hS, hP, hC, hnp, hlim, h8, hl1, hl9, hn30⟩ := hf.now
  refine fo_sxi hfl (by decide) [(0, .ref (Λ.2.2.1 605)), (1, .int (x)), (2, .int (z))] rfl (Nat.le_of_ble_eq_true rfl) (fun K C fin out thr => ?_)
  refine fo_aload_n C dX6_medianByCounting_0 0 rfl rfl 1 rfl ?_
  refine fo_iload_n C dX6_medianByCounting_1 1 rfl rfl 2 rfl ?_
  refine fo_iload_n C dX6_medianByCounting_2 2 rfl rfl 3 rfl ?_
  refine fo_yvq C dX6_medianByCounting_3 (mX6_seriesWithLast hfl (x := x) (z := z) hf) lv_X6_109 (by decide : fo_k 605 = 8) rfl (by decide) rfl ⟨Nat.le_of_ble_eq_true rfl, Nat.le_of_ble_eq_true rfl⟩ ⟨Nat.le_of_ble_eq_true rfl, Nat.le_of_ble_eq_true rfl⟩ [] rfl (Nat.le_of_ble_eq_true rfl) 6 rfl (fun E I9 D9 J9 X9 h9 => ?_) (fun r1 I2 D3 J4 X5 p6 => ?_)
  · exact out (Nat.le_of_ble_eq_true rfl) (Nat.le_of_ble_eq_true rfl) ⟨fo_el_app h9.1, h9.2⟩
  obtain ⟨k, hk, rfl, c, hc1, hc2, rfl, rfl, z9⟩ := p6
  obtain ⟨rfl, rfl, rfl⟩ := fo_sym3 z9
  have qk := hn30 k hk
  refine fo_iload_n C dX6_medianByCounting_6 2 rfl rfl 7 rfl ?_
  refine fo_qvi C dX6_medianByCounting_7 (mX4_countedMedian hc1 hc2 (hS k hk)) lv_X6_125 ((hS k (by omega)).1) rfl (by decide) rfl ⟨Nat.le_of_ble_eq_true rfl, Nat.le_of_ble_eq_true rfl⟩ ⟨Nat.le_of_ble_eq_true rfl, Nat.le_of_ble_eq_true rfl⟩ [] rfl (Nat.le_of_ble_eq_true rfl) 10 rfl (fo_er ?_)
  exact fin dX6_medianByCounting_10 rfl (Nat.le_of_ble_eq_true rfl) (Nat.le_of_ble_eq_true rfl) (⟨k, hk, rfl, c, hc1, hc2, rfl, rfl, rfl, rfl, rfl⟩)
set_option maxRecDepth 10000 in
set_option maxHeartbeats 4000000 in
theorem mX6_smoothed {l : Launch} {Λ : fo_Lt} {I : fo_Mi} {D : fo_Md} {J : fo_Mj} {X : fo_Mi} (hfl : l.stackTraces = false) {np lim : Nat} {kd par n : Nat → Nat} {v : Nat → Nat → Nat} {x : Int32} {z : Int32} (hf : fs_F I D 0 np lim kd par n v) : fx_d l yX6_smoothed cX6_smoothed 4 8 131 2 12 Λ [.ref (Λ.2.2.1 605), .int (x), .int (z)] I D J X ((fun r I' D' J' X' => ∃ k, k < 4 ∧ x = nI k ∧ ∃ c, 1 ≤ c ∧ c ≤ 9 ∧ z = nI c ∧ 0 < n k ∧ r = fp_lev (v k) c (n k - 1) ∧ I' = I ∧ D' = D ∧ J' = J)) ((fun E I' D' J' X' => fo_el [("java/lang/IndexOutOfBoundsException", fo_inr x 4 = false), ("java/lang/IllegalArgumentException", ∃ k, k < 4 ∧ x = nI k ∧ fo_19 z = false), ("java/util/NoSuchElementException", ∃ k, k < 4 ∧ x = nI k ∧ ∃ c, 1 ≤ c ∧ c ≤ 9 ∧ z = nI c ∧ n k = 0)] E ∧ I' = I ∧ D' = D ∧ J' = J)) := by
  obtain ⟨hS, hP, hC, hnp, hlim, h8, hl1, hl9, hn30⟩ := hf.now
  refine fo_sxd hfl (by decide) [(0, .ref (Λ.2.2.1 605)), (1, .int (x)), (2, .int (z))] rfl (Nat.le_of_ble_eq_true rfl) (fun K C fin out thr => ?_)
  refine fo_aload_n C dX6_smoothed_0 0 rfl rfl 1 rfl ?_
  refine fo_iload_n C dX6_smoothed_1 1 rfl rfl 2 rfl ?_
  refine fo_yvq C dX6_smoothed_2 (mX6_seriesAt hfl (x := x)) lv_X6_72 (by decide : fo_k 605 = 8) rfl (by decide) rfl ⟨Nat.le_of_ble_eq_true rfl, Nat.le_of_ble_eq_true rfl⟩ ⟨Nat.le_of_ble_eq_true rfl, Nat.le_of_ble_eq_true rfl⟩ [] rfl (Nat.le_of_ble_eq_true rfl) 5 rfl (fun E I9 D9 J9 X9 h9 => ?_) (fun r1 I2 D3 J4 X5 p6 => ?_)
  · exact out (Nat.le_of_ble_eq_true rfl) (Nat.le_of_ble_eq_true rfl) ⟨fo_el_app h9.1, h9.2⟩
  obtain ⟨k, hk, rfl, rfl, z9⟩ := p6
  obtain ⟨rfl, rfl, rfl, rfl⟩ := fo_sym4 z9
  refine fo_astore_n C dX6_smoothed_5 rfl [(3, .ref (Λ.2.2.1 (3 + 5 * k))), (0, .ref (Λ.2.2.1 605)), (1, .int (nI k)), (2, .int (z))] rfl (by decide) 6 rfl ?_
  refine fo_iload_n C dX6_smoothed_6 3 rfl rfl 7 rfl ?_
  refine fo_qsi C dX6_smoothed_7 (mX6_isOneToNine (x := z)) ls_X6_51 rfl ⟨Nat.le_of_ble_eq_true rfl, Nat.le_of_ble_eq_true rfl⟩ ⟨Nat.le_of_ble_eq_true rfl, Nat.le_of_ble_eq_true rfl⟩ [] rfl (Nat.le_of_ble_eq_true rfl) 10 rfl (fo_er ?_)
  refine fo_bif_ne C dX6_smoothed_10 21 (by decide) 13 rfl (fun c13 => ?_) (fun c13 => ?_)
  · obtain ⟨c, hc1, hc2, rfl⟩ := fo_19_at c13
    refine fo_aload_n C dX6_smoothed_21 0 rfl rfl 22 rfl ?_
    have q14 := hn30 k (by omega)
    refine fo_get C dX6_smoothed_22 fK6 ((hS k (by omega)).1) (by decide) 1 (by decide) fl_X6_88 (v := .int (nI (n k))) (congrArg (fun x => some (Value.int x)) ((hS k (by omega)).2.1)) 25 rfl ?_
    refine fo_nif_ne C (by omega) dX6_smoothed_25 36 (by decide) 28 rfl (fun c15 => ?_) (fun c15 => ?_)
    · refine fo_aload_n C dX6_smoothed_36 0 rfl rfl 37 rfl ?_
      refine fo_aload_n C dX6_smoothed_37 0 rfl rfl 38 rfl ?_
      have q16 := hn30 k (by omega)
      refine fo_get C dX6_smoothed_38 fK6 ((hS k (by omega)).1) (by decide) 1 (by decide) fl_X6_88 (v := .int (nI (n k))) (congrArg (fun x => some (Value.int x)) ((hS k (by omega)).2.1)) 41 rfl ?_
      refine fo_iload_n C dX6_smoothed_41 3 rfl rfl 42 rfl ?_
      refine fo_qvd C dX6_smoothed_42 (mX4_levelBefore (e := n k) (p := c) (by omega) (Nat.le_refl _) (by omega) (hS k hk)) lv_X6_129 ((hS k (by omega)).1) rfl (by decide) rfl ⟨Nat.le_of_ble_eq_true rfl, Nat.le_of_ble_eq_true rfl⟩ ⟨Nat.le_of_ble_eq_true rfl, Nat.le_of_ble_eq_true rfl⟩ [] rfl (Nat.le_of_ble_eq_true rfl) 45 rfl (fo_er ?_)
      exact fin dX6_smoothed_45 (Nat.le_of_ble_eq_true rfl) (Nat.le_of_ble_eq_true rfl) (⟨k, hk, rfl, c, hc1, hc2, rfl, by omega, rfl, rfl, rfl, rfl⟩)
    · exact thr tf_NoSuchElement dX6_smoothed_28 dX6_smoothed_31 dX6_smoothed_32 dX6_smoothed_35 (by decide) (Nat.le_of_ble_eq_true rfl) (Nat.le_of_ble_eq_true rfl) (Nat.le_of_ble_eq_true rfl) (⟨Or.inr (Or.inr (Or.inl ⟨rfl, ⟨k, hk, rfl, c, hc1, hc2, rfl, by omega⟩⟩)), rfl, rfl, rfl⟩)
  · exact thr tf_IllegalArgument dX6_smoothed_13 dX6_smoothed_16 dX6_smoothed_17 dX6_smoothed_20 (by decide) (Nat.le_of_ble_eq_true rfl) (Nat.le_of_ble_eq_true rfl) (Nat.le_of_ble_eq_true rfl) (⟨Or.inr (Or.inl ⟨rfl, ⟨k, hk, rfl, by simp_all⟩⟩), rfl, rfl, rfl⟩)
set_option maxRecDepth 10000 in
set_option maxHeartbeats 4000000 in
theorem mX6_isOutlier {l : Launch} {Λ : fo_Lt} {I : fo_Mi} {D : fo_Md} {J : fo_Mj} {X : fo_Mi} (hfl : l.stackTraces = false) {np lim : Nat} {kd par n : Nat → Nat} {v : Nat → Nat → Nat} {x : Int32} {z : Int32} (hf : fs_F I D 0 np lim kd par n v) : fx_i l yX6_isOutlier cX6_isOutlier 4 .boolean 8 131 2 12 Λ [.ref (Λ.2.2.1 605), .int (x), .int (z)] I D J X ((fun r I' D' J' X' => ∃ k, k < 4 ∧ x = nI k ∧ ∃ d, d < n k ∧ z = nI d ∧ r = fo_b (fp_off (v k) lim d) ∧ I' = I ∧ D' = D ∧ J' = J)) ((fun E I' D' J' X' => fo_el [("java/lang/IndexOutOfBoundsException", fo_inr x 4 = false), ("java/util/NoSuchElementException", ∃ k, k < 4 ∧ x = nI k ∧ fo_inr z (n k) = false)] E ∧ I' = I ∧ D' = D ∧ J' = J)) := by
  obtain ⟨hS, hP, hC, hnp, hlim, h8, hl1, hl9, hn30⟩ := hf.now
  refine fo_sxi hfl (by decide) [(0, .ref (Λ.2.2.1 605)), (1, .int (x)), (2, .int (z))] rfl (Nat.le_of_ble_eq_true rfl) (fun K C fin out thr => ?_)
  refine fo_aload_n C dX6_isOutlier_0 0 rfl rfl 1 rfl ?_
  refine fo_iload_n C dX6_isOutlier_1 1 rfl rfl 2 rfl ?_
  refine fo_yvq C dX6_isOutlier_2 (mX6_seriesAt hfl (x := x)) lv_X6_72 (by decide : fo_k 605 = 8) rfl (by decide) rfl ⟨Nat.le_of_ble_eq_true rfl, Nat.le_of_ble_eq_true rfl⟩ ⟨Nat.le_of_ble_eq_true rfl, Nat.le_of_ble_eq_true rfl⟩ [] rfl (Nat.le_of_ble_eq_true rfl) 5 rfl (fun E I9 D9 J9 X9 h9 => ?_) (fun r1 I2 D3 J4 X5 p6 => ?_)
  · exact out (Nat.le_of_ble_eq_true rfl) (Nat.le_of_ble_eq_true rfl) ⟨fo_el_app h9.1, h9.2⟩
  obtain ⟨k, hk, rfl, rfl, z9⟩ := p6
  obtain ⟨rfl, rfl, rfl, rfl⟩ := fo_sym4 z9
  refine fo_astore_n C dX6_isOutlier_5 rfl [(3, .ref (Λ.2.2.1 (3 + 5 * k))), (0, .ref (Λ.2.2.1 605)), (1, .int (nI k)), (2, .int (z))] rfl (by decide) 6 rfl ?_
  refine fo_aload_n C dX6_isOutlier_6 0 rfl rfl 7 rfl ?_
  refine fo_iload_n C dX6_isOutlier_7 3 rfl rfl 8 rfl ?_
  refine fo_qvi C dX6_isOutlier_8 (mX4_hasDay (x := z) (hS k hk)) lv_X6_95 ((hS k (by omega)).1) rfl (by decide) rfl ⟨Nat.le_of_ble_eq_true rfl, Nat.le_of_ble_eq_true rfl⟩ ⟨Nat.le_of_ble_eq_true rfl, Nat.le_of_ble_eq_true rfl⟩ [] rfl (Nat.le_of_ble_eq_true rfl) 11 rfl (fo_er ?_)
  refine fo_bif_ne C dX6_isOutlier_11 22 (by decide) 14 rfl (fun c13 => ?_) (fun c13 => ?_)
  · obtain ⟨d, hd, hd31, rfl⟩ := fo_inr_at c13
    have qk := hn30 k hk
    refine fo_aload_n C dX6_isOutlier_22 0 rfl rfl 23 rfl ?_
    refine fo_iload_n C dX6_isOutlier_23 3 rfl rfl 24 rfl ?_
    refine fo_aload_n C dX6_isOutlier_24 1 rfl rfl 25 rfl ?_
    refine fo_get C dX6_isOutlier_25 fK8 (by decide : fo_k 605 = 8) (by decide) 0 (by decide) fl_X6_12 (v := .ref (Λ.2.2.1 0)) rfl 28 rfl ?_
    refine fo_get C dX6_isOutlier_28 fK7 (by decide : fo_k 0 = 7) (by decide) 3 (by decide) fl_X6_85 (v := .int (nI lim)) (congrArg (fun x => some (Value.int x)) (hlim)) 31 rfl ?_
    refine fo_qvi C dX6_isOutlier_31 (mX4_strays (day := d) (lim := lim) hd hl9 (hS k hk)) lv_X6_132 ((hS k (by omega)).1) rfl (by decide) rfl ⟨Nat.le_of_ble_eq_true rfl, Nat.le_of_ble_eq_true rfl⟩ ⟨Nat.le_of_ble_eq_true rfl, Nat.le_of_ble_eq_true rfl⟩ [] rfl (Nat.le_of_ble_eq_true rfl) 34 rfl (fo_es (fun X18 => ?_))
    exact fin dX6_isOutlier_34 (by first | rfl | exact fo_nb _) (Nat.le_of_ble_eq_true rfl) (Nat.le_of_ble_eq_true rfl) (⟨k, hk, rfl, d, hd, rfl, rfl, rfl, rfl, rfl⟩)
  · exact thr tf_NoSuchElement dX6_isOutlier_14 dX6_isOutlier_17 dX6_isOutlier_18 dX6_isOutlier_21 (by decide) (Nat.le_of_ble_eq_true rfl) (Nat.le_of_ble_eq_true rfl) (Nat.le_of_ble_eq_true rfl) (⟨Or.inr (Or.inl ⟨rfl, ⟨k, hk, rfl, by simp_all⟩⟩), rfl, rfl, rfl⟩)
set_option maxRecDepth 10000 in
set_option maxHeartbeats 4000000 in
theorem mX6_outliers {l : Launch} {Λ : fo_Lt} {I : fo_Mi} {D : fo_Md} {J : fo_Mj} {X : fo_Mi} (hfl : l.stackTraces = false) {np lim : Nat} {kd par n : Nat → Nat} {v : Nat → Nat → Nat} {x : Int32} (hf : fs_F I D 0 np lim kd par n v) : fx_i l yX6_outliers cX6_outliers 2 .int 8 131 1 6 Λ [.ref (Λ.2.2.1 605), .int (x)] I D J X ((fun r I' D' J' X' => ∃ k, k < 4 ∧ x = nI k ∧ r = nI (fp_cnt (fp_off (v k) lim) (n k)) ∧ I' = I ∧ D' = D ∧ J' = J)) ((fun E I' D' J' X' => fo_el [("java/lang/IndexOutOfBoundsException", fo_inr x 4 = false)] E ∧ I' = I ∧ D' = D ∧ J' = J)) := by
  obtain ⟨hS, hP, hC, hnp, hlim, h8, hl1, hl9, hn30⟩ := hf.now
  refine fo_sxi hfl (by decide) [(0, .ref (Λ.2.2.1 605)), (1, .int (x))] rfl (Nat.le_of_ble_eq_true rfl) (fun K C fin out thr => ?_)
  refine fo_aload_n C dX6_outliers_0 0 rfl rfl 1 rfl ?_
  refine fo_iload_n C dX6_outliers_1 1 rfl rfl 2 rfl ?_
  refine fo_yvq C dX6_outliers_2 (mX6_seriesAt hfl (x := x)) lv_X6_72 (by decide : fo_k 605 = 8) rfl (by decide) rfl ⟨Nat.le_of_ble_eq_true rfl, Nat.le_of_ble_eq_true rfl⟩ ⟨Nat.le_of_ble_eq_true rfl, Nat.le_of_ble_eq_true rfl⟩ [] rfl (Nat.le_of_ble_eq_true rfl) 5 rfl (fun E I9 D9 J9 X9 h9 => ?_) (fun r1 I2 D3 J4 X5 p6 => ?_)
  · exact out (Nat.le_of_ble_eq_true rfl) (Nat.le_of_ble_eq_true rfl) ⟨fo_el_app h9.1, h9.2⟩
  obtain ⟨k, hk, rfl, rfl, z9⟩ := p6
  obtain ⟨rfl, rfl, rfl, rfl⟩ := fo_sym4 z9
  refine fo_aload_n C dX6_outliers_5 0 rfl rfl 6 rfl ?_
  refine fo_get C dX6_outliers_6 fK8 (by decide : fo_k 605 = 8) (by decide) 0 (by decide) fl_X6_12 (v := .ref (Λ.2.2.1 0)) rfl 9 rfl ?_
  refine fo_get C dX6_outliers_9 fK7 (by decide : fo_k 0 = 7) (by decide) 3 (by decide) fl_X6_85 (v := .int (nI lim)) (congrArg (fun x => some (Value.int x)) (hlim)) 12 rfl ?_
  refine fo_qvi C dX6_outliers_12 (mX4_countStrays (lim := lim) hl9 (hS k hk)) lv_X6_136 ((hS k (by omega)).1) rfl (by decide) rfl ⟨Nat.le_of_ble_eq_true rfl, Nat.le_of_ble_eq_true rfl⟩ ⟨Nat.le_of_ble_eq_true rfl, Nat.le_of_ble_eq_true rfl⟩ [] rfl (Nat.le_of_ble_eq_true rfl) 15 rfl (fo_es (fun X11 => ?_))
  exact fin dX6_outliers_15 rfl (Nat.le_of_ble_eq_true rfl) (Nat.le_of_ble_eq_true rfl) (⟨k, hk, rfl, rfl, rfl, rfl, rfl⟩)
set_option maxRecDepth 10000 in
set_option maxHeartbeats 4000000 in
theorem mX6_longestRise {l : Launch} {Λ : fo_Lt} {I : fo_Mi} {D : fo_Md} {J : fo_Mj} {X : fo_Mi} (hfl : l.stackTraces = false) {np lim : Nat} {kd par n : Nat → Nat} {v : Nat → Nat → Nat} {x : Int32} (hf : fs_F I D 0 np lim kd par n v) : fx_i l yX6_longestRise cX6_longestRise 2 .int 8 131 1 6 Λ [.ref (Λ.2.2.1 605), .int (x)] I D J X ((fun r I' D' J' X' => ∃ k, k < 4 ∧ x = nI k ∧ r = nI (fp_best (v k) (n k)) ∧ I' = I ∧ D' = D ∧ J' = J)) ((fun E I' D' J' X' => fo_el [("java/lang/IndexOutOfBoundsException", fo_inr x 4 = false)] E ∧ I' = I ∧ D' = D ∧ J' = J)) := by
  obtain ⟨hS, hP, hC, hnp, hlim, h8, hl1, hl9, hn30⟩ := hf.now
  refine fo_sxi hfl (by decide) [(0, .ref (Λ.2.2.1 605)), (1, .int (x))] rfl (Nat.le_of_ble_eq_true rfl) (fun K C fin out thr => ?_)
  refine fo_aload_n C dX6_longestRise_0 0 rfl rfl 1 rfl ?_
  refine fo_iload_n C dX6_longestRise_1 1 rfl rfl 2 rfl ?_
  refine fo_yvq C dX6_longestRise_2 (mX6_seriesAt hfl (x := x)) lv_X6_72 (by decide : fo_k 605 = 8) rfl (by decide) rfl ⟨Nat.le_of_ble_eq_true rfl, Nat.le_of_ble_eq_true rfl⟩ ⟨Nat.le_of_ble_eq_true rfl, Nat.le_of_ble_eq_true rfl⟩ [] rfl (Nat.le_of_ble_eq_true rfl) 5 rfl (fun E I9 D9 J9 X9 h9 => ?_) (fun r1 I2 D3 J4 X5 p6 => ?_)
  · exact out (Nat.le_of_ble_eq_true rfl) (Nat.le_of_ble_eq_true rfl) ⟨fo_el_app h9.1, h9.2⟩
  obtain ⟨k, hk, rfl, rfl, z9⟩ := p6
  obtain ⟨rfl, rfl, rfl, rfl⟩ := fo_sym4 z9
  refine fo_qvi C dX6_longestRise_5 (mX4_longestClimb (hS k hk)) lv_X6_139 ((hS k (by omega)).1) rfl (by decide) rfl ⟨Nat.le_of_ble_eq_true rfl, Nat.le_of_ble_eq_true rfl⟩ ⟨Nat.le_of_ble_eq_true rfl, Nat.le_of_ble_eq_true rfl⟩ [] rfl (Nat.le_of_ble_eq_true rfl) 8 rfl (fo_er ?_)
  exact fin dX6_longestRise_8 rfl (Nat.le_of_ble_eq_true rfl) (Nat.le_of_ble_eq_true rfl) (⟨k, hk, rfl, rfl, rfl, rfl, rfl⟩)
set_option maxRecDepth 10000 in
set_option maxHeartbeats 4000000 in
theorem mX6_valuesBetween {l : Launch} {Λ : fo_Lt} {I : fo_Mi} {D : fo_Md} {J : fo_Mj} {X : fo_Mi} (hfl : l.stackTraces = false) {np lim : Nat} {kd par n : Nat → Nat} {v : Nat → Nat → Nat} {x : Int32} {y z : Int32} (hf : fs_F I D 0 np lim kd par n v) : fx_i l yX6_valuesBetween cX6_valuesBetween 4 .int 8 131 1 6 Λ [.ref (Λ.2.2.1 605), .int (x), .int (y), .int (z)] I D J X ((fun r I' D' J' X' => ∃ k, k < 4 ∧ x = nI k ∧ r = nI (fp_cnt (fun o => decide (¬ nI (v k o) < y ∧ ¬ z < nI (v k o))) (n k)) ∧ I' = I ∧ D' = D ∧ J' = J)) ((fun E I' D' J' X' => fo_el [("java/lang/IndexOutOfBoundsException", fo_inr x 4 = false)] E ∧ I' = I ∧ D' = D ∧ J' = J)) := by
  obtain ⟨hS, hP, hC, hnp, hlim, h8, hl1, hl9, hn30⟩ := hf.now
  refine fo_sxi hfl (by decide) [(0, .ref (Λ.2.2.1 605)), (1, .int (x)), (2, .int (y)), (3, .int (z))] rfl (Nat.le_of_ble_eq_true rfl) (fun K C fin out thr => ?_)
  refine fo_aload_n C dX6_valuesBetween_0 0 rfl rfl 1 rfl ?_
  refine fo_iload_n C dX6_valuesBetween_1 1 rfl rfl 2 rfl ?_
  refine fo_yvq C dX6_valuesBetween_2 (mX6_seriesAt hfl (x := x)) lv_X6_72 (by decide : fo_k 605 = 8) rfl (by decide) rfl ⟨Nat.le_of_ble_eq_true rfl, Nat.le_of_ble_eq_true rfl⟩ ⟨Nat.le_of_ble_eq_true rfl, Nat.le_of_ble_eq_true rfl⟩ [] rfl (Nat.le_of_ble_eq_true rfl) 5 rfl (fun E I9 D9 J9 X9 h9 => ?_) (fun r1 I2 D3 J4 X5 p6 => ?_)
  · exact out (Nat.le_of_ble_eq_true rfl) (Nat.le_of_ble_eq_true rfl) ⟨fo_el_app h9.1, h9.2⟩
  obtain ⟨k, hk, rfl, rfl, z9⟩ := p6
  obtain ⟨rfl, rfl, rfl, rfl⟩ := fo_sym4 z9
  refine fo_iload_n C dX6_valuesBetween_5 2 rfl rfl 6 rfl ?_
  refine fo_iload_n C dX6_valuesBetween_6 3 rfl rfl 7 rfl ?_
  refine fo_qvi C dX6_valuesBetween_7 (mX4_countBetween (x := y) (z := z) (hS k hk)) lv_X6_142 ((hS k (by omega)).1) rfl (by decide) rfl ⟨Nat.le_of_ble_eq_true rfl, Nat.le_of_ble_eq_true rfl⟩ ⟨Nat.le_of_ble_eq_true rfl, Nat.le_of_ble_eq_true rfl⟩ [] rfl (Nat.le_of_ble_eq_true rfl) 10 rfl (fo_er ?_)
  exact fin dX6_valuesBetween_10 rfl (Nat.le_of_ble_eq_true rfl) (Nat.le_of_ble_eq_true rfl) (⟨k, hk, rfl, rfl, rfl, rfl, rfl⟩)
set_option maxRecDepth 10000 in
set_option maxHeartbeats 4000000 in
theorem mX6_limit {l : Launch} {Λ : fo_Lt} {I : fo_Mi} {D : fo_Md} {J : fo_Mj} {X : fo_Mi} {np lim : Nat} {kd par n : Nat → Nat} {v : Nat → Nat → Nat} (hf : fs_F I D 0 np lim kd par n v) : fk_i l yX6_limit cX6_limit 1 .int 0 0 Λ [.ref (Λ.2.2.1 605)] I D J X (fo_pr (nI lim) I D J X) := by
  obtain ⟨hS, hP, hC, hnp, hlim, h8, hl1, hl9, hn30⟩ := hf.now
  refine fo_si (by decide) [(0, .ref (Λ.2.2.1 605))] rfl (Nat.le_of_ble_eq_true rfl) (fun K C fin => ?_)
  refine fo_aload_n C dX6_limit_0 0 rfl rfl 1 rfl ?_
  refine fo_get C dX6_limit_1 fK8 (by decide : fo_k 605 = 8) (by decide) 0 (by decide) fl_X6_12 (v := .ref (Λ.2.2.1 0)) rfl 4 rfl ?_
  refine fo_get C dX6_limit_4 fK7 (by decide : fo_k 0 = 7) (by decide) 3 (by decide) fl_X6_85 (v := .int (nI lim)) (congrArg (fun x => some (Value.int x)) (hlim)) 7 rfl ?_
  exact fin dX6_limit_7 rfl (⟨rfl, rfl, rfl, rfl, rfl⟩)
set_option maxRecDepth 10000 in
set_option maxHeartbeats 4000000 in
theorem mX6_prophets {l : Launch} {Λ : fo_Lt} {I : fo_Mi} {D : fo_Md} {J : fo_Mj} {X : fo_Mi} {np lim : Nat} {kd par n : Nat → Nat} {v : Nat → Nat → Nat} (hf : fs_F I D 0 np lim kd par n v) : fk_i l yX6_prophets cX6_prophets 1 .int 0 0 Λ [.ref (Λ.2.2.1 605)] I D J X (fo_pr (nI np) I D J X) := by
  obtain ⟨hS, hP, hC, hnp, hlim, h8, hl1, hl9, hn30⟩ := hf.now
  refine fo_si (by decide) [(0, .ref (Λ.2.2.1 605))] rfl (Nat.le_of_ble_eq_true rfl) (fun K C fin => ?_)
  refine fo_aload_n C dX6_prophets_0 0 rfl rfl 1 rfl ?_
  refine fo_get C dX6_prophets_1 fK8 (by decide : fo_k 605 = 8) (by decide) 0 (by decide) fl_X6_12 (v := .ref (Λ.2.2.1 0)) rfl 4 rfl ?_
  refine fo_get C dX6_prophets_4 fK7 (by decide : fo_k 0 = 7) (by decide) 2 (by decide) fl_X6_145 (v := .int (nI np)) (congrArg (fun x => some (Value.int x)) (hnp)) 7 rfl ?_
  exact fin dX6_prophets_7 rfl (⟨rfl, rfl, rfl, rfl, rfl⟩)
