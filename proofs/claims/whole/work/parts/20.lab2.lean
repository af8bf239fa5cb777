
/-! THE LABORATORY: questions about prophets -/
theorem ff_divi {x : Int32} {m : Nat} (h : m ≠ 0) (hm : m < 2 ^ 31) : vf_n32 (FP.fdiv (FP.i2f x) (FP.i2f (nI m))) := by
  have h1 := FP.Core.i2f_big (v := nI m) (by rw [nI_toInt hm]; omega)
  have h2 := FP.Core.fdiv_mag (a := FP.i2f x) (b := FP.i2f (nI m)) (K := 160) (L := 127) (FP.Core.i2f_mag x) h1.1 h1.2 (by decide) (by decide)
  unfold vf_n32
  rw [UInt32.le_iff_toNat_le, UInt32.toNat_and]
  show (FP.fdiv (FP.i2f x) (FP.i2f (nI m))).toNat &&& (2 ^ 31 - 1) ≤ 0x7f800000
  rw [Nat.and_two_pow_sub_one_eq_mod]
  exact Nat.le_of_lt (Nat.lt_of_lt_of_le h2 (by decide))
theorem fo_nn_at {x : Int32} (h : ¬ x < 0) : ∃ q, q < 2 ^ 31 ∧ x = nI q := by
  have h1 : ¬ x.toInt < 0 := fun q => h (Int32.lt_iff_toInt_lt.mpr (by rw [show (0 : Int32).toInt = 0 from rfl]; exact q))
  have h2 := x.toInt_lt
  refine ⟨x.toInt.toNat, by omega, ?_⟩
  apply Int32.toInt_inj.mp
  rw [nI_toInt (by omega)]
  omega

set_option maxRecDepth 10000 in
set_option maxHeartbeats 4000000 in
theorem mX6_prophetAt {l : Launch} {Λ : fo_Lt} {I : fo_Mi} {D : fo_Md} {J : fo_Mj} {X : fo_Mi} (hfl : l.stackTraces = false) {np lim : Nat} {kd par n : Nat → Nat} {v : Nat → Nat → Nat} {y : Int32} (hf : fs_F I D 0 np lim kd par n v) : fx_q l yX6_prophetAt cX6_prophetAt 2 (.object "ForecastLab$Prophet") 6 90 1 6 Λ [.ref (Λ.2.2.1 605), .int (y)] I D J X ((fun r I' D' J' X' => ∃ p, p < np ∧ y = nI p ∧ r = some (Λ.2.2.1 (23 + 4 * p)) ∧ I' = I ∧ D' = D ∧ J' = J ∧ X' = X)) ((fun E I' D' J' X' => fo_el [("java/lang/IndexOutOfBoundsException", fo_inr y np = false)] E ∧ I' = I ∧ D' = D ∧ J' = J)) := by
  obtain ⟨hS, hP, hC, hnp, hlim, h8, hl1, hl9, hn30⟩ := hf.now
  refine fo_sxq hfl (by decide) [(0, .ref (Λ.2.2.1 605)), (1, .int (y))] rfl (Nat.le_of_ble_eq_true rfl) (fun K C fin out thr => ?_)
  refine fo_iload_n C dX6_prophetAt_0 1 rfl rfl 1 rfl ?_
  refine fo_if_lt C dX6_prophetAt_1 15 (by decide) 4 rfl (fun c1 => ?_) (fun c1 => ?_)
  · exact thr tf_IndexOutOfBounds dX6_prophetAt_15 dX6_prophetAt_18 dX6_prophetAt_19 dX6_prophetAt_22 (by decide) (Nat.le_of_ble_eq_true rfl) (Nat.le_of_ble_eq_true rfl) (Nat.le_of_ble_eq_true rfl) (⟨Or.inl ⟨rfl, by first | exact fo_inr_neg (by assumption) | exact fo_inr_ge (by omega) (Int32.not_lt.mp (by assumption))⟩, rfl, rfl, rfl⟩)
  · refine fo_iload_n C dX6_prophetAt_4 1 rfl rfl 5 rfl ?_
    refine fo_aload_n C dX6_prophetAt_5 0 rfl rfl 6 rfl ?_
    refine fo_get C dX6_prophetAt_6 fK8 (by decide : fo_k 605 = 8) (by decide) 0 (by decide) fl_X6_12 (v := .ref (Λ.2.2.1 0)) rfl 9 rfl ?_
    refine fo_get C dX6_prophetAt_9 fK7 (by decide : fo_k 0 = 7) (by decide) 2 (by decide) fl_X6_145 (v := .int (nI np)) (congrArg (fun x => some (Value.int x)) (hnp)) 12 rfl ?_
    refine fo_icmp_lt C dX6_prophetAt_12 23 (by decide) 15 rfl (fun c2 => ?_) (fun c2 => ?_)
    · obtain ⟨p, hp, hp31, rfl⟩ := fo_inr_at (fo_inr_in (n := np) (by omega) (by assumption) (Int32.not_le.mpr c2))
      refine fo_aload_n C dX6_prophetAt_23 0 rfl rfl 24 rfl ?_
      refine fo_get C dX6_prophetAt_24 fK8 (by decide : fo_k 605 = 8) (by decide) 0 (by decide) fl_X6_12 (v := .ref (Λ.2.2.1 0)) rfl 27 rfl ?_
      refine fo_get C dX6_prophetAt_27 fK7 (by decide : fo_k 0 = 7) (by decide) 1 (by decide) fl_X6_226 (v := .ref (Λ.2.2.1 2)) rfl 30 rfl ?_
      refine fo_iload_n C dX6_prophetAt_30 1 rfl rfl 31 rfl ?_
      refine fo_aaldP C dX6_prophetAt_31 (by decide : fo_k 2 = 26) (by rw [(show fo_n 2 = 8 from rfl)]; omega) (23 + 4 * p) (by omega) 32 rfl ?_
      exact fin dX6_prophetAt_32 (Or.inl ⟨_, rfl⟩) (Nat.le_of_ble_eq_true rfl) (Nat.le_of_ble_eq_true rfl) (⟨p, hp, rfl, rfl, rfl, rfl, rfl, rfl⟩)
    · exact thr tf_IndexOutOfBounds dX6_prophetAt_15 dX6_prophetAt_18 dX6_prophetAt_19 dX6_prophetAt_22 (by decide) (Nat.le_of_ble_eq_true rfl) (Nat.le_of_ble_eq_true rfl) (Nat.le_of_ble_eq_true rfl) (⟨Or.inl ⟨rfl, by first | exact fo_inr_neg (by assumption) | exact fo_inr_ge (by omega) (Int32.not_lt.mp (by assumption))⟩, rfl, rfl, rfl⟩)
set_option maxRecDepth 10000 in
set_option maxHeartbeats 4000000 in
theorem mX6_kind {l : Launch} {Λ : fo_Lt} {I : fo_Mi} {D : fo_Md} {J : fo_Mj} {X : fo_Mi} (hfl : l.stackTraces = false) {np lim : Nat} {kd par n : Nat → Nat} {v : Nat → Nat → Nat} {y : Int32} (hf : fs_F I D 0 np lim kd par n v) : fx_i l yX6_kind cX6_kind 2 .char 7 111 1 6 Λ [.ref (Λ.2.2.1 605), .int (y)] I D J X ((fun r I' D' J' X' => ∃ p, p < np ∧ y = nI p ∧ r = nI (kd p) ∧ I' = I ∧ D' = D ∧ J' = J)) ((fun E I' D' J' X' => fo_el [("java/lang/IndexOutOfBoundsException", fo_inr y np = false)] E ∧ I' = I ∧ D' = D ∧ J' = J)) := by
  obtain ⟨hS, hP, hC, hnp, hlim, h8, hl1, hl9, hn30⟩ := hf.now
  refine fo_sxi hfl (by decide) [(0, .ref (Λ.2.2.1 605)), (1, .int (y))] rfl (Nat.le_of_ble_eq_true rfl) (fun K C fin out thr => ?_)
  refine fo_aload_n C dX6_kind_0 0 rfl rfl 1 rfl ?_
  refine fo_iload_n C dX6_kind_1 1 rfl rfl 2 rfl ?_
  refine fo_yvq C dX6_kind_2 (mX6_prophetAt hfl (y := y) hf) lv_X6_148 (by decide : fo_k 605 = 8) rfl (by decide) rfl ⟨Nat.le_of_ble_eq_true rfl, Nat.le_of_ble_eq_true rfl⟩ ⟨Nat.le_of_ble_eq_true rfl, Nat.le_of_ble_eq_true rfl⟩ [] rfl (Nat.le_of_ble_eq_true rfl) 5 rfl (fun E I9 D9 J9 X9 h9 => ?_) (fun r1 I2 D3 J4 X5 p6 => ?_)
  · exact out (Nat.le_of_ble_eq_true rfl) (Nat.le_of_ble_eq_true rfl) ⟨fo_el_app h9.1, h9.2⟩
  obtain ⟨p, hp, rfl, rfl, z9⟩ := p6
  obtain ⟨rfl, rfl, rfl, rfl⟩ := fo_sym4 z9
  refine fo_get C dX6_kind_5 fK5 ((hP p (by omega)).1) (by decide) 0 (by decide) fl_X6_152 (v := .int (nI (kd p))) (congrArg (fun x => some (Value.int x)) ((hP p (by omega)).2.1)) 8 rfl ?_
  exact fin dX6_kind_8 (pk_charN (by have := (hP p hp).2.2.2.1; omega)).1 (Nat.le_of_ble_eq_true rfl) (Nat.le_of_ble_eq_true rfl) (⟨p, hp, rfl, rfl, rfl, rfl, rfl⟩)
set_option maxRecDepth 10000 in
set_option maxHeartbeats 4000000 in
theorem mX6_parameter {l : Launch} {Λ : fo_Lt} {I : fo_Mi} {D : fo_Md} {J : fo_Mj} {X : fo_Mi} (hfl : l.stackTraces = false) {np lim : Nat} {kd par n : Nat → Nat} {v : Nat → Nat → Nat} {y : Int32} (hf : fs_F I D 0 np lim kd par n v) : fx_i l yX6_parameter cX6_parameter 2 .int 7 111 1 6 Λ [.ref (Λ.2.2.1 605), .int (y)] I D J X ((fun r I' D' J' X' => ∃ p, p < np ∧ y = nI p ∧ r = nI (par p) ∧ I' = I ∧ D' = D ∧ J' = J)) ((fun E I' D' J' X' => fo_el [("java/lang/IndexOutOfBoundsException", fo_inr y np = false)] E ∧ I' = I ∧ D' = D ∧ J' = J)) := by
  obtain ⟨hS, hP, hC, hnp, hlim, h8, hl1, hl9, hn30⟩ := hf.now
  refine fo_sxi hfl (by decide) [(0, .ref (Λ.2.2.1 605)), (1, .int (y))] rfl (Nat.le_of_ble_eq_true rfl) (fun K C fin out thr => ?_)
  refine fo_aload_n C dX6_parameter_0 0 rfl rfl 1 rfl ?_
  refine fo_iload_n C dX6_parameter_1 1 rfl rfl 2 rfl ?_
  refine fo_yvq C dX6_parameter_2 (mX6_prophetAt hfl (y := y) hf) lv_X6_148 (by decide : fo_k 605 = 8) rfl (by decide) rfl ⟨Nat.le_of_ble_eq_true rfl, Nat.le_of_ble_eq_true rfl⟩ ⟨Nat.le_of_ble_eq_true rfl, Nat.le_of_ble_eq_true rfl⟩ [] rfl (Nat.le_of_ble_eq_true rfl) 5 rfl (fun E I9 D9 J9 X9 h9 => ?_) (fun r1 I2 D3 J4 X5 p6 => ?_)
  · exact out (Nat.le_of_ble_eq_true rfl) (Nat.le_of_ble_eq_true rfl) ⟨fo_el_app h9.1, h9.2⟩
  obtain ⟨p, hp, rfl, rfl, z9⟩ := p6
  obtain ⟨rfl, rfl, rfl, rfl⟩ := fo_sym4 z9
  refine fo_get C dX6_parameter_5 fK5 ((hP p (by omega)).1) (by decide) 1 (by decide) fl_X6_158 (v := .int (nI (par p))) (congrArg (fun x => some (Value.int x)) ((hP p (by omega)).2.2.1)) 8 rfl ?_
  exact fin dX6_parameter_8 rfl (Nat.le_of_ble_eq_true rfl) (Nat.le_of_ble_eq_true rfl) (⟨p, hp, rfl, rfl, rfl, rfl, rfl⟩)
set_option maxRecDepth 10000 in
set_option maxHeartbeats 4000000 in
theorem mX6_hasForecast {l : Launch} {Λ : fo_Lt} {I : fo_Mi} {D : fo_Md} {J : fo_Mj} {X : fo_Mi} (hfl : l.stackTraces = false) {np lim : Nat} {kd par n : Nat → Nat} {v : Nat → Nat → Nat} {y : Int32} {x : Int32} (hf : fs_F I D 0 np lim kd par n v) : fx_i l yX6_hasForecast cX6_hasForecast 4 .boolean 8 131 2 12 Λ [.ref (Λ.2.2.1 605), .int (y), .int (x)] I D J X ((fun r I' D' J' X' => ∃ p, p < np ∧ y = nI p ∧ ∃ k, k < 4 ∧ x = nI k ∧ r = fo_b (decide (fp_need (kd p) (par p) ≤ n k)) ∧ I' = I ∧ D' = D ∧ J' = J)) ((fun E I' D' J' X' => fo_el [("java/lang/IndexOutOfBoundsException", fo_inr y np = false), ("java/lang/IndexOutOfBoundsException", fo_inr x 4 = false)] E ∧ I' = I ∧ D' = D ∧ J' = J)) := by
  obtain ⟨hS, hP, hC, hnp, hlim, h8, hl1, hl9, hn30⟩ := hf.now
  refine fo_sxi hfl (by decide) [(0, .ref (Λ.2.2.1 605)), (1, .int (y)), (2, .int (x))] rfl (Nat.le_of_ble_eq_true rfl) (fun K C fin out thr => ?_)
  refine fo_aload_n C dX6_hasForecast_0 0 rfl rfl 1 rfl ?_
  refine fo_iload_n C dX6_hasForecast_1 1 rfl rfl 2 rfl ?_
  refine fo_yvq C dX6_hasForecast_2 (mX6_prophetAt hfl (y := y) hf) lv_X6_148 (by decide : fo_k 605 = 8) rfl (by decide) rfl ⟨Nat.le_of_ble_eq_true rfl, Nat.le_of_ble_eq_true rfl⟩ ⟨Nat.le_of_ble_eq_true rfl, Nat.le_of_ble_eq_true rfl⟩ [] rfl (Nat.le_of_ble_eq_true rfl) 5 rfl (fun E I9 D9 J9 X9 h9 => ?_) (fun r1 I2 D3 J4 X5 p6 => ?_)
  · exact out (Nat.le_of_ble_eq_true rfl) (Nat.le_of_ble_eq_true rfl) ⟨fo_el_app h9.1, h9.2⟩
  obtain ⟨p, hp, rfl, rfl, z9⟩ := p6
  obtain ⟨rfl, rfl, rfl, rfl⟩ := fo_sym4 z9
  refine fo_astore_n C dX6_hasForecast_5 rfl [(3, .ref (Λ.2.2.1 (23 + 4 * p))), (0, .ref (Λ.2.2.1 605)), (1, .int (nI p)), (2, .int (x))] rfl (by decide) 6 rfl ?_
  refine fo_aload_n C dX6_hasForecast_6 0 rfl rfl 7 rfl ?_
  refine fo_aload_n C dX6_hasForecast_7 1 rfl rfl 8 rfl ?_
  refine fo_iload_n C dX6_hasForecast_8 3 rfl rfl 9 rfl ?_
  refine fo_yvq C dX6_hasForecast_9 (mX6_seriesAt hfl (x := x)) lv_X6_72 (by decide : fo_k 605 = 8) rfl (by decide) rfl ⟨Nat.le_of_ble_eq_true rfl, Nat.le_of_ble_eq_true rfl⟩ ⟨Nat.le_of_ble_eq_true rfl, Nat.le_of_ble_eq_true rfl⟩ [.ref (Λ.2.2.1 (23 + 4 * p))] rfl (Nat.le_of_ble_eq_true rfl) 12 rfl (fun E I9 D9 J9 X9 h9 => ?_) (fun r7 I8 D9 J10 X11 p12 => ?_)
  · exact out (Nat.le_of_ble_eq_true rfl) (Nat.le_of_ble_eq_true rfl) ⟨Or.inr (fo_el_app h9.1), h9.2⟩
  obtain ⟨k, hk, rfl, rfl, z9⟩ := p12
  obtain ⟨rfl, rfl, rfl, rfl⟩ := fo_sym4 z9
  have q13 := hn30 k (by omega)
  refine fo_get C dX6_hasForecast_12 fK6 ((hS k (by omega)).1) (by decide) 1 (by decide) fl_X6_88 (v := .int (nI (n k))) (congrArg (fun x => some (Value.int x)) ((hS k (by omega)).2.1)) 15 rfl ?_
  refine fo_qvi C dX6_hasForecast_15 (mX3_foresees (d := n k) (hn30 k hk) (hP p hp)) lv_X6_161 ((hP p (by omega)).1) rfl (by decide) rfl ⟨Nat.le_of_ble_eq_true rfl, Nat.le_of_ble_eq_true rfl⟩ ⟨Nat.le_of_ble_eq_true rfl, Nat.le_of_ble_eq_true rfl⟩ [] rfl (Nat.le_of_ble_eq_true rfl) 18 rfl (fo_er ?_)
  exact fin dX6_hasForecast_18 (by first | rfl | exact fo_nb _) (Nat.le_of_ble_eq_true rfl) (Nat.le_of_ble_eq_true rfl) (⟨p, hp, rfl, k, hk, rfl, rfl, rfl, rfl, rfl⟩)
set_option maxRecDepth 10000 in
set_option maxHeartbeats 4000000 in
theorem mX6_nextForecast {l : Launch} {Λ : fo_Lt} {I : fo_Mi} {D : fo_Md} {J : fo_Mj} {X : fo_Mi} (hfl : l.stackTraces = false) {np lim : Nat} {kd par n : Nat → Nat} {v : Nat → Nat → Nat} {y : Int32} {x : Int32} (hf : fs_F I D 0 np lim kd par n v) : fx_d l yX6_nextForecast cX6_nextForecast 5 8 131 3 18 Λ [.ref (Λ.2.2.1 605), .int (y), .int (x)] I D J X ((fun r I' D' J' X' => ∃ p, p < np ∧ y = nI p ∧ ∃ k, k < 4 ∧ x = nI k ∧ fp_need (kd p) (par p) ≤ n k ∧ r = fp_fore (kd p) (par p) (v k) (n k) ∧ I' = I ∧ D' = D ∧ J' = J)) ((fun E I' D' J' X' => fo_el [("java/lang/IndexOutOfBoundsException", fo_inr y np = false), ("java/lang/IndexOutOfBoundsException", fo_inr x 4 = false), ("java/util/NoSuchElementException", ∃ p k, p < np ∧ y = nI p ∧ k < 4 ∧ x = nI k ∧ ¬ fp_need (kd p) (par p) ≤ n k)] E ∧ I' = I ∧ D' = D ∧ J' = J)) := by
  obtain ⟨hS, hP, hC, hnp, hlim, h8, hl1, hl9, hn30⟩ := hf.now
  refine fo_sxd hfl (by decide) [(0, .ref (Λ.2.2.1 605)), (1, .int (y)), (2, .int (x))] rfl (Nat.le_of_ble_eq_true rfl) (fun K C fin out thr => ?_)
  refine fo_aload_n C dX6_nextForecast_0 0 rfl rfl 1 rfl ?_
  refine fo_iload_n C dX6_nextForecast_1 1 rfl rfl 2 rfl ?_
  refine fo_yvq C dX6_nextForecast_2 (mX6_prophetAt hfl (y := y) hf) lv_X6_148 (by decide : fo_k 605 = 8) rfl (by decide) rfl ⟨Nat.le_of_ble_eq_true rfl, Nat.le_of_ble_eq_true rfl⟩ ⟨Nat.le_of_ble_eq_true rfl, Nat.le_of_ble_eq_true rfl⟩ [] rfl (Nat.le_of_ble_eq_true rfl) 5 rfl (fun E I9 D9 J9 X9 h9 => ?_) (fun r1 I2 D3 J4 X5 p6 => ?_)
  · exact out (Nat.le_of_ble_eq_true rfl) (Nat.le_of_ble_eq_true rfl) ⟨fo_el_app h9.1, h9.2⟩
  obtain ⟨p, hp, rfl, rfl, z9⟩ := p6
  obtain ⟨rfl, rfl, rfl, rfl⟩ := fo_sym4 z9
  refine fo_astore_n C dX6_nextForecast_5 rfl [(3, .ref (Λ.2.2.1 (23 + 4 * p))), (0, .ref (Λ.2.2.1 605)), (1, .int (nI p)), (2, .int (x))] rfl (by decide) 6 rfl ?_
  refine fo_aload_n C dX6_nextForecast_6 1 rfl rfl 7 rfl ?_
  refine fo_iload_n C dX6_nextForecast_7 3 rfl rfl 8 rfl ?_
  refine fo_yvq C dX6_nextForecast_8 (mX6_seriesAt hfl (x := x)) lv_X6_72 (by decide : fo_k 605 = 8) rfl (by decide) rfl ⟨Nat.le_of_ble_eq_true rfl, Nat.le_of_ble_eq_true rfl⟩ ⟨Nat.le_of_ble_eq_true rfl, Nat.le_of_ble_eq_true rfl⟩ [] rfl (Nat.le_of_ble_eq_true rfl) 11 rfl (fun E I9 D9 J9 X9 h9 => ?_) (fun r7 I8 D9 J10 X11 p12 => ?_)
  · exact out (Nat.le_of_ble_eq_true rfl) (Nat.le_of_ble_eq_true rfl) ⟨Or.inr (fo_el_app h9.1), h9.2⟩
  obtain ⟨k, hk, rfl, rfl, z9⟩ := p12
  obtain ⟨rfl, rfl, rfl, rfl⟩ := fo_sym4 z9
  refine fo_astore C dX6_nextForecast_11 [(4, .ref (Λ.2.2.1 (3 + 5 * k))), (3, .ref (Λ.2.2.1 (23 + 4 * p))), (0, .ref (Λ.2.2.1 605)), (1, .int (nI p)), (2, .int (nI k))] rfl (by decide) 13 rfl ?_
  refine fo_aload_n C dX6_nextForecast_13 1 rfl rfl 14 rfl ?_
  refine fo_aload C dX6_nextForecast_14 0 rfl 16 rfl ?_
  have q13 := hn30 k (by omega)
  refine fo_get C dX6_nextForecast_16 fK6 ((hS k (by omega)).1) (by decide) 1 (by decide) fl_X6_88 (v := .int (nI (n k))) (congrArg (fun x => some (Value.int x)) ((hS k (by omega)).2.1)) 19 rfl ?_
  refine fo_qvi C dX6_nextForecast_19 (mX3_foresees (d := n k) (hn30 k hk) (hP p hp)) lv_X6_161 ((hP p (by omega)).1) rfl (by decide) rfl ⟨Nat.le_of_ble_eq_true rfl, Nat.le_of_ble_eq_true rfl⟩ ⟨Nat.le_of_ble_eq_true rfl, Nat.le_of_ble_eq_true rfl⟩ [] rfl (Nat.le_of_ble_eq_true rfl) 22 rfl (fo_er ?_)
  refine fo_bif_ne C dX6_nextForecast_22 33 (by decide) 25 rfl (fun c20 => ?_) (fun c20 => ?_)
  · refine fo_aload_n C dX6_nextForecast_33 1 rfl rfl 34 rfl ?_
    refine fo_aload C dX6_nextForecast_34 0 rfl 36 rfl ?_
    refine fo_aload C dX6_nextForecast_36 0 rfl 38 rfl ?_
    have q21 := hn30 k (by omega)
    refine fo_get C dX6_nextForecast_38 fK6 ((hS k (by omega)).1) (by decide) 1 (by decide) fl_X6_88 (v := .int (nI (n k))) (congrArg (fun x => some (Value.int x)) ((hS k (by omega)).2.1)) 41 rfl ?_
    refine fo_qvd C dX6_nextForecast_41 (mX3_foretell (d := n k) (by first | exact of_decide_eq_true (by assumption) | simp_all) (Nat.le_refl _) (hS k hk) (hP p hp)) lv_X6_290 ((hP p (by omega)).1) rfl (by decide) rfl ⟨Nat.le_of_ble_eq_true rfl, Nat.le_of_ble_eq_true rfl⟩ ⟨Nat.le_of_ble_eq_true rfl, Nat.le_of_ble_eq_true rfl⟩ [] rfl (Nat.le_of_ble_eq_true rfl) 44 rfl (fo_es (fun X26 => ?_))
    exact fin dX6_nextForecast_44 (Nat.le_of_ble_eq_true rfl) (Nat.le_of_ble_eq_true rfl) (⟨p, hp, rfl, k, hk, rfl, by first | exact of_decide_eq_true (by assumption) | simp_all, rfl, rfl, rfl, rfl⟩)
  · exact thr tf_NoSuchElement dX6_nextForecast_25 dX6_nextForecast_28 dX6_nextForecast_29 dX6_nextForecast_32 (by decide) (Nat.le_of_ble_eq_true rfl) (Nat.le_of_ble_eq_true rfl) (Nat.le_of_ble_eq_true rfl) (⟨Or.inr (Or.inr (Or.inl ⟨rfl, ⟨p, k, hp, rfl, hk, rfl, by first | exact of_decide_eq_false (by assumption) | simp_all⟩⟩)), rfl, rfl, rfl⟩)
set_option maxRecDepth 10000 in
set_option maxHeartbeats 4000000 in
theorem mX6_forecast {l : Launch} {Λ : fo_Lt} {I : fo_Mi} {D : fo_Md} {J : fo_Mj} {X : fo_Mi} (hfl : l.stackTraces = false) {np lim : Nat} {kd par n : Nat → Nat} {v : Nat → Nat → Nat} {y : Int32} {x : Int32} (hf : fs_F I D 0 np lim kd par n v) : fx_d l yX6_forecast cX6_forecast 3 9 155 3 18 Λ [.ref (Λ.2.2.1 605), .int (y), .int (x)] I D J X ((fun r I' D' J' X' => ∃ p, p < np ∧ y = nI p ∧ ∃ k, k < 4 ∧ x = nI k ∧ fp_need (kd p) (par p) ≤ n k ∧ r = fp_fore (kd p) (par p) (v k) (n k) ∧ I' = I ∧ D' = D ∧ J' = J)) ((fun E I' D' J' X' => fo_el [("java/lang/IndexOutOfBoundsException", fo_inr y np = false), ("java/lang/IndexOutOfBoundsException", fo_inr x 4 = false), ("java/util/NoSuchElementException", ∃ p k, p < np ∧ y = nI p ∧ k < 4 ∧ x = nI k ∧ ¬ fp_need (kd p) (par p) ≤ n k)] E ∧ I' = I ∧ D' = D ∧ J' = J)) := by
  obtain ⟨hS, hP, hC, hnp, hlim, h8, hl1, hl9, hn30⟩ := hf.now
  refine fo_sxd hfl (by decide) [(0, .ref (Λ.2.2.1 605)), (1, .int (y)), (2, .int (x))] rfl (Nat.le_of_ble_eq_true rfl) (fun K C fin out thr => ?_)
  refine fo_aload_n C dX6_forecast_0 0 rfl rfl 1 rfl ?_
  refine fo_iload_n C dX6_forecast_1 1 rfl rfl 2 rfl ?_
  refine fo_iload_n C dX6_forecast_2 2 rfl rfl 3 rfl ?_
  refine fo_yvd C dX6_forecast_3 (mX6_nextForecast hfl (y := y) (x := x) hf) lv_X6_164 (by decide : fo_k 605 = 8) rfl (by decide) rfl ⟨Nat.le_of_ble_eq_true rfl, Nat.le_of_ble_eq_true rfl⟩ ⟨Nat.le_of_ble_eq_true rfl, Nat.le_of_ble_eq_true rfl⟩ [] rfl (Nat.le_of_ble_eq_true rfl) 6 rfl (fun E I9 D9 J9 X9 h9 => ?_) (fun r1 I2 D3 J4 X5 p6 => ?_)
  · exact out (Nat.le_of_ble_eq_true rfl) (Nat.le_of_ble_eq_true rfl) ⟨fo_el_app h9.1, h9.2⟩
  obtain ⟨p, hp, rfl, k, hk, rfl, hnd, rfl, z9⟩ := p6
  obtain ⟨rfl, rfl, rfl⟩ := fo_sym3 z9
  exact fin dX6_forecast_6 (Nat.le_of_ble_eq_true rfl) (Nat.le_of_ble_eq_true rfl) (⟨p, hp, rfl, k, hk, rfl, hnd, rfl, rfl, rfl, rfl⟩)
set_option maxRecDepth 10000 in
set_option maxHeartbeats 4000000 in
theorem mX6_errors {l : Launch} {Λ : fo_Lt} {I : fo_Mi} {D : fo_Md} {J : fo_Mj} {X : fo_Mi} (hfl : l.stackTraces = false) {np lim : Nat} {kd par n : Nat → Nat} {v : Nat → Nat → Nat} {y : Int32} {x : Int32} (hf : fs_F I D 0 np lim kd par n v) : fx_i l yX6_errors cX6_errors 4 .int 7 111 2 12 Λ [.ref (Λ.2.2.1 605), .int (y), .int (x)] I D J X ((fun r I' D' J' X' => ∃ p, p < np ∧ y = nI p ∧ ∃ k, k < 4 ∧ x = nI k ∧ r = nI (n k - fp_need (kd p) (par p)) ∧ I' = I ∧ D' = D ∧ J' = J)) ((fun E I' D' J' X' => fo_el [("java/lang/IndexOutOfBoundsException", fo_inr y np = false), ("java/lang/IndexOutOfBoundsException", fo_inr x 4 = false)] E ∧ I' = I ∧ D' = D ∧ J' = J)) := by
  obtain ⟨hS, hP, hC, hnp, hlim, h8, hl1, hl9, hn30⟩ := hf.now
  refine fo_sxi hfl (by decide) [(0, .ref (Λ.2.2.1 605)), (1, .int (y)), (2, .int (x))] rfl (Nat.le_of_ble_eq_true rfl) (fun K C fin out thr => ?_)
  refine fo_aload_n C dX6_errors_0 0 rfl rfl 1 rfl ?_
  refine fo_iload_n C dX6_errors_1 1 rfl rfl 2 rfl ?_
  refine fo_yvq C dX6_errors_2 (mX6_prophetAt hfl (y := y) hf) lv_X6_148 (by decide : fo_k 605 = 8) rfl (by decide) rfl ⟨Nat.le_of_ble_eq_true rfl, Nat.le_of_ble_eq_true rfl⟩ ⟨Nat.le_of_ble_eq_true rfl, Nat.le_of_ble_eq_true rfl⟩ [] rfl (Nat.le_of_ble_eq_true rfl) 5 rfl (fun E I9 D9 J9 X9 h9 => ?_) (fun r1 I2 D3 J4 X5 p6 => ?_)
  · exact out (Nat.le_of_ble_eq_true rfl) (Nat.le_of_ble_eq_true rfl) ⟨fo_el_app h9.1, h9.2⟩
  obtain ⟨p, hp, rfl, rfl, z9⟩ := p6
  obtain ⟨rfl, rfl, rfl, rfl⟩ := fo_sym4 z9
  refine fo_astore_n C dX6_errors_5 rfl [(3, .ref (Λ.2.2.1 (23 + 4 * p))), (0, .ref (Λ.2.2.1 605)), (1, .int (nI p)), (2, .int (x))] rfl (by decide) 6 rfl ?_
  refine fo_iload_n C dX6_errors_6 3 rfl rfl 7 rfl ?_
  refine fo_ysv C dX6_errors_7 (mX6_requireSeries hfl (x := x)) ls_X6_171 rfl ⟨Nat.le_of_ble_eq_true rfl, Nat.le_of_ble_eq_true rfl⟩ ⟨Nat.le_of_ble_eq_true rfl, Nat.le_of_ble_eq_true rfl⟩ [] rfl (Nat.le_of_ble_eq_true rfl) 10 rfl (fun E I9 D9 J9 X9 h9 => ?_) (fun I8 D9 J10 X11 p12 => ?_)
  · exact out (Nat.le_of_ble_eq_true rfl) (Nat.le_of_ble_eq_true rfl) ⟨Or.inr (fo_el_app h9.1), h9.2⟩
  obtain ⟨hin, z9⟩ := p12
  obtain ⟨rfl, rfl, rfl, rfl⟩ := fo_sym4 z9
  obtain ⟨k, hk, hk31, rfl⟩ := fo_inr_at hin
  refine fo_aload_n C dX6_errors_10 0 rfl rfl 11 rfl ?_
  refine fo_get C dX6_errors_11 fK5 ((hP p (by omega)).1) (by decide) 2 (by decide) fl_X6_174 (v := .ref (Λ.2.2.1 (23 + 4 * p + 1))) rfl 14 rfl ?_
  refine fo_iload_n C dX6_errors_14 3 rfl rfl 15 rfl ?_
  refine fo_iald C dX6_errors_15 (fo_P1k (hP p (by omega)).1) (by rw [fo_P1n (hP p (by omega)).1]; omega) (nI (n k - fp_need (kd p) (par p))) ((hC p (by omega) k (by omega)).1) 16 rfl ?_
  exact fin dX6_errors_16 rfl (Nat.le_of_ble_eq_true rfl) (Nat.le_of_ble_eq_true rfl) (⟨p, hp, rfl, k, hk, rfl, rfl, rfl, rfl, rfl⟩)
set_option maxRecDepth 10000 in
set_option maxHeartbeats 4000000 in
theorem mX6_errorSum {l : Launch} {Λ : fo_Lt} {I : fo_Mi} {D : fo_Md} {J : fo_Mj} {X : fo_Mi} (hfl : l.stackTraces = false) {np lim : Nat} {kd par n : Nat → Nat} {v : Nat → Nat → Nat} {y : Int32} {x : Int32} (hf : fs_F I D 0 np lim kd par n v) : fx_d l yX6_errorSum cX6_errorSum 4 7 111 2 12 Λ [.ref (Λ.2.2.1 605), .int (y), .int (x)] I D J X ((fun r I' D' J' X' => ∃ p, p < np ∧ y = nI p ∧ ∃ k, k < 4 ∧ x = nI k ∧ r = fp_es (kd p) (par p) (v k) (n k) ∧ I' = I ∧ D' = D ∧ J' = J)) ((fun E I' D' J' X' => fo_el [("java/lang/IndexOutOfBoundsException", fo_inr y np = false), ("java/lang/IndexOutOfBoundsException", fo_inr x 4 = false)] E ∧ I' = I ∧ D' = D ∧ J' = J)) := by
  obtain ⟨hS, hP, hC, hnp, hlim, h8, hl1, hl9, hn30⟩ := hf.now
  refine fo_sxd hfl (by decide) [(0, .ref (Λ.2.2.1 605)), (1, .int (y)), (2, .int (x))] rfl (Nat.le_of_ble_eq_true rfl) (fun K C fin out thr => ?_)
  refine fo_aload_n C dX6_errorSum_0 0 rfl rfl 1 rfl ?_
  refine fo_iload_n C dX6_errorSum_1 1 rfl rfl 2 rfl ?_
  refine fo_yvq C dX6_errorSum_2 (mX6_prophetAt hfl (y := y) hf) lv_X6_148 (by decide : fo_k 605 = 8) rfl (by decide) rfl ⟨Nat.le_of_ble_eq_true rfl, Nat.le_of_ble_eq_true rfl⟩ ⟨Nat.le_of_ble_eq_true rfl, Nat.le_of_ble_eq_true rfl⟩ [] rfl (Nat.le_of_ble_eq_true rfl) 5 rfl (fun E I9 D9 J9 X9 h9 => ?_) (fun r1 I2 D3 J4 X5 p6 => ?_)
  · exact out (Nat.le_of_ble_eq_true rfl) (Nat.le_of_ble_eq_true rfl) ⟨fo_el_app h9.1, h9.2⟩
  obtain ⟨p, hp, rfl, rfl, z9⟩ := p6
  obtain ⟨rfl, rfl, rfl, rfl⟩ := fo_sym4 z9
  refine fo_astore_n C dX6_errorSum_5 rfl [(3, .ref (Λ.2.2.1 (23 + 4 * p))), (0, .ref (Λ.2.2.1 605)), (1, .int (nI p)), (2, .int (x))] rfl (by decide) 6 rfl ?_
  refine fo_iload_n C dX6_errorSum_6 3 rfl rfl 7 rfl ?_
  refine fo_ysv C dX6_errorSum_7 (mX6_requireSeries hfl (x := x)) ls_X6_171 rfl ⟨Nat.le_of_ble_eq_true rfl, Nat.le_of_ble_eq_true rfl⟩ ⟨Nat.le_of_ble_eq_true rfl, Nat.le_of_ble_eq_true rfl⟩ [] rfl (Nat.le_of_ble_eq_true rfl) 10 rfl (fun E I9 D9 J9 X9 h9 => ?_) (fun I8 D9 J10 X11 p12 => ?_)
  · exact out (Nat.le_of_ble_eq_true rfl) (Nat.le_of_ble_eq_true rfl) ⟨Or.inr (fo_el_app h9.1), h9.2⟩
  obtain ⟨hin, z9⟩ := p12
  obtain ⟨rfl, rfl, rfl, rfl⟩ := fo_sym4 z9
  obtain ⟨k, hk, hk31, rfl⟩ := fo_inr_at hin
  refine fo_aload_n C dX6_errorSum_10 0 rfl rfl 11 rfl ?_
  refine fo_get C dX6_errorSum_11 fK5 ((hP p (by omega)).1) (by decide) 3 (by decide) fl_X6_177 (v := .ref (Λ.2.2.1 (23 + 4 * p + 2))) rfl 14 rfl ?_
  refine fo_iload_n C dX6_errorSum_14 3 rfl rfl 15 rfl ?_
  refine fo_dald C dX6_errorSum_15 (fo_P2k (hP p (by omega)).1) (by rw [fo_P2n (hP p (by omega)).1]; omega) (fp_es (kd p) (par p) (v k) (n k)) (hC p (by omega) k (by omega)).2.1 16 rfl ?_
  exact fin dX6_errorSum_16 (Nat.le_of_ble_eq_true rfl) (Nat.le_of_ble_eq_true rfl) (⟨p, hp, rfl, k, hk, rfl, rfl, rfl, rfl, rfl⟩)
set_option maxRecDepth 10000 in
set_option maxHeartbeats 4000000 in
theorem mX6_points {l : Launch} {Λ : fo_Lt} {I : fo_Mi} {D : fo_Md} {J : fo_Mj} {X : fo_Mi} (hfl : l.stackTraces = false) {np lim : Nat} {kd par n : Nat → Nat} {v : Nat → Nat → Nat} {y : Int32} {x : Int32} (hf : fs_F I D 0 np lim kd par n v) : fx_i l yX6_points cX6_points 4 .int 7 111 2 12 Λ [.ref (Λ.2.2.1 605), .int (y), .int (x)] I D J X ((fun r I' D' J' X' => ∃ p, p < np ∧ y = nI p ∧ ∃ k, k < 4 ∧ x = nI k ∧ r = nI (fp_pts np kd par (v k) p (n k)) ∧ I' = I ∧ D' = D ∧ J' = J)) ((fun E I' D' J' X' => fo_el [("java/lang/IndexOutOfBoundsException", fo_inr y np = false), ("java/lang/IndexOutOfBoundsException", fo_inr x 4 = false)] E ∧ I' = I ∧ D' = D ∧ J' = J)) := by
  obtain ⟨hS, hP, hC, hnp, hlim, h8, hl1, hl9, hn30⟩ := hf.now
  refine fo_sxi hfl (by decide) [(0, .ref (Λ.2.2.1 605)), (1, .int (y)), (2, .int (x))] rfl (Nat.le_of_ble_eq_true rfl) (fun K C fin out thr => ?_)
  refine fo_aload_n C dX6_points_0 0 rfl rfl 1 rfl ?_
  refine fo_iload_n C dX6_points_1 1 rfl rfl 2 rfl ?_
  refine fo_yvq C dX6_points_2 (mX6_prophetAt hfl (y := y) hf) lv_X6_148 (by decide : fo_k 605 = 8) rfl (by decide) rfl ⟨Nat.le_of_ble_eq_true rfl, Nat.le_of_ble_eq_true rfl⟩ ⟨Nat.le_of_ble_eq_true rfl, Nat.le_of_ble_eq_true rfl⟩ [] rfl (Nat.le_of_ble_eq_true rfl) 5 rfl (fun E I9 D9 J9 X9 h9 => ?_) (fun r1 I2 D3 J4 X5 p6 => ?_)
  · exact out (Nat.le_of_ble_eq_true rfl) (Nat.le_of_ble_eq_true rfl) ⟨fo_el_app h9.1, h9.2⟩
  obtain ⟨p, hp, rfl, rfl, z9⟩ := p6
  obtain ⟨rfl, rfl, rfl, rfl⟩ := fo_sym4 z9
  refine fo_astore_n C dX6_points_5 rfl [(3, .ref (Λ.2.2.1 (23 + 4 * p))), (0, .ref (Λ.2.2.1 605)), (1, .int (nI p)), (2, .int (x))] rfl (by decide) 6 rfl ?_
  refine fo_iload_n C dX6_points_6 3 rfl rfl 7 rfl ?_
  refine fo_ysv C dX6_points_7 (mX6_requireSeries hfl (x := x)) ls_X6_171 rfl ⟨Nat.le_of_ble_eq_true rfl, Nat.le_of_ble_eq_true rfl⟩ ⟨Nat.le_of_ble_eq_true rfl, Nat.le_of_ble_eq_true rfl⟩ [] rfl (Nat.le_of_ble_eq_true rfl) 10 rfl (fun E I9 D9 J9 X9 h9 => ?_) (fun I8 D9 J10 X11 p12 => ?_)
  · exact out (Nat.le_of_ble_eq_true rfl) (Nat.le_of_ble_eq_true rfl) ⟨Or.inr (fo_el_app h9.1), h9.2⟩
  obtain ⟨hin, z9⟩ := p12
  obtain ⟨rfl, rfl, rfl, rfl⟩ := fo_sym4 z9
  obtain ⟨k, hk, hk31, rfl⟩ := fo_inr_at hin
  refine fo_aload_n C dX6_points_10 0 rfl rfl 11 rfl ?_
  refine fo_get C dX6_points_11 fK5 ((hP p (by omega)).1) (by decide) 4 (by decide) fl_X6_185 (v := .ref (Λ.2.2.1 (23 + 4 * p + 3))) rfl 14 rfl ?_
  refine fo_iload_n C dX6_points_14 3 rfl rfl 15 rfl ?_
  refine fo_iald C dX6_points_15 (fo_P3k (hP p (by omega)).1) (by rw [fo_P3n (hP p (by omega)).1]; omega) (nI (fp_pts np kd par (v k) p (n k))) ((hC p (by omega) k (by omega)).2.2) 16 rfl ?_
  exact fin dX6_points_16 rfl (Nat.le_of_ble_eq_true rfl) (Nat.le_of_ble_eq_true rfl) (⟨p, hp, rfl, k, hk, rfl, rfl, rfl, rfl, rfl⟩)
set_option maxRecDepth 10000 in
set_option maxHeartbeats 4000000 in
theorem mX6_errorSumByBacktest {l : Launch} {Λ : fo_Lt} {I : fo_Mi} {D : fo_Md} {J : fo_Mj} {X : fo_Mi} (hfl : l.stackTraces = false) {np lim : Nat} {kd par n : Nat → Nat} {v : Nat → Nat → Nat} {y : Int32} {x : Int32} (hf : fs_F I D 0 np lim kd par n v) : fx_d l yX6_errorSumByBacktest cX6_errorSumByBacktest 4 8 131 2 12 Λ [.ref (Λ.2.2.1 605), .int (y), .int (x)] I D J X ((fun r I' D' J' X' => ∃ p, p < np ∧ y = nI p ∧ ∃ k, k < 4 ∧ x = nI k ∧ r = fp_es (kd p) (par p) (v k) (n k) ∧ I' = I ∧ D' = D ∧ J' = J)) ((fun E I' D' J' X' => fo_el [("java/lang/IndexOutOfBoundsException", fo_inr y np = false), ("java/lang/IndexOutOfBoundsException", fo_inr x 4 = false)] E ∧ I' = I ∧ D' = D ∧ J' = J)) := by
  obtain ⟨hS, hP, hC, hnp, hlim, h8, hl1, hl9, hn30⟩ := hf.now
  refine fo_sxd hfl (by decide) [(0, .ref (Λ.2.2.1 605)), (1, .int (y)), (2, .int (x))] rfl (Nat.le_of_ble_eq_true rfl) (fun K C fin out thr => ?_)
  refine fo_aload_n C dX6_errorSumByBacktest_0 0 rfl rfl 1 rfl ?_
  refine fo_iload_n C dX6_errorSumByBacktest_1 1 rfl rfl 2 rfl ?_
  refine fo_yvq C dX6_errorSumByBacktest_2 (mX6_prophetAt hfl (y := y) hf) lv_X6_148 (by decide : fo_k 605 = 8) rfl (by decide) rfl ⟨Nat.le_of_ble_eq_true rfl, Nat.le_of_ble_eq_true rfl⟩ ⟨Nat.le_of_ble_eq_true rfl, Nat.le_of_ble_eq_true rfl⟩ [] rfl (Nat.le_of_ble_eq_true rfl) 5 rfl (fun E I9 D9 J9 X9 h9 => ?_) (fun r1 I2 D3 J4 X5 p6 => ?_)
  · exact out (Nat.le_of_ble_eq_true rfl) (Nat.le_of_ble_eq_true rfl) ⟨fo_el_app h9.1, h9.2⟩
  obtain ⟨p, hp, rfl, rfl, z9⟩ := p6
  obtain ⟨rfl, rfl, rfl, rfl⟩ := fo_sym4 z9
  refine fo_astore_n C dX6_errorSumByBacktest_5 rfl [(3, .ref (Λ.2.2.1 (23 + 4 * p))), (0, .ref (Λ.2.2.1 605)), (1, .int (nI p)), (2, .int (x))] rfl (by decide) 6 rfl ?_
  refine fo_aload_n C dX6_errorSumByBacktest_6 0 rfl rfl 7 rfl ?_
  refine fo_aload_n C dX6_errorSumByBacktest_7 1 rfl rfl 8 rfl ?_
  refine fo_iload_n C dX6_errorSumByBacktest_8 3 rfl rfl 9 rfl ?_
  refine fo_yvq C dX6_errorSumByBacktest_9 (mX6_seriesAt hfl (x := x)) lv_X6_72 (by decide : fo_k 605 = 8) rfl (by decide) rfl ⟨Nat.le_of_ble_eq_true rfl, Nat.le_of_ble_eq_true rfl⟩ ⟨Nat.le_of_ble_eq_true rfl, Nat.le_of_ble_eq_true rfl⟩ [.ref (Λ.2.2.1 (23 + 4 * p))] rfl (Nat.le_of_ble_eq_true rfl) 12 rfl (fun E I9 D9 J9 X9 h9 => ?_) (fun r7 I8 D9 J10 X11 p12 => ?_)
  · exact out (Nat.le_of_ble_eq_true rfl) (Nat.le_of_ble_eq_true rfl) ⟨Or.inr (fo_el_app h9.1), h9.2⟩
  obtain ⟨k, hk, rfl, rfl, z9⟩ := p12
  obtain ⟨rfl, rfl, rfl, rfl⟩ := fo_sym4 z9
  refine fo_qvd C dX6_errorSumByBacktest_12 (mX3_backtest (hS k hk) (hP p hp)) lv_X6_181 ((hP p (by omega)).1) rfl (by decide) rfl ⟨Nat.le_of_ble_eq_true rfl, Nat.le_of_ble_eq_true rfl⟩ ⟨Nat.le_of_ble_eq_true rfl, Nat.le_of_ble_eq_true rfl⟩ [] rfl (Nat.le_of_ble_eq_true rfl) 15 rfl (fo_es (fun X17 => ?_))
  exact fin dX6_errorSumByBacktest_15 (Nat.le_of_ble_eq_true rfl) (Nat.le_of_ble_eq_true rfl) (⟨p, hp, rfl, k, hk, rfl, rfl, rfl, rfl, rfl⟩)
set_option maxRecDepth 10000 in
set_option maxHeartbeats 4000000 in
theorem mX6_meanError {l : Launch} {Λ : fo_Lt} {I : fo_Mi} {D : fo_Md} {J : fo_Mj} {X : fo_Mi} (hfl : l.stackTraces = false) {np lim : Nat} {kd par n : Nat → Nat} {v : Nat → Nat → Nat} {y : Int32} (hf : fs_F I D 0 np lim kd par n v) : fx_d l yX6_meanError cX6_meanError 4 7 111 2 12 Λ [.ref (Λ.2.2.1 605), .int (y)] I D J X ((fun r I' D' J' X' => ∃ p, p < np ∧ y = nI p ∧ 0 < fp_ae kd par n p ∧ r = fp_me kd par n v p ∧ I' = I ∧ D' = D ∧ J' = J)) ((fun E I' D' J' X' => fo_el [("java/lang/IndexOutOfBoundsException", fo_inr y np = false), ("java/lang/ArithmeticException", ∃ p, p < np ∧ y = nI p ∧ fp_ae kd par n p = 0)] E ∧ I' = I ∧ D' = D ∧ J' = J)) := by
  obtain ⟨hS, hP, hC, hnp, hlim, h8, hl1, hl9, hn30⟩ := hf.now
  refine fo_sxd hfl (by decide) [(0, .ref (Λ.2.2.1 605)), (1, .int (y))] rfl (Nat.le_of_ble_eq_true rfl) (fun K C fin out thr => ?_)
  refine fo_aload_n C dX6_meanError_0 0 rfl rfl 1 rfl ?_
  refine fo_iload_n C dX6_meanError_1 1 rfl rfl 2 rfl ?_
  refine fo_yvq C dX6_meanError_2 (mX6_prophetAt hfl (y := y) hf) lv_X6_148 (by decide : fo_k 605 = 8) rfl (by decide) rfl ⟨Nat.le_of_ble_eq_true rfl, Nat.le_of_ble_eq_true rfl⟩ ⟨Nat.le_of_ble_eq_true rfl, Nat.le_of_ble_eq_true rfl⟩ [] rfl (Nat.le_of_ble_eq_true rfl) 5 rfl (fun E I9 D9 J9 X9 h9 => ?_) (fun r1 I2 D3 J4 X5 p6 => ?_)
  · exact out (Nat.le_of_ble_eq_true rfl) (Nat.le_of_ble_eq_true rfl) ⟨fo_el_app h9.1, h9.2⟩
  obtain ⟨p, hp, rfl, rfl, z9⟩ := p6
  obtain ⟨rfl, rfl, rfl, rfl⟩ := fo_sym4 z9
  refine fo_astore_n C dX6_meanError_5 rfl [(2, .ref (Λ.2.2.1 (23 + 4 * p))), (0, .ref (Λ.2.2.1 605)), (1, .int (nI p))] rfl (by decide) 6 rfl ?_
  refine fo_aload_n C dX6_meanError_6 0 rfl rfl 7 rfl ?_
  have qae := fp_ae_le (kd := kd) (par := par) (n := n) (p := p) hn30
  refine fo_qvi C dX6_meanError_7 (mX3_countAllErrors (f := fun k => n k - fp_need (kd p) (par p)) (hP p hp).1 (fun k h4 => (hC p hp k h4).1) (fun k h4 => by have := hn30 k h4; omega)) lv_X6_188 ((hP p (by omega)).1) rfl (by decide) rfl ⟨Nat.le_of_ble_eq_true rfl, Nat.le_of_ble_eq_true rfl⟩ ⟨Nat.le_of_ble_eq_true rfl, Nat.le_of_ble_eq_true rfl⟩ [] rfl (Nat.le_of_ble_eq_true rfl) 10 rfl (fo_er ?_)
  refine fo_istore_n C dX6_meanError_10 rfl [(3, .int (nI (fp_ae kd par n p))), (2, .ref (Λ.2.2.1 (23 + 4 * p))), (0, .ref (Λ.2.2.1 605)), (1, .int (nI p))] rfl (by decide) 11 rfl ?_
  refine fo_iload_n C dX6_meanError_11 0 rfl rfl 12 rfl ?_
  refine fo_nif_ne C (by omega) dX6_meanError_12 23 (by decide) 15 rfl (fun c13 => ?_) (fun c13 => ?_)
  · refine fo_aload_n C dX6_meanError_23 1 rfl rfl 24 rfl ?_
    refine fo_qvd C dX6_meanError_24 (mX3_sumAllErrors (hP p hp).1 (fun k h4 => by rw [(hC p hp k h4).2.1]; exact fd_up (fd_es (hP p hp).2.2.2 (v k) (n k) (hn30 k h4)) (by have := hn30 k h4; omega))) lv_X6_194 ((hP p (by omega)).1) rfl (by decide) rfl ⟨Nat.le_of_ble_eq_true rfl, Nat.le_of_ble_eq_true rfl⟩ ⟨Nat.le_of_ble_eq_true rfl, Nat.le_of_ble_eq_true rfl⟩ [] rfl (Nat.le_of_ble_eq_true rfl) 27 rfl (fo_er ?_)
    rw [fp_ds_congr (u := fun k => fp_es (kd p) (par p) (v k) (n k)) (fun k h4 => (hC p hp k h4).2.1)]
    refine fo_iload_n C dX6_meanError_27 0 rfl rfl 28 rfl ?_
    refine fo_i2d C dX6_meanError_28 29 rfl ?_
    refine fo_ddiv C dX6_meanError_29 (fd_ok (K := 1411) (fd_divi (K := 1408) (fd_me (p := p) (hP p hp).2.2.2 hn30) (by rw [nI_toInt (by omega)]; omega) (by decide)) (by decide)) 30 rfl ?_
    refine fo_td (b := fp_me kd par n v p) rfl ?_
    exact fin dX6_meanError_30 (Nat.le_of_ble_eq_true rfl) (Nat.le_of_ble_eq_true rfl) (⟨p, hp, rfl, by omega, rfl, rfl, rfl, rfl⟩)
  · exact thr tf_Arithmetic dX6_meanError_15 dX6_meanError_18 dX6_meanError_19 dX6_meanError_22 (by decide) (Nat.le_of_ble_eq_true rfl) (Nat.le_of_ble_eq_true rfl) (Nat.le_of_ble_eq_true rfl) (⟨Or.inr (Or.inl ⟨rfl, ⟨p, hp, rfl, by omega⟩⟩), rfl, rfl, rfl⟩)
set_option maxRecDepth 10000 in
set_option maxHeartbeats 4000000 in
theorem mX6_prophetByPoints {l : Launch} {Λ : fo_Lt} {I : fo_Mi} {D : fo_Md} {J : fo_Mj} {X : fo_Mi} (hfl : l.stackTraces = false) {np lim : Nat} {kd par n : Nat → Nat} {v : Nat → Nat → Nat} {z : Int32} (hf : fs_F I D 0 np lim kd par n v) : fx_i l yX6_prophetByPoints cX6_prophetByPoints 3 .int 6 90 1 6 Λ [.ref (Λ.2.2.1 605), .int (z)] I D J X ((fun r I' D' J' X' => ∃ q o, q < 2 ^ 31 ∧ z = nI q ∧ (fp_fst (fun i => decide (fp_rank (fp_ap np kd par n v) np i = q)) 0 np) = some o ∧ r = nI o ∧ I' = I ∧ D' = D ∧ J' = J)) ((fun E I' D' J' X' => fo_el [("java/util/NoSuchElementException", (z < 0 ∨ ∃ q, q < 2 ^ 31 ∧ z = nI q ∧ (fp_fst (fun i => decide (fp_rank (fp_ap np kd par n v) np i = q)) 0 np) = none))] E ∧ I' = I ∧ D' = D ∧ J' = J)) := by
  obtain ⟨hS, hP, hC, hnp, hlim, h8, hl1, hl9, hn30⟩ := hf.now
  refine fo_sxi hfl (by decide) [(0, .ref (Λ.2.2.1 605)), (1, .int (z))] rfl (Nat.le_of_ble_eq_true rfl) (fun K C fin out thr => ?_)
  refine fo_iload_n C dX6_prophetByPoints_0 1 rfl rfl 1 rfl ?_
  refine fo_if_ge C dX6_prophetByPoints_1 8 (by decide) 4 rfl (fun c1 => ?_) (fun c1 => ?_)
  · obtain ⟨q, hq, rfl⟩ := fo_nn_at (Int32.not_lt.mpr (by assumption))
    refine fo_aload_n C dX6_prophetByPoints_8 0 rfl rfl 9 rfl ?_
    refine fo_get C dX6_prophetByPoints_9 fK8 (by decide : fo_k 605 = 8) (by decide) 0 (by decide) fl_X6_12 (v := .ref (Λ.2.2.1 0)) rfl 12 rfl ?_
    refine fo_iload_n C dX6_prophetByPoints_12 1 rfl rfl 13 rfl ?_
    refine fo_qvi C dX6_prophetByPoints_13 (mX5_prophetAtRank (q := q) hq hf.1 hf.2.1) lv_X6_198 (by decide : fo_k 0 = 7) rfl (by decide) rfl ⟨Nat.le_of_ble_eq_true rfl, Nat.le_of_ble_eq_true rfl⟩ ⟨Nat.le_of_ble_eq_true rfl, Nat.le_of_ble_eq_true rfl⟩ [] rfl (Nat.le_of_ble_eq_true rfl) 16 rfl (fo_er ?_)
    refine fo_istore_n C dX6_prophetByPoints_16 rfl [(2, .int (fo_ow (fp_fst (fun i => decide (fp_rank (fp_ap np kd par n v) np i = q)) 0 np))), (0, .ref (Λ.2.2.1 605)), (1, .int (nI q))] rfl (by decide) 17 rfl ?_
    refine fo_iload_n C dX6_prophetByPoints_17 0 rfl rfl 18 rfl ?_
    rcases ho : (fp_fst (fun i => decide (fp_rank (fp_ap np kd par n v) np i = q)) 0 np) with _ | o
    · refine fo_iconst C dX6_prophetByPoints_18 (-1) (by decide) 19 rfl ?_
      refine fo_icmp_ne C dX6_prophetByPoints_19 30 (by decide) 22 rfl (fun c8 => ?_) (fun c8 => ?_)
      · exact absurd rfl c8
      · exact thr tf_NoSuchElement dX6_prophetByPoints_22 dX6_prophetByPoints_25 dX6_prophetByPoints_26 dX6_prophetByPoints_29 (by decide) (Nat.le_of_ble_eq_true rfl) (Nat.le_of_ble_eq_true rfl) (Nat.le_of_ble_eq_true rfl) (⟨Or.inl ⟨rfl, Or.inr ⟨q, hq, rfl, ho⟩⟩, rfl, rfl, rfl⟩)
    · refine fo_iconst C dX6_prophetByPoints_18 (-1) (by decide) 19 rfl ?_
      refine fo_icmp_ne C dX6_prophetByPoints_19 30 (by decide) 22 rfl (fun c9 => ?_) (fun c9 => ?_)
      · refine fo_iload_n C dX6_prophetByPoints_30 0 rfl rfl 31 rfl ?_
        exact fin dX6_prophetByPoints_31 rfl (Nat.le_of_ble_eq_true rfl) (Nat.le_of_ble_eq_true rfl) (⟨q, o, hq, rfl, ho, rfl, rfl, rfl, rfl⟩)
      · exact absurd c9 (fo_ow_ne (o := o) (by have := (fp_fst_in ho).2.1; omega))
  · refine fo_iconst C dX6_prophetByPoints_4 (-1) (by decide) 5 rfl ?_
    refine fo_goto C dX6_prophetByPoints_5 16 (by decide) ?_
    refine fo_istore_n C dX6_prophetByPoints_16 rfl [(2, .int (-1)), (0, .ref (Λ.2.2.1 605)), (1, .int (z))] rfl (by decide) 17 rfl ?_
    refine fo_iload_n C dX6_prophetByPoints_17 0 rfl rfl 18 rfl ?_
    refine fo_iconst C dX6_prophetByPoints_18 (-1) (by decide) 19 rfl ?_
    refine fo_icmp_ne C dX6_prophetByPoints_19 30 (by decide) 22 rfl (fun c10 => ?_) (fun c10 => ?_)
    · exact absurd rfl c10
    · exact thr tf_NoSuchElement dX6_prophetByPoints_22 dX6_prophetByPoints_25 dX6_prophetByPoints_26 dX6_prophetByPoints_29 (by decide) (Nat.le_of_ble_eq_true rfl) (Nat.le_of_ble_eq_true rfl) (Nat.le_of_ble_eq_true rfl) (⟨Or.inl ⟨rfl, Or.inl (Int32.not_le.mp (by assumption))⟩, rfl, rfl, rfl⟩)
set_option maxRecDepth 10000 in
set_option maxHeartbeats 4000000 in
theorem mX6_bestProphet {l : Launch} {Λ : fo_Lt} {I : fo_Mi} {D : fo_Md} {J : fo_Mj} {X : fo_Mi} (hfl : l.stackTraces = false) {np lim : Nat} {kd par n : Nat → Nat} {v : Nat → Nat → Nat} (hf : fs_F I D 0 np lim kd par n v) : fx_i l yX6_bestProphet cX6_bestProphet 2 .int 6 90 1 6 Λ [.ref (Λ.2.2.1 605)] I D J X ((fun r I' D' J' X' => ∃ o, (fp_lst (fun p => decide (0 < fp_ae kd par n p)) (fun p => fp_me kd par n v p) np) = some o ∧ r = nI o ∧ I' = I ∧ D' = D ∧ J' = J)) ((fun E I' D' J' X' => fo_el [("java/util/NoSuchElementException", (fp_lst (fun p => decide (0 < fp_ae kd par n p)) (fun p => fp_me kd par n v p) np) = none)] E ∧ I' = I ∧ D' = D ∧ J' = J)) := by
  obtain ⟨hS, hP, hC, hnp, hlim, h8, hl1, hl9, hn30⟩ := hf.now
  refine fo_sxi hfl (by decide) [(0, .ref (Λ.2.2.1 605))] rfl (Nat.le_of_ble_eq_true rfl) (fun K C fin out thr => ?_)
  refine fo_aload_n C dX6_bestProphet_0 0 rfl rfl 1 rfl ?_
  refine fo_get C dX6_bestProphet_1 fK8 (by decide : fo_k 605 = 8) (by decide) 0 (by decide) fl_X6_12 (v := .ref (Λ.2.2.1 0)) rfl 4 rfl ?_
  refine fo_qvi C dX6_bestProphet_4 (mX5_prophetWithLeastMeanError hf.1 hf.2.1) lv_X6_201 (by decide : fo_k 0 = 7) rfl (by decide) rfl ⟨Nat.le_of_ble_eq_true rfl, Nat.le_of_ble_eq_true rfl⟩ ⟨Nat.le_of_ble_eq_true rfl, Nat.le_of_ble_eq_true rfl⟩ [] rfl (Nat.le_of_ble_eq_true rfl) 7 rfl (fo_er ?_)
  refine fo_istore_n C dX6_bestProphet_7 rfl [(1, .int (fo_ow (fp_lst (fun p => decide (0 < fp_ae kd par n p)) (fun p => fp_me kd par n v p) np))), (0, .ref (Λ.2.2.1 605))] rfl (by decide) 8 rfl ?_
  refine fo_iload_n C dX6_bestProphet_8 0 rfl rfl 9 rfl ?_
  rcases ho : (fp_lst (fun p => decide (0 < fp_ae kd par n p)) (fun p => fp_me kd par n v p) np) with _ | o
  · refine fo_iconst C dX6_bestProphet_9 (-1) (by decide) 10 rfl ?_
    refine fo_icmp_ne C dX6_bestProphet_10 21 (by decide) 13 rfl (fun c7 => ?_) (fun c7 => ?_)
    · exact absurd rfl c7
    · exact thr tf_NoSuchElement dX6_bestProphet_13 dX6_bestProphet_16 dX6_bestProphet_17 dX6_bestProphet_20 (by decide) (Nat.le_of_ble_eq_true rfl) (Nat.le_of_ble_eq_true rfl) (Nat.le_of_ble_eq_true rfl) (⟨Or.inl ⟨rfl, ho⟩, rfl, rfl, rfl⟩)
  · refine fo_iconst C dX6_bestProphet_9 (-1) (by decide) 10 rfl ?_
    refine fo_icmp_ne C dX6_bestProphet_10 21 (by decide) 13 rfl (fun c8 => ?_) (fun c8 => ?_)
    · refine fo_iload_n C dX6_bestProphet_21 0 rfl rfl 22 rfl ?_
      exact fin dX6_bestProphet_22 rfl (Nat.le_of_ble_eq_true rfl) (Nat.le_of_ble_eq_true rfl) (⟨o, ho, rfl, rfl, rfl, rfl⟩)
    · exact absurd c8 (fo_ow_ne (o := o) (by have := (fp_lst_in ho).1; omega))
set_option maxRecDepth 10000 in
set_option maxHeartbeats 4000000 in
theorem mX6_outlierShare {l : Launch} {Λ : fo_Lt} {I : fo_Mi} {D : fo_Md} {J : fo_Mj} {X : fo_Mi} (hfl : l.stackTraces = false) {np lim : Nat} {kd par n : Nat → Nat} {v : Nat → Nat → Nat} (hf : fs_F I D 0 np lim kd par n v) : fx_f l yX6_outlierShare cX6_outlierShare 2 6 110 1 6 Λ [.ref (Λ.2.2.1 605)] I D J X ((fun r I' D' J' X' => 0 < fp_sum n 0 4 ∧ r = FP.fdiv (FP.i2f (nI (fp_sum (fun k => fp_cnt (fp_off (v k) lim) (n k)) 0 4))) (FP.i2f (nI (fp_sum n 0 4))) ∧ I' = I ∧ D' = D ∧ J' = J)) ((fun E I' D' J' X' => fo_el [("java/lang/ArithmeticException", fp_sum n 0 4 = 0)] E ∧ I' = I ∧ D' = D ∧ J' = J)) := by
  obtain ⟨hS, hP, hC, hnp, hlim, h8, hl1, hl9, hn30⟩ := hf.now
  refine fo_sxf hfl (by decide) [(0, .ref (Λ.2.2.1 605))] rfl (Nat.le_of_ble_eq_true rfl) (fun K C fin out thr => ?_)
  refine fo_aload_n C dX6_outlierShare_0 0 rfl rfl 1 rfl ?_
  refine fo_get C dX6_outlierShare_1 fK8 (by decide : fo_k 605 = 8) (by decide) 0 (by decide) fl_X6_12 (v := .ref (Λ.2.2.1 0)) rfl 4 rfl ?_
  refine fo_qvi C dX6_outlierShare_4 (mX5_countAllValues hf.1) lv_X6_204 (by decide : fo_k 0 = 7) rfl (by decide) rfl ⟨Nat.le_of_ble_eq_true rfl, Nat.le_of_ble_eq_true rfl⟩ ⟨Nat.le_of_ble_eq_true rfl, Nat.le_of_ble_eq_true rfl⟩ [] rfl (Nat.le_of_ble_eq_true rfl) 7 rfl (fo_er ?_)
  have qa := fp_sum_le (v := n) (a := 0) (c := 30) (n := 4) (fun k hk => by rw [Nat.zero_add]; exact hn30 k hk)
  refine fo_istore_n C dX6_outlierShare_7 rfl [(1, .int (nI (fp_sum n 0 4))), (0, .ref (Λ.2.2.1 605))] rfl (by decide) 8 rfl ?_
  refine fo_iload_n C dX6_outlierShare_8 0 rfl rfl 9 rfl ?_
  refine fo_nif_ne C (by omega) dX6_outlierShare_9 20 (by decide) 12 rfl (fun c7 => ?_) (fun c7 => ?_)
  · refine fo_aload_n C dX6_outlierShare_20 1 rfl rfl 21 rfl ?_
    refine fo_get C dX6_outlierShare_21 fK8 (by decide : fo_k 605 = 8) (by decide) 0 (by decide) fl_X6_12 (v := .ref (Λ.2.2.1 0)) rfl 24 rfl ?_
    refine fo_qvi C dX6_outlierShare_24 (mX5_countAllStrays hf.1) lv_X6_207 (by decide : fo_k 0 = 7) rfl (by decide) rfl ⟨Nat.le_of_ble_eq_true rfl, Nat.le_of_ble_eq_true rfl⟩ ⟨Nat.le_of_ble_eq_true rfl, Nat.le_of_ble_eq_true rfl⟩ [] rfl (Nat.le_of_ble_eq_true rfl) 27 rfl (fo_es (fun X12 => ?_))
    refine fo_i2f C dX6_outlierShare_27 28 rfl ?_
    refine fo_iload_n C dX6_outlierShare_28 0 rfl rfl 29 rfl ?_
    refine fo_i2f C dX6_outlierShare_29 30 rfl ?_
    refine fo_fdiv C dX6_outlierShare_30 (ff_divi (by omega) (by omega)) 31 rfl ?_
    exact fin dX6_outlierShare_31 (Nat.le_of_ble_eq_true rfl) (Nat.le_of_ble_eq_true rfl) (⟨by omega, rfl, rfl, rfl, rfl⟩)
  · exact thr tf_Arithmetic dX6_outlierShare_12 dX6_outlierShare_15 dX6_outlierShare_16 dX6_outlierShare_19 (by decide) (Nat.le_of_ble_eq_true rfl) (Nat.le_of_ble_eq_true rfl) (Nat.le_of_ble_eq_true rfl) (⟨Or.inl ⟨rfl, by omega⟩, rfl, rfl, rfl⟩)
set_option maxRecDepth 10000 in
set_option maxHeartbeats 4000000 in
theorem mX6_isConsistent {l : Launch} {Λ : fo_Lt} {I : fo_Mi} {D : fo_Md} {J : fo_Mj} {X : fo_Mi} {np lim : Nat} {kd par n : Nat → Nat} {v : Nat → Nat → Nat} (hf : fs_F I D 0 np lim kd par n v) : fk_i l yX6_isConsistent cX6_isConsistent 1 .boolean 6 143 Λ [.ref (Λ.2.2.1 605)] I D J X (fo_ps (fo_b true) I D J) := by
  obtain ⟨hS, hP, hC, hnp, hlim, h8, hl1, hl9, hn30⟩ := hf.now
  refine fo_si (by decide) [(0, .ref (Λ.2.2.1 605))] rfl (Nat.le_of_ble_eq_true rfl) (fun K C fin => ?_)
  refine fo_aload_n C dX6_isConsistent_0 0 rfl rfl 1 rfl ?_
  refine fo_get C dX6_isConsistent_1 fK8 (by decide : fo_k 605 = 8) (by decide) 0 (by decide) fl_X6_12 (v := .ref (Λ.2.2.1 0)) rfl 4 rfl ?_
  refine fo_qvi C dX6_isConsistent_4 (mX5_isSound hf.1 hf.2.1) lv_X6_210 (by decide : fo_k 0 = 7) rfl (by decide) rfl ⟨Nat.le_of_ble_eq_true rfl, Nat.le_of_ble_eq_true rfl⟩ ⟨Nat.le_of_ble_eq_true rfl, Nat.le_of_ble_eq_true rfl⟩ [] rfl (Nat.le_of_ble_eq_true rfl) 7 rfl (fo_es (fun X5 => ?_))
  exact fin dX6_isConsistent_7 (by first | rfl | exact fo_nb _) (⟨rfl, rfl, rfl, rfl⟩)
