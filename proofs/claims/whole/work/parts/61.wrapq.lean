/-! THE LAW: questions of the laboratory, answered or refused -/

theorem fw_d0 {D : fo_Md} {c : Nat × UInt64} (h : nI c.1 ≠ 0) : ∃ dd, D = fo_r D 630 dd ∧ (nI c.1 = 0 → dd 0 = c.2) := ⟨D 630, (fo_rme D 630).symm, fun q => absurd q h⟩
theorem fw_j0 {J : fo_Mj} {c : Nat × Int32} (h : nI c.1 ≠ 0) : ∃ jj, J = fo_r J 629 jj ∧ (nI c.1 = 0 → jj 0 = c.2.toInt64) := ⟨J 629, (fo_rme J 629).symm, fun q => absurd q h⟩
theorem fw_l0 {J : fo_Mj} {c : Nat × Int64} (h : nI c.1 ≠ 0) : ∃ jj, J = fo_r J 629 jj ∧ (nI c.1 = 0 → jj 0 = c.2) := ⟨J 629, (fo_rme J 629).symm, fun q => absurd q h⟩
theorem fw_f0 {D : fo_Md} {c : Nat × UInt32} (h : nI c.1 ≠ 0) : ∃ dd, D = fo_r D 630 dd ∧ (nI c.1 = 0 → dd 0 = FP.f2d c.2) := ⟨D 630, (fo_rme D 630).symm, fun q => absurd q h⟩
theorem fw_d1 {D : fo_Md} {c : Nat × UInt64} {v : UInt64} (h : v = c.2) : ∃ dd, fo_r D 630 (vf_upd (D 630) 0 v) = fo_r D 630 dd ∧ (nI c.1 = 0 → dd 0 = c.2) := ⟨_, rfl, fun _ => h⟩
theorem fw_j1 {J : fo_Mj} {c : Nat × Int32} {v : Int64} (h : v = c.2.toInt64) : ∃ jj, fo_r J 629 (vp_updL (J 629) 0 v) = fo_r J 629 jj ∧ (nI c.1 = 0 → jj 0 = c.2.toInt64) := ⟨_, rfl, fun _ => h⟩
theorem fw_l1 {J : fo_Mj} {c : Nat × Int64} {v : Int64} (h : v = c.2) : ∃ jj, fo_r J 629 (vp_updL (J 629) 0 v) = fo_r J 629 jj ∧ (nI c.1 = 0 → jj 0 = c.2) := ⟨_, rfl, fun _ => h⟩
theorem fw_f1 {D : fo_Md} {c : Nat × UInt32} {v : UInt64} (h : v = FP.f2d c.2) : ∃ dd, fo_r D 630 (vf_upd (D 630) 0 v) = fo_r D 630 dd ∧ (nI c.1 = 0 → dd 0 = FP.f2d c.2) := ⟨_, rfl, fun _ => h⟩

theorem fg_ps_n : fg_ps (-1) = (1, nI 0) := rfl
set_option maxRecDepth 10000 in
set_option maxHeartbeats 4000000 in
theorem mL_days {l : Launch} {Λ : fo_Lt} {I : fo_Mi} {D : fo_Md} {J : fo_Mj} {X : fo_Mi} (hfl : l.stackTraces = false) {np lim : Nat} {kd par n : Nat → Nat} {v : Nat → Nat → Nat} {x : Int32} (hf : fs_F I D 0 np lim kd par n v) : fw_i l yL_days cL_days 4 9 152 1 6 [(0, 9, 12, 21)] Λ [.ref (Λ.2.2.1 605), .int (x), .ref (Λ.2.2.1 629)] I D J X ((fun r I' D' J' X' => r = nI (fg_se x (nI 0) (fun k => (0, nI (n k)))).1 ∧ I' = I ∧ D' = D ∧ ∃ jj, J' = fo_r J 629 jj ∧ (nI (fg_se x (nI 0) (fun k => (0, nI (n k)))).1 = 0 → jj 0 = (fg_se x (nI 0) (fun k => (0, nI (n k)))).2.toInt64))) := by
  obtain ⟨hS, hP, hC, hnp, hlim, h8, hl1, hl9, hn30⟩ := hf.now
  refine fo_sw (by decide) [(0, .ref (Λ.2.2.1 605)), (1, .int (x)), (2, .ref (Λ.2.2.1 629))] rfl (Nat.le_of_ble_eq_true rfl) (fun K C tb fin => ?_)
  refine fo_aload_n C dL_days_0 2 rfl rfl 1 rfl ?_
  refine fo_iconst C dL_days_1 (nI 0) ki_0 2 rfl ?_
  refine fo_aload_n C dL_days_2 0 rfl rfl 3 rfl ?_
  refine fo_iload_n C dL_days_3 1 rfl rfl 4 rfl ?_
  refine fo_yvi C dL_days_4 (mX6_days hfl (x := x) hf) lv_L_30 (by decide : fo_k 605 = 8) rfl (by decide) rfl ⟨Nat.le_of_ble_eq_true rfl, Nat.le_of_ble_eq_true rfl⟩ ⟨Nat.le_of_ble_eq_true rfl, Nat.le_of_ble_eq_true rfl⟩ [.int (nI 0), .ref (Λ.2.2.1 629)] rfl (Nat.le_of_ble_eq_true rfl) 7 rfl (fun E I9 D9 J9 X9 h9 => ?_) (fun r1 I2 D3 J4 X5 p6 => ?_)
  · obtain ⟨h8, z9⟩ := h9
    obtain ⟨rfl, rfl, rfl⟩ := fo_sym3 z9
    simp only [fo_el, or_false] at h8
    rcases h8 with ⟨rfl, hx⟩
    · refine fo_ca C tb [] (0, 9, 12, 21) [] rfl (by decide) (fun _ h => absurd h List.not_mem_nil) (by decide) (by decide) fh_21 12 rfl (fun q9 => ?_)
      refine fo_astore_n C dL_days_12 rfl [(3, .ref q9), (0, .ref (Λ.2.2.1 605)), (1, .int (x)), (2, .ref (Λ.2.2.1 629))] rfl (by decide) 13 rfl ?_
      refine fo_iconst C dL_days_13 (nI 1) ki_1 14 rfl ?_
      exact fin dL_days_14 rfl (Nat.le_of_ble_eq_true rfl) (Nat.le_of_ble_eq_true rfl) (⟨by rw [fg_se_f hx], rfl, rfl, fw_j0 (by rw [fg_se_f hx]; decide)⟩)
  obtain ⟨k, hk, rfl, rfl, z9⟩ := p6
  obtain ⟨rfl, rfl, rfl⟩ := fo_sym3 z9
  refine fo_i2l C dL_days_7 _ rfl 8 rfl ?_
  refine fo_last C dL_days_8 (by decide : fo_k 629 = 24) (by rw [(show fo_n 629 = 1 from rfl)]; omega) 9 rfl ?_
  refine fo_goto C dL_days_9 15 (by decide) ?_
  refine fo_iconst C dL_days_15 (nI 0) ki_0 16 rfl ?_
  exact fin dL_days_16 rfl (Nat.le_of_ble_eq_true rfl) (Nat.le_of_ble_eq_true rfl) (⟨by rw [fg_se_t hk], rfl, rfl, fw_j1 (by rw [fg_se_t hk])⟩)
set_option maxRecDepth 10000 in
set_option maxHeartbeats 4000000 in
theorem mL_value {l : Launch} {Λ : fo_Lt} {I : fo_Mi} {D : fo_Md} {J : fo_Mj} {X : fo_Mi} (hfl : l.stackTraces = false) {np lim : Nat} {kd par n : Nat → Nat} {v : Nat → Nat → Nat} {x z : Int32} (hf : fs_F I D 0 np lim kd par n v) : fw_i l yL_value cL_value 5 9 154 2 12 [(0, 10, 13, 21), (0, 10, 17, 36)] Λ [.ref (Λ.2.2.1 605), .int (x), .int (z), .ref (Λ.2.2.1 629)] I D J X ((fun r I' D' J' X' => r = nI (fg_nv n x z (nI 0) (fun k d => nI (v k d))).1 ∧ I' = I ∧ D' = D ∧ ∃ jj, J' = fo_r J 629 jj ∧ (nI (fg_nv n x z (nI 0) (fun k d => nI (v k d))).1 = 0 → jj 0 = (fg_nv n x z (nI 0) (fun k d => nI (v k d))).2.toInt64))) := by
  obtain ⟨hS, hP, hC, hnp, hlim, h8, hl1, hl9, hn30⟩ := hf.now
  refine fo_sw (by decide) [(0, .ref (Λ.2.2.1 605)), (1, .int (x)), (2, .int (z)), (3, .ref (Λ.2.2.1 629))] rfl (Nat.le_of_ble_eq_true rfl) (fun K C tb fin => ?_)
  refine fo_aload_n C dL_value_0 3 rfl rfl 1 rfl ?_
  refine fo_iconst C dL_value_1 (nI 0) ki_0 2 rfl ?_
  refine fo_aload_n C dL_value_2 0 rfl rfl 3 rfl ?_
  refine fo_iload_n C dL_value_3 1 rfl rfl 4 rfl ?_
  refine fo_iload_n C dL_value_4 2 rfl rfl 5 rfl ?_
  refine fo_yvi C dL_value_5 (mX6_value hfl (x := x) (z := z) hf) lv_L_33 (by decide : fo_k 605 = 8) rfl (by decide) rfl ⟨Nat.le_of_ble_eq_true rfl, Nat.le_of_ble_eq_true rfl⟩ ⟨Nat.le_of_ble_eq_true rfl, Nat.le_of_ble_eq_true rfl⟩ [.int (nI 0), .ref (Λ.2.2.1 629)] rfl (Nat.le_of_ble_eq_true rfl) 8 rfl (fun E I9 D9 J9 X9 h9 => ?_) (fun r1 I2 D3 J4 X5 p6 => ?_)
  · obtain ⟨h8, z9⟩ := h9
    obtain ⟨rfl, rfl, rfl⟩ := fo_sym3 z9
    simp only [fo_el, or_false] at h8
    rcases h8 with ⟨rfl, hx⟩ | ⟨rfl, ⟨k, hk, rfl, hz⟩⟩
    · refine fo_ca C tb [] (0, 10, 13, 21) [(0, 10, 17, 36)] rfl (by decide) (fun _ h => absurd h List.not_mem_nil) (by decide) (by decide) fh_21 13 rfl (fun q9 => ?_)
      refine fo_astore C dL_value_13 [(4, .ref q9), (0, .ref (Λ.2.2.1 605)), (1, .int (x)), (2, .int (z)), (3, .ref (Λ.2.2.1 629))] rfl (by decide) 15 rfl ?_
      refine fo_iconst C dL_value_15 (nI 1) ki_1 16 rfl ?_
      exact fin dL_value_16 rfl (Nat.le_of_ble_eq_true rfl) (Nat.le_of_ble_eq_true rfl) (⟨by rw [fg_nv_1 hx], rfl, rfl, fw_j0 (by rw [fg_nv_1 hx]; decide)⟩)
    · refine fo_ca C tb [(0, 10, 13, 21)] (0, 10, 17, 36) [] rfl (by decide) (List.forall_mem_cons.mpr ⟨⟨by decide, _, fh_21, by decide, by decide⟩, fun _ h => absurd h List.not_mem_nil⟩) (by decide) (by decide) fh_36 17 rfl (fun q9 => ?_)
      refine fo_astore C dL_value_17 [(4, .ref q9), (0, .ref (Λ.2.2.1 605)), (1, .int (nI k)), (2, .int (z)), (3, .ref (Λ.2.2.1 629))] rfl (by decide) 19 rfl ?_
      refine fo_iconst C dL_value_19 (nI 2) ki_2 20 rfl ?_
      exact fin dL_value_20 rfl (Nat.le_of_ble_eq_true rfl) (Nat.le_of_ble_eq_true rfl) (⟨by rw [fg_nv_2 hk hz], rfl, rfl, fw_j0 (by rw [fg_nv_2 hk hz]; decide)⟩)
  obtain ⟨k, hk, rfl, d, hd, rfl, rfl, z9⟩ := p6
  obtain ⟨rfl, rfl, rfl⟩ := fo_sym3 z9
  refine fo_i2l C dL_value_8 _ rfl 9 rfl ?_
  refine fo_last C dL_value_9 (by decide : fo_k 629 = 24) (by rw [(show fo_n 629 = 1 from rfl)]; omega) 10 rfl ?_
  refine fo_goto C dL_value_10 21 (by decide) ?_
  refine fo_iconst C dL_value_21 (nI 0) ki_0 22 rfl ?_
  exact fin dL_value_22 rfl (Nat.le_of_ble_eq_true rfl) (Nat.le_of_ble_eq_true rfl) (⟨by rw [fg_nv_t hk hd (hn30 k hk)], rfl, rfl, fw_j1 (by rw [fg_nv_t hk hd (hn30 k hk)])⟩)
set_option maxRecDepth 10000 in
set_option maxHeartbeats 4000000 in
theorem mL_range {l : Launch} {Λ : fo_Lt} {I : fo_Mi} {D : fo_Md} {J : fo_Mj} {X : fo_Mi} (hfl : l.stackTraces = false) {np lim : Nat} {kd par n : Nat → Nat} {v : Nat → Nat → Nat} {x : Int32} (hf : fs_F I D 0 np lim kd par n v) : fw_i l yL_range cL_range 4 9 153 2 12 [(0, 9, 12, 21), (0, 9, 15, 36)] Λ [.ref (Λ.2.2.1 605), .int (x), .ref (Λ.2.2.1 629)] I D J X ((fun r I' D' J' X' => r = nI (fg_se x (nI 0) (fun k => if 0 < n k then (0, nI (fp_hi (v k) (n k - 1) - fp_lo (v k) (n k - 1))) else (2, nI 0))).1 ∧ I' = I ∧ D' = D ∧ ∃ jj, J' = fo_r J 629 jj ∧ (nI (fg_se x (nI 0) (fun k => if 0 < n k then (0, nI (fp_hi (v k) (n k - 1) - fp_lo (v k) (n k - 1))) else (2, nI 0))).1 = 0 → jj 0 = (fg_se x (nI 0) (fun k => if 0 < n k then (0, nI (fp_hi (v k) (n k - 1) - fp_lo (v k) (n k - 1))) else (2, nI 0))).2.toInt64))) := by
  obtain ⟨hS, hP, hC, hnp, hlim, h8, hl1, hl9, hn30⟩ := hf.now
  refine fo_sw (by decide) [(0, .ref (Λ.2.2.1 605)), (1, .int (x)), (2, .ref (Λ.2.2.1 629))] rfl (Nat.le_of_ble_eq_true rfl) (fun K C tb fin => ?_)
  refine fo_aload_n C dL_range_0 2 rfl rfl 1 rfl ?_
  refine fo_iconst C dL_range_1 (nI 0) ki_0 2 rfl ?_
  refine fo_aload_n C dL_range_2 0 rfl rfl 3 rfl ?_
  refine fo_iload_n C dL_range_3 1 rfl rfl 4 rfl ?_
  refine fo_yvi C dL_range_4 (mX6_range hfl (x := x) hf) lv_L_38 (by decide : fo_k 605 = 8) rfl (by decide) rfl ⟨Nat.le_of_ble_eq_true rfl, Nat.le_of_ble_eq_true rfl⟩ ⟨Nat.le_of_ble_eq_true rfl, Nat.le_of_ble_eq_true rfl⟩ [.int (nI 0), .ref (Λ.2.2.1 629)] rfl (Nat.le_of_ble_eq_true rfl) 7 rfl (fun E I9 D9 J9 X9 h9 => ?_) (fun r1 I2 D3 J4 X5 p6 => ?_)
  · obtain ⟨h8, z9⟩ := h9
    obtain ⟨rfl, rfl, rfl⟩ := fo_sym3 z9
    simp only [fo_el, or_false] at h8
    rcases h8 with ⟨rfl, hx⟩ | ⟨rfl, ⟨k, hk, rfl, h0⟩⟩
    · refine fo_ca C tb [] (0, 9, 12, 21) [(0, 9, 15, 36)] rfl (by decide) (fun _ h => absurd h List.not_mem_nil) (by decide) (by decide) fh_21 12 rfl (fun q9 => ?_)
      refine fo_astore_n C dL_range_12 rfl [(3, .ref q9), (0, .ref (Λ.2.2.1 605)), (1, .int (x)), (2, .ref (Λ.2.2.1 629))] rfl (by decide) 13 rfl ?_
      refine fo_iconst C dL_range_13 (nI 1) ki_1 14 rfl ?_
      exact fin dL_range_14 rfl (Nat.le_of_ble_eq_true rfl) (Nat.le_of_ble_eq_true rfl) (⟨by rw [fg_se_f hx], rfl, rfl, fw_j0 (by rw [fg_se_f hx]; decide)⟩)
    · refine fo_ca C tb [(0, 9, 12, 21)] (0, 9, 15, 36) [] rfl (by decide) (List.forall_mem_cons.mpr ⟨⟨by decide, _, fh_21, by decide, by decide⟩, fun _ h => absurd h List.not_mem_nil⟩) (by decide) (by decide) fh_36 15 rfl (fun q9 => ?_)
      refine fo_astore_n C dL_range_15 rfl [(3, .ref q9), (0, .ref (Λ.2.2.1 605)), (1, .int (nI k)), (2, .ref (Λ.2.2.1 629))] rfl (by decide) 16 rfl ?_
      refine fo_iconst C dL_range_16 (nI 2) ki_2 17 rfl ?_
      exact fin dL_range_17 rfl (Nat.le_of_ble_eq_true rfl) (Nat.le_of_ble_eq_true rfl) (⟨by rw [fg_se_t hk, if_neg (by omega)], rfl, rfl, fw_j0 (by rw [fg_se_t hk, if_neg (by omega)]; decide)⟩)
  obtain ⟨k, hk, rfl, h0, rfl, z9⟩ := p6
  obtain ⟨rfl, rfl, rfl⟩ := fo_sym3 z9
  refine fo_i2l C dL_range_7 _ rfl 8 rfl ?_
  refine fo_last C dL_range_8 (by decide : fo_k 629 = 24) (by rw [(show fo_n 629 = 1 from rfl)]; omega) 9 rfl ?_
  refine fo_goto C dL_range_9 18 (by decide) ?_
  refine fo_iconst C dL_range_18 (nI 0) ki_0 19 rfl ?_
  exact fin dL_range_19 rfl (Nat.le_of_ble_eq_true rfl) (Nat.le_of_ble_eq_true rfl) (⟨by rw [fg_se_t hk, if_pos h0], rfl, rfl, fw_j1 (by rw [fg_se_t hk, if_pos h0])⟩)
set_option maxRecDepth 10000 in
set_option maxHeartbeats 4000000 in
theorem mL_movingAverage {l : Launch} {Λ : fo_Lt} {I : fo_Mi} {D : fo_Md} {J : fo_Mj} {X : fo_Mi} (hfl : l.stackTraces = false) {np lim : Nat} {kd par n : Nat → Nat} {v : Nat → Nat → Nat} {x z : Int32} (hf : fs_F I D 0 np lim kd par n v) : fw_i l yL_movingAverage cL_movingAverage 5 10 177 2 12 [(0, 9, 12, 21), (0, 9, 16, 13), (0, 9, 20, 36)] Λ [.ref (Λ.2.2.1 605), .int (x), .int (z), .ref (Λ.2.2.1 630)] I D J X ((fun r I' D' J' X' => r = nI (fg_nl n x z FP.dconst0 (fun k c => fp_mean (v k) (n k - c) c)).1 ∧ I' = I ∧ J' = J ∧ ∃ dd, D' = fo_r D 630 dd ∧ (nI (fg_nl n x z FP.dconst0 (fun k c => fp_mean (v k) (n k - c) c)).1 = 0 → dd 0 = (fg_nl n x z FP.dconst0 (fun k c => fp_mean (v k) (n k - c) c)).2))) := by
  obtain ⟨hS, hP, hC, hnp, hlim, h8, hl1, hl9, hn30⟩ := hf.now
  refine fo_sw (by decide) [(0, .ref (Λ.2.2.1 605)), (1, .int (x)), (2, .int (z)), (3, .ref (Λ.2.2.1 630))] rfl (Nat.le_of_ble_eq_true rfl) (fun K C tb fin => ?_)
  refine fo_aload_n C dL_movingAverage_0 3 rfl rfl 1 rfl ?_
  refine fo_iconst C dL_movingAverage_1 (nI 0) ki_0 2 rfl ?_
  refine fo_aload_n C dL_movingAverage_2 0 rfl rfl 3 rfl ?_
  refine fo_iload_n C dL_movingAverage_3 1 rfl rfl 4 rfl ?_
  refine fo_iload_n C dL_movingAverage_4 2 rfl rfl 5 rfl ?_
  refine fo_yvd C dL_movingAverage_5 (mX6_movingAverage hfl (x := x) (z := z) hf) lv_L_41 (by decide : fo_k 605 = 8) rfl (by decide) rfl ⟨Nat.le_of_ble_eq_true rfl, Nat.le_of_ble_eq_true rfl⟩ ⟨Nat.le_of_ble_eq_true rfl, Nat.le_of_ble_eq_true rfl⟩ [.int (nI 0), .ref (Λ.2.2.1 630)] rfl (Nat.le_of_ble_eq_true rfl) 8 rfl (fun E I9 D9 J9 X9 h9 => ?_) (fun r1 I2 D3 J4 X5 p6 => ?_)
  · obtain ⟨h8, z9⟩ := h9
    obtain ⟨rfl, rfl, rfl⟩ := fo_sym3 z9
    simp only [fo_el, or_false] at h8
    rcases h8 with ⟨rfl, hx⟩ | ⟨rfl, ⟨k, hk, rfl, hz⟩⟩ | ⟨rfl, ⟨k, hk, rfl, c, hc1, hc2, rfl, hc3⟩⟩
    · refine fo_ca C tb [] (0, 9, 12, 21) [(0, 9, 16, 13), (0, 9, 20, 36)] rfl (by decide) (fun _ h => absurd h List.not_mem_nil) (by decide) (by decide) fh_21 12 rfl (fun q9 => ?_)
      refine fo_astore C dL_movingAverage_12 [(4, .ref q9), (0, .ref (Λ.2.2.1 605)), (1, .int (x)), (2, .int (z)), (3, .ref (Λ.2.2.1 630))] rfl (by decide) 14 rfl ?_
      refine fo_iconst C dL_movingAverage_14 (nI 1) ki_1 15 rfl ?_
      exact fin dL_movingAverage_15 rfl (Nat.le_of_ble_eq_true rfl) (Nat.le_of_ble_eq_true rfl) (⟨by rw [fg_nl_1 hx], rfl, rfl, fw_d0 (by rw [fg_nl_1 hx]; decide)⟩)
    · refine fo_ca C tb [(0, 9, 12, 21)] (0, 9, 16, 13) [(0, 9, 20, 36)] rfl (by decide) (List.forall_mem_cons.mpr ⟨⟨by decide, _, fh_21, by decide, by decide⟩, fun _ h => absurd h List.not_mem_nil⟩) (by decide) (by decide) fh_13 16 rfl (fun q9 => ?_)
      refine fo_astore C dL_movingAverage_16 [(4, .ref q9), (0, .ref (Λ.2.2.1 605)), (1, .int (nI k)), (2, .int (z)), (3, .ref (Λ.2.2.1 630))] rfl (by decide) 18 rfl ?_
      refine fo_iconst C dL_movingAverage_18 (nI 2) ki_2 19 rfl ?_
      exact fin dL_movingAverage_19 rfl (Nat.le_of_ble_eq_true rfl) (Nat.le_of_ble_eq_true rfl) (⟨by rw [fg_nl_2 hk hz], rfl, rfl, fw_d0 (by rw [fg_nl_2 hk hz]; decide)⟩)
    · refine fo_ca C tb [(0, 9, 12, 21), (0, 9, 16, 13)] (0, 9, 20, 36) [] rfl (by decide) (List.forall_mem_cons.mpr ⟨⟨by decide, _, fh_21, by decide, by decide⟩, List.forall_mem_cons.mpr ⟨⟨by decide, _, fh_13, by decide, by decide⟩, fun _ h => absurd h List.not_mem_nil⟩⟩) (by decide) (by decide) fh_36 20 rfl (fun q9 => ?_)
      refine fo_astore C dL_movingAverage_20 [(4, .ref q9), (0, .ref (Λ.2.2.1 605)), (1, .int (nI k)), (2, .int (nI c)), (3, .ref (Λ.2.2.1 630))] rfl (by decide) 22 rfl ?_
      refine fo_iconst C dL_movingAverage_22 (nI 3) ki_3 23 rfl ?_
      exact fin dL_movingAverage_23 rfl (Nat.le_of_ble_eq_true rfl) (Nat.le_of_ble_eq_true rfl) (⟨by rw [fg_nl_3 hk hc1 hc2 hc3], rfl, rfl, fw_d0 (by rw [fg_nl_3 hk hc1 hc2 hc3]; decide)⟩)
  obtain ⟨k, hk, rfl, c, hc1, hc2, rfl, rfl, z9⟩ := p6
  obtain ⟨rfl, rfl, rfl⟩ := fo_sym3 z9
  refine fo_dast C dL_movingAverage_8 (by decide : fo_k 630 = 22) (by rw [(show fo_n 630 = 1 from rfl)]; omega) 9 rfl ?_
  refine fo_goto C dL_movingAverage_9 24 (by decide) ?_
  refine fo_iconst C dL_movingAverage_24 (nI 0) ki_0 25 rfl ?_
  exact fin dL_movingAverage_25 rfl (Nat.le_of_ble_eq_true rfl) (Nat.le_of_ble_eq_true rfl) (⟨by rw [fg_nl_t hk hc1 (Nat.le_trans hc2 (hn30 k hk)) hc2], rfl, rfl, fw_d1 (by rw [fg_nl_t hk hc1 (Nat.le_trans hc2 (hn30 k hk)) hc2])⟩)
set_option maxRecDepth 10000 in
set_option maxHeartbeats 4000000 in
theorem mL_movingAverageBySums {l : Launch} {Λ : fo_Lt} {I : fo_Mi} {D : fo_Md} {J : fo_Mj} {X : fo_Mi} (hfl : l.stackTraces = false) {np lim : Nat} {kd par n : Nat → Nat} {v : Nat → Nat → Nat} {x z : Int32} (hf : fs_F I D 0 np lim kd par n v) : fw_i l yL_movingAverageBySums cL_movingAverageBySums 5 10 176 2 12 [(0, 9, 12, 21), (0, 9, 16, 13), (0, 9, 20, 36)] Λ [.ref (Λ.2.2.1 605), .int (x), .int (z), .ref (Λ.2.2.1 630)] I D J X ((fun r I' D' J' X' => r = nI (fg_nl n x z FP.dconst0 (fun k c => fp_mean (v k) (n k - c) c)).1 ∧ I' = I ∧ J' = J ∧ ∃ dd, D' = fo_r D 630 dd ∧ (nI (fg_nl n x z FP.dconst0 (fun k c => fp_mean (v k) (n k - c) c)).1 = 0 → dd 0 = (fg_nl n x z FP.dconst0 (fun k c => fp_mean (v k) (n k - c) c)).2))) := by
  obtain ⟨hS, hP, hC, hnp, hlim, h8, hl1, hl9, hn30⟩ := hf.now
  refine fo_sw (by decide) [(0, .ref (Λ.2.2.1 605)), (1, .int (x)), (2, .int (z)), (3, .ref (Λ.2.2.1 630))] rfl (Nat.le_of_ble_eq_true rfl) (fun K C tb fin => ?_)
  refine fo_aload_n C dL_movingAverageBySums_0 3 rfl rfl 1 rfl ?_
  refine fo_iconst C dL_movingAverageBySums_1 (nI 0) ki_0 2 rfl ?_
  refine fo_aload_n C dL_movingAverageBySums_2 0 rfl rfl 3 rfl ?_
  refine fo_iload_n C dL_movingAverageBySums_3 1 rfl rfl 4 rfl ?_
  refine fo_iload_n C dL_movingAverageBySums_4 2 rfl rfl 5 rfl ?_
  refine fo_yvd C dL_movingAverageBySums_5 (mX6_movingAverageBySums hfl (x := x) (z := z) hf) lv_L_45 (by decide : fo_k 605 = 8) rfl (by decide) rfl ⟨Nat.le_of_ble_eq_true rfl, Nat.le_of_ble_eq_true rfl⟩ ⟨Nat.le_of_ble_eq_true rfl, Nat.le_of_ble_eq_true rfl⟩ [.int (nI 0), .ref (Λ.2.2.1 630)] rfl (Nat.le_of_ble_eq_true rfl) 8 rfl (fun E I9 D9 J9 X9 h9 => ?_) (fun r1 I2 D3 J4 X5 p6 => ?_)
  · obtain ⟨h8, z9⟩ := h9
    obtain ⟨rfl, rfl, rfl⟩ := fo_sym3 z9
    simp only [fo_el, or_false] at h8
    rcases h8 with ⟨rfl, hx⟩ | ⟨rfl, ⟨k, hk, rfl, hz⟩⟩ | ⟨rfl, ⟨k, hk, rfl, c, hc1, hc2, rfl, hc3⟩⟩
    · refine fo_ca C tb [] (0, 9, 12, 21) [(0, 9, 16, 13), (0, 9, 20, 36)] rfl (by decide) (fun _ h => absurd h List.not_mem_nil) (by decide) (by decide) fh_21 12 rfl (fun q9 => ?_)
      refine fo_astore C dL_movingAverageBySums_12 [(4, .ref q9), (0, .ref (Λ.2.2.1 605)), (1, .int (x)), (2, .int (z)), (3, .ref (Λ.2.2.1 630))] rfl (by decide) 14 rfl ?_
      refine fo_iconst C dL_movingAverageBySums_14 (nI 1) ki_1 15 rfl ?_
      exact fin dL_movingAverageBySums_15 rfl (Nat.le_of_ble_eq_true rfl) (Nat.le_of_ble_eq_true rfl) (⟨by rw [fg_nl_1 hx], rfl, rfl, fw_d0 (by rw [fg_nl_1 hx]; decide)⟩)
    · refine fo_ca C tb [(0, 9, 12, 21)] (0, 9, 16, 13) [(0, 9, 20, 36)] rfl (by decide) (List.forall_mem_cons.mpr ⟨⟨by decide, _, fh_21, by decide, by decide⟩, fun _ h => absurd h List.not_mem_nil⟩) (by decide) (by decide) fh_13 16 rfl (fun q9 => ?_)
      refine fo_astore C dL_movingAverageBySums_16 [(4, .ref q9), (0, .ref (Λ.2.2.1 605)), (1, .int (nI k)), (2, .int (z)), (3, .ref (Λ.2.2.1 630))] rfl (by decide) 18 rfl ?_
      refine fo_iconst C dL_movingAverageBySums_18 (nI 2) ki_2 19 rfl ?_
      exact fin dL_movingAverageBySums_19 rfl (Nat.le_of_ble_eq_true rfl) (Nat.le_of_ble_eq_true rfl) (⟨by rw [fg_nl_2 hk hz], rfl, rfl, fw_d0 (by rw [fg_nl_2 hk hz]; decide)⟩)
    · refine fo_ca C tb [(0, 9, 12, 21), (0, 9, 16, 13)] (0, 9, 20, 36) [] rfl (by decide) (List.forall_mem_cons.mpr ⟨⟨by decide, _, fh_21, by decide, by decide⟩, List.forall_mem_cons.mpr ⟨⟨by decide, _, fh_13, by decide, by decide⟩, fun _ h => absurd h List.not_mem_nil⟩⟩) (by decide) (by decide) fh_36 20 rfl (fun q9 => ?_)
      refine fo_astore C dL_movingAverageBySums_20 [(4, .ref q9), (0, .ref (Λ.2.2.1 605)), (1, .int (nI k)), (2, .int (nI c)), (3, .ref (Λ.2.2.1 630))] rfl (by decide) 22 rfl ?_
      refine fo_iconst C dL_movingAverageBySums_22 (nI 3) ki_3 23 rfl ?_
      exact fin dL_movingAverageBySums_23 rfl (Nat.le_of_ble_eq_true rfl) (Nat.le_of_ble_eq_true rfl) (⟨by rw [fg_nl_3 hk hc1 hc2 hc3], rfl, rfl, fw_d0 (by rw [fg_nl_3 hk hc1 hc2 hc3]; decide)⟩)
  obtain ⟨k, hk, rfl, c, hc1, hc2, rfl, rfl, z9⟩ := p6
  obtain ⟨rfl, rfl, rfl⟩ := fo_sym3 z9
  refine fo_dast C dL_movingAverageBySums_8 (by decide : fo_k 630 = 22) (by rw [(show fo_n 630 = 1 from rfl)]; omega) 9 rfl ?_
  refine fo_goto C dL_movingAverageBySums_9 24 (by decide) ?_
  refine fo_iconst C dL_movingAverageBySums_24 (nI 0) ki_0 25 rfl ?_
  exact fin dL_movingAverageBySums_25 rfl (Nat.le_of_ble_eq_true rfl) (Nat.le_of_ble_eq_true rfl) (⟨by rw [fg_nl_t hk hc1 (Nat.le_trans hc2 (hn30 k hk)) hc2], rfl, rfl, fw_d1 (by rw [fg_nl_t hk hc1 (Nat.le_trans hc2 (hn30 k hk)) hc2])⟩)
set_option maxRecDepth 10000 in
set_option maxHeartbeats 4000000 in
theorem mL_median {l : Launch} {Λ : fo_Lt} {I : fo_Mi} {D : fo_Md} {J : fo_Mj} {X : fo_Mi} (hfl : l.stackTraces = false) {np lim : Nat} {kd par n : Nat → Nat} {v : Nat → Nat → Nat} {x z : Int32} (hf : fs_F I D 0 np lim kd par n v) : fw_i l yL_median cL_median 5 10 177 2 12 [(0, 10, 13, 21), (0, 10, 17, 13), (0, 10, 21, 36)] Λ [.ref (Λ.2.2.1 605), .int (x), .int (z), .ref (Λ.2.2.1 629)] I D J X ((fun r I' D' J' X' => r = nI (fg_nl n x z (nI 0) (fun k c => nI (fp_med (fun o => v k (n k - c + o)) c))).1 ∧ I' = I ∧ D' = D ∧ ∃ jj, J' = fo_r J 629 jj ∧ (nI (fg_nl n x z (nI 0) (fun k c => nI (fp_med (fun o => v k (n k - c + o)) c))).1 = 0 → jj 0 = (fg_nl n x z (nI 0) (fun k c => nI (fp_med (fun o => v k (n k - c + o)) c))).2.toInt64))) := by
  obtain ⟨hS, hP, hC, hnp, hlim, h8, hl1, hl9, hn30⟩ := hf.now
  refine fo_sw (by decide) [(0, .ref (Λ.2.2.1 605)), (1, .int (x)), (2, .int (z)), (3, .ref (Λ.2.2.1 629))] rfl (Nat.le_of_ble_eq_true rfl) (fun K C tb fin => ?_)
  refine fo_aload_n C dL_median_0 3 rfl rfl 1 rfl ?_
  refine fo_iconst C dL_median_1 (nI 0) ki_0 2 rfl ?_
  refine fo_aload_n C dL_median_2 0 rfl rfl 3 rfl ?_
  refine fo_iload_n C dL_median_3 1 rfl rfl 4 rfl ?_
  refine fo_iload_n C dL_median_4 2 rfl rfl 5 rfl ?_
  refine fo_yvi C dL_median_5 (mX6_median hfl (x := x) (z := z) hf) lv_L_48 (by decide : fo_k 605 = 8) rfl (by decide) rfl ⟨Nat.le_of_ble_eq_true rfl, Nat.le_of_ble_eq_true rfl⟩ ⟨Nat.le_of_ble_eq_true rfl, Nat.le_of_ble_eq_true rfl⟩ [.int (nI 0), .ref (Λ.2.2.1 629)] rfl (Nat.le_of_ble_eq_true rfl) 8 rfl (fun E I9 D9 J9 X9 h9 => ?_) (fun r1 I2 D3 J4 X5 p6 => ?_)
  · obtain ⟨h8, z9⟩ := h9
    obtain ⟨rfl, rfl, rfl⟩ := fo_sym3 z9
    simp only [fo_el, or_false] at h8
    rcases h8 with ⟨rfl, hx⟩ | ⟨rfl, ⟨k, hk, rfl, hz⟩⟩ | ⟨rfl, ⟨k, hk, rfl, c, hc1, hc2, rfl, hc3⟩⟩
    · refine fo_ca C tb [] (0, 10, 13, 21) [(0, 10, 17, 13), (0, 10, 21, 36)] rfl (by decide) (fun _ h => absurd h List.not_mem_nil) (by decide) (by decide) fh_21 13 rfl (fun q9 => ?_)
      refine fo_astore C dL_median_13 [(4, .ref q9), (0, .ref (Λ.2.2.1 605)), (1, .int (x)), (2, .int (z)), (3, .ref (Λ.2.2.1 629))] rfl (by decide) 15 rfl ?_
      refine fo_iconst C dL_median_15 (nI 1) ki_1 16 rfl ?_
      exact fin dL_median_16 rfl (Nat.le_of_ble_eq_true rfl) (Nat.le_of_ble_eq_true rfl) (⟨by rw [fg_nl_1 hx], rfl, rfl, fw_j0 (by rw [fg_nl_1 hx]; decide)⟩)
    · refine fo_ca C tb [(0, 10, 13, 21)] (0, 10, 17, 13) [(0, 10, 21, 36)] rfl (by decide) (List.forall_mem_cons.mpr ⟨⟨by decide, _, fh_21, by decide, by decide⟩, fun _ h => absurd h List.not_mem_nil⟩) (by decide) (by decide) fh_13 17 rfl (fun q9 => ?_)
      refine fo_astore C dL_median_17 [(4, .ref q9), (0, .ref (Λ.2.2.1 605)), (1, .int (nI k)), (2, .int (z)), (3, .ref (Λ.2.2.1 629))] rfl (by decide) 19 rfl ?_
      refine fo_iconst C dL_median_19 (nI 2) ki_2 20 rfl ?_
      exact fin dL_median_20 rfl (Nat.le_of_ble_eq_true rfl) (Nat.le_of_ble_eq_true rfl) (⟨by rw [fg_nl_2 hk hz], rfl, rfl, fw_j0 (by rw [fg_nl_2 hk hz]; decide)⟩)
    · refine fo_ca C tb [(0, 10, 13, 21), (0, 10, 17, 13)] (0, 10, 21, 36) [] rfl (by decide) (List.forall_mem_cons.mpr ⟨⟨by decide, _, fh_21, by decide, by decide⟩, List.forall_mem_cons.mpr ⟨⟨by decide, _, fh_13, by decide, by decide⟩, fun _ h => absurd h List.not_mem_nil⟩⟩) (by decide) (by decide) fh_36 21 rfl (fun q9 => ?_)
      refine fo_astore C dL_median_21 [(4, .ref q9), (0, .ref (Λ.2.2.1 605)), (1, .int (nI k)), (2, .int (nI c)), (3, .ref (Λ.2.2.1 629))] rfl (by decide) 23 rfl ?_
      refine fo_iconst C dL_median_23 (nI 3) ki_3 24 rfl ?_
      exact fin dL_median_24 rfl (Nat.le_of_ble_eq_true rfl) (Nat.le_of_ble_eq_true rfl) (⟨by rw [fg_nl_3 hk hc1 hc2 hc3], rfl, rfl, fw_j0 (by rw [fg_nl_3 hk hc1 hc2 hc3]; decide)⟩)
  obtain ⟨k, hk, rfl, c, hc1, hc2, rfl, rfl, z9⟩ := p6
  obtain ⟨rfl, rfl, rfl⟩ := fo_sym3 z9
  refine fo_i2l C dL_median_8 _ rfl 9 rfl ?_
  refine fo_last C dL_median_9 (by decide : fo_k 629 = 24) (by rw [(show fo_n 629 = 1 from rfl)]; omega) 10 rfl ?_
  refine fo_goto C dL_median_10 25 (by decide) ?_
  refine fo_iconst C dL_median_25 (nI 0) ki_0 26 rfl ?_
  exact fin dL_median_26 rfl (Nat.le_of_ble_eq_true rfl) (Nat.le_of_ble_eq_true rfl) (⟨by rw [fg_nl_t hk hc1 (Nat.le_trans hc2 (hn30 k hk)) hc2], rfl, rfl, fw_j1 (by rw [fg_nl_t hk hc1 (Nat.le_trans hc2 (hn30 k hk)) hc2])⟩)
set_option maxRecDepth 10000 in
set_option maxHeartbeats 4000000 in
theorem mL_medianByCounting {l : Launch} {Λ : fo_Lt} {I : fo_Mi} {D : fo_Md} {J : fo_Mj} {X : fo_Mi} (hfl : l.stackTraces = false) {np lim : Nat} {kd par n : Nat → Nat} {v : Nat → Nat → Nat} {x z : Int32} (hf : fs_F I D 0 np lim kd par n v) : fw_i l yL_medianByCounting cL_medianByCounting 5 10 176 2 12 [(0, 10, 13, 21), (0, 10, 17, 13), (0, 10, 21, 36)] Λ [.ref (Λ.2.2.1 605), .int (x), .int (z), .ref (Λ.2.2.1 629)] I D J X ((fun r I' D' J' X' => r = nI (fg_nl n x z (nI 0) (fun k c => nI (fp_med (fun o => v k (n k - c + o)) c))).1 ∧ I' = I ∧ D' = D ∧ ∃ jj, J' = fo_r J 629 jj ∧ (nI (fg_nl n x z (nI 0) (fun k c => nI (fp_med (fun o => v k (n k - c + o)) c))).1 = 0 → jj 0 = (fg_nl n x z (nI 0) (fun k c => nI (fp_med (fun o => v k (n k - c + o)) c))).2.toInt64))) := by
  obtain ⟨hS, hP, hC, hnp, hlim, h8, hl1, hl9, hn30⟩ := hf.now
  refine fo_sw (by decide) [(0, .ref (Λ.2.2.1 605)), (1, .int (x)), (2, .int (z)), (3, .ref (Λ.2.2.1 629))] rfl (Nat.le_of_ble_eq_true rfl) (fun K C tb fin => ?_)
  refine fo_aload_n C dL_medianByCounting_0 3 rfl rfl 1 rfl ?_
  refine fo_iconst C dL_medianByCounting_1 (nI 0) ki_0 2 rfl ?_
  refine fo_aload_n C dL_medianByCounting_2 0 rfl rfl 3 rfl ?_
  refine fo_iload_n C dL_medianByCounting_3 1 rfl rfl 4 rfl ?_
  refine fo_iload_n C dL_medianByCounting_4 2 rfl rfl 5 rfl ?_
  refine fo_yvi C dL_medianByCounting_5 (mX6_medianByCounting hfl (x := x) (z := z) hf) lv_L_51 (by decide : fo_k 605 = 8) rfl (by decide) rfl ⟨Nat.le_of_ble_eq_true rfl, Nat.le_of_ble_eq_true rfl⟩ ⟨Nat.le_of_ble_eq_true rfl, Nat.le_of_ble_eq_true rfl⟩ [.int (nI 0), .ref (Λ.2.2.1 629)] rfl (Nat.le_of_ble_eq_true rfl) 8 rfl (fun E I9 D9 J9 X9 h9 => ?_) (fun r1 I2 D3 J4 X5 p6 => ?_)
  · obtain ⟨h8, z9⟩ := h9
    obtain ⟨rfl, rfl, rfl⟩ := fo_sym3 z9
    simp only [fo_el, or_false] at h8
    rcases h8 with ⟨rfl, hx⟩ | ⟨rfl, ⟨k, hk, rfl, hz⟩⟩ | ⟨rfl, ⟨k, hk, rfl, c, hc1, hc2, rfl, hc3⟩⟩
    · refine fo_ca C tb [] (0, 10, 13, 21) [(0, 10, 17, 13), (0, 10, 21, 36)] rfl (by decide) (fun _ h => absurd h List.not_mem_nil) (by decide) (by decide) fh_21 13 rfl (fun q9 => ?_)
      refine fo_astore C dL_medianByCounting_13 [(4, .ref q9), (0, .ref (Λ.2.2.1 605)), (1, .int (x)), (2, .int (z)), (3, .ref (Λ.2.2.1 629))] rfl (by decide) 15 rfl ?_
      refine fo_iconst C dL_medianByCounting_15 (nI 1) ki_1 16 rfl ?_
      exact fin dL_medianByCounting_16 rfl (Nat.le_of_ble_eq_true rfl) (Nat.le_of_ble_eq_true rfl) (⟨by rw [fg_nl_1 hx], rfl, rfl, fw_j0 (by rw [fg_nl_1 hx]; decide)⟩)
    · refine fo_ca C tb [(0, 10, 13, 21)] (0, 10, 17, 13) [(0, 10, 21, 36)] rfl (by decide) (List.forall_mem_cons.mpr ⟨⟨by decide, _, fh_21, by decide, by decide⟩, fun _ h => absurd h List.not_mem_nil⟩) (by decide) (by decide) fh_13 17 rfl (fun q9 => ?_)
      refine fo_astore C dL_medianByCounting_17 [(4, .ref q9), (0, .ref (Λ.2.2.1 605)), (1, .int (nI k)), (2, .int (z)), (3, .ref (Λ.2.2.1 629))] rfl (by decide) 19 rfl ?_
      refine fo_iconst C dL_medianByCounting_19 (nI 2) ki_2 20 rfl ?_
      exact fin dL_medianByCounting_20 rfl (Nat.le_of_ble_eq_true rfl) (Nat.le_of_ble_eq_true rfl) (⟨by rw [fg_nl_2 hk hz], rfl, rfl, fw_j0 (by rw [fg_nl_2 hk hz]; decide)⟩)
    · refine fo_ca C tb [(0, 10, 13, 21), (0, 10, 17, 13)] (0, 10, 21, 36) [] rfl (by decide) (List.forall_mem_cons.mpr ⟨⟨by decide, _, fh_21, by decide, by decide⟩, List.forall_mem_cons.mpr ⟨⟨by decide, _, fh_13, by decide, by decide⟩, fun _ h => absurd h List.not_mem_nil⟩⟩) (by decide) (by decide) fh_36 21 rfl (fun q9 => ?_)
      refine fo_astore C dL_medianByCounting_21 [(4, .ref q9), (0, .ref (Λ.2.2.1 605)), (1, .int (nI k)), (2, .int (nI c)), (3, .ref (Λ.2.2.1 629))] rfl (by decide) 23 rfl ?_
      refine fo_iconst C dL_medianByCounting_23 (nI 3) ki_3 24 rfl ?_
      exact fin dL_medianByCounting_24 rfl (Nat.le_of_ble_eq_true rfl) (Nat.le_of_ble_eq_true rfl) (⟨by rw [fg_nl_3 hk hc1 hc2 hc3], rfl, rfl, fw_j0 (by rw [fg_nl_3 hk hc1 hc2 hc3]; decide)⟩)
  obtain ⟨k, hk, rfl, c, hc1, hc2, rfl, rfl, z9⟩ := p6
  obtain ⟨rfl, rfl, rfl⟩ := fo_sym3 z9
  refine fo_i2l C dL_medianByCounting_8 _ rfl 9 rfl ?_
  refine fo_last C dL_medianByCounting_9 (by decide : fo_k 629 = 24) (by rw [(show fo_n 629 = 1 from rfl)]; omega) 10 rfl ?_
  refine fo_goto C dL_medianByCounting_10 25 (by decide) ?_
  refine fo_iconst C dL_medianByCounting_25 (nI 0) ki_0 26 rfl ?_
  exact fin dL_medianByCounting_26 rfl (Nat.le_of_ble_eq_true rfl) (Nat.le_of_ble_eq_true rfl) (⟨by rw [fg_nl_t hk hc1 (Nat.le_trans hc2 (hn30 k hk)) hc2], rfl, rfl, fw_j1 (by rw [fg_nl_t hk hc1 (Nat.le_trans hc2 (hn30 k hk)) hc2])⟩)
set_option maxRecDepth 10000 in
set_option maxHeartbeats 4000000 in
theorem mL_smoothed {l : Launch} {Λ : fo_Lt} {I : fo_Mi} {D : fo_Md} {J : fo_Mj} {X : fo_Mi} (hfl : l.stackTraces = false) {np lim : Nat} {kd par n : Nat → Nat} {v : Nat → Nat → Nat} {x z : Int32} (hf : fs_F I D 0 np lim kd par n v) : fw_i l yL_smoothed cL_smoothed 5 9 154 2 12 [(0, 9, 12, 21), (0, 9, 16, 13), (0, 9, 20, 36)] Λ [.ref (Λ.2.2.1 605), .int (x), .int (z), .ref (Λ.2.2.1 630)] I D J X ((fun r I' D' J' X' => r = nI (fg_sm n x z FP.dconst0 (fun k c => fp_lev (v k) c (n k - 1))).1 ∧ I' = I ∧ J' = J ∧ ∃ dd, D' = fo_r D 630 dd ∧ (nI (fg_sm n x z FP.dconst0 (fun k c => fp_lev (v k) c (n k - 1))).1 = 0 → dd 0 = (fg_sm n x z FP.dconst0 (fun k c => fp_lev (v k) c (n k - 1))).2))) := by
  obtain ⟨hS, hP, hC, hnp, hlim, h8, hl1, hl9, hn30⟩ := hf.now
  refine fo_sw (by decide) [(0, .ref (Λ.2.2.1 605)), (1, .int (x)), (2, .int (z)), (3, .ref (Λ.2.2.1 630))] rfl (Nat.le_of_ble_eq_true rfl) (fun K C tb fin => ?_)
  refine fo_aload_n C dL_smoothed_0 3 rfl rfl 1 rfl ?_
  refine fo_iconst C dL_smoothed_1 (nI 0) ki_0 2 rfl ?_
  refine fo_aload_n C dL_smoothed_2 0 rfl rfl 3 rfl ?_
  refine fo_iload_n C dL_smoothed_3 1 rfl rfl 4 rfl ?_
  refine fo_iload_n C dL_smoothed_4 2 rfl rfl 5 rfl ?_
  refine fo_yvd C dL_smoothed_5 (mX6_smoothed hfl (x := x) (z := z) hf) lv_L_54 (by decide : fo_k 605 = 8) rfl (by decide) rfl ⟨Nat.le_of_ble_eq_true rfl, Nat.le_of_ble_eq_true rfl⟩ ⟨Nat.le_of_ble_eq_true rfl, Nat.le_of_ble_eq_true rfl⟩ [.int (nI 0), .ref (Λ.2.2.1 630)] rfl (Nat.le_of_ble_eq_true rfl) 8 rfl (fun E I9 D9 J9 X9 h9 => ?_) (fun r1 I2 D3 J4 X5 p6 => ?_)
  · obtain ⟨h8, z9⟩ := h9
    obtain ⟨rfl, rfl, rfl⟩ := fo_sym3 z9
    simp only [fo_el, or_false] at h8
    rcases h8 with ⟨rfl, hx⟩ | ⟨rfl, ⟨k, hk, rfl, hz⟩⟩ | ⟨rfl, ⟨k, hk, rfl, c, hc1, hc2, rfl, hc3⟩⟩
    · refine fo_ca C tb [] (0, 9, 12, 21) [(0, 9, 16, 13), (0, 9, 20, 36)] rfl (by decide) (fun _ h => absurd h List.not_mem_nil) (by decide) (by decide) fh_21 12 rfl (fun q9 => ?_)
      refine fo_astore C dL_smoothed_12 [(4, .ref q9), (0, .ref (Λ.2.2.1 605)), (1, .int (x)), (2, .int (z)), (3, .ref (Λ.2.2.1 630))] rfl (by decide) 14 rfl ?_
      refine fo_iconst C dL_smoothed_14 (nI 1) ki_1 15 rfl ?_
      exact fin dL_smoothed_15 rfl (Nat.le_of_ble_eq_true rfl) (Nat.le_of_ble_eq_true rfl) (⟨by rw [fg_sm_1 hx], rfl, rfl, fw_d0 (by rw [fg_sm_1 hx]; decide)⟩)
    · refine fo_ca C tb [(0, 9, 12, 21)] (0, 9, 16, 13) [(0, 9, 20, 36)] rfl (by decide) (List.forall_mem_cons.mpr ⟨⟨by decide, _, fh_21, by decide, by decide⟩, fun _ h => absurd h List.not_mem_nil⟩) (by decide) (by decide) fh_13 16 rfl (fun q9 => ?_)
      refine fo_astore C dL_smoothed_16 [(4, .ref q9), (0, .ref (Λ.2.2.1 605)), (1, .int (nI k)), (2, .int (z)), (3, .ref (Λ.2.2.1 630))] rfl (by decide) 18 rfl ?_
      refine fo_iconst C dL_smoothed_18 (nI 2) ki_2 19 rfl ?_
      exact fin dL_smoothed_19 rfl (Nat.le_of_ble_eq_true rfl) (Nat.le_of_ble_eq_true rfl) (⟨by rw [fg_sm_2 hk hz], rfl, rfl, fw_d0 (by rw [fg_sm_2 hk hz]; decide)⟩)
    · refine fo_ca C tb [(0, 9, 12, 21), (0, 9, 16, 13)] (0, 9, 20, 36) [] rfl (by decide) (List.forall_mem_cons.mpr ⟨⟨by decide, _, fh_21, by decide, by decide⟩, List.forall_mem_cons.mpr ⟨⟨by decide, _, fh_13, by decide, by decide⟩, fun _ h => absurd h List.not_mem_nil⟩⟩) (by decide) (by decide) fh_36 20 rfl (fun q9 => ?_)
      refine fo_astore C dL_smoothed_20 [(4, .ref q9), (0, .ref (Λ.2.2.1 605)), (1, .int (nI k)), (2, .int (nI c)), (3, .ref (Λ.2.2.1 630))] rfl (by decide) 22 rfl ?_
      refine fo_iconst C dL_smoothed_22 (nI 3) ki_3 23 rfl ?_
      exact fin dL_smoothed_23 rfl (Nat.le_of_ble_eq_true rfl) (Nat.le_of_ble_eq_true rfl) (⟨by rw [fg_sm_3 hk hc1 hc2 hc3], rfl, rfl, fw_d0 (by rw [fg_sm_3 hk hc1 hc2 hc3]; decide)⟩)
  obtain ⟨k, hk, rfl, c, hc1, hc2, rfl, hc3, rfl, z9⟩ := p6
  obtain ⟨rfl, rfl, rfl⟩ := fo_sym3 z9
  refine fo_dast C dL_smoothed_8 (by decide : fo_k 630 = 22) (by rw [(show fo_n 630 = 1 from rfl)]; omega) 9 rfl ?_
  refine fo_goto C dL_smoothed_9 24 (by decide) ?_
  refine fo_iconst C dL_smoothed_24 (nI 0) ki_0 25 rfl ?_
  exact fin dL_smoothed_25 rfl (Nat.le_of_ble_eq_true rfl) (Nat.le_of_ble_eq_true rfl) (⟨by rw [fg_sm_t hk hc1 hc2 hc3], rfl, rfl, fw_d1 (by rw [fg_sm_t hk hc1 hc2 hc3])⟩)
set_option maxRecDepth 10000 in
set_option maxHeartbeats 4000000 in
theorem mL_isOutlier {l : Launch} {Λ : fo_Lt} {I : fo_Mi} {D : fo_Md} {J : fo_Mj} {X : fo_Mi} (hfl : l.stackTraces = false) {np lim : Nat} {kd par n : Nat → Nat} {v : Nat → Nat → Nat} {x z : Int32} (hf : fs_F I D 0 np lim kd par n v) : fw_i l yL_isOutlier cL_isOutlier 5 9 154 2 12 [(0, 17, 20, 21), (0, 17, 24, 36)] Λ [.ref (Λ.2.2.1 605), .int (x), .int (z), .ref (Λ.2.2.1 629)] I D J X ((fun r I' D' J' X' => r = nI (fg_nv n x z (fo_b false) (fun k d => fo_b (fp_off (v k) lim d))).1 ∧ I' = I ∧ D' = D ∧ ∃ jj, J' = fo_r J 629 jj ∧ (nI (fg_nv n x z (fo_b false) (fun k d => fo_b (fp_off (v k) lim d))).1 = 0 → jj 0 = (fg_nv n x z (fo_b false) (fun k d => fo_b (fp_off (v k) lim d))).2.toInt64))) := by
  obtain ⟨hS, hP, hC, hnp, hlim, h8, hl1, hl9, hn30⟩ := hf.now
  refine fo_sw (by decide) [(0, .ref (Λ.2.2.1 605)), (1, .int (x)), (2, .int (z)), (3, .ref (Λ.2.2.1 629))] rfl (Nat.le_of_ble_eq_true rfl) (fun K C tb fin => ?_)
  refine fo_aload_n C dL_isOutlier_0 3 rfl rfl 1 rfl ?_
  refine fo_iconst C dL_isOutlier_1 (nI 0) ki_0 2 rfl ?_
  refine fo_aload_n C dL_isOutlier_2 0 rfl rfl 3 rfl ?_
  refine fo_iload_n C dL_isOutlier_3 1 rfl rfl 4 rfl ?_
  refine fo_iload_n C dL_isOutlier_4 2 rfl rfl 5 rfl ?_
  refine fo_yvi C dL_isOutlier_5 (mX6_isOutlier hfl (x := x) (z := z) hf) lv_L_57 (by decide : fo_k 605 = 8) rfl (by decide) rfl ⟨Nat.le_of_ble_eq_true rfl, Nat.le_of_ble_eq_true rfl⟩ ⟨Nat.le_of_ble_eq_true rfl, Nat.le_of_ble_eq_true rfl⟩ [.int (nI 0), .ref (Λ.2.2.1 629)] rfl (Nat.le_of_ble_eq_true rfl) 8 rfl (fun E I9 D9 J9 X9 h9 => ?_) (fun r1 I2 D3 J4 X5 p6 => ?_)
  · obtain ⟨h8, z9⟩ := h9
    obtain ⟨rfl, rfl, rfl⟩ := fo_sym3 z9
    simp only [fo_el, or_false] at h8
    rcases h8 with ⟨rfl, hx⟩ | ⟨rfl, ⟨k, hk, rfl, hz⟩⟩
    · refine fo_ca C tb [] (0, 17, 20, 21) [(0, 17, 24, 36)] rfl (by decide) (fun _ h => absurd h List.not_mem_nil) (by decide) (by decide) fh_21 20 rfl (fun q9 => ?_)
      refine fo_astore C dL_isOutlier_20 [(4, .ref q9), (0, .ref (Λ.2.2.1 605)), (1, .int (x)), (2, .int (z)), (3, .ref (Λ.2.2.1 629))] rfl (by decide) 22 rfl ?_
      refine fo_iconst C dL_isOutlier_22 (nI 1) ki_1 23 rfl ?_
      exact fin dL_isOutlier_23 rfl (Nat.le_of_ble_eq_true rfl) (Nat.le_of_ble_eq_true rfl) (⟨by rw [fg_nv_1 hx], rfl, rfl, fw_j0 (by rw [fg_nv_1 hx]; decide)⟩)
    · refine fo_ca C tb [(0, 17, 20, 21)] (0, 17, 24, 36) [] rfl (by decide) (List.forall_mem_cons.mpr ⟨⟨by decide, _, fh_21, by decide, by decide⟩, fun _ h => absurd h List.not_mem_nil⟩) (by decide) (by decide) fh_36 24 rfl (fun q9 => ?_)
      refine fo_astore C dL_isOutlier_24 [(4, .ref q9), (0, .ref (Λ.2.2.1 605)), (1, .int (nI k)), (2, .int (z)), (3, .ref (Λ.2.2.1 629))] rfl (by decide) 26 rfl ?_
      refine fo_iconst C dL_isOutlier_26 (nI 2) ki_2 27 rfl ?_
      exact fin dL_isOutlier_27 rfl (Nat.le_of_ble_eq_true rfl) (Nat.le_of_ble_eq_true rfl) (⟨by rw [fg_nv_2 hk hz], rfl, rfl, fw_j0 (by rw [fg_nv_2 hk hz]; decide)⟩)
  obtain ⟨k, hk, rfl, d, hd, rfl, rfl, z9⟩ := p6
  obtain ⟨rfl, rfl, rfl⟩ := fo_sym3 z9
  refine fo_bif_eq C dL_isOutlier_8 15 (by decide) 11 rfl (fun c7 => ?_) (fun c7 => ?_)
  · refine fo_lconst C dL_isOutlier_15 0 (by decide) 16 rfl ?_
    refine fo_last C dL_isOutlier_16 (by decide : fo_k 629 = 24) (by rw [(show fo_n 629 = 1 from rfl)]; omega) 17 rfl ?_
    refine fo_goto C dL_isOutlier_17 28 (by decide) ?_
    refine fo_iconst C dL_isOutlier_28 (nI 0) ki_0 29 rfl ?_
    exact fin dL_isOutlier_29 rfl (Nat.le_of_ble_eq_true rfl) (Nat.le_of_ble_eq_true rfl) (⟨by rw [fg_nv_t hk hd (hn30 k hk)], rfl, rfl, fw_j1 (by rw [fg_nv_t hk hd (hn30 k hk)]; show _ = (fo_b _).toInt64; rw [c7]; rfl)⟩)
  · refine fo_lconst C dL_isOutlier_11 1 (by decide) 12 rfl ?_
    refine fo_goto C dL_isOutlier_12 16 (by decide) ?_
    refine fo_last C dL_isOutlier_16 (by decide : fo_k 629 = 24) (by rw [(show fo_n 629 = 1 from rfl)]; omega) 17 rfl ?_
    refine fo_goto C dL_isOutlier_17 28 (by decide) ?_
    refine fo_iconst C dL_isOutlier_28 (nI 0) ki_0 29 rfl ?_
    exact fin dL_isOutlier_29 rfl (Nat.le_of_ble_eq_true rfl) (Nat.le_of_ble_eq_true rfl) (⟨by rw [fg_nv_t hk hd (hn30 k hk)], rfl, rfl, fw_j1 (by rw [fg_nv_t hk hd (hn30 k hk)]; show _ = (fo_b _).toInt64; rw [c7]; rfl)⟩)
set_option maxRecDepth 10000 in
set_option maxHeartbeats 4000000 in
theorem mL_outliers {l : Launch} {Λ : fo_Lt} {I : fo_Mi} {D : fo_Md} {J : fo_Mj} {X : fo_Mi} (hfl : l.stackTraces = false) {np lim : Nat} {kd par n : Nat → Nat} {v : Nat → Nat → Nat} {x : Int32} (hf : fs_F I D 0 np lim kd par n v) : fw_i l yL_outliers cL_outliers 4 9 152 1 6 [(0, 9, 12, 21)] Λ [.ref (Λ.2.2.1 605), .int (x), .ref (Λ.2.2.1 629)] I D J X ((fun r I' D' J' X' => r = nI (fg_se x (nI 0) (fun k => (0, nI (fp_cnt (fp_off (v k) lim) (n k))))).1 ∧ I' = I ∧ D' = D ∧ ∃ jj, J' = fo_r J 629 jj ∧ (nI (fg_se x (nI 0) (fun k => (0, nI (fp_cnt (fp_off (v k) lim) (n k))))).1 = 0 → jj 0 = (fg_se x (nI 0) (fun k => (0, nI (fp_cnt (fp_off (v k) lim) (n k))))).2.toInt64))) := by
  obtain ⟨hS, hP, hC, hnp, hlim, h8, hl1, hl9, hn30⟩ := hf.now
  refine fo_sw (by decide) [(0, .ref (Λ.2.2.1 605)), (1, .int (x)), (2, .ref (Λ.2.2.1 629))] rfl (Nat.le_of_ble_eq_true rfl) (fun K C tb fin => ?_)
  refine fo_aload_n C dL_outliers_0 2 rfl rfl 1 rfl ?_
  refine fo_iconst C dL_outliers_1 (nI 0) ki_0 2 rfl ?_
  refine fo_aload_n C dL_outliers_2 0 rfl rfl 3 rfl ?_
  refine fo_iload_n C dL_outliers_3 1 rfl rfl 4 rfl ?_
  refine fo_yvi C dL_outliers_4 (mX6_outliers hfl (x := x) hf) lv_L_61 (by decide : fo_k 605 = 8) rfl (by decide) rfl ⟨Nat.le_of_ble_eq_true rfl, Nat.le_of_ble_eq_true rfl⟩ ⟨Nat.le_of_ble_eq_true rfl, Nat.le_of_ble_eq_true rfl⟩ [.int (nI 0), .ref (Λ.2.2.1 629)] rfl (Nat.le_of_ble_eq_true rfl) 7 rfl (fun E I9 D9 J9 X9 h9 => ?_) (fun r1 I2 D3 J4 X5 p6 => ?_)
  · obtain ⟨h8, z9⟩ := h9
    obtain ⟨rfl, rfl, rfl⟩ := fo_sym3 z9
    simp only [fo_el, or_false] at h8
    rcases h8 with ⟨rfl, hx⟩
    · refine fo_ca C tb [] (0, 9, 12, 21) [] rfl (by decide) (fun _ h => absurd h List.not_mem_nil) (by decide) (by decide) fh_21 12 rfl (fun q9 => ?_)
      refine fo_astore_n C dL_outliers_12 rfl [(3, .ref q9), (0, .ref (Λ.2.2.1 605)), (1, .int (x)), (2, .ref (Λ.2.2.1 629))] rfl (by decide) 13 rfl ?_
      refine fo_iconst C dL_outliers_13 (nI 1) ki_1 14 rfl ?_
      exact fin dL_outliers_14 rfl (Nat.le_of_ble_eq_true rfl) (Nat.le_of_ble_eq_true rfl) (⟨by rw [fg_se_f hx], rfl, rfl, fw_j0 (by rw [fg_se_f hx]; decide)⟩)
  obtain ⟨k, hk, rfl, rfl, z9⟩ := p6
  obtain ⟨rfl, rfl, rfl⟩ := fo_sym3 z9
  refine fo_i2l C dL_outliers_7 _ rfl 8 rfl ?_
  refine fo_last C dL_outliers_8 (by decide : fo_k 629 = 24) (by rw [(show fo_n 629 = 1 from rfl)]; omega) 9 rfl ?_
  refine fo_goto C dL_outliers_9 15 (by decide) ?_
  refine fo_iconst C dL_outliers_15 (nI 0) ki_0 16 rfl ?_
  exact fin dL_outliers_16 rfl (Nat.le_of_ble_eq_true rfl) (Nat.le_of_ble_eq_true rfl) (⟨by rw [fg_se_t hk], rfl, rfl, fw_j1 (by rw [fg_se_t hk])⟩)
set_option maxRecDepth 10000 in
set_option maxHeartbeats 4000000 in
theorem mL_longestRise {l : Launch} {Λ : fo_Lt} {I : fo_Mi} {D : fo_Md} {J : fo_Mj} {X : fo_Mi} (hfl : l.stackTraces = false) {np lim : Nat} {kd par n : Nat → Nat} {v : Nat → Nat → Nat} {x : Int32} (hf : fs_F I D 0 np lim kd par n v) : fw_i l yL_longestRise cL_longestRise 4 9 152 1 6 [(0, 9, 12, 21)] Λ [.ref (Λ.2.2.1 605), .int (x), .ref (Λ.2.2.1 629)] I D J X ((fun r I' D' J' X' => r = nI (fg_se x (nI 0) (fun k => (0, nI (fp_best (v k) (n k))))).1 ∧ I' = I ∧ D' = D ∧ ∃ jj, J' = fo_r J 629 jj ∧ (nI (fg_se x (nI 0) (fun k => (0, nI (fp_best (v k) (n k))))).1 = 0 → jj 0 = (fg_se x (nI 0) (fun k => (0, nI (fp_best (v k) (n k))))).2.toInt64))) := by
  obtain ⟨hS, hP, hC, hnp, hlim, h8, hl1, hl9, hn30⟩ := hf.now
  refine fo_sw (by decide) [(0, .ref (Λ.2.2.1 605)), (1, .int (x)), (2, .ref (Λ.2.2.1 629))] rfl (Nat.le_of_ble_eq_true rfl) (fun K C tb fin => ?_)
  refine fo_aload_n C dL_longestRise_0 2 rfl rfl 1 rfl ?_
  refine fo_iconst C dL_longestRise_1 (nI 0) ki_0 2 rfl ?_
  refine fo_aload_n C dL_longestRise_2 0 rfl rfl 3 rfl ?_
  refine fo_iload_n C dL_longestRise_3 1 rfl rfl 4 rfl ?_
  refine fo_yvi C dL_longestRise_4 (mX6_longestRise hfl (x := x) hf) lv_L_64 (by decide : fo_k 605 = 8) rfl (by decide) rfl ⟨Nat.le_of_ble_eq_true rfl, Nat.le_of_ble_eq_true rfl⟩ ⟨Nat.le_of_ble_eq_true rfl, Nat.le_of_ble_eq_true rfl⟩ [.int (nI 0), .ref (Λ.2.2.1 629)] rfl (Nat.le_of_ble_eq_true rfl) 7 rfl (fun E I9 D9 J9 X9 h9 => ?_) (fun r1 I2 D3 J4 X5 p6 => ?_)
  · obtain ⟨h8, z9⟩ := h9
    obtain ⟨rfl, rfl, rfl⟩ := fo_sym3 z9
    simp only [fo_el, or_false] at h8
    rcases h8 with ⟨rfl, hx⟩
    · refine fo_ca C tb [] (0, 9, 12, 21) [] rfl (by decide) (fun _ h => absurd h List.not_mem_nil) (by decide) (by decide) fh_21 12 rfl (fun q9 => ?_)
      refine fo_astore_n C dL_longestRise_12 rfl [(3, .ref q9), (0, .ref (Λ.2.2.1 605)), (1, .int (x)), (2, .ref (Λ.2.2.1 629))] rfl (by decide) 13 rfl ?_
      refine fo_iconst C dL_longestRise_13 (nI 1) ki_1 14 rfl ?_
      exact fin dL_longestRise_14 rfl (Nat.le_of_ble_eq_true rfl) (Nat.le_of_ble_eq_true rfl) (⟨by rw [fg_se_f hx], rfl, rfl, fw_j0 (by rw [fg_se_f hx]; decide)⟩)
  obtain ⟨k, hk, rfl, rfl, z9⟩ := p6
  obtain ⟨rfl, rfl, rfl⟩ := fo_sym3 z9
  refine fo_i2l C dL_longestRise_7 _ rfl 8 rfl ?_
  refine fo_last C dL_longestRise_8 (by decide : fo_k 629 = 24) (by rw [(show fo_n 629 = 1 from rfl)]; omega) 9 rfl ?_
  refine fo_goto C dL_longestRise_9 15 (by decide) ?_
  refine fo_iconst C dL_longestRise_15 (nI 0) ki_0 16 rfl ?_
  exact fin dL_longestRise_16 rfl (Nat.le_of_ble_eq_true rfl) (Nat.le_of_ble_eq_true rfl) (⟨by rw [fg_se_t hk], rfl, rfl, fw_j1 (by rw [fg_se_t hk])⟩)
set_option maxRecDepth 10000 in
set_option maxHeartbeats 4000000 in
theorem mL_valuesBetween {l : Launch} {Λ : fo_Lt} {I : fo_Mi} {D : fo_Md} {J : fo_Mj} {X : fo_Mi} (hfl : l.stackTraces = false) {np lim : Nat} {kd par n : Nat → Nat} {v : Nat → Nat → Nat} {x y z : Int32} (hf : fs_F I D 0 np lim kd par n v) : fw_i l yL_valuesBetween cL_valuesBetween 6 9 154 1 6 [(0, 12, 15, 21)] Λ [.ref (Λ.2.2.1 605), .int (x), .int (y), .int (z), .ref (Λ.2.2.1 629)] I D J X ((fun r I' D' J' X' => r = nI (fg_se x (nI 0) (fun k => (0, nI (fp_cnt (fun o => decide (¬ nI (v k o) < y ∧ ¬ z < nI (v k o))) (n k))))).1 ∧ I' = I ∧ D' = D ∧ ∃ jj, J' = fo_r J 629 jj ∧ (nI (fg_se x (nI 0) (fun k => (0, nI (fp_cnt (fun o => decide (¬ nI (v k o) < y ∧ ¬ z < nI (v k o))) (n k))))).1 = 0 → jj 0 = (fg_se x (nI 0) (fun k => (0, nI (fp_cnt (fun o => decide (¬ nI (v k o) < y ∧ ¬ z < nI (v k o))) (n k))))).2.toInt64))) := by
  obtain ⟨hS, hP, hC, hnp, hlim, h8, hl1, hl9, hn30⟩ := hf.now
  refine fo_sw (by decide) [(0, .ref (Λ.2.2.1 605)), (1, .int (x)), (2, .int (y)), (3, .int (z)), (4, .ref (Λ.2.2.1 629))] rfl (Nat.le_of_ble_eq_true rfl) (fun K C tb fin => ?_)
  refine fo_aload C dL_valuesBetween_0 4 rfl 2 rfl ?_
  refine fo_iconst C dL_valuesBetween_2 (nI 0) ki_0 3 rfl ?_
  refine fo_aload_n C dL_valuesBetween_3 0 rfl rfl 4 rfl ?_
  refine fo_iload_n C dL_valuesBetween_4 1 rfl rfl 5 rfl ?_
  refine fo_iload_n C dL_valuesBetween_5 2 rfl rfl 6 rfl ?_
  refine fo_iload_n C dL_valuesBetween_6 3 rfl rfl 7 rfl ?_
  refine fo_yvi C dL_valuesBetween_7 (mX6_valuesBetween hfl (x := x) (y := y) (z := z) hf) lv_L_67 (by decide : fo_k 605 = 8) rfl (by decide) rfl ⟨Nat.le_of_ble_eq_true rfl, Nat.le_of_ble_eq_true rfl⟩ ⟨Nat.le_of_ble_eq_true rfl, Nat.le_of_ble_eq_true rfl⟩ [.int (nI 0), .ref (Λ.2.2.1 629)] rfl (Nat.le_of_ble_eq_true rfl) 10 rfl (fun E I9 D9 J9 X9 h9 => ?_) (fun r1 I2 D3 J4 X5 p6 => ?_)
  · obtain ⟨h8, z9⟩ := h9
    obtain ⟨rfl, rfl, rfl⟩ := fo_sym3 z9
    simp only [fo_el, or_false] at h8
    rcases h8 with ⟨rfl, hx⟩
    · refine fo_ca C tb [] (0, 12, 15, 21) [] rfl (by decide) (fun _ h => absurd h List.not_mem_nil) (by decide) (by decide) fh_21 15 rfl (fun q9 => ?_)
      refine fo_astore C dL_valuesBetween_15 [(5, .ref q9), (0, .ref (Λ.2.2.1 605)), (1, .int (x)), (2, .int (y)), (3, .int (z)), (4, .ref (Λ.2.2.1 629))] rfl (by decide) 17 rfl ?_
      refine fo_iconst C dL_valuesBetween_17 (nI 1) ki_1 18 rfl ?_
      exact fin dL_valuesBetween_18 rfl (Nat.le_of_ble_eq_true rfl) (Nat.le_of_ble_eq_true rfl) (⟨by rw [fg_se_f hx], rfl, rfl, fw_j0 (by rw [fg_se_f hx]; decide)⟩)
  obtain ⟨k, hk, rfl, rfl, z9⟩ := p6
  obtain ⟨rfl, rfl, rfl⟩ := fo_sym3 z9
  refine fo_i2l C dL_valuesBetween_10 _ rfl 11 rfl ?_
  refine fo_last C dL_valuesBetween_11 (by decide : fo_k 629 = 24) (by rw [(show fo_n 629 = 1 from rfl)]; omega) 12 rfl ?_
  refine fo_goto C dL_valuesBetween_12 19 (by decide) ?_
  refine fo_iconst C dL_valuesBetween_19 (nI 0) ki_0 20 rfl ?_
  exact fin dL_valuesBetween_20 rfl (Nat.le_of_ble_eq_true rfl) (Nat.le_of_ble_eq_true rfl) (⟨by rw [fg_se_t hk], rfl, rfl, fw_j1 (by rw [fg_se_t hk])⟩)
set_option maxRecDepth 10000 in
set_option maxHeartbeats 4000000 in
theorem mL_kind {l : Launch} {Λ : fo_Lt} {I : fo_Mi} {D : fo_Md} {J : fo_Mj} {X : fo_Mi} (hfl : l.stackTraces = false) {np lim : Nat} {kd par n : Nat → Nat} {v : Nat → Nat → Nat} {y : Int32} (hf : fs_F I D 0 np lim kd par n v) : fw_i l yL_kind cL_kind 4 8 132 1 6 [(0, 9, 12, 21)] Λ [.ref (Λ.2.2.1 605), .int (y), .ref (Λ.2.2.1 629)] I D J X ((fun r I' D' J' X' => r = nI (fg_pr np y (nI 32) (fun p => (0, nI (kd p)))).1 ∧ I' = I ∧ D' = D ∧ ∃ jj, J' = fo_r J 629 jj ∧ (nI (fg_pr np y (nI 32) (fun p => (0, nI (kd p)))).1 = 0 → jj 0 = (fg_pr np y (nI 32) (fun p => (0, nI (kd p)))).2.toInt64))) := by
  obtain ⟨hS, hP, hC, hnp, hlim, h8, hl1, hl9, hn30⟩ := hf.now
  refine fo_sw (by decide) [(0, .ref (Λ.2.2.1 605)), (1, .int (y)), (2, .ref (Λ.2.2.1 629))] rfl (Nat.le_of_ble_eq_true rfl) (fun K C tb fin => ?_)
  refine fo_aload_n C dL_kind_0 2 rfl rfl 1 rfl ?_
  refine fo_iconst C dL_kind_1 (nI 0) ki_0 2 rfl ?_
  refine fo_aload_n C dL_kind_2 0 rfl rfl 3 rfl ?_
  refine fo_iload_n C dL_kind_3 1 rfl rfl 4 rfl ?_
  refine fo_yvi C dL_kind_4 (mX6_kind hfl (y := y) hf) lv_L_71 (by decide : fo_k 605 = 8) rfl (by decide) rfl ⟨Nat.le_of_ble_eq_true rfl, Nat.le_of_ble_eq_true rfl⟩ ⟨Nat.le_of_ble_eq_true rfl, Nat.le_of_ble_eq_true rfl⟩ [.int (nI 0), .ref (Λ.2.2.1 629)] rfl (Nat.le_of_ble_eq_true rfl) 7 rfl (fun E I9 D9 J9 X9 h9 => ?_) (fun r1 I2 D3 J4 X5 p6 => ?_)
  · obtain ⟨h8, z9⟩ := h9
    obtain ⟨rfl, rfl, rfl⟩ := fo_sym3 z9
    simp only [fo_el, or_false] at h8
    rcases h8 with ⟨rfl, hy⟩
    · refine fo_ca C tb [] (0, 9, 12, 21) [] rfl (by decide) (fun _ h => absurd h List.not_mem_nil) (by decide) (by decide) fh_21 12 rfl (fun q9 => ?_)
      refine fo_astore_n C dL_kind_12 rfl [(3, .ref q9), (0, .ref (Λ.2.2.1 605)), (1, .int (y)), (2, .ref (Λ.2.2.1 629))] rfl (by decide) 13 rfl ?_
      refine fo_iconst C dL_kind_13 (nI 1) ki_1 14 rfl ?_
      exact fin dL_kind_14 rfl (Nat.le_of_ble_eq_true rfl) (Nat.le_of_ble_eq_true rfl) (⟨by rw [fg_pr_f hy], rfl, rfl, fw_j0 (by rw [fg_pr_f hy]; decide)⟩)
  obtain ⟨p, hp, rfl, rfl, z9⟩ := p6
  obtain ⟨rfl, rfl, rfl⟩ := fo_sym3 z9
  refine fo_i2l C dL_kind_7 _ rfl 8 rfl ?_
  refine fo_last C dL_kind_8 (by decide : fo_k 629 = 24) (by rw [(show fo_n 629 = 1 from rfl)]; omega) 9 rfl ?_
  refine fo_goto C dL_kind_9 15 (by decide) ?_
  refine fo_iconst C dL_kind_15 (nI 0) ki_0 16 rfl ?_
  exact fin dL_kind_16 rfl (Nat.le_of_ble_eq_true rfl) (Nat.le_of_ble_eq_true rfl) (⟨by rw [fg_pr_t hp h8], rfl, rfl, fw_j1 (by rw [fg_pr_t hp h8])⟩)
set_option maxRecDepth 10000 in
set_option maxHeartbeats 4000000 in
theorem mL_parameter {l : Launch} {Λ : fo_Lt} {I : fo_Mi} {D : fo_Md} {J : fo_Mj} {X : fo_Mi} (hfl : l.stackTraces = false) {np lim : Nat} {kd par n : Nat → Nat} {v : Nat → Nat → Nat} {y : Int32} (hf : fs_F I D 0 np lim kd par n v) : fw_i l yL_parameter cL_parameter 4 8 132 1 6 [(0, 9, 12, 21)] Λ [.ref (Λ.2.2.1 605), .int (y), .ref (Λ.2.2.1 629)] I D J X ((fun r I' D' J' X' => r = nI (fg_pr np y (nI 0) (fun p => (0, nI (par p)))).1 ∧ I' = I ∧ D' = D ∧ ∃ jj, J' = fo_r J 629 jj ∧ (nI (fg_pr np y (nI 0) (fun p => (0, nI (par p)))).1 = 0 → jj 0 = (fg_pr np y (nI 0) (fun p => (0, nI (par p)))).2.toInt64))) := by
  obtain ⟨hS, hP, hC, hnp, hlim, h8, hl1, hl9, hn30⟩ := hf.now
  refine fo_sw (by decide) [(0, .ref (Λ.2.2.1 605)), (1, .int (y)), (2, .ref (Λ.2.2.1 629))] rfl (Nat.le_of_ble_eq_true rfl) (fun K C tb fin => ?_)
  refine fo_aload_n C dL_parameter_0 2 rfl rfl 1 rfl ?_
  refine fo_iconst C dL_parameter_1 (nI 0) ki_0 2 rfl ?_
  refine fo_aload_n C dL_parameter_2 0 rfl rfl 3 rfl ?_
  refine fo_iload_n C dL_parameter_3 1 rfl rfl 4 rfl ?_
  refine fo_yvi C dL_parameter_4 (mX6_parameter hfl (y := y) hf) lv_L_75 (by decide : fo_k 605 = 8) rfl (by decide) rfl ⟨Nat.le_of_ble_eq_true rfl, Nat.le_of_ble_eq_true rfl⟩ ⟨Nat.le_of_ble_eq_true rfl, Nat.le_of_ble_eq_true rfl⟩ [.int (nI 0), .ref (Λ.2.2.1 629)] rfl (Nat.le_of_ble_eq_true rfl) 7 rfl (fun E I9 D9 J9 X9 h9 => ?_) (fun r1 I2 D3 J4 X5 p6 => ?_)
  · obtain ⟨h8, z9⟩ := h9
    obtain ⟨rfl, rfl, rfl⟩ := fo_sym3 z9
    simp only [fo_el, or_false] at h8
    rcases h8 with ⟨rfl, hy⟩
    · refine fo_ca C tb [] (0, 9, 12, 21) [] rfl (by decide) (fun _ h => absurd h List.not_mem_nil) (by decide) (by decide) fh_21 12 rfl (fun q9 => ?_)
      refine fo_astore_n C dL_parameter_12 rfl [(3, .ref q9), (0, .ref (Λ.2.2.1 605)), (1, .int (y)), (2, .ref (Λ.2.2.1 629))] rfl (by decide) 13 rfl ?_
      refine fo_iconst C dL_parameter_13 (nI 1) ki_1 14 rfl ?_
      exact fin dL_parameter_14 rfl (Nat.le_of_ble_eq_true rfl) (Nat.le_of_ble_eq_true rfl) (⟨by rw [fg_pr_f hy], rfl, rfl, fw_j0 (by rw [fg_pr_f hy]; decide)⟩)
  obtain ⟨p, hp, rfl, rfl, z9⟩ := p6
  obtain ⟨rfl, rfl, rfl⟩ := fo_sym3 z9
  refine fo_i2l C dL_parameter_7 _ rfl 8 rfl ?_
  refine fo_last C dL_parameter_8 (by decide : fo_k 629 = 24) (by rw [(show fo_n 629 = 1 from rfl)]; omega) 9 rfl ?_
  refine fo_goto C dL_parameter_9 15 (by decide) ?_
  refine fo_iconst C dL_parameter_15 (nI 0) ki_0 16 rfl ?_
  exact fin dL_parameter_16 rfl (Nat.le_of_ble_eq_true rfl) (Nat.le_of_ble_eq_true rfl) (⟨by rw [fg_pr_t hp h8], rfl, rfl, fw_j1 (by rw [fg_pr_t hp h8])⟩)
set_option maxRecDepth 10000 in
set_option maxHeartbeats 4000000 in
theorem mL_hasForecast {l : Launch} {Λ : fo_Lt} {I : fo_Mi} {D : fo_Md} {J : fo_Mj} {X : fo_Mi} (hfl : l.stackTraces = false) {np lim : Nat} {kd par n : Nat → Nat} {v : Nat → Nat → Nat} {y x : Int32} (hf : fs_F I D 0 np lim kd par n v) : fw_i l yL_hasForecast cL_hasForecast 5 9 154 2 12 [(0, 17, 20, 21)] Λ [.ref (Λ.2.2.1 605), .int (y), .int (x), .ref (Λ.2.2.1 629)] I D J X ((fun r I' D' J' X' => r = nI (fg_pa np y x (fo_b false) (fun p k => (0, fo_b (decide (fp_need (kd p) (par p) ≤ n k))))).1 ∧ I' = I ∧ D' = D ∧ ∃ jj, J' = fo_r J 629 jj ∧ (nI (fg_pa np y x (fo_b false) (fun p k => (0, fo_b (decide (fp_need (kd p) (par p) ≤ n k))))).1 = 0 → jj 0 = (fg_pa np y x (fo_b false) (fun p k => (0, fo_b (decide (fp_need (kd p) (par p) ≤ n k))))).2.toInt64))) := by
  obtain ⟨hS, hP, hC, hnp, hlim, h8, hl1, hl9, hn30⟩ := hf.now
  refine fo_sw (by decide) [(0, .ref (Λ.2.2.1 605)), (1, .int (y)), (2, .int (x)), (3, .ref (Λ.2.2.1 629))] rfl (Nat.le_of_ble_eq_true rfl) (fun K C tb fin => ?_)
  refine fo_aload_n C dL_hasForecast_0 3 rfl rfl 1 rfl ?_
  refine fo_iconst C dL_hasForecast_1 (nI 0) ki_0 2 rfl ?_
  refine fo_aload_n C dL_hasForecast_2 0 rfl rfl 3 rfl ?_
  refine fo_iload_n C dL_hasForecast_3 1 rfl rfl 4 rfl ?_
  refine fo_iload_n C dL_hasForecast_4 2 rfl rfl 5 rfl ?_
  refine fo_yvi C dL_hasForecast_5 (mX6_hasForecast hfl (y := y) (x := x) hf) lv_L_78 (by decide : fo_k 605 = 8) rfl (by decide) rfl ⟨Nat.le_of_ble_eq_true rfl, Nat.le_of_ble_eq_true rfl⟩ ⟨Nat.le_of_ble_eq_true rfl, Nat.le_of_ble_eq_true rfl⟩ [.int (nI 0), .ref (Λ.2.2.1 629)] rfl (Nat.le_of_ble_eq_true rfl) 8 rfl (fun E I9 D9 J9 X9 h9 => ?_) (fun r1 I2 D3 J4 X5 p6 => ?_)
  · obtain ⟨h8, z9⟩ := h9
    obtain ⟨rfl, rfl, rfl⟩ := fo_sym3 z9
    simp only [fo_el, or_false] at h8
    rcases h8 with ⟨rfl, hy⟩ | ⟨rfl, hx⟩
    · refine fo_ca C tb [] (0, 17, 20, 21) [] rfl (by decide) (fun _ h => absurd h List.not_mem_nil) (by decide) (by decide) fh_21 20 rfl (fun q9 => ?_)
      refine fo_astore C dL_hasForecast_20 [(4, .ref q9), (0, .ref (Λ.2.2.1 605)), (1, .int (y)), (2, .int (x)), (3, .ref (Λ.2.2.1 629))] rfl (by decide) 22 rfl ?_
      refine fo_iconst C dL_hasForecast_22 (nI 1) ki_1 23 rfl ?_
      exact fin dL_hasForecast_23 rfl (Nat.le_of_ble_eq_true rfl) (Nat.le_of_ble_eq_true rfl) (⟨by rw [fg_pa_f (by rw [hy]; rfl)], rfl, rfl, fw_j0 (by rw [fg_pa_f (by rw [hy]; rfl)]; decide)⟩)
    · refine fo_ca C tb [] (0, 17, 20, 21) [] rfl (by decide) (fun _ h => absurd h List.not_mem_nil) (by decide) (by decide) fh_21 20 rfl (fun q9 => ?_)
      refine fo_astore C dL_hasForecast_20 [(4, .ref q9), (0, .ref (Λ.2.2.1 605)), (1, .int (y)), (2, .int (x)), (3, .ref (Λ.2.2.1 629))] rfl (by decide) 22 rfl ?_
      refine fo_iconst C dL_hasForecast_22 (nI 1) ki_1 23 rfl ?_
      exact fin dL_hasForecast_23 rfl (Nat.le_of_ble_eq_true rfl) (Nat.le_of_ble_eq_true rfl) (⟨by rw [fg_pa_f (by rw [hx, Bool.and_false])], rfl, rfl, fw_j0 (by rw [fg_pa_f (by rw [hx, Bool.and_false])]; decide)⟩)
  obtain ⟨p, hp, rfl, k, hk, rfl, rfl, z9⟩ := p6
  obtain ⟨rfl, rfl, rfl⟩ := fo_sym3 z9
  refine fo_bif_eq C dL_hasForecast_8 15 (by decide) 11 rfl (fun c7 => ?_) (fun c7 => ?_)
  · refine fo_lconst C dL_hasForecast_15 0 (by decide) 16 rfl ?_
    refine fo_last C dL_hasForecast_16 (by decide : fo_k 629 = 24) (by rw [(show fo_n 629 = 1 from rfl)]; omega) 17 rfl ?_
    refine fo_goto C dL_hasForecast_17 24 (by decide) ?_
    refine fo_iconst C dL_hasForecast_24 (nI 0) ki_0 25 rfl ?_
    exact fin dL_hasForecast_25 rfl (Nat.le_of_ble_eq_true rfl) (Nat.le_of_ble_eq_true rfl) (⟨by rw [fg_pa_t hp h8 hk], rfl, rfl, fw_j1 (by rw [fg_pa_t hp h8 hk]; show _ = (fo_b _).toInt64; rw [c7]; rfl)⟩)
  · refine fo_lconst C dL_hasForecast_11 1 (by decide) 12 rfl ?_
    refine fo_goto C dL_hasForecast_12 16 (by decide) ?_
    refine fo_last C dL_hasForecast_16 (by decide : fo_k 629 = 24) (by rw [(show fo_n 629 = 1 from rfl)]; omega) 17 rfl ?_
    refine fo_goto C dL_hasForecast_17 24 (by decide) ?_
    refine fo_iconst C dL_hasForecast_24 (nI 0) ki_0 25 rfl ?_
    exact fin dL_hasForecast_25 rfl (Nat.le_of_ble_eq_true rfl) (Nat.le_of_ble_eq_true rfl) (⟨by rw [fg_pa_t hp h8 hk], rfl, rfl, fw_j1 (by rw [fg_pa_t hp h8 hk]; show _ = (fo_b _).toInt64; rw [c7]; rfl)⟩)
set_option maxRecDepth 10000 in
set_option maxHeartbeats 4000000 in
theorem mL_forecast {l : Launch} {Λ : fo_Lt} {I : fo_Mi} {D : fo_Md} {J : fo_Mj} {X : fo_Mi} (hfl : l.stackTraces = false) {np lim : Nat} {kd par n : Nat → Nat} {v : Nat → Nat → Nat} {y x : Int32} (hf : fs_F I D 0 np lim kd par n v) : fw_i l yL_forecast cL_forecast 5 10 177 3 18 [(0, 9, 12, 21), (0, 9, 16, 36)] Λ [.ref (Λ.2.2.1 605), .int (y), .int (x), .ref (Λ.2.2.1 630)] I D J X ((fun r I' D' J' X' => r = nI (fg_pa np y x FP.dconst0 (fun p k => if fp_need (kd p) (par p) ≤ n k then (0, fp_fore (kd p) (par p) (v k) (n k)) else (2, FP.dconst0))).1 ∧ I' = I ∧ J' = J ∧ ∃ dd, D' = fo_r D 630 dd ∧ (nI (fg_pa np y x FP.dconst0 (fun p k => if fp_need (kd p) (par p) ≤ n k then (0, fp_fore (kd p) (par p) (v k) (n k)) else (2, FP.dconst0))).1 = 0 → dd 0 = (fg_pa np y x FP.dconst0 (fun p k => if fp_need (kd p) (par p) ≤ n k then (0, fp_fore (kd p) (par p) (v k) (n k)) else (2, FP.dconst0))).2))) := by
  obtain ⟨hS, hP, hC, hnp, hlim, h8, hl1, hl9, hn30⟩ := hf.now
  refine fo_sw (by decide) [(0, .ref (Λ.2.2.1 605)), (1, .int (y)), (2, .int (x)), (3, .ref (Λ.2.2.1 630))] rfl (Nat.le_of_ble_eq_true rfl) (fun K C tb fin => ?_)
  refine fo_aload_n C dL_forecast_0 3 rfl rfl 1 rfl ?_
  refine fo_iconst C dL_forecast_1 (nI 0) ki_0 2 rfl ?_
  refine fo_aload_n C dL_forecast_2 0 rfl rfl 3 rfl ?_
  refine fo_iload_n C dL_forecast_3 1 rfl rfl 4 rfl ?_
  refine fo_iload_n C dL_forecast_4 2 rfl rfl 5 rfl ?_
  refine fo_yvd C dL_forecast_5 (mX6_forecast hfl (y := y) (x := x) hf) lv_L_81 (by decide : fo_k 605 = 8) rfl (by decide) rfl ⟨Nat.le_of_ble_eq_true rfl, Nat.le_of_ble_eq_true rfl⟩ ⟨Nat.le_of_ble_eq_true rfl, Nat.le_of_ble_eq_true rfl⟩ [.int (nI 0), .ref (Λ.2.2.1 630)] rfl (Nat.le_of_ble_eq_true rfl) 8 rfl (fun E I9 D9 J9 X9 h9 => ?_) (fun r1 I2 D3 J4 X5 p6 => ?_)
  · obtain ⟨h8, z9⟩ := h9
    obtain ⟨rfl, rfl, rfl⟩ := fo_sym3 z9
    simp only [fo_el, or_false] at h8
    rcases h8 with ⟨rfl, hy⟩ | ⟨rfl, hx⟩ | ⟨rfl, ⟨p, k, hp, rfl, hk, rfl, hnd⟩⟩
    · refine fo_ca C tb [] (0, 9, 12, 21) [(0, 9, 16, 36)] rfl (by decide) (fun _ h => absurd h List.not_mem_nil) (by decide) (by decide) fh_21 12 rfl (fun q9 => ?_)
      refine fo_astore C dL_forecast_12 [(4, .ref q9), (0, .ref (Λ.2.2.1 605)), (1, .int (y)), (2, .int (x)), (3, .ref (Λ.2.2.1 630))] rfl (by decide) 14 rfl ?_
      refine fo_iconst C dL_forecast_14 (nI 1) ki_1 15 rfl ?_
      exact fin dL_forecast_15 rfl (Nat.le_of_ble_eq_true rfl) (Nat.le_of_ble_eq_true rfl) (⟨by rw [fg_pa_f (by rw [hy]; rfl)], rfl, rfl, fw_d0 (by rw [fg_pa_f (by rw [hy]; rfl)]; decide)⟩)
    · refine fo_ca C tb [] (0, 9, 12, 21) [(0, 9, 16, 36)] rfl (by decide) (fun _ h => absurd h List.not_mem_nil) (by decide) (by decide) fh_21 12 rfl (fun q9 => ?_)
      refine fo_astore C dL_forecast_12 [(4, .ref q9), (0, .ref (Λ.2.2.1 605)), (1, .int (y)), (2, .int (x)), (3, .ref (Λ.2.2.1 630))] rfl (by decide) 14 rfl ?_
      refine fo_iconst C dL_forecast_14 (nI 1) ki_1 15 rfl ?_
      exact fin dL_forecast_15 rfl (Nat.le_of_ble_eq_true rfl) (Nat.le_of_ble_eq_true rfl) (⟨by rw [fg_pa_f (by rw [hx, Bool.and_false])], rfl, rfl, fw_d0 (by rw [fg_pa_f (by rw [hx, Bool.and_false])]; decide)⟩)
    · refine fo_ca C tb [(0, 9, 12, 21)] (0, 9, 16, 36) [] rfl (by decide) (List.forall_mem_cons.mpr ⟨⟨by decide, _, fh_21, by decide, by decide⟩, fun _ h => absurd h List.not_mem_nil⟩) (by decide) (by decide) fh_36 16 rfl (fun q9 => ?_)
      refine fo_astore C dL_forecast_16 [(4, .ref q9), (0, .ref (Λ.2.2.1 605)), (1, .int (nI p)), (2, .int (nI k)), (3, .ref (Λ.2.2.1 630))] rfl (by decide) 18 rfl ?_
      refine fo_iconst C dL_forecast_18 (nI 2) ki_2 19 rfl ?_
      exact fin dL_forecast_19 rfl (Nat.le_of_ble_eq_true rfl) (Nat.le_of_ble_eq_true rfl) (⟨by rw [fg_pa_t hp h8 hk, if_neg hnd], rfl, rfl, fw_d0 (by rw [fg_pa_t hp h8 hk, if_neg hnd]; decide)⟩)
  obtain ⟨p, hp, rfl, k, hk, rfl, hnd, rfl, z9⟩ := p6
  obtain ⟨rfl, rfl, rfl⟩ := fo_sym3 z9
  refine fo_dast C dL_forecast_8 (by decide : fo_k 630 = 22) (by rw [(show fo_n 630 = 1 from rfl)]; omega) 9 rfl ?_
  refine fo_goto C dL_forecast_9 20 (by decide) ?_
  refine fo_iconst C dL_forecast_20 (nI 0) ki_0 21 rfl ?_
  exact fin dL_forecast_21 rfl (Nat.le_of_ble_eq_true rfl) (Nat.le_of_ble_eq_true rfl) (⟨by rw [fg_pa_t hp h8 hk, if_pos hnd], rfl, rfl, fw_d1 (by rw [fg_pa_t hp h8 hk, if_pos hnd])⟩)
set_option maxRecDepth 10000 in
set_option maxHeartbeats 4000000 in
theorem mL_forecastBits {l : Launch} {Λ : fo_Lt} {I : fo_Mi} {D : fo_Md} {J : fo_Mj} {X : fo_Mi} (hfl : l.stackTraces = false) {np lim : Nat} {kd par n : Nat → Nat} {v : Nat → Nat → Nat} {y x : Int32} (hf : fs_F I D 0 np lim kd par n v) : fw_i l yL_forecastBits cL_forecastBits 5 10 177 3 18 [(0, 9, 12, 21), (0, 9, 16, 36)] Λ [.ref (Λ.2.2.1 605), .int (y), .int (x), .ref (Λ.2.2.1 629)] I D J X ((fun r I' D' J' X' => r = nI (fg_pa np y x (0 : Int64) (fun p k => if fp_need (kd p) (par p) ≤ n k then (0, (fp_fore (kd p) (par p) (v k) (n k)).toInt64) else (2, 0))).1 ∧ I' = I ∧ D' = D ∧ ∃ jj, J' = fo_r J 629 jj ∧ (nI (fg_pa np y x (0 : Int64) (fun p k => if fp_need (kd p) (par p) ≤ n k then (0, (fp_fore (kd p) (par p) (v k) (n k)).toInt64) else (2, 0))).1 = 0 → jj 0 = (fg_pa np y x (0 : Int64) (fun p k => if fp_need (kd p) (par p) ≤ n k then (0, (fp_fore (kd p) (par p) (v k) (n k)).toInt64) else (2, 0))).2))) := by
  obtain ⟨hS, hP, hC, hnp, hlim, h8, hl1, hl9, hn30⟩ := hf.now
  refine fo_sw (by decide) [(0, .ref (Λ.2.2.1 605)), (1, .int (y)), (2, .int (x)), (3, .ref (Λ.2.2.1 629))] rfl (Nat.le_of_ble_eq_true rfl) (fun K C tb fin => ?_)
  refine fo_aload_n C dL_forecastBits_0 3 rfl rfl 1 rfl ?_
  refine fo_iconst C dL_forecastBits_1 (nI 0) ki_0 2 rfl ?_
  refine fo_aload_n C dL_forecastBits_2 0 rfl rfl 3 rfl ?_
  refine fo_iload_n C dL_forecastBits_3 1 rfl rfl 4 rfl ?_
  refine fo_iload_n C dL_forecastBits_4 2 rfl rfl 5 rfl ?_
  refine fo_yvl C dL_forecastBits_5 (mX6_forecastBits hfl (y := y) (x := x) hf) lv_L_84 (by decide : fo_k 605 = 8) rfl (by decide) rfl ⟨Nat.le_of_ble_eq_true rfl, Nat.le_of_ble_eq_true rfl⟩ ⟨Nat.le_of_ble_eq_true rfl, Nat.le_of_ble_eq_true rfl⟩ [.int (nI 0), .ref (Λ.2.2.1 629)] rfl (Nat.le_of_ble_eq_true rfl) 8 rfl (fun E I9 D9 J9 X9 h9 => ?_) (fun r1 I2 D3 J4 X5 p6 => ?_)
  · obtain ⟨h8, z9⟩ := h9
    obtain ⟨rfl, rfl, rfl⟩ := fo_sym3 z9
    simp only [fo_el, or_false] at h8
    rcases h8 with ⟨rfl, hy⟩ | ⟨rfl, hx⟩ | ⟨rfl, ⟨p, k, hp, rfl, hk, rfl, hnd⟩⟩
    · refine fo_ca C tb [] (0, 9, 12, 21) [(0, 9, 16, 36)] rfl (by decide) (fun _ h => absurd h List.not_mem_nil) (by decide) (by decide) fh_21 12 rfl (fun q9 => ?_)
      refine fo_astore C dL_forecastBits_12 [(4, .ref q9), (0, .ref (Λ.2.2.1 605)), (1, .int (y)), (2, .int (x)), (3, .ref (Λ.2.2.1 629))] rfl (by decide) 14 rfl ?_
      refine fo_iconst C dL_forecastBits_14 (nI 1) ki_1 15 rfl ?_
      exact fin dL_forecastBits_15 rfl (Nat.le_of_ble_eq_true rfl) (Nat.le_of_ble_eq_true rfl) (⟨by rw [fg_pa_f (by rw [hy]; rfl)], rfl, rfl, fw_l0 (by rw [fg_pa_f (by rw [hy]; rfl)]; decide)⟩)
    · refine fo_ca C tb [] (0, 9, 12, 21) [(0, 9, 16, 36)] rfl (by decide) (fun _ h => absurd h List.not_mem_nil) (by decide) (by decide) fh_21 12 rfl (fun q9 => ?_)
      refine fo_astore C dL_forecastBits_12 [(4, .ref q9), (0, .ref (Λ.2.2.1 605)), (1, .int (y)), (2, .int (x)), (3, .ref (Λ.2.2.1 629))] rfl (by decide) 14 rfl ?_
      refine fo_iconst C dL_forecastBits_14 (nI 1) ki_1 15 rfl ?_
      exact fin dL_forecastBits_15 rfl (Nat.le_of_ble_eq_true rfl) (Nat.le_of_ble_eq_true rfl) (⟨by rw [fg_pa_f (by rw [hx, Bool.and_false])], rfl, rfl, fw_l0 (by rw [fg_pa_f (by rw [hx, Bool.and_false])]; decide)⟩)
    · refine fo_ca C tb [(0, 9, 12, 21)] (0, 9, 16, 36) [] rfl (by decide) (List.forall_mem_cons.mpr ⟨⟨by decide, _, fh_21, by decide, by decide⟩, fun _ h => absurd h List.not_mem_nil⟩) (by decide) (by decide) fh_36 16 rfl (fun q9 => ?_)
      refine fo_astore C dL_forecastBits_16 [(4, .ref q9), (0, .ref (Λ.2.2.1 605)), (1, .int (nI p)), (2, .int (nI k)), (3, .ref (Λ.2.2.1 629))] rfl (by decide) 18 rfl ?_
      refine fo_iconst C dL_forecastBits_18 (nI 2) ki_2 19 rfl ?_
      exact fin dL_forecastBits_19 rfl (Nat.le_of_ble_eq_true rfl) (Nat.le_of_ble_eq_true rfl) (⟨by rw [fg_pa_t hp h8 hk, if_neg hnd], rfl, rfl, fw_l0 (by rw [fg_pa_t hp h8 hk, if_neg hnd]; decide)⟩)
  obtain ⟨p, hp, rfl, k, hk, rfl, hnd, rfl, z9⟩ := p6
  obtain ⟨rfl, rfl, rfl⟩ := fo_sym3 z9
  refine fo_last C dL_forecastBits_8 (by decide : fo_k 629 = 24) (by rw [(show fo_n 629 = 1 from rfl)]; omega) 9 rfl ?_
  refine fo_goto C dL_forecastBits_9 20 (by decide) ?_
  refine fo_iconst C dL_forecastBits_20 (nI 0) ki_0 21 rfl ?_
  exact fin dL_forecastBits_21 rfl (Nat.le_of_ble_eq_true rfl) (Nat.le_of_ble_eq_true rfl) (⟨by rw [fg_pa_t hp h8 hk, if_pos hnd], rfl, rfl, fw_l1 (by rw [fg_pa_t hp h8 hk, if_pos hnd])⟩)
set_option maxRecDepth 10000 in
set_option maxHeartbeats 4000000 in
theorem mL_errors {l : Launch} {Λ : fo_Lt} {I : fo_Mi} {D : fo_Md} {J : fo_Mj} {X : fo_Mi} (hfl : l.stackTraces = false) {np lim : Nat} {kd par n : Nat → Nat} {v : Nat → Nat → Nat} {y x : Int32} (hf : fs_F I D 0 np lim kd par n v) : fw_i l yL_errors cL_errors 5 8 134 2 12 [(0, 10, 13, 21)] Λ [.ref (Λ.2.2.1 605), .int (y), .int (x), .ref (Λ.2.2.1 629)] I D J X ((fun r I' D' J' X' => r = nI (fg_pa np y x (nI 0) (fun p k => (0, nI (n k - fp_need (kd p) (par p))))).1 ∧ I' = I ∧ D' = D ∧ ∃ jj, J' = fo_r J 629 jj ∧ (nI (fg_pa np y x (nI 0) (fun p k => (0, nI (n k - fp_need (kd p) (par p))))).1 = 0 → jj 0 = (fg_pa np y x (nI 0) (fun p k => (0, nI (n k - fp_need (kd p) (par p))))).2.toInt64))) := by
  obtain ⟨hS, hP, hC, hnp, hlim, h8, hl1, hl9, hn30⟩ := hf.now
  refine fo_sw (by decide) [(0, .ref (Λ.2.2.1 605)), (1, .int (y)), (2, .int (x)), (3, .ref (Λ.2.2.1 629))] rfl (Nat.le_of_ble_eq_true rfl) (fun K C tb fin => ?_)
  refine fo_aload_n C dL_errors_0 3 rfl rfl 1 rfl ?_
  refine fo_iconst C dL_errors_1 (nI 0) ki_0 2 rfl ?_
  refine fo_aload_n C dL_errors_2 0 rfl rfl 3 rfl ?_
  refine fo_iload_n C dL_errors_3 1 rfl rfl 4 rfl ?_
  refine fo_iload_n C dL_errors_4 2 rfl rfl 5 rfl ?_
  refine fo_yvi C dL_errors_5 (mX6_errors hfl (y := y) (x := x) hf) lv_L_88 (by decide : fo_k 605 = 8) rfl (by decide) rfl ⟨Nat.le_of_ble_eq_true rfl, Nat.le_of_ble_eq_true rfl⟩ ⟨Nat.le_of_ble_eq_true rfl, Nat.le_of_ble_eq_true rfl⟩ [.int (nI 0), .ref (Λ.2.2.1 629)] rfl (Nat.le_of_ble_eq_true rfl) 8 rfl (fun E I9 D9 J9 X9 h9 => ?_) (fun r1 I2 D3 J4 X5 p6 => ?_)
  · obtain ⟨h8, z9⟩ := h9
    obtain ⟨rfl, rfl, rfl⟩ := fo_sym3 z9
    simp only [fo_el, or_false] at h8
    rcases h8 with ⟨rfl, hy⟩ | ⟨rfl, hx⟩
    · refine fo_ca C tb [] (0, 10, 13, 21) [] rfl (by decide) (fun _ h => absurd h List.not_mem_nil) (by decide) (by decide) fh_21 13 rfl (fun q9 => ?_)
      refine fo_astore C dL_errors_13 [(4, .ref q9), (0, .ref (Λ.2.2.1 605)), (1, .int (y)), (2, .int (x)), (3, .ref (Λ.2.2.1 629))] rfl (by decide) 15 rfl ?_
      refine fo_iconst C dL_errors_15 (nI 1) ki_1 16 rfl ?_
      exact fin dL_errors_16 rfl (Nat.le_of_ble_eq_true rfl) (Nat.le_of_ble_eq_true rfl) (⟨by rw [fg_pa_f (by rw [hy]; rfl)], rfl, rfl, fw_j0 (by rw [fg_pa_f (by rw [hy]; rfl)]; decide)⟩)
    · refine fo_ca C tb [] (0, 10, 13, 21) [] rfl (by decide) (fun _ h => absurd h List.not_mem_nil) (by decide) (by decide) fh_21 13 rfl (fun q9 => ?_)
      refine fo_astore C dL_errors_13 [(4, .ref q9), (0, .ref (Λ.2.2.1 605)), (1, .int (y)), (2, .int (x)), (3, .ref (Λ.2.2.1 629))] rfl (by decide) 15 rfl ?_
      refine fo_iconst C dL_errors_15 (nI 1) ki_1 16 rfl ?_
      exact fin dL_errors_16 rfl (Nat.le_of_ble_eq_true rfl) (Nat.le_of_ble_eq_true rfl) (⟨by rw [fg_pa_f (by rw [hx, Bool.and_false])], rfl, rfl, fw_j0 (by rw [fg_pa_f (by rw [hx, Bool.and_false])]; decide)⟩)
  obtain ⟨p, hp, rfl, k, hk, rfl, rfl, z9⟩ := p6
  obtain ⟨rfl, rfl, rfl⟩ := fo_sym3 z9
  refine fo_i2l C dL_errors_8 _ rfl 9 rfl ?_
  refine fo_last C dL_errors_9 (by decide : fo_k 629 = 24) (by rw [(show fo_n 629 = 1 from rfl)]; omega) 10 rfl ?_
  refine fo_goto C dL_errors_10 17 (by decide) ?_
  refine fo_iconst C dL_errors_17 (nI 0) ki_0 18 rfl ?_
  exact fin dL_errors_18 rfl (Nat.le_of_ble_eq_true rfl) (Nat.le_of_ble_eq_true rfl) (⟨by rw [fg_pa_t hp h8 hk], rfl, rfl, fw_j1 (by rw [fg_pa_t hp h8 hk])⟩)
set_option maxRecDepth 10000 in
set_option maxHeartbeats 4000000 in
theorem mL_errorSum {l : Launch} {Λ : fo_Lt} {I : fo_Mi} {D : fo_Md} {J : fo_Mj} {X : fo_Mi} (hfl : l.stackTraces = false) {np lim : Nat} {kd par n : Nat → Nat} {v : Nat → Nat → Nat} {y x : Int32} (hf : fs_F I D 0 np lim kd par n v) : fw_i l yL_errorSum cL_errorSum 5 8 134 2 12 [(0, 9, 12, 21)] Λ [.ref (Λ.2.2.1 605), .int (y), .int (x), .ref (Λ.2.2.1 630)] I D J X ((fun r I' D' J' X' => r = nI (fg_pa np y x FP.dconst0 (fun p k => (0, fp_es (kd p) (par p) (v k) (n k)))).1 ∧ I' = I ∧ J' = J ∧ ∃ dd, D' = fo_r D 630 dd ∧ (nI (fg_pa np y x FP.dconst0 (fun p k => (0, fp_es (kd p) (par p) (v k) (n k)))).1 = 0 → dd 0 = (fg_pa np y x FP.dconst0 (fun p k => (0, fp_es (kd p) (par p) (v k) (n k)))).2))) := by
  obtain ⟨hS, hP, hC, hnp, hlim, h8, hl1, hl9, hn30⟩ := hf.now
  refine fo_sw (by decide) [(0, .ref (Λ.2.2.1 605)), (1, .int (y)), (2, .int (x)), (3, .ref (Λ.2.2.1 630))] rfl (Nat.le_of_ble_eq_true rfl) (fun K C tb fin => ?_)
  refine fo_aload_n C dL_errorSum_0 3 rfl rfl 1 rfl ?_
  refine fo_iconst C dL_errorSum_1 (nI 0) ki_0 2 rfl ?_
  refine fo_aload_n C dL_errorSum_2 0 rfl rfl 3 rfl ?_
  refine fo_iload_n C dL_errorSum_3 1 rfl rfl 4 rfl ?_
  refine fo_iload_n C dL_errorSum_4 2 rfl rfl 5 rfl ?_
  refine fo_yvd C dL_errorSum_5 (mX6_errorSum hfl (y := y) (x := x) hf) lv_L_91 (by decide : fo_k 605 = 8) rfl (by decide) rfl ⟨Nat.le_of_ble_eq_true rfl, Nat.le_of_ble_eq_true rfl⟩ ⟨Nat.le_of_ble_eq_true rfl, Nat.le_of_ble_eq_true rfl⟩ [.int (nI 0), .ref (Λ.2.2.1 630)] rfl (Nat.le_of_ble_eq_true rfl) 8 rfl (fun E I9 D9 J9 X9 h9 => ?_) (fun r1 I2 D3 J4 X5 p6 => ?_)
  · obtain ⟨h8, z9⟩ := h9
    obtain ⟨rfl, rfl, rfl⟩ := fo_sym3 z9
    simp only [fo_el, or_false] at h8
    rcases h8 with ⟨rfl, hy⟩ | ⟨rfl, hx⟩
    · refine fo_ca C tb [] (0, 9, 12, 21) [] rfl (by decide) (fun _ h => absurd h List.not_mem_nil) (by decide) (by decide) fh_21 12 rfl (fun q9 => ?_)
      refine fo_astore C dL_errorSum_12 [(4, .ref q9), (0, .ref (Λ.2.2.1 605)), (1, .int (y)), (2, .int (x)), (3, .ref (Λ.2.2.1 630))] rfl (by decide) 14 rfl ?_
      refine fo_iconst C dL_errorSum_14 (nI 1) ki_1 15 rfl ?_
      exact fin dL_errorSum_15 rfl (Nat.le_of_ble_eq_true rfl) (Nat.le_of_ble_eq_true rfl) (⟨by rw [fg_pa_f (by rw [hy]; rfl)], rfl, rfl, fw_d0 (by rw [fg_pa_f (by rw [hy]; rfl)]; decide)⟩)
    · refine fo_ca C tb [] (0, 9, 12, 21) [] rfl (by decide) (fun _ h => absurd h List.not_mem_nil) (by decide) (by decide) fh_21 12 rfl (fun q9 => ?_)
      refine fo_astore C dL_errorSum_12 [(4, .ref q9), (0, .ref (Λ.2.2.1 605)), (1, .int (y)), (2, .int (x)), (3, .ref (Λ.2.2.1 630))] rfl (by decide) 14 rfl ?_
      refine fo_iconst C dL_errorSum_14 (nI 1) ki_1 15 rfl ?_
      exact fin dL_errorSum_15 rfl (Nat.le_of_ble_eq_true rfl) (Nat.le_of_ble_eq_true rfl) (⟨by rw [fg_pa_f (by rw [hx, Bool.and_false])], rfl, rfl, fw_d0 (by rw [fg_pa_f (by rw [hx, Bool.and_false])]; decide)⟩)
  obtain ⟨p, hp, rfl, k, hk, rfl, rfl, z9⟩ := p6
  obtain ⟨rfl, rfl, rfl⟩ := fo_sym3 z9
  refine fo_dast C dL_errorSum_8 (by decide : fo_k 630 = 22) (by rw [(show fo_n 630 = 1 from rfl)]; omega) 9 rfl ?_
  refine fo_goto C dL_errorSum_9 16 (by decide) ?_
  refine fo_iconst C dL_errorSum_16 (nI 0) ki_0 17 rfl ?_
  exact fin dL_errorSum_17 rfl (Nat.le_of_ble_eq_true rfl) (Nat.le_of_ble_eq_true rfl) (⟨by rw [fg_pa_t hp h8 hk], rfl, rfl, fw_d1 (by rw [fg_pa_t hp h8 hk])⟩)
set_option maxRecDepth 10000 in
set_option maxHeartbeats 4000000 in
theorem mL_errorSumByBacktest {l : Launch} {Λ : fo_Lt} {I : fo_Mi} {D : fo_Md} {J : fo_Mj} {X : fo_Mi} (hfl : l.stackTraces = false) {np lim : Nat} {kd par n : Nat → Nat} {v : Nat → Nat → Nat} {y x : Int32} (hf : fs_F I D 0 np lim kd par n v) : fw_i l yL_errorSumByBacktest cL_errorSumByBacktest 5 9 154 2 12 [(0, 9, 12, 21)] Λ [.ref (Λ.2.2.1 605), .int (y), .int (x), .ref (Λ.2.2.1 630)] I D J X ((fun r I' D' J' X' => r = nI (fg_pa np y x FP.dconst0 (fun p k => (0, fp_es (kd p) (par p) (v k) (n k)))).1 ∧ I' = I ∧ J' = J ∧ ∃ dd, D' = fo_r D 630 dd ∧ (nI (fg_pa np y x FP.dconst0 (fun p k => (0, fp_es (kd p) (par p) (v k) (n k)))).1 = 0 → dd 0 = (fg_pa np y x FP.dconst0 (fun p k => (0, fp_es (kd p) (par p) (v k) (n k)))).2))) := by
  obtain ⟨hS, hP, hC, hnp, hlim, h8, hl1, hl9, hn30⟩ := hf.now
  refine fo_sw (by decide) [(0, .ref (Λ.2.2.1 605)), (1, .int (y)), (2, .int (x)), (3, .ref (Λ.2.2.1 630))] rfl (Nat.le_of_ble_eq_true rfl) (fun K C tb fin => ?_)
  refine fo_aload_n C dL_errorSumByBacktest_0 3 rfl rfl 1 rfl ?_
  refine fo_iconst C dL_errorSumByBacktest_1 (nI 0) ki_0 2 rfl ?_
  refine fo_aload_n C dL_errorSumByBacktest_2 0 rfl rfl 3 rfl ?_
  refine fo_iload_n C dL_errorSumByBacktest_3 1 rfl rfl 4 rfl ?_
  refine fo_iload_n C dL_errorSumByBacktest_4 2 rfl rfl 5 rfl ?_
  refine fo_yvd C dL_errorSumByBacktest_5 (mX6_errorSumByBacktest hfl (y := y) (x := x) hf) lv_L_94 (by decide : fo_k 605 = 8) rfl (by decide) rfl ⟨Nat.le_of_ble_eq_true rfl, Nat.le_of_ble_eq_true rfl⟩ ⟨Nat.le_of_ble_eq_true rfl, Nat.le_of_ble_eq_true rfl⟩ [.int (nI 0), .ref (Λ.2.2.1 630)] rfl (Nat.le_of_ble_eq_true rfl) 8 rfl (fun E I9 D9 J9 X9 h9 => ?_) (fun r1 I2 D3 J4 X5 p6 => ?_)
  · obtain ⟨h8, z9⟩ := h9
    obtain ⟨rfl, rfl, rfl⟩ := fo_sym3 z9
    simp only [fo_el, or_false] at h8
    rcases h8 with ⟨rfl, hy⟩ | ⟨rfl, hx⟩
    · refine fo_ca C tb [] (0, 9, 12, 21) [] rfl (by decide) (fun _ h => absurd h List.not_mem_nil) (by decide) (by decide) fh_21 12 rfl (fun q9 => ?_)
      refine fo_astore C dL_errorSumByBacktest_12 [(4, .ref q9), (0, .ref (Λ.2.2.1 605)), (1, .int (y)), (2, .int (x)), (3, .ref (Λ.2.2.1 630))] rfl (by decide) 14 rfl ?_
      refine fo_iconst C dL_errorSumByBacktest_14 (nI 1) ki_1 15 rfl ?_
      exact fin dL_errorSumByBacktest_15 rfl (Nat.le_of_ble_eq_true rfl) (Nat.le_of_ble_eq_true rfl) (⟨by rw [fg_pa_f (by rw [hy]; rfl)], rfl, rfl, fw_d0 (by rw [fg_pa_f (by rw [hy]; rfl)]; decide)⟩)
    · refine fo_ca C tb [] (0, 9, 12, 21) [] rfl (by decide) (fun _ h => absurd h List.not_mem_nil) (by decide) (by decide) fh_21 12 rfl (fun q9 => ?_)
      refine fo_astore C dL_errorSumByBacktest_12 [(4, .ref q9), (0, .ref (Λ.2.2.1 605)), (1, .int (y)), (2, .int (x)), (3, .ref (Λ.2.2.1 630))] rfl (by decide) 14 rfl ?_
      refine fo_iconst C dL_errorSumByBacktest_14 (nI 1) ki_1 15 rfl ?_
      exact fin dL_errorSumByBacktest_15 rfl (Nat.le_of_ble_eq_true rfl) (Nat.le_of_ble_eq_true rfl) (⟨by rw [fg_pa_f (by rw [hx, Bool.and_false])], rfl, rfl, fw_d0 (by rw [fg_pa_f (by rw [hx, Bool.and_false])]; decide)⟩)
  obtain ⟨p, hp, rfl, k, hk, rfl, rfl, z9⟩ := p6
  obtain ⟨rfl, rfl, rfl⟩ := fo_sym3 z9
  refine fo_dast C dL_errorSumByBacktest_8 (by decide : fo_k 630 = 22) (by rw [(show fo_n 630 = 1 from rfl)]; omega) 9 rfl ?_
  refine fo_goto C dL_errorSumByBacktest_9 16 (by decide) ?_
  refine fo_iconst C dL_errorSumByBacktest_16 (nI 0) ki_0 17 rfl ?_
  exact fin dL_errorSumByBacktest_17 rfl (Nat.le_of_ble_eq_true rfl) (Nat.le_of_ble_eq_true rfl) (⟨by rw [fg_pa_t hp h8 hk], rfl, rfl, fw_d1 (by rw [fg_pa_t hp h8 hk])⟩)
set_option maxRecDepth 10000 in
set_option maxHeartbeats 4000000 in
theorem mL_points {l : Launch} {Λ : fo_Lt} {I : fo_Mi} {D : fo_Md} {J : fo_Mj} {X : fo_Mi} (hfl : l.stackTraces = false) {np lim : Nat} {kd par n : Nat → Nat} {v : Nat → Nat → Nat} {y x : Int32} (hf : fs_F I D 0 np lim kd par n v) : fw_i l yL_points cL_points 5 8 134 2 12 [(0, 10, 13, 21)] Λ [.ref (Λ.2.2.1 605), .int (y), .int (x), .ref (Λ.2.2.1 629)] I D J X ((fun r I' D' J' X' => r = nI (fg_pa np y x (nI 0) (fun p k => (0, nI (fp_pts np kd par (v k) p (n k))))).1 ∧ I' = I ∧ D' = D ∧ ∃ jj, J' = fo_r J 629 jj ∧ (nI (fg_pa np y x (nI 0) (fun p k => (0, nI (fp_pts np kd par (v k) p (n k))))).1 = 0 → jj 0 = (fg_pa np y x (nI 0) (fun p k => (0, nI (fp_pts np kd par (v k) p (n k))))).2.toInt64))) := by
  obtain ⟨hS, hP, hC, hnp, hlim, h8, hl1, hl9, hn30⟩ := hf.now
  refine fo_sw (by decide) [(0, .ref (Λ.2.2.1 605)), (1, .int (y)), (2, .int (x)), (3, .ref (Λ.2.2.1 629))] rfl (Nat.le_of_ble_eq_true rfl) (fun K C tb fin => ?_)
  refine fo_aload_n C dL_points_0 3 rfl rfl 1 rfl ?_
  refine fo_iconst C dL_points_1 (nI 0) ki_0 2 rfl ?_
  refine fo_aload_n C dL_points_2 0 rfl rfl 3 rfl ?_
  refine fo_iload_n C dL_points_3 1 rfl rfl 4 rfl ?_
  refine fo_iload_n C dL_points_4 2 rfl rfl 5 rfl ?_
  refine fo_yvi C dL_points_5 (mX6_points hfl (y := y) (x := x) hf) lv_L_97 (by decide : fo_k 605 = 8) rfl (by decide) rfl ⟨Nat.le_of_ble_eq_true rfl, Nat.le_of_ble_eq_true rfl⟩ ⟨Nat.le_of_ble_eq_true rfl, Nat.le_of_ble_eq_true rfl⟩ [.int (nI 0), .ref (Λ.2.2.1 629)] rfl (Nat.le_of_ble_eq_true rfl) 8 rfl (fun E I9 D9 J9 X9 h9 => ?_) (fun r1 I2 D3 J4 X5 p6 => ?_)
  · obtain ⟨h8, z9⟩ := h9
    obtain ⟨rfl, rfl, rfl⟩ := fo_sym3 z9
    simp only [fo_el, or_false] at h8
    rcases h8 with ⟨rfl, hy⟩ | ⟨rfl, hx⟩
    · refine fo_ca C tb [] (0, 10, 13, 21) [] rfl (by decide) (fun _ h => absurd h List.not_mem_nil) (by decide) (by decide) fh_21 13 rfl (fun q9 => ?_)
      refine fo_astore C dL_points_13 [(4, .ref q9), (0, .ref (Λ.2.2.1 605)), (1, .int (y)), (2, .int (x)), (3, .ref (Λ.2.2.1 629))] rfl (by decide) 15 rfl ?_
      refine fo_iconst C dL_points_15 (nI 1) ki_1 16 rfl ?_
      exact fin dL_points_16 rfl (Nat.le_of_ble_eq_true rfl) (Nat.le_of_ble_eq_true rfl) (⟨by rw [fg_pa_f (by rw [hy]; rfl)], rfl, rfl, fw_j0 (by rw [fg_pa_f (by rw [hy]; rfl)]; decide)⟩)
    · refine fo_ca C tb [] (0, 10, 13, 21) [] rfl (by decide) (fun _ h => absurd h List.not_mem_nil) (by decide) (by decide) fh_21 13 rfl (fun q9 => ?_)
      refine fo_astore C dL_points_13 [(4, .ref q9), (0, .ref (Λ.2.2.1 605)), (1, .int (y)), (2, .int (x)), (3, .ref (Λ.2.2.1 629))] rfl (by decide) 15 rfl ?_
      refine fo_iconst C dL_points_15 (nI 1) ki_1 16 rfl ?_
      exact fin dL_points_16 rfl (Nat.le_of_ble_eq_true rfl) (Nat.le_of_ble_eq_true rfl) (⟨by rw [fg_pa_f (by rw [hx, Bool.and_false])], rfl, rfl, fw_j0 (by rw [fg_pa_f (by rw [hx, Bool.and_false])]; decide)⟩)
  obtain ⟨p, hp, rfl, k, hk, rfl, rfl, z9⟩ := p6
  obtain ⟨rfl, rfl, rfl⟩ := fo_sym3 z9
  refine fo_i2l C dL_points_8 _ rfl 9 rfl ?_
  refine fo_last C dL_points_9 (by decide : fo_k 629 = 24) (by rw [(show fo_n 629 = 1 from rfl)]; omega) 10 rfl ?_
  refine fo_goto C dL_points_10 17 (by decide) ?_
  refine fo_iconst C dL_points_17 (nI 0) ki_0 18 rfl ?_
  exact fin dL_points_18 rfl (Nat.le_of_ble_eq_true rfl) (Nat.le_of_ble_eq_true rfl) (⟨by rw [fg_pa_t hp h8 hk], rfl, rfl, fw_j1 (by rw [fg_pa_t hp h8 hk])⟩)
set_option maxRecDepth 10000 in
set_option maxHeartbeats 4000000 in
theorem mL_charAt {l : Launch} {Λ : fo_Lt} {I : fo_Mi} {D : fo_Md} {J : fo_Mj} {X : fo_Mi} (hfl : l.stackTraces = false)  {z : Int32} {L : List Nat} (hL : fs_L I L) : fw_i l yL_charAt cL_charAt 4 7 111 1 6 [(0, 9, 12, 21)] Λ [.ref (Λ.2.2.1 605), .int (z), .ref (Λ.2.2.1 629)] I D J X ((fun r I' D' J' X' => r = nI (fg_c1 z L).1 ∧ I' = I ∧ D' = D ∧ ∃ jj, J' = fo_r J 629 jj ∧ (nI (fg_c1 z L).1 = 0 → jj 0 = (fg_c1 z L).2.toInt64))) := by
  skip
  refine fo_sw (by decide) [(0, .ref (Λ.2.2.1 605)), (1, .int (z)), (2, .ref (Λ.2.2.1 629))] rfl (Nat.le_of_ble_eq_true rfl) (fun K C tb fin => ?_)
  refine fo_aload_n C dL_charAt_0 2 rfl rfl 1 rfl ?_
  refine fo_iconst C dL_charAt_1 (nI 0) ki_0 2 rfl ?_
  refine fo_aload_n C dL_charAt_2 0 rfl rfl 3 rfl ?_
  refine fo_iload_n C dL_charAt_3 1 rfl rfl 4 rfl ?_
  refine fo_yvi C dL_charAt_4 (mX6_charAt hfl (z := z) hL) lv_L_120 (by decide : fo_k 605 = 8) rfl (by decide) rfl ⟨Nat.le_of_ble_eq_true rfl, Nat.le_of_ble_eq_true rfl⟩ ⟨Nat.le_of_ble_eq_true rfl, Nat.le_of_ble_eq_true rfl⟩ [.int (nI 0), .ref (Λ.2.2.1 629)] rfl (Nat.le_of_ble_eq_true rfl) 7 rfl (fun E I9 D9 J9 X9 h9 => ?_) (fun r1 I2 D3 J4 X5 p6 => ?_)
  · obtain ⟨h8, z9⟩ := h9
    obtain ⟨rfl, rfl, rfl⟩ := fo_sym3 z9
    simp only [fo_el, or_false] at h8
    rcases h8 with ⟨rfl, hz⟩
    · refine fo_ca C tb [] (0, 9, 12, 21) [] rfl (by decide) (fun _ h => absurd h List.not_mem_nil) (by decide) (by decide) fh_21 12 rfl (fun q9 => ?_)
      refine fo_astore_n C dL_charAt_12 rfl [(3, .ref q9), (0, .ref (Λ.2.2.1 605)), (1, .int (z)), (2, .ref (Λ.2.2.1 629))] rfl (by decide) 13 rfl ?_
      refine fo_iconst C dL_charAt_13 (nI 1) ki_1 14 rfl ?_
      exact fin dL_charAt_14 rfl (Nat.le_of_ble_eq_true rfl) (Nat.le_of_ble_eq_true rfl) (⟨by rw [fg_c1_1 hz], rfl, rfl, fw_j0 (by rw [fg_c1_1 hz]; decide)⟩)
  obtain ⟨j, c, rfl, hjc, rfl, z9⟩ := p6
  obtain ⟨rfl, rfl, rfl⟩ := fo_sym3 z9
  refine fo_i2l C dL_charAt_7 _ rfl 8 rfl ?_
  refine fo_last C dL_charAt_8 (by decide : fo_k 629 = 24) (by rw [(show fo_n 629 = 1 from rfl)]; omega) 9 rfl ?_
  refine fo_goto C dL_charAt_9 15 (by decide) ?_
  refine fo_iconst C dL_charAt_15 (nI 0) ki_0 16 rfl ?_
  exact fin dL_charAt_16 rfl (Nat.le_of_ble_eq_true rfl) (Nat.le_of_ble_eq_true rfl) (⟨by rw [fg_c1_t (Nat.le_trans hL.1 (by decide)) hjc], rfl, rfl, fw_j1 (by rw [fg_c1_t (Nat.le_trans hL.1 (by decide)) hjc])⟩)
set_option maxRecDepth 10000 in
set_option maxHeartbeats 4000000 in
theorem mL_errorPosition {l : Launch} {Λ : fo_Lt} {I : fo_Mi} {D : fo_Md} {J : fo_Mj} {X : fo_Mi} (hfl : l.stackTraces = false)  {e : Int32} (he : I 605 6 = e) (he9 : e = -1 ∨ ¬ e < 0) : fw_i l yL_errorPosition cL_errorPosition 3 7 110 1 6 [(0, 8, 11, 36)] Λ [.ref (Λ.2.2.1 605), .ref (Λ.2.2.1 629)] I D J X ((fun r I' D' J' X' => r = nI (fg_ps e).1 ∧ I' = I ∧ D' = D ∧ ∃ jj, J' = fo_r J 629 jj ∧ (nI (fg_ps e).1 = 0 → jj 0 = (fg_ps e).2.toInt64))) := by
  skip
  refine fo_sw (by decide) [(0, .ref (Λ.2.2.1 605)), (1, .ref (Λ.2.2.1 629))] rfl (Nat.le_of_ble_eq_true rfl) (fun K C tb fin => ?_)
  refine fo_aload_n C dL_errorPosition_0 1 rfl rfl 1 rfl ?_
  refine fo_iconst C dL_errorPosition_1 (nI 0) ki_0 2 rfl ?_
  refine fo_aload_n C dL_errorPosition_2 0 rfl rfl 3 rfl ?_
  refine fo_yvi C dL_errorPosition_3 (mX6_errorPosition hfl he) lv_L_132 (by decide : fo_k 605 = 8) rfl (by decide) rfl ⟨Nat.le_of_ble_eq_true rfl, Nat.le_of_ble_eq_true rfl⟩ ⟨Nat.le_of_ble_eq_true rfl, Nat.le_of_ble_eq_true rfl⟩ [.int (nI 0), .ref (Λ.2.2.1 629)] rfl (Nat.le_of_ble_eq_true rfl) 6 rfl (fun E I9 D9 J9 X9 h9 => ?_) (fun r1 I2 D3 J4 X5 p6 => ?_)
  · obtain ⟨h8, z9⟩ := h9
    obtain ⟨rfl, rfl, rfl⟩ := fo_sym3 z9
    simp only [fo_el, or_false] at h8
    rcases h8 with ⟨rfl, hne⟩
    · refine fo_ca C tb [] (0, 8, 11, 36) [] rfl (by decide) (fun _ h => absurd h List.not_mem_nil) (by decide) (by decide) fh_36 11 rfl (fun q9 => ?_)
      refine fo_astore_n C dL_errorPosition_11 rfl [(2, .ref q9), (0, .ref (Λ.2.2.1 605)), (1, .ref (Λ.2.2.1 629))] rfl (by decide) 12 rfl ?_
      refine fo_iconst C dL_errorPosition_12 (nI 1) ki_1 13 rfl ?_
      exact fin dL_errorPosition_13 rfl (Nat.le_of_ble_eq_true rfl) (Nat.le_of_ble_eq_true rfl) (⟨by rw [hne, fg_ps_n], rfl, rfl, fw_j0 (by rw [hne, fg_ps_n]; decide)⟩)
  obtain ⟨hne, he2, z9⟩ := p6
  obtain ⟨rfl, rfl, rfl⟩ := fo_sym3 z9
  rw [he2]
  refine fo_i2l C dL_errorPosition_6 _ rfl 7 rfl ?_
  refine fo_last C dL_errorPosition_7 (by decide : fo_k 629 = 24) (by rw [(show fo_n 629 = 1 from rfl)]; omega) 8 rfl ?_
  refine fo_goto C dL_errorPosition_8 14 (by decide) ?_
  refine fo_iconst C dL_errorPosition_14 (nI 0) ki_0 15 rfl ?_
  exact fin dL_errorPosition_15 rfl (Nat.le_of_ble_eq_true rfl) (Nat.le_of_ble_eq_true rfl) (⟨by rw [fg_ps, if_neg (he9.resolve_left hne)], rfl, rfl, fw_j1 (by rw [fg_ps, if_neg (he9.resolve_left hne)])⟩)
set_option maxRecDepth 10000 in
set_option maxHeartbeats 4000000 in
theorem mL_failedCommand {l : Launch} {Λ : fo_Lt} {I : fo_Mi} {D : fo_Md} {J : fo_Mj} {X : fo_Mi} (hfl : l.stackTraces = false)  {e : Int32} (he : I 605 7 = e) (he9 : e = -1 ∨ ¬ e < 0) : fw_i l yL_failedCommand cL_failedCommand 3 7 110 1 6 [(0, 8, 11, 36)] Λ [.ref (Λ.2.2.1 605), .ref (Λ.2.2.1 629)] I D J X ((fun r I' D' J' X' => r = nI (fg_ps e).1 ∧ I' = I ∧ D' = D ∧ ∃ jj, J' = fo_r J 629 jj ∧ (nI (fg_ps e).1 = 0 → jj 0 = (fg_ps e).2.toInt64))) := by
  skip
  refine fo_sw (by decide) [(0, .ref (Λ.2.2.1 605)), (1, .ref (Λ.2.2.1 629))] rfl (Nat.le_of_ble_eq_true rfl) (fun K C tb fin => ?_)
  refine fo_aload_n C dL_failedCommand_0 1 rfl rfl 1 rfl ?_
  refine fo_iconst C dL_failedCommand_1 (nI 0) ki_0 2 rfl ?_
  refine fo_aload_n C dL_failedCommand_2 0 rfl rfl 3 rfl ?_
  refine fo_yvi C dL_failedCommand_3 (mX6_failedCommand hfl he) lv_L_135 (by decide : fo_k 605 = 8) rfl (by decide) rfl ⟨Nat.le_of_ble_eq_true rfl, Nat.le_of_ble_eq_true rfl⟩ ⟨Nat.le_of_ble_eq_true rfl, Nat.le_of_ble_eq_true rfl⟩ [.int (nI 0), .ref (Λ.2.2.1 629)] rfl (Nat.le_of_ble_eq_true rfl) 6 rfl (fun E I9 D9 J9 X9 h9 => ?_) (fun r1 I2 D3 J4 X5 p6 => ?_)
  · obtain ⟨h8, z9⟩ := h9
    obtain ⟨rfl, rfl, rfl⟩ := fo_sym3 z9
    simp only [fo_el, or_false] at h8
    rcases h8 with ⟨rfl, hne⟩
    · refine fo_ca C tb [] (0, 8, 11, 36) [] rfl (by decide) (fun _ h => absurd h List.not_mem_nil) (by decide) (by decide) fh_36 11 rfl (fun q9 => ?_)
      refine fo_astore_n C dL_failedCommand_11 rfl [(2, .ref q9), (0, .ref (Λ.2.2.1 605)), (1, .ref (Λ.2.2.1 629))] rfl (by decide) 12 rfl ?_
      refine fo_iconst C dL_failedCommand_12 (nI 1) ki_1 13 rfl ?_
      exact fin dL_failedCommand_13 rfl (Nat.le_of_ble_eq_true rfl) (Nat.le_of_ble_eq_true rfl) (⟨by rw [hne, fg_ps_n], rfl, rfl, fw_j0 (by rw [hne, fg_ps_n]; decide)⟩)
  obtain ⟨hne, he2, z9⟩ := p6
  obtain ⟨rfl, rfl, rfl⟩ := fo_sym3 z9
  rw [he2]
  refine fo_i2l C dL_failedCommand_6 _ rfl 7 rfl ?_
  refine fo_last C dL_failedCommand_7 (by decide : fo_k 629 = 24) (by rw [(show fo_n 629 = 1 from rfl)]; omega) 8 rfl ?_
  refine fo_goto C dL_failedCommand_8 14 (by decide) ?_
  refine fo_iconst C dL_failedCommand_14 (nI 0) ki_0 15 rfl ?_
  exact fin dL_failedCommand_15 rfl (Nat.le_of_ble_eq_true rfl) (Nat.le_of_ble_eq_true rfl) (⟨by rw [fg_ps, if_neg (he9.resolve_left hne)], rfl, rfl, fw_j1 (by rw [fg_ps, if_neg (he9.resolve_left hne)])⟩)
set_option maxRecDepth 10000 in
set_option maxHeartbeats 4000000 in
theorem mL_meanError {l : Launch} {Λ : fo_Lt} {I : fo_Mi} {D : fo_Md} {J : fo_Mj} {X : fo_Mi} (hfl : l.stackTraces = false) {np lim : Nat} {kd par n : Nat → Nat} {v : Nat → Nat → Nat} {y : Int32} (hf : fs_F I D 0 np lim kd par n v) : fw_i l yL_meanError cL_meanError 4 8 134 2 12 [(0, 8, 11, 21), (0, 8, 14, 104)] Λ [.ref (Λ.2.2.1 605), .int (y), .ref (Λ.2.2.1 630)] I D J X ((fun r I' D' J' X' => r = nI (fg_pr np y FP.dconst0 (fun p => if fp_ae kd par n p = 0 then (2, FP.dconst0) else (0, fp_me kd par n v p))).1 ∧ I' = I ∧ J' = J ∧ ∃ dd, D' = fo_r D 630 dd ∧ (nI (fg_pr np y FP.dconst0 (fun p => if fp_ae kd par n p = 0 then (2, FP.dconst0) else (0, fp_me kd par n v p))).1 = 0 → dd 0 = (fg_pr np y FP.dconst0 (fun p => if fp_ae kd par n p = 0 then (2, FP.dconst0) else (0, fp_me kd par n v p))).2))) := by
  obtain ⟨hS, hP, hC, hnp, hlim, h8, hl1, hl9, hn30⟩ := hf.now
  refine fo_sw (by decide) [(0, .ref (Λ.2.2.1 605)), (1, .int (y)), (2, .ref (Λ.2.2.1 630))] rfl (Nat.le_of_ble_eq_true rfl) (fun K C tb fin => ?_)
  refine fo_aload_n C dL_meanError_0 2 rfl rfl 1 rfl ?_
  refine fo_iconst C dL_meanError_1 (nI 0) ki_0 2 rfl ?_
  refine fo_aload_n C dL_meanError_2 0 rfl rfl 3 rfl ?_
  refine fo_iload_n C dL_meanError_3 1 rfl rfl 4 rfl ?_
  refine fo_yvd C dL_meanError_4 (mX6_meanError hfl (y := y) hf) lv_L_100 (by decide : fo_k 605 = 8) rfl (by decide) rfl ⟨Nat.le_of_ble_eq_true rfl, Nat.le_of_ble_eq_true rfl⟩ ⟨Nat.le_of_ble_eq_true rfl, Nat.le_of_ble_eq_true rfl⟩ [.int (nI 0), .ref (Λ.2.2.1 630)] rfl (Nat.le_of_ble_eq_true rfl) 7 rfl (fun E I9 D9 J9 X9 h9 => ?_) (fun r1 I2 D3 J4 X5 p6 => ?_)
  · obtain ⟨h8, z9⟩ := h9
    obtain ⟨rfl, rfl, rfl⟩ := fo_sym3 z9
    simp only [fo_el, or_false] at h8
    rcases h8 with ⟨rfl, hy⟩ | ⟨rfl, ⟨p, hp, rfl, h0⟩⟩
    · refine fo_ca C tb [] (0, 8, 11, 21) [(0, 8, 14, 104)] rfl (by decide) (fun _ h => absurd h List.not_mem_nil) (by decide) (by decide) fh_21 11 rfl (fun q9 => ?_)
      refine fo_astore_n C dL_meanError_11 rfl [(3, .ref q9), (0, .ref (Λ.2.2.1 605)), (1, .int (y)), (2, .ref (Λ.2.2.1 630))] rfl (by decide) 12 rfl ?_
      refine fo_iconst C dL_meanError_12 (nI 1) ki_1 13 rfl ?_
      exact fin dL_meanError_13 rfl (Nat.le_of_ble_eq_true rfl) (Nat.le_of_ble_eq_true rfl) (⟨by rw [fg_pr_f hy], rfl, rfl, fw_d0 (by rw [fg_pr_f hy]; decide)⟩)
    · refine fo_ca C tb [(0, 8, 11, 21)] (0, 8, 14, 104) [] rfl (by decide) (List.forall_mem_cons.mpr ⟨⟨by decide, _, fh_21, by decide, by decide⟩, fun _ h => absurd h List.not_mem_nil⟩) (by decide) (by decide) fh_104 14 rfl (fun q9 => ?_)
      refine fo_astore_n C dL_meanError_14 rfl [(3, .ref q9), (0, .ref (Λ.2.2.1 605)), (1, .int (nI p)), (2, .ref (Λ.2.2.1 630))] rfl (by decide) 15 rfl ?_
      refine fo_iconst C dL_meanError_15 (nI 2) ki_2 16 rfl ?_
      exact fin dL_meanError_16 rfl (Nat.le_of_ble_eq_true rfl) (Nat.le_of_ble_eq_true rfl) (⟨by rw [fg_pr_t hp h8, if_pos h0], rfl, rfl, fw_d0 (by rw [fg_pr_t hp h8, if_pos h0]; decide)⟩)
  obtain ⟨p, hp, rfl, h0, rfl, z9⟩ := p6
  obtain ⟨rfl, rfl, rfl⟩ := fo_sym3 z9
  refine fo_dast C dL_meanError_7 (by decide : fo_k 630 = 22) (by rw [(show fo_n 630 = 1 from rfl)]; omega) 8 rfl ?_
  refine fo_goto C dL_meanError_8 17 (by decide) ?_
  refine fo_iconst C dL_meanError_17 (nI 0) ki_0 18 rfl ?_
  exact fin dL_meanError_18 rfl (Nat.le_of_ble_eq_true rfl) (Nat.le_of_ble_eq_true rfl) (⟨by rw [fg_pr_t hp h8, if_neg (Nat.pos_iff_ne_zero.mp h0)], rfl, rfl, fw_d1 (by rw [fg_pr_t hp h8, if_neg (Nat.pos_iff_ne_zero.mp h0)])⟩)

theorem fw_pp {f : Nat → Nat} {q : Nat} (hq : q < 2 ^ 31) (hf : ∀ i, f i < 2 ^ 31) : (fun i => decide (nI (f i) = nI q)) = (fun i => decide (f i = q)) := by
  funext i
  refine decide_eq_decide.mpr ⟨fun h => ?_, fun h => by rw [h]⟩
  have h2 := congrArg Int32.toInt h
  rw [nI_toInt (hf i), nI_toInt hq] at h2
  omega
theorem fw_pn {f : Nat → Nat} {z : Int32} (hz : z < 0) (hf : ∀ i, f i < 2 ^ 31) : ∀ m k, fp_fst (fun i => decide (nI (f i) = z)) k m = none
  | 0, _ => rfl
  | m + 1, k => by
    rw [fp_fst, if_neg]
    · exact fw_pn hz hf m (k + 1)
    · intro h
      have h1 := of_decide_eq_true h
      have h2 := Int32.lt_iff_toInt_lt.mp hz
      rw [← h1, nI_toInt (hf k), show (0 : Int32).toInt = 0 from rfl] at h2
      omega
theorem fw_rk {g : Nat → Nat} {np : Nat} (h8 : np ≤ 8) (i : Nat) : fp_rank g np i < 2 ^ 31 := Nat.lt_of_le_of_lt (Nat.le_trans (fp_cnt_le _ _) h8) (by decide)
theorem fw_f2 {x : UInt32} (h : vf_n32 x) : vf_n64 (FP.f2d x) := by
  have h1 : FP.Core.fIsNaN x = false := by
    rw [← Bool.not_eq_true, FP.Core.isNaN_bits32]
    unfold vf_n32 at h
    rw [UInt32.le_iff_toNat_le, UInt32.toNat_and] at h
    have h3 : x.toNat &&& (2 ^ 31 - 1) ≤ 2139095040 := h
    rw [Nat.and_two_pow_sub_one_eq_mod] at h3
    omega
  have h2 : FP.Core.dIsNaN (FP.f2d x) = false := (FP.f2d_nan x).trans h1
  rw [← Bool.not_eq_true, FP.Core.isNaN_bits] at h2
  unfold vf_n64
  rw [UInt64.le_iff_toNat_le, UInt64.toNat_and]
  show (FP.f2d x).toNat &&& (2 ^ 63 - 1) ≤ 9218868437227405312
  rw [Nat.and_two_pow_sub_one_eq_mod]
  omega

theorem fg_op_s {o : Nat} : fg_op (some o) = (0, nI o) := rfl
theorem fg_op_n : fg_op none = (1, nI 0) := rfl
set_option maxRecDepth 10000 in
set_option maxHeartbeats 4000000 in
theorem mL_prophetByPoints {l : Launch} {Λ : fo_Lt} {I : fo_Mi} {D : fo_Md} {J : fo_Mj} {X : fo_Mi} (hfl : l.stackTraces = false) {np lim : Nat} {kd par n : Nat → Nat} {v : Nat → Nat → Nat} {z : Int32} (hf : fs_F I D 0 np lim kd par n v) : fw_i l yL_prophetByPoints cL_prophetByPoints 4 7 112 1 6 [(0, 9, 12, 36)] Λ [.ref (Λ.2.2.1 605), .int (z), .ref (Λ.2.2.1 629)] I D J X ((fun r I' D' J' X' => r = nI (fg_op (fp_fst (fun i => decide (nI (fp_rank (fp_ap np kd par n v) np i) = z)) 0 np)).1 ∧ I' = I ∧ D' = D ∧ ∃ jj, J' = fo_r J 629 jj ∧ (nI (fg_op (fp_fst (fun i => decide (nI (fp_rank (fp_ap np kd par n v) np i) = z)) 0 np)).1 = 0 → jj 0 = (fg_op (fp_fst (fun i => decide (nI (fp_rank (fp_ap np kd par n v) np i) = z)) 0 np)).2.toInt64))) := by
  obtain ⟨hS, hP, hC, hnp, hlim, h8, hl1, hl9, hn30⟩ := hf.now
  refine fo_sw (by decide) [(0, .ref (Λ.2.2.1 605)), (1, .int (z)), (2, .ref (Λ.2.2.1 629))] rfl (Nat.le_of_ble_eq_true rfl) (fun K C tb fin => ?_)
  refine fo_aload_n C dL_prophetByPoints_0 2 rfl rfl 1 rfl ?_
  refine fo_iconst C dL_prophetByPoints_1 (nI 0) ki_0 2 rfl ?_
  refine fo_aload_n C dL_prophetByPoints_2 0 rfl rfl 3 rfl ?_
  refine fo_iload_n C dL_prophetByPoints_3 1 rfl rfl 4 rfl ?_
  refine fo_yvi C dL_prophetByPoints_4 (mX6_prophetByPoints hfl (z := z) hf) lv_L_106 (by decide : fo_k 605 = 8) rfl (by decide) rfl ⟨Nat.le_of_ble_eq_true rfl, Nat.le_of_ble_eq_true rfl⟩ ⟨Nat.le_of_ble_eq_true rfl, Nat.le_of_ble_eq_true rfl⟩ [.int (nI 0), .ref (Λ.2.2.1 629)] rfl (Nat.le_of_ble_eq_true rfl) 7 rfl (fun E I9 D9 J9 X9 h9 => ?_) (fun r1 I2 D3 J4 X5 p6 => ?_)
  · obtain ⟨h8, z9⟩ := h9
    obtain ⟨rfl, rfl, rfl⟩ := fo_sym3 z9
    simp only [fo_el, or_false] at h8
    rcases h8 with ⟨rfl, hz | ⟨q, hq, rfl, ho⟩⟩
    · refine fo_ca C tb [] (0, 9, 12, 36) [] rfl (by decide) (fun _ h => absurd h List.not_mem_nil) (by decide) (by decide) fh_36 12 rfl (fun q9 => ?_)
      refine fo_astore_n C dL_prophetByPoints_12 rfl [(3, .ref q9), (0, .ref (Λ.2.2.1 605)), (1, .int (z)), (2, .ref (Λ.2.2.1 629))] rfl (by decide) 13 rfl ?_
      refine fo_iconst C dL_prophetByPoints_13 (nI 1) ki_1 14 rfl ?_
      exact fin dL_prophetByPoints_14 rfl (Nat.le_of_ble_eq_true rfl) (Nat.le_of_ble_eq_true rfl) (⟨by rw [fw_pn hz (fw_rk h8), fg_op_n], rfl, rfl, fw_j0 (by rw [fw_pn hz (fw_rk h8), fg_op_n]; decide)⟩)
    · refine fo_ca C tb [] (0, 9, 12, 36) [] rfl (by decide) (fun _ h => absurd h List.not_mem_nil) (by decide) (by decide) fh_36 12 rfl (fun q9 => ?_)
      refine fo_astore_n C dL_prophetByPoints_12 rfl [(3, .ref q9), (0, .ref (Λ.2.2.1 605)), (1, .int (nI q)), (2, .ref (Λ.2.2.1 629))] rfl (by decide) 13 rfl ?_
      refine fo_iconst C dL_prophetByPoints_13 (nI 1) ki_1 14 rfl ?_
      exact fin dL_prophetByPoints_14 rfl (Nat.le_of_ble_eq_true rfl) (Nat.le_of_ble_eq_true rfl) (⟨by rw [fw_pp hq (fw_rk h8), ho, fg_op_n], rfl, rfl, fw_j0 (by rw [fw_pp hq (fw_rk h8), ho, fg_op_n]; decide)⟩)
  obtain ⟨q, o, hq, rfl, ho, rfl, z9⟩ := p6
  obtain ⟨rfl, rfl, rfl⟩ := fo_sym3 z9
  refine fo_i2l C dL_prophetByPoints_7 _ rfl 8 rfl ?_
  refine fo_last C dL_prophetByPoints_8 (by decide : fo_k 629 = 24) (by rw [(show fo_n 629 = 1 from rfl)]; omega) 9 rfl ?_
  refine fo_goto C dL_prophetByPoints_9 15 (by decide) ?_
  refine fo_iconst C dL_prophetByPoints_15 (nI 0) ki_0 16 rfl ?_
  exact fin dL_prophetByPoints_16 rfl (Nat.le_of_ble_eq_true rfl) (Nat.le_of_ble_eq_true rfl) (⟨by rw [fw_pp hq (fw_rk h8), ho, fg_op_s], rfl, rfl, fw_j1 (by rw [fw_pp hq (fw_rk h8), ho, fg_op_s])⟩)
set_option maxRecDepth 10000 in
set_option maxHeartbeats 4000000 in
theorem mL_bestProphet {l : Launch} {Λ : fo_Lt} {I : fo_Mi} {D : fo_Md} {J : fo_Mj} {X : fo_Mi} (hfl : l.stackTraces = false) {np lim : Nat} {kd par n : Nat → Nat} {v : Nat → Nat → Nat} (hf : fs_F I D 0 np lim kd par n v) : fw_i l yL_bestProphet cL_bestProphet 3 7 111 1 6 [(0, 8, 11, 36)] Λ [.ref (Λ.2.2.1 605), .ref (Λ.2.2.1 629)] I D J X ((fun r I' D' J' X' => r = nI (fg_op (fp_lst (fun p => decide (0 < fp_ae kd par n p)) (fun p => fp_me kd par n v p) np)).1 ∧ I' = I ∧ D' = D ∧ ∃ jj, J' = fo_r J 629 jj ∧ (nI (fg_op (fp_lst (fun p => decide (0 < fp_ae kd par n p)) (fun p => fp_me kd par n v p) np)).1 = 0 → jj 0 = (fg_op (fp_lst (fun p => decide (0 < fp_ae kd par n p)) (fun p => fp_me kd par n v p) np)).2.toInt64))) := by
  obtain ⟨hS, hP, hC, hnp, hlim, h8, hl1, hl9, hn30⟩ := hf.now
  refine fo_sw (by decide) [(0, .ref (Λ.2.2.1 605)), (1, .ref (Λ.2.2.1 629))] rfl (Nat.le_of_ble_eq_true rfl) (fun K C tb fin => ?_)
  refine fo_aload_n C dL_bestProphet_0 1 rfl rfl 1 rfl ?_
  refine fo_iconst C dL_bestProphet_1 (nI 0) ki_0 2 rfl ?_
  refine fo_aload_n C dL_bestProphet_2 0 rfl rfl 3 rfl ?_
  refine fo_yvi C dL_bestProphet_3 (mX6_bestProphet hfl hf) lv_L_109 (by decide : fo_k 605 = 8) rfl (by decide) rfl ⟨Nat.le_of_ble_eq_true rfl, Nat.le_of_ble_eq_true rfl⟩ ⟨Nat.le_of_ble_eq_true rfl, Nat.le_of_ble_eq_true rfl⟩ [.int (nI 0), .ref (Λ.2.2.1 629)] rfl (Nat.le_of_ble_eq_true rfl) 6 rfl (fun E I9 D9 J9 X9 h9 => ?_) (fun r1 I2 D3 J4 X5 p6 => ?_)
  · obtain ⟨h8, z9⟩ := h9
    obtain ⟨rfl, rfl, rfl⟩ := fo_sym3 z9
    simp only [fo_el, or_false] at h8
    rcases h8 with ⟨rfl, ho⟩
    · refine fo_ca C tb [] (0, 8, 11, 36) [] rfl (by decide) (fun _ h => absurd h List.not_mem_nil) (by decide) (by decide) fh_36 11 rfl (fun q9 => ?_)
      refine fo_astore_n C dL_bestProphet_11 rfl [(2, .ref q9), (0, .ref (Λ.2.2.1 605)), (1, .ref (Λ.2.2.1 629))] rfl (by decide) 12 rfl ?_
      refine fo_iconst C dL_bestProphet_12 (nI 1) ki_1 13 rfl ?_
      exact fin dL_bestProphet_13 rfl (Nat.le_of_ble_eq_true rfl) (Nat.le_of_ble_eq_true rfl) (⟨by rw [ho, fg_op_n], rfl, rfl, fw_j0 (by rw [ho, fg_op_n]; decide)⟩)
  obtain ⟨o, ho, rfl, z9⟩ := p6
  obtain ⟨rfl, rfl, rfl⟩ := fo_sym3 z9
  refine fo_i2l C dL_bestProphet_6 _ rfl 7 rfl ?_
  refine fo_last C dL_bestProphet_7 (by decide : fo_k 629 = 24) (by rw [(show fo_n 629 = 1 from rfl)]; omega) 8 rfl ?_
  refine fo_goto C dL_bestProphet_8 14 (by decide) ?_
  refine fo_iconst C dL_bestProphet_14 (nI 0) ki_0 15 rfl ?_
  exact fin dL_bestProphet_15 rfl (Nat.le_of_ble_eq_true rfl) (Nat.le_of_ble_eq_true rfl) (⟨by rw [ho, fg_op_s], rfl, rfl, fw_j1 (by rw [ho, fg_op_s])⟩)
set_option maxRecDepth 10000 in
set_option maxHeartbeats 4000000 in
theorem mL_outlierShare {l : Launch} {Λ : fo_Lt} {I : fo_Mi} {D : fo_Md} {J : fo_Mj} {X : fo_Mi} (hfl : l.stackTraces = false) {np lim : Nat} {kd par n : Nat → Nat} {v : Nat → Nat → Nat} (hf : fs_F I D 0 np lim kd par n v) : fw_i l yL_outlierShare cL_outlierShare 3 7 131 1 6 [(0, 8, 11, 104)] Λ [.ref (Λ.2.2.1 605), .ref (Λ.2.2.1 630)] I D J X ((fun r I' D' J' X' => r = nI ((if 0 < fp_sum n 0 4 then (0, FP.fdiv (FP.i2f (nI (fp_sum (fun k => fp_cnt (fp_off (v k) lim) (n k)) 0 4))) (FP.i2f (nI (fp_sum n 0 4)))) else (1, FP.fconst0) : Nat × UInt32)).1 ∧ I' = I ∧ J' = J ∧ ∃ dd, D' = fo_r D 630 dd ∧ (nI ((if 0 < fp_sum n 0 4 then (0, FP.fdiv (FP.i2f (nI (fp_sum (fun k => fp_cnt (fp_off (v k) lim) (n k)) 0 4))) (FP.i2f (nI (fp_sum n 0 4)))) else (1, FP.fconst0) : Nat × UInt32)).1 = 0 → dd 0 = FP.f2d ((if 0 < fp_sum n 0 4 then (0, FP.fdiv (FP.i2f (nI (fp_sum (fun k => fp_cnt (fp_off (v k) lim) (n k)) 0 4))) (FP.i2f (nI (fp_sum n 0 4)))) else (1, FP.fconst0) : Nat × UInt32)).2))) := by
  obtain ⟨hS, hP, hC, hnp, hlim, h8, hl1, hl9, hn30⟩ := hf.now
  refine fo_sw (by decide) [(0, .ref (Λ.2.2.1 605)), (1, .ref (Λ.2.2.1 630))] rfl (Nat.le_of_ble_eq_true rfl) (fun K C tb fin => ?_)
  refine fo_aload_n C dL_outlierShare_0 1 rfl rfl 1 rfl ?_
  refine fo_iconst C dL_outlierShare_1 (nI 0) ki_0 2 rfl ?_
  refine fo_aload_n C dL_outlierShare_2 0 rfl rfl 3 rfl ?_
  refine fo_yvf C dL_outlierShare_3 (mX6_outlierShare hfl hf) lv_L_113 (by decide : fo_k 605 = 8) rfl (by decide) rfl ⟨Nat.le_of_ble_eq_true rfl, Nat.le_of_ble_eq_true rfl⟩ ⟨Nat.le_of_ble_eq_true rfl, Nat.le_of_ble_eq_true rfl⟩ [.int (nI 0), .ref (Λ.2.2.1 630)] rfl (Nat.le_of_ble_eq_true rfl) 6 rfl (fun E I9 D9 J9 X9 h9 => ?_) (fun r1 I2 D3 J4 X5 p6 => ?_)
  · obtain ⟨h8, z9⟩ := h9
    obtain ⟨rfl, rfl, rfl⟩ := fo_sym3 z9
    simp only [fo_el, or_false] at h8
    rcases h8 with ⟨rfl, h0⟩
    · refine fo_ca C tb [] (0, 8, 11, 104) [] rfl (by decide) (fun _ h => absurd h List.not_mem_nil) (by decide) (by decide) fh_104 11 rfl (fun q9 => ?_)
      refine fo_astore_n C dL_outlierShare_11 rfl [(2, .ref q9), (0, .ref (Λ.2.2.1 605)), (1, .ref (Λ.2.2.1 630))] rfl (by decide) 12 rfl ?_
      refine fo_iconst C dL_outlierShare_12 (nI 1) ki_1 13 rfl ?_
      exact fin dL_outlierShare_13 rfl (Nat.le_of_ble_eq_true rfl) (Nat.le_of_ble_eq_true rfl) (⟨by rw [if_neg (by omega)], rfl, rfl, fw_f0 (by rw [if_neg (by omega)]; decide)⟩)
  obtain ⟨h0, rfl, z9⟩ := p6
  obtain ⟨rfl, rfl, rfl⟩ := fo_sym3 z9
  refine fo_f2d C dL_outlierShare_6 (fw_f2 (ff_divi (by omega) (by have := fp_sum_le (v := n) (a := 0) (c := 30) (n := 4) (fun k hk => by rw [Nat.zero_add]; exact hn30 k hk); omega))) 7 rfl ?_
  refine fo_dast C dL_outlierShare_7 (by decide : fo_k 630 = 22) (by rw [(show fo_n 630 = 1 from rfl)]; omega) 8 rfl ?_
  refine fo_goto C dL_outlierShare_8 14 (by decide) ?_
  refine fo_iconst C dL_outlierShare_14 (nI 0) ki_0 15 rfl ?_
  exact fin dL_outlierShare_15 rfl (Nat.le_of_ble_eq_true rfl) (Nat.le_of_ble_eq_true rfl) (⟨by rw [if_pos h0], rfl, rfl, fw_f1 (by rw [if_pos h0])⟩)
