/-! THE LABORATORY AND THE MODEL: forecastBits -/
set_option maxRecDepth 10000 in
set_option maxHeartbeats 4000000 in
theorem mX6_forecastBits {l : Launch} {Λ : fo_Lt} {I : fo_Mi} {D : fo_Md} {J : fo_Mj} {X : fo_Mi} (hfl : l.stackTraces = false) {np lim : Nat} {kd par n : Nat → Nat} {v : Nat → Nat → Nat} {y : Int32} {x : Int32} (hf : fs_F I D 0 np lim kd par n v) : fx_l l yX6_forecastBits cX6_forecastBits 3 9 155 3 18 Λ [.ref (Λ.2.2.1 605), .int (y), .int (x)] I D J X ((fun r I' D' J' X' => ∃ p, p < np ∧ y = nI p ∧ ∃ k, k < 4 ∧ x = nI k ∧ fp_need (kd p) (par p) ≤ n k ∧ r = (fp_fore (kd p) (par p) (v k) (n k)).toInt64 ∧ I' = I ∧ D' = D ∧ J' = J)) ((fun E I' D' J' X' => fo_el [("java/lang/IndexOutOfBoundsException", fo_inr y np = false), ("java/lang/IndexOutOfBoundsException", fo_inr x 4 = false), ("java/util/NoSuchElementException", ∃ p k, p < np ∧ y = nI p ∧ k < 4 ∧ x = nI k ∧ ¬ fp_need (kd p) (par p) ≤ n k)] E ∧ I' = I ∧ D' = D ∧ J' = J)) := by
  obtain ⟨hS, hP, hC, hnp, hlim, h8, hl1, hl9, hn30⟩ := hf.now
  refine fo_sxl hfl (by decide) [(0, .ref (Λ.2.2.1 605)), (1, .int (y)), (2, .int (x))] rfl (Nat.le_of_ble_eq_true rfl) (fun K C fin out thr => ?_)
  refine fo_aload_n C dX6_forecastBits_0 0 rfl rfl 1 rfl ?_
  refine fo_iload_n C dX6_forecastBits_1 1 rfl rfl 2 rfl ?_
  refine fo_iload_n C dX6_forecastBits_2 2 rfl rfl 3 rfl ?_
  refine fo_yvd C dX6_forecastBits_3 (mX6_nextForecast hfl (y := y) (x := x) hf) lv_X6_164 (by decide : fo_k 605 = 8) rfl (by decide) rfl ⟨Nat.le_of_ble_eq_true rfl, Nat.le_of_ble_eq_true rfl⟩ ⟨Nat.le_of_ble_eq_true rfl, Nat.le_of_ble_eq_true rfl⟩ [] rfl (Nat.le_of_ble_eq_true rfl) 6 rfl (fun E I9 D9 J9 X9 h9 => ?_) (fun r1 I2 D3 J4 X5 p6 => ?_)
  · exact out (Nat.le_of_ble_eq_true rfl) (Nat.le_of_ble_eq_true rfl) ⟨fo_el_app h9.1, h9.2⟩
  obtain ⟨p, hp, rfl, k, hk, rfl, hnd, rfl, z9⟩ := p6
  obtain ⟨rfl, rfl, rfl⟩ := fo_sym3 z9
  refine fo_qsl C dX6_forecastBits_6 (mX6_bitsOf (x := fp_fore (kd p) (par p) (v k) (n k)) (fl_fore (hP p hp).2.2.2 hnd (hn30 k hk) (fun j hj => (hS k hk).2.2.2.2 j hj))) ls_X6_167 rfl ⟨Nat.le_of_ble_eq_true rfl, Nat.le_of_ble_eq_true rfl⟩ ⟨Nat.le_of_ble_eq_true rfl, Nat.le_of_ble_eq_true rfl⟩ [] rfl (Nat.le_of_ble_eq_true rfl) 9 rfl (fo_er ?_)
  exact fin dX6_forecastBits_9 (Nat.le_of_ble_eq_true rfl) (Nat.le_of_ble_eq_true rfl) (⟨p, hp, rfl, k, hk, rfl, hnd, rfl, rfl, rfl, rfl⟩)
set_option maxRecDepth 10000 in
set_option maxHeartbeats 4000000 in
theorem mX7_forecastBits {l : Launch} {Λ : fo_Lt} {I : fo_Mi} {D : fo_Md} {J : fo_Mj} {X : fo_Mi} {np lim : Nat} {kd par n : Nat → Nat} {v : Nat → Nat → Nat} {y x : Int32} (ht : fm_T I 617 np lim kd par n v) : fk_l l yX7_forecastBits cX7_forecastBits 5 6 160 Λ [.ref (Λ.2.2.1 616), .int (y), .int (x)] I D J X ((fun r I' D' J' X' => r = (fg_pa np y x (0 : Int64) (fun p k => if fp_need (kd p) (par p) ≤ n k then (0, (fp_fore (kd p) (par p) (v k) (n k)).toInt64) else (2, 0))).2 ∧ I' = fo_r I 616 (upd (I 616) 5 (nI (fg_pa np y x (0 : Int64) (fun p k => if fp_need (kd p) (par p) ≤ n k then (0, (fp_fore (kd p) (par p) (v k) (n k)).toInt64) else (2, 0))).1)) ∧ D' = D ∧ J' = J)) := by
  obtain ⟨⟨ho1, ⟨ho2, ho3⟩, ho4, ho5, ho6⟩, hnp, hlim, hP, hS⟩ := id ht
  refine fo_sl (by decide) [(0, .ref (Λ.2.2.1 616)), (1, .int (y)), (2, .int (x))] rfl (Nat.le_of_ble_eq_true rfl) (fun K C fin => ?_)
  rcases hyx : (fo_inr y np && fo_inr x 4) with _ | _
  · skip
    refine fo_aload_n C dX7_forecastBits_0 0 rfl rfl 1 rfl ?_
    refine fo_iload_n C dX7_forecastBits_1 1 rfl rfl 2 rfl ?_
    refine fo_iload_n C dX7_forecastBits_2 2 rfl rfl 3 rfl ?_
    refine fo_qvd C dX7_forecastBits_3 (mX7_next (y := y) (x := x) ht) lv_X7_196 (by decide : fo_k 616 = 9) rfl (by decide) rfl ⟨Nat.le_of_ble_eq_true rfl, Nat.le_of_ble_eq_true rfl⟩ ⟨Nat.le_of_ble_eq_true rfl, Nat.le_of_ble_eq_true rfl⟩ [] rfl (Nat.le_of_ble_eq_true rfl) 6 rfl (fun r1 I2 D3 J4 X5 p6 => ?_)
    obtain ⟨rfl, rfl, z3, z4⟩ := p6
    obtain rfl := z3.symm
    obtain rfl := z4.symm
    rw [fg_pa_f hyx]
    refine fo_dstore_n C dX7_forecastBits_6 rfl [(3, .double (FP.dconst0)), (0, .ref (Λ.2.2.1 616)), (1, .int (y)), (2, .int (x))] rfl (by decide) 7 rfl ?_
    refine fo_aload_n C dX7_forecastBits_7 1 rfl rfl 8 rfl ?_
    refine fo_get C dX7_forecastBits_8 fK9 (by decide : fo_k 616 = 9) (by decide) 5 (by decide) fl_X7_25 (v := .int (nI 1)) (congrArg (fun x => some (Value.int x)) ((by rw [fo_rs, pk_us]))) 11 rfl ?_
    refine fo_nif_le C (by omega) dX7_forecastBits_11 18 (by decide) 14 rfl (fun c7 => ?_) (fun c7 => ?_)
    · omega
    · refine fo_lconst C dX7_forecastBits_14 0 (by decide) 15 rfl ?_
      refine fo_goto C dX7_forecastBits_15 22 (by decide) ?_
      exact fin dX7_forecastBits_22 (⟨(by rw [fg_pa_f hyx] <;> rfl), (by rw [fg_pa_f hyx] <;> exact rfl), rfl, rfl⟩)
  · obtain ⟨hy, hx⟩ := (Bool.and_eq_true _ _).mp hyx
    obtain ⟨p, hp, hp31, rfl⟩ := fo_inr_at hy
    obtain ⟨k, hk, hk31, rfl⟩ := fo_inr_at hx
    have hkp := ho4 p hp
    have hnk := ho5 k hk
    have hnd := fp_need_in hkp
    rcases Nat.lt_or_ge (n k) (fp_need (kd p) (par p)) with hc3 | hc3
    · skip
      refine fo_aload_n C dX7_forecastBits_0 0 rfl rfl 1 rfl ?_
      refine fo_iload_n C dX7_forecastBits_1 1 rfl rfl 2 rfl ?_
      refine fo_iload_n C dX7_forecastBits_2 2 rfl rfl 3 rfl ?_
      refine fo_qvd C dX7_forecastBits_3 (mX7_next (y := (nI (p))) (x := (nI (k))) ht) lv_X7_196 (by decide : fo_k 616 = 9) rfl (by decide) rfl ⟨Nat.le_of_ble_eq_true rfl, Nat.le_of_ble_eq_true rfl⟩ ⟨Nat.le_of_ble_eq_true rfl, Nat.le_of_ble_eq_true rfl⟩ [] rfl (Nat.le_of_ble_eq_true rfl) 6 rfl (fun r8 I9 D10 J11 X12 p13 => ?_)
      obtain ⟨rfl, rfl, z3, z4⟩ := p13
      obtain rfl := z3.symm
      obtain rfl := z4.symm
      rw [fg_pa_t hp ho1 hk, if_neg (by omega)]
      refine fo_dstore_n C dX7_forecastBits_6 rfl [(3, .double (FP.dconst0)), (0, .ref (Λ.2.2.1 616)), (1, .int (nI p)), (2, .int (nI k))] rfl (by decide) 7 rfl ?_
      refine fo_aload_n C dX7_forecastBits_7 1 rfl rfl 8 rfl ?_
      refine fo_get C dX7_forecastBits_8 fK9 (by decide : fo_k 616 = 9) (by decide) 5 (by decide) fl_X7_25 (v := .int (nI 2)) (congrArg (fun x => some (Value.int x)) ((by rw [fo_rs, pk_us]))) 11 rfl ?_
      refine fo_nif_le C (by omega) dX7_forecastBits_11 18 (by decide) 14 rfl (fun c14 => ?_) (fun c14 => ?_)
      · omega
      · refine fo_lconst C dX7_forecastBits_14 0 (by decide) 15 rfl ?_
        refine fo_goto C dX7_forecastBits_15 22 (by decide) ?_
        exact fin dX7_forecastBits_22 (⟨(by rw [fg_pa_t hp ho1 hk, if_neg (by omega)] <;> rfl), (by rw [fg_pa_t hp ho1 hk, if_neg (by omega)] <;> exact rfl), rfl, rfl⟩)
    · skip
      refine fo_aload_n C dX7_forecastBits_0 0 rfl rfl 1 rfl ?_
      refine fo_iload_n C dX7_forecastBits_1 1 rfl rfl 2 rfl ?_
      refine fo_iload_n C dX7_forecastBits_2 2 rfl rfl 3 rfl ?_
      refine fo_qvd C dX7_forecastBits_3 (mX7_next (y := (nI (p))) (x := (nI (k))) ht) lv_X7_196 (by decide : fo_k 616 = 9) rfl (by decide) rfl ⟨Nat.le_of_ble_eq_true rfl, Nat.le_of_ble_eq_true rfl⟩ ⟨Nat.le_of_ble_eq_true rfl, Nat.le_of_ble_eq_true rfl⟩ [] rfl (Nat.le_of_ble_eq_true rfl) 6 rfl (fun r15 I16 D17 J18 X19 p20 => ?_)
      obtain ⟨rfl, rfl, z3, z4⟩ := p20
      obtain rfl := z3.symm
      obtain rfl := z4.symm
      rw [fg_pa_t hp ho1 hk, if_pos hc3]
      refine fo_dstore_n C dX7_forecastBits_6 rfl [(3, .double (fp_fore (kd p) (par p) (v k) (n k))), (0, .ref (Λ.2.2.1 616)), (1, .int (nI p)), (2, .int (nI k))] rfl (by decide) 7 rfl ?_
      refine fo_aload_n C dX7_forecastBits_7 1 rfl rfl 8 rfl ?_
      refine fo_get C dX7_forecastBits_8 fK9 (by decide : fo_k 616 = 9) (by decide) 5 (by decide) fl_X7_25 (v := .int (nI 0)) (congrArg (fun x => some (Value.int x)) ((by rw [fo_rs, pk_us]))) 11 rfl ?_
      refine fo_nif_le C (by omega) dX7_forecastBits_11 18 (by decide) 14 rfl (fun c21 => ?_) (fun c21 => ?_)
      · refine fo_dload_n C dX7_forecastBits_18 0 rfl rfl 19 rfl ?_
        have hx9 : fd_m (fp_fore (kd p) (par p) (v k) (n k)) 2047 := fd_up (fd_fore hkp (v k) hnk) (by decide)
        refine fo_tql C dX7_forecastBits_19 (mJxe99ae_doubleToLongBits_ccdee (x := fp_fore (kd p) (par p) (v k) (n k)) hx9) lt_X7_199 rfl ⟨Nat.le_of_ble_eq_true rfl, Nat.le_of_ble_eq_true rfl⟩ ⟨Nat.le_of_ble_eq_true rfl, Nat.le_of_ble_eq_true rfl⟩ [] rfl (Nat.le_of_ble_eq_true rfl) 22 rfl (fo_er ?_)
        exact fin dX7_forecastBits_22 (⟨(by rw [fg_pa_t hp ho1 hk, if_pos hc3] <;> rfl), (by rw [fg_pa_t hp ho1 hk, if_pos hc3] <;> exact rfl), rfl, rfl⟩)
      · omega
