
/-! THE MODEL: more checks -/
theorem fm_in_30 {x : Int32} : fm_in x (nI 1) (nI 30) = fo_130 x := by
  unfold fm_in fo_130
  have e1 : x < nI 1 ↔ x.toInt < 1 := by rw [Int32.lt_iff_toInt_lt, nI_toInt (by decide)]; rfl
  have e2 : nI 30 < x ↔ (30 : Int) < x.toInt := by rw [Int32.lt_iff_toInt_lt, nI_toInt (by decide)]; rfl
  by_cases h : 1 ≤ x.toInt ∧ x.toInt ≤ 30
  · rw [decide_eq_true h, decide_eq_true ⟨fun q => by have := e1.mp q; omega, fun q => by have := e2.mp q; omega⟩]
  · rw [decide_eq_false h, decide_eq_false (fun q => h ⟨by have : ¬ x.toInt < 1 := fun z => q.1 (e1.mpr z); omega, by have : ¬ (30 : Int) < x.toInt := fun z => q.2 (e2.mpr z); omega⟩)]
theorem fo_130_at {x : Int32} (h : fo_130 x = true) : ∃ c, 1 ≤ c ∧ c ≤ 30 ∧ x = nI c := by
  have h := of_decide_eq_true h
  refine ⟨x.toInt.toNat, by omega, by omega, ?_⟩
  apply Int32.toInt_inj.mp
  rw [nI_toInt (by omega)]
  omega
theorem fm_in_9 {x : Int32} : fm_in x (nI 1) (nI 9) = fo_19 x := by
  unfold fm_in fo_19
  have e1 : x < nI 1 ↔ x.toInt < 1 := by rw [Int32.lt_iff_toInt_lt, nI_toInt (by decide)]; rfl
  have e2 : nI 9 < x ↔ (9 : Int) < x.toInt := by rw [Int32.lt_iff_toInt_lt, nI_toInt (by decide)]; rfl
  by_cases h : 1 ≤ x.toInt ∧ x.toInt ≤ 9
  · rw [decide_eq_true h, decide_eq_true ⟨fun q => by have := e1.mp q; omega, fun q => by have := e2.mp q; omega⟩]
  · rw [decide_eq_false h, decide_eq_false (fun q => h ⟨by have : ¬ x.toInt < 1 := fun z => q.1 (e1.mpr z); omega, by have : ¬ (9 : Int) < x.toInt := fun z => q.2 (e2.mpr z); omega⟩)]

set_option maxRecDepth 10000 in
set_option maxHeartbeats 4000000 in
theorem mX7_noLast {l : Launch} {Λ : fo_Lt} {I : fo_Mi} {D : fo_Md} {J : fo_Mj} {X : fo_Mi} {np lim : Nat} {kd par n : Nat → Nat} {v : Nat → Nat → Nat} {x z : Int32} (ht : fm_T I 617 np lim kd par n v) : fk_i l yX7_noLast cX7_noLast 3 .int 2 42 Λ [.ref (Λ.2.2.1 616), .int (x), .int (z)] I D J X ((fun r I' D' J' X' => (fo_inr x 4 = false ∧ r = nI 1 ∨ ∃ k, k < 4 ∧ x = nI k ∧ (fo_130 z = false ∧ r = nI 2 ∨ ∃ c, 1 ≤ c ∧ c ≤ 30 ∧ z = nI c ∧ r = nI (if c ≤ n k then 0 else 3))) ∧ I' = I ∧ D' = D ∧ J' = J ∧ X' = X)) := by
  obtain ⟨⟨ho1, ⟨ho2, ho3⟩, ho4, ho5, ho6⟩, hnp, hlim, hP, hS⟩ := id ht
  refine fo_si (by decide) [(0, .ref (Λ.2.2.1 616)), (1, .int (x)), (2, .int (z))] rfl (Nat.le_of_ble_eq_true rfl) (fun K C fin => ?_)
  refine fo_iload_n C dX7_noLast_0 1 rfl rfl 1 rfl ?_
  refine fo_qsi C dX7_noLast_1 (mX7_isSeries (x := x)) ls_X7_120 rfl ⟨Nat.le_of_ble_eq_true rfl, Nat.le_of_ble_eq_true rfl⟩ ⟨Nat.le_of_ble_eq_true rfl, Nat.le_of_ble_eq_true rfl⟩ [] rfl (Nat.le_of_ble_eq_true rfl) 4 rfl (fo_er ?_)
  refine fo_bif_ne C dX7_noLast_4 11 (by decide) 7 rfl (fun c7 => ?_) (fun c7 => ?_)
  · obtain ⟨k, hk, hk31, rfl⟩ := fo_inr_at (x := x) (n := 4) (by first | assumption | simp_all)
    refine fo_iload_n C dX7_noLast_11 2 rfl rfl 12 rfl ?_
    refine fo_iconst C dX7_noLast_12 (nI 1) ki_1 13 rfl ?_
    refine fo_bipush C dX7_noLast_13 (nI 30) kb_30 15 rfl ?_
    refine fo_qsi C dX7_noLast_15 (mX7_in (x := z) (y := (nI (1))) (z := (nI (30)))) ls_X7_88 rfl ⟨Nat.le_of_ble_eq_true rfl, Nat.le_of_ble_eq_true rfl⟩ ⟨Nat.le_of_ble_eq_true rfl, Nat.le_of_ble_eq_true rfl⟩ [] rfl (Nat.le_of_ble_eq_true rfl) 18 rfl (fo_er ?_)
    refine fo_bif_ne C dX7_noLast_18 25 (by decide) 21 rfl (fun c14 => ?_) (fun c14 => ?_)
    · obtain ⟨c, hc1, hc2, rfl⟩ := fo_130_at (x := z) (by rw [← fm_in_30]; first | assumption | simp_all)
      refine fo_aload_n C dX7_noLast_25 0 rfl rfl 26 rfl ?_
      refine fo_iload_n C dX7_noLast_26 1 rfl rfl 27 rfl ?_
      refine fo_qvi C dX7_noLast_27 (mX7_daysOf (k := k) (by omega) ht) lv_X7_92 (by decide : fo_k 616 = 9) rfl (by decide) rfl ⟨Nat.le_of_ble_eq_true rfl, Nat.le_of_ble_eq_true rfl⟩ ⟨Nat.le_of_ble_eq_true rfl, Nat.le_of_ble_eq_true rfl⟩ [] rfl (Nat.le_of_ble_eq_true rfl) 30 rfl (fo_er ?_)
      have q21 := ho5 k (by omega)
      refine fo_iload_n C dX7_noLast_30 2 rfl rfl 31 rfl ?_
      refine fo_ncmp_ge C (by omega) (by omega) dX7_noLast_31 38 (by decide) 34 rfl (fun c22 => ?_) (fun c22 => ?_)
      · refine fo_iconst C dX7_noLast_38 (nI 0) ki_0 39 rfl ?_
        exact fin dX7_noLast_39 rfl (⟨Or.inr ⟨k, hk, rfl, Or.inr ⟨c, hc1, hc2, rfl, by rw [if_pos (by omega)]⟩⟩, rfl, rfl, rfl, rfl⟩)
      · refine fo_iconst C dX7_noLast_34 (nI 3) ki_3 35 rfl ?_
        refine fo_goto C dX7_noLast_35 39 (by decide) ?_
        exact fin dX7_noLast_39 rfl (⟨Or.inr ⟨k, hk, rfl, Or.inr ⟨c, hc1, hc2, rfl, by rw [if_neg (by omega)]⟩⟩, rfl, rfl, rfl, rfl⟩)
    · refine fo_iconst C dX7_noLast_21 (nI 2) ki_2 22 rfl ?_
      refine fo_goto C dX7_noLast_22 39 (by decide) ?_
      exact fin dX7_noLast_39 rfl (⟨Or.inr ⟨k, hk, rfl, Or.inl ⟨by rw [← fm_in_30]; first | assumption | simp_all, rfl⟩⟩, rfl, rfl, rfl, rfl⟩)
  · refine fo_iconst C dX7_noLast_7 (nI 1) ki_1 8 rfl ?_
    refine fo_goto C dX7_noLast_8 39 (by decide) ?_
    exact fin dX7_noLast_39 rfl (⟨Or.inl ⟨by first | assumption | simp_all, rfl⟩, rfl, rfl, rfl, rfl⟩)
