
/-! THE MODEL: distances, forecasts there are -/

set_option maxRecDepth 10000 in
set_option maxHeartbeats 4000000 in
theorem mX7_apart {l : Launch} {Λ : fo_Lt} {I : fo_Mi} {D : fo_Md} {J : fo_Mj} {X : fo_Mi} {a b : Nat} (ha : a < 2 ^ 30) (hb : b < 2 ^ 30) : fk_i l yX7_apart cX7_apart 2 .int 0 0 Λ [.int (nI a), .int (nI b)] I D J X (fo_pr (nI (fo_ds2 a b)) I D J X) := by
  refine fo_si (by decide) [(0, .int (nI a)), (1, .int (nI b))] rfl (Nat.le_of_ble_eq_true rfl) (fun K C fin => ?_)
  refine fo_iload_n C dX7_apart_0 0 rfl rfl 1 rfl ?_
  refine fo_iload_n C dX7_apart_1 1 rfl rfl 2 rfl ?_
  refine fo_ncmp_ge C (by omega) (by omega) dX7_apart_2 11 (by decide) 5 rfl (fun c1 => ?_) (fun c1 => ?_)
  · refine fo_iload_n C dX7_apart_11 0 rfl rfl 12 rfl ?_
    refine fo_iload_n C dX7_apart_12 1 rfl rfl 13 rfl ?_
    refine fo_isub C dX7_apart_13 (nI (a - b)) (pk_sub (by omega)) 14 rfl ?_
    exact fin dX7_apart_14 rfl (⟨congrArg nI (by unfold fo_ds2; first | omega | (split <;> omega)), rfl, rfl, rfl, rfl⟩)
  · refine fo_iload_n C dX7_apart_5 1 rfl rfl 6 rfl ?_
    refine fo_iload_n C dX7_apart_6 0 rfl rfl 7 rfl ?_
    refine fo_isub C dX7_apart_7 (nI (b - a)) (pk_sub (by omega)) 8 rfl ?_
    refine fo_goto C dX7_apart_8 14 (by decide) ?_
    exact fin dX7_apart_14 rfl (⟨congrArg nI (by unfold fo_ds2; first | omega | (split <;> omega)), rfl, rfl, rfl, rfl⟩)
set_option maxRecDepth 10000 in
set_option maxHeartbeats 4000000 in
theorem mX7_foresees {l : Launch} {Λ : fo_Lt} {I : fo_Mi} {D : fo_Md} {J : fo_Mj} {X : fo_Mi} {np lim : Nat} {kd par n : Nat → Nat} {v : Nat → Nat → Nat} {p e : Nat} (hp : p < np) (he : e ≤ 30) (ht : fm_T I 617 np lim kd par n v) : fk_i l yX7_foresees cX7_foresees 4 .boolean 0 0 Λ [.ref (Λ.2.2.1 616), .int (nI p), .int (nI e)] I D J X (fo_pr (fo_b (decide (fp_need (kd p) (par p) ≤ e))) I D J X) := by
  obtain ⟨⟨ho1, ⟨ho2, ho3⟩, ho4, ho5, ho6⟩, hnp, hlim, hP, hS⟩ := id ht
  have hkp := ho4 p hp
  have hk9 := hkp.1
  have hp9 := hkp.2
  refine fo_si (by decide) [(0, .ref (Λ.2.2.1 616)), (1, .int (nI p)), (2, .int (nI e))] rfl (Nat.le_of_ble_eq_true rfl) (fun K C fin => ?_)
  refine fo_aload_n C dX7_foresees_0 0 rfl rfl 1 rfl ?_
  refine fo_get C dX7_foresees_1 fK9 (by decide : fo_k 616 = 9) (by decide) 0 (by decide) fl_X7_7 (v := .ref (Λ.2.2.1 617)) rfl 4 rfl ?_
  refine fo_iconst C dX7_foresees_4 (nI 2) ki_2 5 rfl ?_
  refine fo_iload_n C dX7_foresees_5 1 rfl rfl 6 rfl ?_
  refine fo_iadd C dX7_foresees_6 (nI (2 + p)) (nI_add _ _) 7 rfl ?_
  refine fo_iald C dX7_foresees_7 (by decide : fo_k 617 = 20) (by rw [(show fo_n 617 = 150 from rfl)]; omega) (nI (kd p)) ((hP p (by omega)).1) 8 rfl ?_
  refine fo_istore_n C dX7_foresees_8 rfl [(3, .int (nI (kd p))), (0, .ref (Λ.2.2.1 616)), (1, .int (nI p)), (2, .int (nI e))] rfl (by decide) 9 rfl ?_
  refine fo_iload_n C dX7_foresees_9 3 rfl rfl 10 rfl ?_
  refine fo_iload_n C dX7_foresees_10 0 rfl rfl 11 rfl ?_
  refine fo_bipush C dX7_foresees_11 (nI 109) kb_109 13 rfl ?_
  refine fo_ncmp_eq C (by omega) (by omega) dX7_foresees_13 22 (by decide) 16 rfl (fun c1 => ?_) (fun c1 => ?_)
  · refine fo_aload_n C dX7_foresees_22 1 rfl rfl 23 rfl ?_
    refine fo_get C dX7_foresees_23 fK9 (by decide : fo_k 616 = 9) (by decide) 0 (by decide) fl_X7_7 (v := .ref (Λ.2.2.1 617)) rfl 26 rfl ?_
    refine fo_bipush C dX7_foresees_26 (nI 10) kb_10 28 rfl ?_
    refine fo_iload_n C dX7_foresees_28 2 rfl rfl 29 rfl ?_
    refine fo_iadd C dX7_foresees_29 (nI (10 + p)) (nI_add _ _) 30 rfl ?_
    refine fo_iald C dX7_foresees_30 (by decide : fo_k 617 = 20) (by rw [(show fo_n 617 = 150 from rfl)]; omega) (nI (par p)) ((hP p (by omega)).2) 31 rfl ?_
    refine fo_goto C dX7_foresees_31 45 (by decide) ?_
    refine fo_ncmp_lt C (by omega) (by omega) dX7_foresees_45 52 (by decide) 48 rfl (fun c2 => ?_) (fun c2 => ?_)
    · refine fo_iconst C dX7_foresees_52 (nI 0) ki_0 53 rfl ?_
      exact fin dX7_foresees_53 (by first | rfl | exact fo_nb _) (⟨fo_b0 (decide_eq_false (by unfold fp_need; repeat' split <;> omega)), rfl, rfl, rfl, rfl⟩)
    · refine fo_iconst C dX7_foresees_48 (nI 1) ki_1 49 rfl ?_
      refine fo_goto C dX7_foresees_49 53 (by decide) ?_
      exact fin dX7_foresees_53 (by first | rfl | exact fo_nb _) (⟨fo_b1 (decide_eq_true (by unfold fp_need; repeat' split <;> omega)), rfl, rfl, rfl, rfl⟩)
  · refine fo_iload_n C dX7_foresees_16 0 rfl rfl 17 rfl ?_
    refine fo_bipush C dX7_foresees_17 (nI 100) kb_100 19 rfl ?_
    refine fo_ncmp_ne C (by omega) (by omega) dX7_foresees_19 34 (by decide) 22 rfl (fun c3 => ?_) (fun c3 => ?_)
    · refine fo_iload_n C dX7_foresees_34 0 rfl rfl 35 rfl ?_
      refine fo_bipush C dX7_foresees_35 (nI 116) kb_116 37 rfl ?_
      refine fo_ncmp_ne C (by omega) (by omega) dX7_foresees_37 44 (by decide) 40 rfl (fun c4 => ?_) (fun c4 => ?_)
      · refine fo_iconst C dX7_foresees_44 (nI 1) ki_1 45 rfl ?_
        refine fo_ncmp_lt C (by omega) (by omega) dX7_foresees_45 52 (by decide) 48 rfl (fun c5 => ?_) (fun c5 => ?_)
        · refine fo_iconst C dX7_foresees_52 (nI 0) ki_0 53 rfl ?_
          exact fin dX7_foresees_53 (by first | rfl | exact fo_nb _) (⟨fo_b0 (decide_eq_false (by unfold fp_need; repeat' split <;> omega)), rfl, rfl, rfl, rfl⟩)
        · refine fo_iconst C dX7_foresees_48 (nI 1) ki_1 49 rfl ?_
          refine fo_goto C dX7_foresees_49 53 (by decide) ?_
          exact fin dX7_foresees_53 (by first | rfl | exact fo_nb _) (⟨fo_b1 (decide_eq_true (by unfold fp_need; repeat' split <;> omega)), rfl, rfl, rfl, rfl⟩)
      · refine fo_iconst C dX7_foresees_40 (nI 2) ki_2 41 rfl ?_
        refine fo_goto C dX7_foresees_41 45 (by decide) ?_
        refine fo_ncmp_lt C (by omega) (by omega) dX7_foresees_45 52 (by decide) 48 rfl (fun c6 => ?_) (fun c6 => ?_)
        · refine fo_iconst C dX7_foresees_52 (nI 0) ki_0 53 rfl ?_
          exact fin dX7_foresees_53 (by first | rfl | exact fo_nb _) (⟨fo_b0 (decide_eq_false (by unfold fp_need; repeat' split <;> omega)), rfl, rfl, rfl, rfl⟩)
        · refine fo_iconst C dX7_foresees_48 (nI 1) ki_1 49 rfl ?_
          refine fo_goto C dX7_foresees_49 53 (by decide) ?_
          exact fin dX7_foresees_53 (by first | rfl | exact fo_nb _) (⟨fo_b1 (decide_eq_true (by unfold fp_need; repeat' split <;> omega)), rfl, rfl, rfl, rfl⟩)
    · refine fo_aload_n C dX7_foresees_22 1 rfl rfl 23 rfl ?_
      refine fo_get C dX7_foresees_23 fK9 (by decide : fo_k 616 = 9) (by decide) 0 (by decide) fl_X7_7 (v := .ref (Λ.2.2.1 617)) rfl 26 rfl ?_
      refine fo_bipush C dX7_foresees_26 (nI 10) kb_10 28 rfl ?_
      refine fo_iload_n C dX7_foresees_28 2 rfl rfl 29 rfl ?_
      refine fo_iadd C dX7_foresees_29 (nI (10 + p)) (nI_add _ _) 30 rfl ?_
      refine fo_iald C dX7_foresees_30 (by decide : fo_k 617 = 20) (by rw [(show fo_n 617 = 150 from rfl)]; omega) (nI (par p)) ((hP p (by omega)).2) 31 rfl ?_
      refine fo_goto C dX7_foresees_31 45 (by decide) ?_
      refine fo_ncmp_lt C (by omega) (by omega) dX7_foresees_45 52 (by decide) 48 rfl (fun c7 => ?_) (fun c7 => ?_)
      · refine fo_iconst C dX7_foresees_52 (nI 0) ki_0 53 rfl ?_
        exact fin dX7_foresees_53 (by first | rfl | exact fo_nb _) (⟨fo_b0 (decide_eq_false (by unfold fp_need; repeat' split <;> omega)), rfl, rfl, rfl, rfl⟩)
      · refine fo_iconst C dX7_foresees_48 (nI 1) ki_1 49 rfl ?_
        refine fo_goto C dX7_foresees_49 53 (by decide) ?_
        exact fin dX7_foresees_53 (by first | rfl | exact fo_nb _) (⟨fo_b1 (decide_eq_true (by unfold fp_need; repeat' split <;> omega)), rfl, rfl, rfl, rfl⟩)
