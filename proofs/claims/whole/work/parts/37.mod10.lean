/-! THE MODEL: forecasts -/
set_option maxRecDepth 10000 in
set_option maxHeartbeats 4000000 in
theorem mX7_foreseen {l : Launch} {Λ : fo_Lt} {I : fo_Mi} {D : fo_Md} {J : fo_Mj} {X : fo_Mi} {np lim : Nat} {kd par n : Nat → Nat} {v : Nat → Nat → Nat} {p k e : Nat} (hp : p < np) (hk : k < 4) (he : e ≤ n k) (hd1 : fp_need (kd p) (par p) ≤ e) (ht : fm_T I 617 np lim kd par n v) : fk_d l yX7_foreseen cX7_foreseen 6 2 50 Λ [.ref (Λ.2.2.1 616), .int (nI p), .int (nI k), .int (nI e)] I D J X (fo_ps (fp_fore (kd p) (par p) (v k) e) I D J) := by
  obtain ⟨⟨ho1, ⟨ho2, ho3⟩, ho4, ho5, ho6⟩, hnp, hlim, hP, hS⟩ := id ht
  have hnk := ho5 k hk
  have hkp := ho4 p hp
  have hk9 := hkp.1
  have hp9 := hkp.2
  refine fo_sd (by decide) [(0, .ref (Λ.2.2.1 616)), (1, .int (nI p)), (2, .int (nI k)), (3, .int (nI e))] rfl (Nat.le_of_ble_eq_true rfl) (fun K C fin => ?_)
  refine fo_aload_n C dX7_foreseen_0 0 rfl rfl 1 rfl ?_
  have hd2 := hd1
  unfold fp_need at hd2
  have hd3 : 1 ≤ e ∧ (kd p = 109 ∨ kd p = 100 → par p ≤ e) ∧ (kd p = 116 → 2 ≤ e) := by
    split at hd2
    · omega
    · split at hd2 <;> omega
  refine fo_get C dX7_foreseen_1 fK9 (by decide : fo_k 616 = 9) (by decide) 0 (by decide) fl_X7_7 (v := .ref (Λ.2.2.1 617)) rfl 4 rfl ?_
  refine fo_iconst C dX7_foreseen_4 (nI 2) ki_2 5 rfl ?_
  refine fo_iload_n C dX7_foreseen_5 1 rfl rfl 6 rfl ?_
  refine fo_iadd C dX7_foreseen_6 (nI (2 + p)) (nI_add _ _) 7 rfl ?_
  refine fo_iald C dX7_foreseen_7 (by decide : fo_k 617 = 20) (by rw [(show fo_n 617 = 150 from rfl)]; omega) (nI (kd p)) ((hP p (by omega)).1) 8 rfl ?_
  refine fo_istore C dX7_foreseen_8 [(4, .int (nI (kd p))), (0, .ref (Λ.2.2.1 616)), (1, .int (nI p)), (2, .int (nI k)), (3, .int (nI e))] rfl (by decide) 10 rfl ?_
  refine fo_aload_n C dX7_foreseen_10 1 rfl rfl 11 rfl ?_
  refine fo_get C dX7_foreseen_11 fK9 (by decide : fo_k 616 = 9) (by decide) 0 (by decide) fl_X7_7 (v := .ref (Λ.2.2.1 617)) rfl 14 rfl ?_
  refine fo_bipush C dX7_foreseen_14 (nI 10) kb_10 16 rfl ?_
  refine fo_iload_n C dX7_foreseen_16 2 rfl rfl 17 rfl ?_
  refine fo_iadd C dX7_foreseen_17 (nI (10 + p)) (nI_add _ _) 18 rfl ?_
  refine fo_iald C dX7_foreseen_18 (by decide : fo_k 617 = 20) (by rw [(show fo_n 617 = 150 from rfl)]; omega) (nI (par p)) ((hP p (by omega)).2) 19 rfl ?_
  refine fo_istore C dX7_foreseen_19 [(5, .int (nI (par p))), (4, .int (nI (kd p))), (0, .ref (Λ.2.2.1 616)), (1, .int (nI p)), (2, .int (nI k)), (3, .int (nI e))] rfl (by decide) 21 rfl ?_
  refine fo_iload C dX7_foreseen_21 1 rfl 23 rfl ?_
  refine fo_bipush C dX7_foreseen_23 (nI 108) kb_108 25 rfl ?_
  refine fo_ncmp_ne C (by omega) (by omega) dX7_foreseen_25 38 (by decide) 28 rfl (fun c1 => ?_) (fun c1 => ?_)
  · refine fo_iload C dX7_foreseen_38 1 rfl 40 rfl ?_
    refine fo_bipush C dX7_foreseen_40 (nI 109) kb_109 42 rfl ?_
    refine fo_ncmp_ne C (by omega) (by omega) dX7_foreseen_42 54 (by decide) 45 rfl (fun c2 => ?_) (fun c2 => ?_)
    · refine fo_iload C dX7_foreseen_54 1 rfl 56 rfl ?_
      refine fo_bipush C dX7_foreseen_56 (nI 100) kb_100 58 rfl ?_
      refine fo_ncmp_ne C (by omega) (by omega) dX7_foreseen_58 71 (by decide) 61 rfl (fun c3 => ?_) (fun c3 => ?_)
      · refine fo_iload C dX7_foreseen_71 1 rfl 73 rfl ?_
        refine fo_bipush C dX7_foreseen_73 (nI 116) kb_116 75 rfl ?_
        refine fo_ncmp_ne C (by omega) (by omega) dX7_foreseen_75 99 (by decide) 78 rfl (fun c4 => ?_) (fun c4 => ?_)
        · refine fo_aload_n C dX7_foreseen_99 2 rfl rfl 100 rfl ?_
          refine fo_iload_n C dX7_foreseen_100 4 rfl rfl 101 rfl ?_
          refine fo_iload_n C dX7_foreseen_101 5 rfl rfl 102 rfl ?_
          refine fo_iload C dX7_foreseen_102 0 rfl 104 rfl ?_
          refine fo_qvd C dX7_foreseen_104 (mX7_level (k := k) (e := e) (p := par p) hk (by omega) he (by omega) ht) lv_X7_168 (by decide : fo_k 616 = 9) rfl (by decide) rfl ⟨Nat.le_of_ble_eq_true rfl, Nat.le_of_ble_eq_true rfl⟩ ⟨Nat.le_of_ble_eq_true rfl, Nat.le_of_ble_eq_true rfl⟩ [] rfl (Nat.le_of_ble_eq_true rfl) 107 rfl (fo_er ?_)
          exact fin dX7_foreseen_107 (⟨(by unfold fp_fore; rw [if_neg (by omega), if_neg (by omega), if_neg (by omega), if_pos (by omega)]), rfl, rfl, rfl⟩)
        · refine fo_iconst C dX7_foreseen_78 (nI 2) ki_2 79 rfl ?_
          refine fo_aload_n C dX7_foreseen_79 2 rfl rfl 80 rfl ?_
          refine fo_iload_n C dX7_foreseen_80 4 rfl rfl 81 rfl ?_
          refine fo_iload_n C dX7_foreseen_81 5 rfl rfl 82 rfl ?_
          refine fo_iconst C dX7_foreseen_82 (nI 1) ki_1 83 rfl ?_
          refine fo_isub C dX7_foreseen_83 (nI (e - 1)) (pk_sub (by omega)) 84 rfl ?_
          refine fo_qvi C dX7_foreseen_84 (mX7_v (k := k) (d := e - 1) (by omega) (by omega) ht) lv_X7_142 (by decide : fo_k 616 = 9) rfl (by decide) rfl ⟨Nat.le_of_ble_eq_true rfl, Nat.le_of_ble_eq_true rfl⟩ ⟨Nat.le_of_ble_eq_true rfl, Nat.le_of_ble_eq_true rfl⟩ [.int (nI 2)] rfl (Nat.le_of_ble_eq_true rfl) 87 rfl (fo_er ?_)
          have q17 := ho6 k (by omega) (e - 1) (by omega)
          refine fo_imul C dX7_foreseen_87 (nI (2 * (v k (e - 1)))) (pk_mul _ _) 88 rfl ?_
          refine fo_aload_n C dX7_foreseen_88 2 rfl rfl 89 rfl ?_
          refine fo_iload_n C dX7_foreseen_89 4 rfl rfl 90 rfl ?_
          refine fo_iload_n C dX7_foreseen_90 5 rfl rfl 91 rfl ?_
          refine fo_iconst C dX7_foreseen_91 (nI 2) ki_2 92 rfl ?_
          refine fo_isub C dX7_foreseen_92 (nI (e - 2)) (pk_sub (by omega)) 93 rfl ?_
          refine fo_qvi C dX7_foreseen_93 (mX7_v (k := k) (d := e - 2) (by omega) (by omega) ht) lv_X7_142 (by decide : fo_k 616 = 9) rfl (by decide) rfl ⟨Nat.le_of_ble_eq_true rfl, Nat.le_of_ble_eq_true rfl⟩ ⟨Nat.le_of_ble_eq_true rfl, Nat.le_of_ble_eq_true rfl⟩ [.int (nI (2 * (v k (e - 1))))] rfl (Nat.le_of_ble_eq_true rfl) 96 rfl (fo_er ?_)
          have q24 := ho6 k (by omega) (e - 2) (by omega)
          refine fo_isub C dX7_foreseen_96 _ rfl 97 rfl ?_
          refine fo_i2d C dX7_foreseen_97 98 rfl ?_
          exact fin dX7_foreseen_98 (⟨(by unfold fp_fore; rw [if_neg (by omega), if_neg (by omega), if_pos (by omega)]), rfl, rfl, rfl⟩)
      · refine fo_aload_n C dX7_foreseen_61 2 rfl rfl 62 rfl ?_
        refine fo_iload_n C dX7_foreseen_62 4 rfl rfl 63 rfl ?_
        refine fo_iload_n C dX7_foreseen_63 5 rfl rfl 64 rfl ?_
        refine fo_iload C dX7_foreseen_64 0 rfl 66 rfl ?_
        refine fo_qvi C dX7_foreseen_66 (mX7_medianAhead (k := k) (e := e) (c := par p) hk (by omega) (by omega) he ht) lv_X7_159 (by decide : fo_k 616 = 9) rfl (by decide) rfl ⟨Nat.le_of_ble_eq_true rfl, Nat.le_of_ble_eq_true rfl⟩ ⟨Nat.le_of_ble_eq_true rfl, Nat.le_of_ble_eq_true rfl⟩ [] rfl (Nat.le_of_ble_eq_true rfl) 69 rfl (fo_es (fun X29 => ?_))
        refine fo_i2d C dX7_foreseen_69 70 rfl ?_
        exact fin dX7_foreseen_70 (⟨(by unfold fp_fore; rw [if_neg (by omega), if_pos (by omega)]), rfl, rfl, rfl⟩)
    · refine fo_aload_n C dX7_foreseen_45 2 rfl rfl 46 rfl ?_
      refine fo_iload_n C dX7_foreseen_46 4 rfl rfl 47 rfl ?_
      refine fo_iload_n C dX7_foreseen_47 5 rfl rfl 48 rfl ?_
      refine fo_iload C dX7_foreseen_48 0 rfl 50 rfl ?_
      refine fo_qvd C dX7_foreseen_50 (mX7_mean (k := k) (e := e) (c := par p) hk (by omega) (by omega) he ht) lv_X7_148 (by decide : fo_k 616 = 9) rfl (by decide) rfl ⟨Nat.le_of_ble_eq_true rfl, Nat.le_of_ble_eq_true rfl⟩ ⟨Nat.le_of_ble_eq_true rfl, Nat.le_of_ble_eq_true rfl⟩ [] rfl (Nat.le_of_ble_eq_true rfl) 53 rfl (fo_er ?_)
      exact fin dX7_foreseen_53 (⟨(by unfold fp_fore; rw [if_pos (by omega)]), rfl, rfl, rfl⟩)
  · refine fo_aload_n C dX7_foreseen_28 2 rfl rfl 29 rfl ?_
    refine fo_iload_n C dX7_foreseen_29 4 rfl rfl 30 rfl ?_
    refine fo_iload_n C dX7_foreseen_30 5 rfl rfl 31 rfl ?_
    refine fo_iconst C dX7_foreseen_31 (nI 1) ki_1 32 rfl ?_
    refine fo_isub C dX7_foreseen_32 (nI (e - 1)) (pk_sub (by omega)) 33 rfl ?_
    refine fo_qvi C dX7_foreseen_33 (mX7_v (k := k) (d := e - 1) (by omega) (by omega) ht) lv_X7_142 (by decide : fo_k 616 = 9) rfl (by decide) rfl ⟨Nat.le_of_ble_eq_true rfl, Nat.le_of_ble_eq_true rfl⟩ ⟨Nat.le_of_ble_eq_true rfl, Nat.le_of_ble_eq_true rfl⟩ [] rfl (Nat.le_of_ble_eq_true rfl) 36 rfl (fo_er ?_)
    have q43 := ho6 k (by omega) (e - 1) (by omega)
    refine fo_i2d C dX7_foreseen_36 37 rfl ?_
    exact fin dX7_foreseen_37 (⟨(by unfold fp_fore; rw [if_neg (by omega), if_neg (by omega), if_neg (by omega), if_neg (by omega)]), rfl, rfl, rfl⟩)
