
/-! THE MODEL: means, levels -/

set_option maxRecDepth 10000 in
set_option maxHeartbeats 4000000 in
theorem mX7_mean {l : Launch} {Λ : fo_Lt} {I : fo_Mi} {D : fo_Md} {J : fo_Mj} {X : fo_Mi} {np lim : Nat} {kd par n : Nat → Nat} {v : Nat → Nat → Nat} {k e c : Nat} (hk : k < 4) (h1 : 1 ≤ c) (h2 : c ≤ e) (h3 : e ≤ n k) (ht : fm_T I 617 np lim kd par n v) : fk_d l yX7_mean cX7_mean 6 1 22 Λ [.ref (Λ.2.2.1 616), .int (nI k), .int (nI e), .int (nI c)] I D J X (fo_pr (fp_mean (v k) (e - c) c) I D J X) := by
  obtain ⟨⟨ho1, ⟨ho2, ho3⟩, ho4, ho5, ho6⟩, hnp, hlim, hP, hS⟩ := id ht
  have hnk := ho5 k hk
  refine fo_sd (by decide) [(0, .ref (Λ.2.2.1 616)), (1, .int (nI k)), (2, .int (nI e)), (3, .int (nI c))] rfl (Nat.le_of_ble_eq_true rfl) (fun K C fin => ?_)
  refine fo_iconst C dX7_mean_0 (nI 0) ki_0 1 rfl ?_
  refine fo_istore C dX7_mean_1 [(4, .int (nI 0)), (0, .ref (Λ.2.2.1 616)), (1, .int (nI k)), (2, .int (nI e)), (3, .int (nI c))] rfl (by decide) 3 rfl ?_
  refine fo_iload_n C dX7_mean_3 3 rfl rfl 4 rfl ?_
  refine fo_iload_n C dX7_mean_4 4 rfl rfl 5 rfl ?_
  refine fo_isub C dX7_mean_5 (nI (e - c)) (pk_sub (by omega)) 6 rfl ?_
  refine fo_istore C dX7_mean_6 [(5, .int (nI (e - c))), (4, .int (nI 0)), (0, .ref (Λ.2.2.1 616)), (1, .int (nI k)), (2, .int (nI e)), (3, .int (nI c))] rfl (by decide) 8 rfl ?_
  have hL8 : ∀ (m8 : Nat) (j : Nat), c + 1 - j < m8 → j ≤ c → fo_G l Λ { frames := 1, cells := 0, slots := 0, locals := 22 } K 0 0 8 [(5, .int (nI (e - c + j))), (4, .int (nI (fp_sum (v k) (e - c) j))), (0, .ref (Λ.2.2.1 616)), (1, .int (nI k)), (2, .int (nI e)), (3, .int (nI c))] [] I D J X := by
    intro m8
    induction m8 with
    | zero => intro j hm; exact absurd hm (Nat.not_lt_zero _)
    | succ m8 ih8 =>
      intro j hm8 hj
      have qa := fp_sum_le (v := v k) (a := e - c) (c := 999) (n := j) (fun i hi => ho6 k hk _ (by omega))
      refine fo_iload C dX7_mean_8 0 rfl 10 rfl ?_
      refine fo_iload_n C dX7_mean_10 4 rfl rfl 11 rfl ?_
      refine fo_ncmp_ge C (by omega) (by omega) dX7_mean_11 32 (by decide) 14 rfl (fun c1 => ?_) (fun c1 => ?_)
      · refine fo_iload C dX7_mean_32 1 rfl 34 rfl ?_
        refine fo_i2d C dX7_mean_34 35 rfl ?_
        refine fo_iload_n C dX7_mean_35 5 rfl rfl 36 rfl ?_
        refine fo_i2d C dX7_mean_36 37 rfl ?_
        refine fo_ddiv C dX7_mean_37 (fd_meanok (by omega) (by omega)) 38 rfl ?_
        exact fin dX7_mean_38 (⟨by rw [show j = c by omega]; rfl, rfl, rfl, rfl, rfl⟩)
      · refine fo_iload C dX7_mean_14 1 rfl 16 rfl ?_
        refine fo_aload_n C dX7_mean_16 2 rfl rfl 17 rfl ?_
        refine fo_iload_n C dX7_mean_17 3 rfl rfl 18 rfl ?_
        refine fo_iload C dX7_mean_18 0 rfl 20 rfl ?_
        refine fo_qvi C dX7_mean_20 (mX7_v (k := k) (d := e - c + j) (by omega) (by omega) ht) lv_X7_142 (by decide : fo_k 616 = 9) rfl (by decide) rfl ⟨Nat.le_of_ble_eq_true rfl, Nat.le_of_ble_eq_true rfl⟩ ⟨Nat.le_of_ble_eq_true rfl, Nat.le_of_ble_eq_true rfl⟩ [.int (nI (fp_sum (v k) (e - c) j))] rfl (Nat.le_of_ble_eq_true rfl) 23 rfl (fo_er ?_)
        have q8 := ho6 k (by omega) (e - c + j) (by omega)
        refine fo_iadd C dX7_mean_23 (nI ((fp_sum (v k) (e - c) j) + (v k (e - c + j)))) (nI_add _ _) 24 rfl ?_
        refine fo_istore C dX7_mean_24 [(4, .int (nI ((fp_sum (v k) (e - c) j) + (v k (e - c + j))))), (5, .int (nI (e - c + j))), (0, .ref (Λ.2.2.1 616)), (1, .int (nI k)), (2, .int (nI e)), (3, .int (nI c))] rfl (by decide) 26 rfl ?_
        refine fo_iinc C dX7_mean_26 1 rfl (nI (e - c + j + 1)) (nI_inc1 _) [(5, .int (nI (e - c + j + 1))), (4, .int (nI ((fp_sum (v k) (e - c) j) + (v k (e - c + j))))), (0, .ref (Λ.2.2.1 616)), (1, .int (nI k)), (2, .int (nI e)), (3, .int (nI c))] rfl (by decide) 29 rfl ?_
        refine fo_goto C dX7_mean_29 8 (by decide) ?_
        exact ih8 (j + 1) (by omega) (by omega)
  exact hL8 (c + 1 + 1) 0 (by omega) (by omega)
set_option maxRecDepth 10000 in
set_option maxHeartbeats 4000000 in
theorem mX7_level {l : Launch} {Λ : fo_Lt} {I : fo_Mi} {D : fo_Md} {J : fo_Mj} {X : fo_Mi} {np lim : Nat} {kd par n : Nat → Nat} {v : Nat → Nat → Nat} {k e p : Nat} (hk : k < 4) (h1 : 1 ≤ e) (h2 : e ≤ n k) (hp : p < 10) (ht : fm_T I 617 np lim kd par n v) : fk_d l yX7_level cX7_level 7 1 22 Λ [.ref (Λ.2.2.1 616), .int (nI k), .int (nI e), .int (nI p)] I D J X (fo_pr (fp_lev (v k) p (e - 1)) I D J X) := by
  obtain ⟨⟨ho1, ⟨ho2, ho3⟩, ho4, ho5, ho6⟩, hnp, hlim, hP, hS⟩ := id ht
  have hnk := ho5 k hk
  refine fo_sd (by decide) [(0, .ref (Λ.2.2.1 616)), (1, .int (nI k)), (2, .int (nI e)), (3, .int (nI p))] rfl (Nat.le_of_ble_eq_true rfl) (fun K C fin => ?_)
  refine fo_aload_n C dX7_level_0 0 rfl rfl 1 rfl ?_
  refine fo_iload_n C dX7_level_1 1 rfl rfl 2 rfl ?_
  refine fo_iconst C dX7_level_2 (nI 0) ki_0 3 rfl ?_
  refine fo_qvi C dX7_level_3 (mX7_v (k := k) (d := 0) (by omega) (by omega) ht) lv_X7_142 (by decide : fo_k 616 = 9) rfl (by decide) rfl ⟨Nat.le_of_ble_eq_true rfl, Nat.le_of_ble_eq_true rfl⟩ ⟨Nat.le_of_ble_eq_true rfl, Nat.le_of_ble_eq_true rfl⟩ [] rfl (Nat.le_of_ble_eq_true rfl) 6 rfl (fo_er ?_)
  have q7 := ho6 k (by omega) 0 (by omega)
  refine fo_i2d C dX7_level_6 7 rfl ?_
  refine fo_dstore C dX7_level_7 [(4, .double (FP.i2d (nI (v k 0)))), (0, .ref (Λ.2.2.1 616)), (1, .int (nI k)), (2, .int (nI e)), (3, .int (nI p))] rfl (by decide) 9 rfl ?_
  refine fo_iconst C dX7_level_9 (nI 1) ki_1 10 rfl ?_
  refine fo_istore C dX7_level_10 [(6, .int (nI 1)), (4, .double (FP.i2d (nI (v k 0)))), (0, .ref (Λ.2.2.1 616)), (1, .int (nI k)), (2, .int (nI e)), (3, .int (nI p))] rfl (by decide) 12 rfl ?_
  have hL12 : ∀ (m12 : Nat) (j : Nat), e - j < m12 → j + 1 ≤ e → fo_G l Λ { frames := 1, cells := 0, slots := 0, locals := 22 } K 0 0 12 [(6, .int (nI (j + 1))), (4, .double (fp_lev (v k) p j)), (0, .ref (Λ.2.2.1 616)), (1, .int (nI k)), (2, .int (nI e)), (3, .int (nI p))] [] I D J X := by
    intro m12
    induction m12 with
    | zero => intro j hm; exact absurd hm (Nat.not_lt_zero _)
    | succ m12 ih12 =>
      intro j hm12 hj1
      obtain ⟨w1, w2, w3, w4⟩ := fd_step (v := nI (v k (j + 1))) (fd_lev (v k) hp j (by omega)) (by omega) (by omega) hp
      refine fo_iload C dX7_level_12 0 rfl 14 rfl ?_
      refine fo_iload_n C dX7_level_14 4 rfl rfl 15 rfl ?_
      refine fo_ncmp_ge C (by omega) (by omega) dX7_level_15 47 (by decide) 18 rfl (fun c8 => ?_) (fun c8 => ?_)
      · refine fo_dload C dX7_level_47 1 rfl 49 rfl ?_
        exact fin dX7_level_49 (⟨by rw [show e - 1 = j by omega], rfl, rfl, rfl, rfl⟩)
      · refine fo_dload C dX7_level_18 1 rfl 20 rfl ?_
        refine fo_iload_n C dX7_level_20 5 rfl rfl 21 rfl ?_
        refine fo_i2d C dX7_level_21 22 rfl ?_
        refine fo_aload_n C dX7_level_22 2 rfl rfl 23 rfl ?_
        refine fo_iload_n C dX7_level_23 3 rfl rfl 24 rfl ?_
        refine fo_iload C dX7_level_24 0 rfl 26 rfl ?_
        refine fo_qvi C dX7_level_26 (mX7_v (k := k) (d := j + 1) (by omega) (by omega) ht) lv_X7_142 (by decide : fo_k 616 = 9) rfl (by decide) rfl ⟨Nat.le_of_ble_eq_true rfl, Nat.le_of_ble_eq_true rfl⟩ ⟨Nat.le_of_ble_eq_true rfl, Nat.le_of_ble_eq_true rfl⟩ [.double (FP.i2d (nI (p))), .double (fp_lev (v k) p j)] rfl (Nat.le_of_ble_eq_true rfl) 29 rfl (fo_er ?_)
        have q15 := ho6 k (by omega) (j + 1) (by omega)
        refine fo_i2d C dX7_level_29 30 rfl ?_
        refine fo_dload C dX7_level_30 1 rfl 32 rfl ?_
        refine fo_dsub C dX7_level_32 (fd_ok (K := 1056 + 7 * j + 2) w1 (by omega)) 33 rfl ?_
        refine fo_dmul C dX7_level_33 (fd_ok (K := 1056 + 7 * j + 7) w2 (by omega)) 34 rfl ?_
        refine fo_ldcd C dX7_level_34 fd_X7_166 37 rfl ?_
        refine fo_ddiv C dX7_level_37 (fd_ok (K := 1056 + 7 * j + 5) w3 (by omega)) 38 rfl ?_
        refine fo_dadd C dX7_level_38 (fd_ok (K := 1056 + 7 * j + 7) w4 (by omega)) 39 rfl ?_
        refine fo_dstore C dX7_level_39 [(4, .double (FP.dadd (fp_lev (v k) p j) (FP.ddiv (FP.dmul (FP.i2d (nI (p))) (FP.dsub (FP.i2d (nI (v k (j + 1)))) (fp_lev (v k) p j))) (4621819117588971520)))), (6, .int (nI (j + 1))), (0, .ref (Λ.2.2.1 616)), (1, .int (nI k)), (2, .int (nI e)), (3, .int (nI p))] rfl (by decide) 41 rfl ?_
        refine fo_iinc C dX7_level_41 1 rfl (nI (j + 1 + 1)) (nI_inc1 _) [(6, .int (nI (j + 1 + 1))), (4, .double (FP.dadd (fp_lev (v k) p j) (FP.ddiv (FP.dmul (FP.i2d (nI (p))) (FP.dsub (FP.i2d (nI (v k (j + 1)))) (fp_lev (v k) p j))) (4621819117588971520)))), (0, .ref (Λ.2.2.1 616)), (1, .int (nI k)), (2, .int (nI e)), (3, .int (nI p))] rfl (by decide) 44 rfl ?_
        refine fo_goto C dX7_level_44 12 (by decide) ?_
        exact ih12 (j + 1) (by omega) (by omega)
  exact hL12 (e + 1 + 1) 0 (by omega) (by omega)
