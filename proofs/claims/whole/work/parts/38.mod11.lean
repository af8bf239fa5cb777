
/-! THE MODEL: errors and points -/
theorem fo_lvc {l : Launch} {Λ : fo_Lt} {R : Room} {K : fo_K} {cs ss pc : Nat} {lv lv2 : List (Nat × Value)} {st : List Value} {I : fo_Mi} {D : fo_Md} {J : fo_Mj} {X : fo_Mi} (h : lv = lv2) (k : fo_G l Λ R K cs ss pc lv2 st I D J X) : fo_G l Λ R K cs ss pc lv st I D J X := by
  rw [h]; exact k
theorem fo_ow_is {w : Option Nat} {p : Nat} (hw : ∀ o, w = some o → o < 2 ^ 31) (hp : p < 2 ^ 31) : fo_ow w = nI p ↔ w = some p := by
  rcases w with _ | o
  · exact ⟨fun h => absurd h (fun q => fo_ow_ne hp q.symm), fun h => by cases h⟩
  · refine ⟨fun h => ?_, fun h => by cases h; rfl⟩
    have h2 := congrArg Int32.toInt (show nI o = nI p from h)
    rw [nI_toInt (hw o rfl), nI_toInt hp] at h2
    exact congrArg some (by omega)

set_option maxRecDepth 10000 in
set_option maxHeartbeats 4000000 in
theorem mX7_error {l : Launch} {Λ : fo_Lt} {I : fo_Mi} {D : fo_Md} {J : fo_Mj} {X : fo_Mi} {np lim : Nat} {kd par n : Nat → Nat} {v : Nat → Nat → Nat} {p k d : Nat} (hp : p < np) (hk : k < 4) (hd : d < n k) (hd1 : fp_need (kd p) (par p) ≤ d) (ht : fm_T I 617 np lim kd par n v) : fk_d l yX7_error cX7_error 6 3 75 Λ [.ref (Λ.2.2.1 616), .int (nI p), .int (nI k), .int (nI d)] I D J X (fo_ps (fp_err (kd p) (par p) (v k) d) I D J) := by
  obtain ⟨⟨ho1, ⟨ho2, ho3⟩, ho4, ho5, ho6⟩, hnp, hlim, hP, hS⟩ := id ht
  have hkp := ho4 p hp
  have hnd := fp_need_in hkp
  have hnk := ho5 k hk
  refine fo_sd (by decide) [(0, .ref (Λ.2.2.1 616)), (1, .int (nI p)), (2, .int (nI k)), (3, .int (nI d))] rfl (Nat.le_of_ble_eq_true rfl) (fun K C fin => ?_)
  refine fo_aload_n C dX7_error_0 0 rfl rfl 1 rfl ?_
  refine fo_iload_n C dX7_error_1 1 rfl rfl 2 rfl ?_
  refine fo_iload_n C dX7_error_2 2 rfl rfl 3 rfl ?_
  refine fo_iload_n C dX7_error_3 3 rfl rfl 4 rfl ?_
  refine fo_qvd C dX7_error_4 (mX7_foreseen (p := p) (k := k) (e := d) hp hk (by omega) hd1 ht) lv_X7_193 (by decide : fo_k 616 = 9) rfl (by decide) rfl ⟨Nat.le_of_ble_eq_true rfl, Nat.le_of_ble_eq_true rfl⟩ ⟨Nat.le_of_ble_eq_true rfl, Nat.le_of_ble_eq_true rfl⟩ [] rfl (Nat.le_of_ble_eq_true rfl) 7 rfl (fo_es (fun X5 => ?_))
  refine fo_aload_n C dX7_error_7 0 rfl rfl 8 rfl ?_
  refine fo_iload_n C dX7_error_8 2 rfl rfl 9 rfl ?_
  refine fo_iload_n C dX7_error_9 3 rfl rfl 10 rfl ?_
  refine fo_qvi C dX7_error_10 (mX7_v (k := k) (d := d) (by omega) (by omega) ht) lv_X7_142 (by decide : fo_k 616 = 9) rfl (by decide) rfl ⟨Nat.le_of_ble_eq_true rfl, Nat.le_of_ble_eq_true rfl⟩ ⟨Nat.le_of_ble_eq_true rfl, Nat.le_of_ble_eq_true rfl⟩ [.double (fp_fore (kd p) (par p) (v k) d)] rfl (Nat.le_of_ble_eq_true rfl) 13 rfl (fo_er ?_)
  have q13 := ho6 k (by omega) d (by omega)
  refine fo_i2d C dX7_error_13 14 rfl ?_
  refine fo_dsub C dX7_error_14 (fd_ok (K := 1302) (fd_err0 hkp (v k) (by omega)) (by decide)) 15 rfl ?_
  refine fo_dstore C dX7_error_15 [(4, .double (FP.dsub (fp_fore (kd p) (par p) (v k) d) (FP.i2d (nI (v k d))))), (0, .ref (Λ.2.2.1 616)), (1, .int (nI p)), (2, .int (nI k)), (3, .int (nI d))] rfl (by decide) 17 rfl ?_
  refine fo_dload C dX7_error_17 0 rfl 19 rfl ?_
  refine fo_dconst0 C dX7_error_19 20 rfl ?_
  refine fo_dcmp C dX7_error_20 21 rfl ?_
  refine fo_if_ge C dX7_error_21 30 (by decide) 24 rfl (fun c14 => ?_) (fun c14 => ?_)
  · refine fo_dload C dX7_error_30 0 rfl 32 rfl ?_
    refine fo_td (b := fp_err (kd p) (par p) (v k) d) (by first | exact fp_dabs_t (by assumption) | exact fp_dabs_f (by assumption)) ?_
    exact fin dX7_error_32 (⟨rfl, rfl, rfl, rfl⟩)
  · refine fo_dload C dX7_error_24 0 rfl 26 rfl ?_
    refine fo_dneg C dX7_error_26 27 rfl ?_
    refine fo_goto C dX7_error_27 32 (by decide) ?_
    refine fo_td (b := fp_err (kd p) (par p) (v k) d) (by first | exact fp_dabs_t (by assumption) | exact fp_dabs_f (by assumption)) ?_
    exact fin dX7_error_32 (⟨rfl, rfl, rfl, rfl⟩)
set_option maxRecDepth 10000 in
set_option maxHeartbeats 4000000 in
theorem mX7_errorsOf {l : Launch} {Λ : fo_Lt} {I : fo_Mi} {D : fo_Md} {J : fo_Mj} {X : fo_Mi} {np lim : Nat} {kd par n : Nat → Nat} {v : Nat → Nat → Nat} {p k : Nat} (hp : p < np) (hk : k < 4) (ht : fm_T I 617 np lim kd par n v) : fk_i l yX7_errorsOf cX7_errorsOf 5 .int 1 23 Λ [.ref (Λ.2.2.1 616), .int (nI p), .int (nI k)] I D J X (fo_pr (nI (n k - fp_need (kd p) (par p))) I D J X) := by
  obtain ⟨⟨ho1, ⟨ho2, ho3⟩, ho4, ho5, ho6⟩, hnp, hlim, hP, hS⟩ := id ht
  have hkp := ho4 p hp
  have hnd := fp_need_in hkp
  have hnk := ho5 k hk
  refine fo_si (by decide) [(0, .ref (Λ.2.2.1 616)), (1, .int (nI p)), (2, .int (nI k))] rfl (Nat.le_of_ble_eq_true rfl) (fun K C fin => ?_)
  refine fo_iconst C dX7_errorsOf_0 (nI 0) ki_0 1 rfl ?_
  refine fo_istore_n C dX7_errorsOf_1 rfl [(3, .int (nI 0)), (0, .ref (Λ.2.2.1 616)), (1, .int (nI p)), (2, .int (nI k))] rfl (by decide) 2 rfl ?_
  refine fo_iconst C dX7_errorsOf_2 (nI 0) ki_0 3 rfl ?_
  refine fo_lvc (lv2 := [(3, .int (nI (0 - fp_need (kd p) (par p)))), (0, .ref (Λ.2.2.1 616)), (1, .int (nI p)), (2, .int (nI k))]) (by rw [Nat.zero_sub]) ?_
  refine fo_istore C dX7_errorsOf_3 [(4, .int (nI 0)), (3, .int (nI (0 - fp_need (kd p) (par p)))), (0, .ref (Λ.2.2.1 616)), (1, .int (nI p)), (2, .int (nI k))] rfl (by decide) 5 rfl ?_
  have hL5 : ∀ (m5 : Nat) (d : Nat), n k + 1 - d < m5 → d ≤ n k → fo_G l Λ { frames := 1, cells := 0, slots := 0, locals := 23 } K 0 0 5 [(4, .int (nI d)), (3, .int (nI (d - fp_need (kd p) (par p)))), (0, .ref (Λ.2.2.1 616)), (1, .int (nI p)), (2, .int (nI k))] [] I D J X := by
    intro m5
    induction m5 with
    | zero => intro d hm; exact absurd hm (Nat.not_lt_zero _)
    | succ m5 ih5 =>
      intro d hm5 hd
      refine fo_iload C dX7_errorsOf_5 0 rfl 7 rfl ?_
      refine fo_aload_n C dX7_errorsOf_7 2 rfl rfl 8 rfl ?_
      refine fo_iload_n C dX7_errorsOf_8 4 rfl rfl 9 rfl ?_
      refine fo_qvi C dX7_errorsOf_9 (mX7_daysOf (k := k) (by omega) ht) lv_X7_92 (by decide : fo_k 616 = 9) rfl (by decide) rfl ⟨Nat.le_of_ble_eq_true rfl, Nat.le_of_ble_eq_true rfl⟩ ⟨Nat.le_of_ble_eq_true rfl, Nat.le_of_ble_eq_true rfl⟩ [.int (nI d)] rfl (Nat.le_of_ble_eq_true rfl) 12 rfl (fo_er ?_)
      have q7 := ho5 k (by omega)
      refine fo_ncmp_ge C (by omega) (by omega) dX7_errorsOf_12 39 (by decide) 15 rfl (fun c8 => ?_) (fun c8 => ?_)
      · refine fo_iload_n C dX7_errorsOf_39 1 rfl rfl 40 rfl ?_
        exact fin dX7_errorsOf_40 rfl (⟨by rw [show d = n k by omega], rfl, rfl, rfl, rfl⟩)
      · refine fo_iload_n C dX7_errorsOf_15 1 rfl rfl 16 rfl ?_
        refine fo_aload_n C dX7_errorsOf_16 2 rfl rfl 17 rfl ?_
        refine fo_iload_n C dX7_errorsOf_17 3 rfl rfl 18 rfl ?_
        refine fo_iload C dX7_errorsOf_18 0 rfl 20 rfl ?_
        refine fo_qvi C dX7_errorsOf_20 (mX7_foresees (p := p) (e := d) (by omega) (by omega) ht) lv_X7_190 (by decide : fo_k 616 = 9) rfl (by decide) rfl ⟨Nat.le_of_ble_eq_true rfl, Nat.le_of_ble_eq_true rfl⟩ ⟨Nat.le_of_ble_eq_true rfl, Nat.le_of_ble_eq_true rfl⟩ [.int (nI (d - fp_need (kd p) (par p)))] rfl (Nat.le_of_ble_eq_true rfl) 23 rfl (fo_er ?_)
        refine fo_bif_eq C dX7_errorsOf_23 30 (by decide) 26 rfl (fun c15 => ?_) (fun c15 => ?_)
        · have g1 := of_decide_eq_false c15
          refine fo_iconst C dX7_errorsOf_30 (nI 0) ki_0 31 rfl ?_
          refine fo_iadd C dX7_errorsOf_31 (nI ((d - fp_need (kd p) (par p)) + 0)) (nI_add _ _) 32 rfl ?_
          refine fo_ti (b := nI (d + 1 - fp_need (kd p) (par p))) (congrArg nI (by omega)) ?_
          refine fo_istore_n C dX7_errorsOf_32 rfl [(3, .int (nI (d + 1 - fp_need (kd p) (par p)))), (4, .int (nI d)), (0, .ref (Λ.2.2.1 616)), (1, .int (nI p)), (2, .int (nI k))] rfl (by decide) 33 rfl ?_
          refine fo_iinc C dX7_errorsOf_33 1 rfl (nI (d + 1)) (nI_inc1 _) [(4, .int (nI (d + 1))), (3, .int (nI (d + 1 - fp_need (kd p) (par p)))), (0, .ref (Λ.2.2.1 616)), (1, .int (nI p)), (2, .int (nI k))] rfl (by decide) 36 rfl ?_
          refine fo_goto C dX7_errorsOf_36 5 (by decide) ?_
          exact ih5 (d + 1) (by omega) (by omega)
        · have g1 := of_decide_eq_true c15
          refine fo_iconst C dX7_errorsOf_26 (nI 1) ki_1 27 rfl ?_
          refine fo_goto C dX7_errorsOf_27 31 (by decide) ?_
          refine fo_iadd C dX7_errorsOf_31 (nI ((d - fp_need (kd p) (par p)) + 1)) (nI_add _ _) 32 rfl ?_
          refine fo_ti (b := nI (d + 1 - fp_need (kd p) (par p))) (congrArg nI (by omega)) ?_
          refine fo_istore_n C dX7_errorsOf_32 rfl [(3, .int (nI (d + 1 - fp_need (kd p) (par p)))), (4, .int (nI d)), (0, .ref (Λ.2.2.1 616)), (1, .int (nI p)), (2, .int (nI k))] rfl (by decide) 33 rfl ?_
          refine fo_iinc C dX7_errorsOf_33 1 rfl (nI (d + 1)) (nI_inc1 _) [(4, .int (nI (d + 1))), (3, .int (nI (d + 1 - fp_need (kd p) (par p)))), (0, .ref (Λ.2.2.1 616)), (1, .int (nI p)), (2, .int (nI k))] rfl (by decide) 36 rfl ?_
          refine fo_goto C dX7_errorsOf_36 5 (by decide) ?_
          exact ih5 (d + 1) (by omega) (by omega)
  exact hL5 (n k + 1 + 1) 0 (by omega) (by omega)
set_option maxRecDepth 10000 in
set_option maxHeartbeats 4000000 in
theorem mX7_errorSumOf {l : Launch} {Λ : fo_Lt} {I : fo_Mi} {D : fo_Md} {J : fo_Mj} {X : fo_Mi} {np lim : Nat} {kd par n : Nat → Nat} {v : Nat → Nat → Nat} {p k : Nat} (hp : p < np) (hk : k < 4) (ht : fm_T I 617 np lim kd par n v) : fk_d l yX7_errorSumOf cX7_errorSumOf 6 4 100 Λ [.ref (Λ.2.2.1 616), .int (nI p), .int (nI k)] I D J X (fo_ps (fp_es (kd p) (par p) (v k) (n k)) I D J) := by
  obtain ⟨⟨ho1, ⟨ho2, ho3⟩, ho4, ho5, ho6⟩, hnp, hlim, hP, hS⟩ := id ht
  have hkp := ho4 p hp
  have hnd := fp_need_in hkp
  have hnk := ho5 k hk
  refine fo_sd (by decide) [(0, .ref (Λ.2.2.1 616)), (1, .int (nI p)), (2, .int (nI k))] rfl (Nat.le_of_ble_eq_true rfl) (fun K C fin => ?_)
  refine fo_dconst0 C dX7_errorSumOf_0 1 rfl ?_
  refine fo_dstore_n C dX7_errorSumOf_1 rfl [(3, .double (FP.dconst0)), (0, .ref (Λ.2.2.1 616)), (1, .int (nI p)), (2, .int (nI k))] rfl (by decide) 2 rfl ?_
  refine fo_iconst C dX7_errorSumOf_2 (nI 0) ki_0 3 rfl ?_
  refine fo_istore C dX7_errorSumOf_3 [(5, .int (nI 0)), (3, .double (FP.dconst0)), (0, .ref (Λ.2.2.1 616)), (1, .int (nI p)), (2, .int (nI k))] rfl (by decide) 5 rfl ?_
  have hL5 : ∀ (m5 : Nat) (d : Nat) (Y : fo_Mi), n k + 1 - d < m5 → d ≤ n k → fo_G l Λ { frames := 4, cells := 0, slots := 0, locals := 100 } K 0 0 5 [(5, .int (nI d)), (3, .double (fp_es (kd p) (par p) (v k) d)), (0, .ref (Λ.2.2.1 616)), (1, .int (nI p)), (2, .int (nI k))] [] I D J Y := by
    intro m5
    induction m5 with
    | zero => intro d Y hm; exact absurd hm (Nat.not_lt_zero _)
    | succ m5 ih5 =>
      intro d Y hm5 hd
      refine fo_iload C dX7_errorSumOf_5 0 rfl 7 rfl ?_
      refine fo_aload_n C dX7_errorSumOf_7 2 rfl rfl 8 rfl ?_
      refine fo_iload_n C dX7_errorSumOf_8 4 rfl rfl 9 rfl ?_
      refine fo_qvi C dX7_errorSumOf_9 (mX7_daysOf (k := k) (by omega) ht) lv_X7_92 (by decide : fo_k 616 = 9) rfl (by decide) rfl ⟨Nat.le_of_ble_eq_true rfl, Nat.le_of_ble_eq_true rfl⟩ ⟨Nat.le_of_ble_eq_true rfl, Nat.le_of_ble_eq_true rfl⟩ [.int (nI d)] rfl (Nat.le_of_ble_eq_true rfl) 12 rfl (fo_er ?_)
      have q7 := ho5 k (by omega)
      refine fo_ncmp_ge C (by omega) (by omega) dX7_errorSumOf_12 42 (by decide) 15 rfl (fun c8 => ?_) (fun c8 => ?_)
      · refine fo_dload_n C dX7_errorSumOf_42 1 rfl rfl 43 rfl ?_
        exact fin dX7_errorSumOf_43 (⟨by rw [show d = n k by omega], rfl, rfl, rfl⟩)
      · refine fo_aload_n C dX7_errorSumOf_15 2 rfl rfl 16 rfl ?_
        refine fo_iload_n C dX7_errorSumOf_16 3 rfl rfl 17 rfl ?_
        refine fo_iload C dX7_errorSumOf_17 0 rfl 19 rfl ?_
        refine fo_qvi C dX7_errorSumOf_19 (mX7_foresees (p := p) (e := d) (by omega) (by omega) ht) lv_X7_190 (by decide : fo_k 616 = 9) rfl (by decide) rfl ⟨Nat.le_of_ble_eq_true rfl, Nat.le_of_ble_eq_true rfl⟩ ⟨Nat.le_of_ble_eq_true rfl, Nat.le_of_ble_eq_true rfl⟩ [] rfl (Nat.le_of_ble_eq_true rfl) 22 rfl (fo_er ?_)
        refine fo_bif_eq C dX7_errorSumOf_22 36 (by decide) 25 rfl (fun c15 => ?_) (fun c15 => ?_)
        · have g1 := of_decide_eq_false c15
          have e9 : fp_es (kd p) (par p) (v k) d = fp_es (kd p) (par p) (v k) (d + 1) := by first | exact (if_pos g1).symm | exact (if_neg g1).symm
          refine fo_lvc (lv2 := [(5, .int (nI d)), (3, .double (fp_es (kd p) (par p) (v k) (d + 1))), (0, .ref (Λ.2.2.1 616)), (1, .int (nI p)), (2, .int (nI k))]) (by rw [e9]) ?_
          refine fo_iinc C dX7_errorSumOf_36 0 rfl (nI (d + 1)) (nI_inc1 _) [(5, .int (nI (d + 1))), (3, .double (fp_es (kd p) (par p) (v k) (d + 1))), (0, .ref (Λ.2.2.1 616)), (1, .int (nI p)), (2, .int (nI k))] rfl (by decide) 39 rfl ?_
          refine fo_goto C dX7_errorSumOf_39 5 (by decide) ?_
          exact ih5 (d + 1) Y (by omega) (by omega)
        · have g1 := of_decide_eq_true c15
          refine fo_dload_n C dX7_errorSumOf_25 1 rfl rfl 26 rfl ?_
          refine fo_aload_n C dX7_errorSumOf_26 2 rfl rfl 27 rfl ?_
          refine fo_iload_n C dX7_errorSumOf_27 3 rfl rfl 28 rfl ?_
          refine fo_iload_n C dX7_errorSumOf_28 4 rfl rfl 29 rfl ?_
          refine fo_iload C dX7_errorSumOf_29 0 rfl 31 rfl ?_
          refine fo_qvd C dX7_errorSumOf_31 (mX7_error (p := p) (k := k) (d := d) hp hk (by omega) g1 ht) lv_X7_208 (by decide : fo_k 616 = 9) rfl (by decide) rfl ⟨Nat.le_of_ble_eq_true rfl, Nat.le_of_ble_eq_true rfl⟩ ⟨Nat.le_of_ble_eq_true rfl, Nat.le_of_ble_eq_true rfl⟩ [.double (fp_es (kd p) (par p) (v k) d)] rfl (Nat.le_of_ble_eq_true rfl) 34 rfl (fo_es (fun X20 => ?_))
          refine fo_dadd C dX7_errorSumOf_34 (fd_ok (K := 1302 + 2 * d + 2) (fd_add (K := 1302 + 2 * d) (fd_es hkp (v k) d (by omega)) (fd_up (fd_err hkp (v k) (by omega)) (by omega)) (by omega)) (by omega)) 35 rfl ?_
          refine fo_dstore_n C dX7_errorSumOf_35 rfl [(3, .double (FP.dadd (fp_es (kd p) (par p) (v k) d) (fp_err (kd p) (par p) (v k) d))), (5, .int (nI d)), (0, .ref (Λ.2.2.1 616)), (1, .int (nI p)), (2, .int (nI k))] rfl (by decide) 36 rfl ?_
          have e9 : FP.dadd (fp_es (kd p) (par p) (v k) d) (fp_err (kd p) (par p) (v k) d) = fp_es (kd p) (par p) (v k) (d + 1) := by first | exact (if_pos g1).symm | exact (if_neg g1).symm
          refine fo_lvc (lv2 := [(3, .double (fp_es (kd p) (par p) (v k) (d + 1))), (5, .int (nI d)), (0, .ref (Λ.2.2.1 616)), (1, .int (nI p)), (2, .int (nI k))]) (by rw [e9]) ?_
          refine fo_iinc C dX7_errorSumOf_36 1 rfl (nI (d + 1)) (nI_inc1 _) [(5, .int (nI (d + 1))), (3, .double (fp_es (kd p) (par p) (v k) (d + 1))), (0, .ref (Λ.2.2.1 616)), (1, .int (nI p)), (2, .int (nI k))] rfl (by decide) 39 rfl ?_
          refine fo_goto C dX7_errorSumOf_39 5 (by decide) ?_
          exact ih5 (d + 1) X20 (by omega) (by omega)
  exact hL5 (n k + 1 + 1) 0 X (by omega) (by omega)
set_option maxRecDepth 10000 in
set_option maxHeartbeats 4000000 in
theorem mX7_winner {l : Launch} {Λ : fo_Lt} {I : fo_Mi} {D : fo_Md} {J : fo_Mj} {X : fo_Mi} {np lim : Nat} {kd par n : Nat → Nat} {v : Nat → Nat → Nat} {k d : Nat} (hk : k < 4) (hd : d < n k) (ht : fm_T I 617 np lim kd par n v) : fk_i l yX7_winner cX7_winner 5 .int 4 100 Λ [.ref (Λ.2.2.1 616), .int (nI k), .int (nI d)] I D J X (fo_ps (fo_ow (fp_win np kd par (v k) d)) I D J) := by
  obtain ⟨⟨ho1, ⟨ho2, ho3⟩, ho4, ho5, ho6⟩, hnp, hlim, hP, hS⟩ := id ht
  have hnk := ho5 k hk
  refine fo_si (by decide) [(0, .ref (Λ.2.2.1 616)), (1, .int (nI k)), (2, .int (nI d))] rfl (Nat.le_of_ble_eq_true rfl) (fun K C fin => ?_)
  refine fo_iconst C dX7_winner_0 (-1) (by decide) 1 rfl ?_
  refine fo_istore_n C dX7_winner_1 rfl [(3, .int (-1)), (0, .ref (Λ.2.2.1 616)), (1, .int (nI k)), (2, .int (nI d))] rfl (by decide) 2 rfl ?_
  refine fo_iconst C dX7_winner_2 (nI 0) ki_0 3 rfl ?_
  refine fo_istore C dX7_winner_3 [(4, .int (nI 0)), (3, .int (-1)), (0, .ref (Λ.2.2.1 616)), (1, .int (nI k)), (2, .int (nI d))] rfl (by decide) 5 rfl ?_
  have hL5 : ∀ (m5 : Nat) (i : Nat) (Y : fo_Mi), np + 1 - i < m5 → i ≤ np → fo_G l Λ { frames := 4, cells := 0, slots := 0, locals := 100 } K 0 0 5 [(4, .int (nI i)), (3, .int (fo_ow (fp_lst (fun p => decide (fp_need (kd p) (par p) ≤ d)) (fun p => fp_err (kd p) (par p) (v k) d) i))), (0, .ref (Λ.2.2.1 616)), (1, .int (nI k)), (2, .int (nI d))] [] I D J Y := by
    intro m5
    induction m5 with
    | zero => intro i Y hm; exact absurd hm (Nat.not_lt_zero _)
    | succ m5 ih5 =>
      intro i Y hm5 hi
      refine fo_iload C dX7_winner_5 0 rfl 7 rfl ?_
      refine fo_aload_n C dX7_winner_7 2 rfl rfl 8 rfl ?_
      refine fo_get C dX7_winner_8 fK9 (by decide : fo_k 616 = 9) (by decide) 0 (by decide) fl_X7_7 (v := .ref (Λ.2.2.1 617)) rfl 11 rfl ?_
      refine fo_iconst C dX7_winner_11 (nI 0) ki_0 12 rfl ?_
      refine fo_iald C dX7_winner_12 (by decide : fo_k 617 = 20) (by rw [(show fo_n 617 = 150 from rfl)]; omega) (nI (np)) (hnp) 13 rfl ?_
      refine fo_ncmp_ge C (by omega) (by omega) dX7_winner_13 61 (by decide) 16 rfl (fun c1 => ?_) (fun c1 => ?_)
      · refine fo_iload_n C dX7_winner_61 1 rfl rfl 62 rfl ?_
        exact fin dX7_winner_62 rfl (⟨by rw [show i = np by omega]; rfl, rfl, rfl, rfl⟩)
      · refine fo_aload_n C dX7_winner_16 2 rfl rfl 17 rfl ?_
        refine fo_iload C dX7_winner_17 0 rfl 19 rfl ?_
        refine fo_iload_n C dX7_winner_19 4 rfl rfl 20 rfl ?_
        refine fo_qvi C dX7_winner_20 (mX7_foresees (p := i) (e := d) (by omega) (by omega) ht) lv_X7_190 (by decide : fo_k 616 = 9) rfl (by decide) rfl ⟨Nat.le_of_ble_eq_true rfl, Nat.le_of_ble_eq_true rfl⟩ ⟨Nat.le_of_ble_eq_true rfl, Nat.le_of_ble_eq_true rfl⟩ [] rfl (Nat.le_of_ble_eq_true rfl) 23 rfl (fo_er ?_)
        refine fo_bif_ne C dX7_winner_23 29 (by decide) 26 rfl (fun c8 => ?_) (fun c8 => ?_)
        · have g1 := of_decide_eq_true c8
          rcases ho : fp_lst (fun p => decide (fp_need (kd p) (par p) ≤ d)) (fun p => fp_err (kd p) (par p) (v k) d) i with _ | o
          · refine fo_iload_n C dX7_winner_29 1 rfl rfl 30 rfl ?_
            refine fo_if_lt C dX7_winner_30 52 (by decide) 33 rfl (fun c9 => ?_) (fun c9 => ?_)
            · refine fo_iload C dX7_winner_52 0 rfl 54 rfl ?_
              refine fo_istore_n C dX7_winner_54 rfl [(3, .int (nI i)), (4, .int (nI i)), (0, .ref (Λ.2.2.1 616)), (1, .int (nI k)), (2, .int (nI d))] rfl (by decide) 55 rfl ?_
              have e9 : fp_lst (fun p => decide (fp_need (kd p) (par p) ≤ d)) (fun p => fp_err (kd p) (par p) (v k) d) (i + 1) = some i := by rw [fp_lst, if_pos (decide_eq_true (by omega)), ho]
              refine fo_lvc (lv2 := [(3, .int (fo_ow (fp_lst (fun p => decide (fp_need (kd p) (par p) ≤ d)) (fun p => fp_err (kd p) (par p) (v k) d) (i + 1)))), (4, .int (nI i)), (0, .ref (Λ.2.2.1 616)), (1, .int (nI k)), (2, .int (nI d))]) (by rw [e9] <;> rfl) ?_
              refine fo_iinc C dX7_winner_55 1 rfl (nI (i + 1)) (nI_inc1 _) [(4, .int (nI (i + 1))), (3, .int (fo_ow (fp_lst (fun p => decide (fp_need (kd p) (par p) ≤ d)) (fun p => fp_err (kd p) (par p) (v k) d) (i + 1)))), (0, .ref (Λ.2.2.1 616)), (1, .int (nI k)), (2, .int (nI d))] rfl (by decide) 58 rfl ?_
              refine fo_goto C dX7_winner_58 5 (by decide) ?_
              exact ih5 (i + 1) Y (by omega) (by omega)
            · exact absurd (by decide) c9
          · obtain ⟨ho7, ho9⟩ := fp_lst_in ho
            have ho8 := of_decide_eq_true ho9
            refine fo_iload_n C dX7_winner_29 1 rfl rfl 30 rfl ?_
            refine fo_nif_lt C (by omega) dX7_winner_30 33 rfl 52 (by decide) ?_
            refine fo_aload_n C dX7_winner_33 2 rfl rfl 34 rfl ?_
            refine fo_iload C dX7_winner_34 0 rfl 36 rfl ?_
            refine fo_iload_n C dX7_winner_36 3 rfl rfl 37 rfl ?_
            refine fo_iload_n C dX7_winner_37 4 rfl rfl 38 rfl ?_
            refine fo_qvd C dX7_winner_38 (mX7_error (p := i) (k := k) (d := d) (by omega) hk (by omega) g1 ht) lv_X7_208 (by decide : fo_k 616 = 9) rfl (by decide) rfl ⟨Nat.le_of_ble_eq_true rfl, Nat.le_of_ble_eq_true rfl⟩ ⟨Nat.le_of_ble_eq_true rfl, Nat.le_of_ble_eq_true rfl⟩ [] rfl (Nat.le_of_ble_eq_true rfl) 41 rfl (fo_es (fun X14 => ?_))
            refine fo_aload_n C dX7_winner_41 2 rfl rfl 42 rfl ?_
            refine fo_iload_n C dX7_winner_42 1 rfl rfl 43 rfl ?_
            refine fo_iload_n C dX7_winner_43 3 rfl rfl 44 rfl ?_
            refine fo_iload_n C dX7_winner_44 4 rfl rfl 45 rfl ?_
            refine fo_qvd C dX7_winner_45 (mX7_error (p := o) (k := k) (d := d) (by omega) hk (by omega) ho8 ht) lv_X7_208 (by decide : fo_k 616 = 9) rfl (by decide) rfl ⟨Nat.le_of_ble_eq_true rfl, Nat.le_of_ble_eq_true rfl⟩ ⟨Nat.le_of_ble_eq_true rfl, Nat.le_of_ble_eq_true rfl⟩ [.double (fp_err (kd i) (par i) (v k) d)] rfl (Nat.le_of_ble_eq_true rfl) 48 rfl (fo_es (fun X20 => ?_))
            refine fo_dcmp C dX7_winner_48 49 rfl ?_
            refine fo_if_ge C dX7_winner_49 55 (by decide) 52 rfl (fun c22 => ?_) (fun c22 => ?_)
            · have e9 : fp_lst (fun p => decide (fp_need (kd p) (par p) ≤ d)) (fun p => fp_err (kd p) (par p) (v k) d) (i + 1) = some o := by rw [fp_lst, if_pos (decide_eq_true (by omega)), ho]; exact if_neg (by rw [fp_lt_f (by assumption)]; decide)
              refine fo_lvc (lv2 := [(4, .int (nI i)), (3, .int (fo_ow (fp_lst (fun p => decide (fp_need (kd p) (par p) ≤ d)) (fun p => fp_err (kd p) (par p) (v k) d) (i + 1)))), (0, .ref (Λ.2.2.1 616)), (1, .int (nI k)), (2, .int (nI d))]) (by rw [e9] <;> rfl) ?_
              refine fo_iinc C dX7_winner_55 0 rfl (nI (i + 1)) (nI_inc1 _) [(4, .int (nI (i + 1))), (3, .int (fo_ow (fp_lst (fun p => decide (fp_need (kd p) (par p) ≤ d)) (fun p => fp_err (kd p) (par p) (v k) d) (i + 1)))), (0, .ref (Λ.2.2.1 616)), (1, .int (nI k)), (2, .int (nI d))] rfl (by decide) 58 rfl ?_
              refine fo_goto C dX7_winner_58 5 (by decide) ?_
              exact ih5 (i + 1) X20 (by omega) (by omega)
            · refine fo_iload C dX7_winner_52 0 rfl 54 rfl ?_
              refine fo_istore_n C dX7_winner_54 rfl [(3, .int (nI i)), (4, .int (nI i)), (0, .ref (Λ.2.2.1 616)), (1, .int (nI k)), (2, .int (nI d))] rfl (by decide) 55 rfl ?_
              have e9 : fp_lst (fun p => decide (fp_need (kd p) (par p) ≤ d)) (fun p => fp_err (kd p) (par p) (v k) d) (i + 1) = some i := by rw [fp_lst, if_pos (decide_eq_true (by omega)), ho]; exact if_pos (fp_lt_t (by assumption))
              refine fo_lvc (lv2 := [(3, .int (fo_ow (fp_lst (fun p => decide (fp_need (kd p) (par p) ≤ d)) (fun p => fp_err (kd p) (par p) (v k) d) (i + 1)))), (4, .int (nI i)), (0, .ref (Λ.2.2.1 616)), (1, .int (nI k)), (2, .int (nI d))]) (by rw [e9] <;> rfl) ?_
              refine fo_iinc C dX7_winner_55 1 rfl (nI (i + 1)) (nI_inc1 _) [(4, .int (nI (i + 1))), (3, .int (fo_ow (fp_lst (fun p => decide (fp_need (kd p) (par p) ≤ d)) (fun p => fp_err (kd p) (par p) (v k) d) (i + 1)))), (0, .ref (Λ.2.2.1 616)), (1, .int (nI k)), (2, .int (nI d))] rfl (by decide) 58 rfl ?_
              refine fo_goto C dX7_winner_58 5 (by decide) ?_
              exact ih5 (i + 1) X20 (by omega) (by omega)
        · have g1 := of_decide_eq_false c8
          refine fo_goto C dX7_winner_26 55 (by decide) ?_
          have e9 : fp_lst (fun p => decide (fp_need (kd p) (par p) ≤ d)) (fun p => fp_err (kd p) (par p) (v k) d) i = fp_lst (fun p => decide (fp_need (kd p) (par p) ≤ d)) (fun p => fp_err (kd p) (par p) (v k) d) (i + 1) := (by rw [fp_lst, if_neg (by simp; omega)])
          refine fo_lvc (lv2 := [(4, .int (nI i)), (3, .int (fo_ow (fp_lst (fun p => decide (fp_need (kd p) (par p) ≤ d)) (fun p => fp_err (kd p) (par p) (v k) d) (i + 1)))), (0, .ref (Λ.2.2.1 616)), (1, .int (nI k)), (2, .int (nI d))]) (by rw [e9]) ?_
          refine fo_iinc C dX7_winner_55 0 rfl (nI (i + 1)) (nI_inc1 _) [(4, .int (nI (i + 1))), (3, .int (fo_ow (fp_lst (fun p => decide (fp_need (kd p) (par p) ≤ d)) (fun p => fp_err (kd p) (par p) (v k) d) (i + 1)))), (0, .ref (Λ.2.2.1 616)), (1, .int (nI k)), (2, .int (nI d))] rfl (by decide) 58 rfl ?_
          refine fo_goto C dX7_winner_58 5 (by decide) ?_
          exact ih5 (i + 1) Y (by omega) (by omega)
  exact hL5 (np + 1 + 1) 0 X (by omega) (by omega)
set_option maxRecDepth 10000 in
set_option maxHeartbeats 4000000 in
theorem mX7_pointsOf {l : Launch} {Λ : fo_Lt} {I : fo_Mi} {D : fo_Md} {J : fo_Mj} {X : fo_Mi} {np lim : Nat} {kd par n : Nat → Nat} {v : Nat → Nat → Nat} {p k : Nat} (hp : p < np) (hk : k < 4) (ht : fm_T I 617 np lim kd par n v) : fk_i l yX7_pointsOf cX7_pointsOf 5 .int 5 124 Λ [.ref (Λ.2.2.1 616), .int (nI p), .int (nI k)] I D J X (fo_ps (nI (fp_pts np kd par (v k) p (n k))) I D J) := by
  obtain ⟨⟨ho1, ⟨ho2, ho3⟩, ho4, ho5, ho6⟩, hnp, hlim, hP, hS⟩ := id ht
  have hkp := ho4 p hp
  have hnd := fp_need_in hkp
  have hnk := ho5 k hk
  refine fo_si (by decide) [(0, .ref (Λ.2.2.1 616)), (1, .int (nI p)), (2, .int (nI k))] rfl (Nat.le_of_ble_eq_true rfl) (fun K C fin => ?_)
  refine fo_iconst C dX7_pointsOf_0 (nI 0) ki_0 1 rfl ?_
  refine fo_istore_n C dX7_pointsOf_1 rfl [(3, .int (nI 0)), (0, .ref (Λ.2.2.1 616)), (1, .int (nI p)), (2, .int (nI k))] rfl (by decide) 2 rfl ?_
  refine fo_iconst C dX7_pointsOf_2 (nI 0) ki_0 3 rfl ?_
  refine fo_istore C dX7_pointsOf_3 [(4, .int (nI 0)), (3, .int (nI 0)), (0, .ref (Λ.2.2.1 616)), (1, .int (nI p)), (2, .int (nI k))] rfl (by decide) 5 rfl ?_
  have hL5 : ∀ (m5 : Nat) (d : Nat) (Y : fo_Mi), n k + 1 - d < m5 → d ≤ n k → fo_G l Λ { frames := 5, cells := 0, slots := 0, locals := 124 } K 0 0 5 [(4, .int (nI d)), (3, .int (nI (fp_pts np kd par (v k) p d))), (0, .ref (Λ.2.2.1 616)), (1, .int (nI p)), (2, .int (nI k))] [] I D J Y := by
    intro m5
    induction m5 with
    | zero => intro d Y hm; exact absurd hm (Nat.not_lt_zero _)
    | succ m5 ih5 =>
      intro d Y hm5 hd
      have qa := fp_pts_le np kd par (v k) p d
      refine fo_iload C dX7_pointsOf_5 0 rfl 7 rfl ?_
      refine fo_aload_n C dX7_pointsOf_7 2 rfl rfl 8 rfl ?_
      refine fo_iload_n C dX7_pointsOf_8 4 rfl rfl 9 rfl ?_
      refine fo_qvi C dX7_pointsOf_9 (mX7_daysOf (k := k) (by omega) ht) lv_X7_92 (by decide : fo_k 616 = 9) rfl (by decide) rfl ⟨Nat.le_of_ble_eq_true rfl, Nat.le_of_ble_eq_true rfl⟩ ⟨Nat.le_of_ble_eq_true rfl, Nat.le_of_ble_eq_true rfl⟩ [.int (nI d)] rfl (Nat.le_of_ble_eq_true rfl) 12 rfl (fo_er ?_)
      have q7 := ho5 k (by omega)
      refine fo_ncmp_ge C (by omega) (by omega) dX7_pointsOf_12 40 (by decide) 15 rfl (fun c8 => ?_) (fun c8 => ?_)
      · refine fo_iload_n C dX7_pointsOf_40 1 rfl rfl 41 rfl ?_
        exact fin dX7_pointsOf_41 rfl (⟨by rw [show d = n k by omega], rfl, rfl, rfl⟩)
      · refine fo_iload_n C dX7_pointsOf_15 1 rfl rfl 16 rfl ?_
        refine fo_aload_n C dX7_pointsOf_16 2 rfl rfl 17 rfl ?_
        refine fo_iload_n C dX7_pointsOf_17 4 rfl rfl 18 rfl ?_
        refine fo_iload C dX7_pointsOf_18 0 rfl 20 rfl ?_
        refine fo_qvi C dX7_pointsOf_20 (mX7_winner (k := k) (d := d) hk (by omega) ht) lv_X7_214 (by decide : fo_k 616 = 9) rfl (by decide) rfl ⟨Nat.le_of_ble_eq_true rfl, Nat.le_of_ble_eq_true rfl⟩ ⟨Nat.le_of_ble_eq_true rfl, Nat.le_of_ble_eq_true rfl⟩ [.int (nI (fp_pts np kd par (v k) p d))] rfl (Nat.le_of_ble_eq_true rfl) 23 rfl (fo_es (fun X13 => ?_))
        refine fo_iload_n C dX7_pointsOf_23 3 rfl rfl 24 rfl ?_
        refine fo_icmp_ne C dX7_pointsOf_24 31 (by decide) 27 rfl (fun c15 => ?_) (fun c15 => ?_)
        · have g1 := mt (fo_ow_is (w := fp_win np kd par (v k) d) (fun o h => by have := (fp_lst_in h).1; omega) (by omega : p < 2 ^ 31)).mpr c15
          refine fo_iconst C dX7_pointsOf_31 (nI 0) ki_0 32 rfl ?_
          refine fo_iadd C dX7_pointsOf_32 (nI ((fp_pts np kd par (v k) p d) + 0)) (nI_add _ _) 33 rfl ?_
          refine fo_ti (b := nI (fp_pts np kd par (v k) p (d + 1))) (congrArg nI (by rw [fp_pts]; first | rw [if_pos g1] | rw [if_neg g1])) ?_
          refine fo_istore_n C dX7_pointsOf_33 rfl [(3, .int (nI (fp_pts np kd par (v k) p (d + 1)))), (4, .int (nI d)), (0, .ref (Λ.2.2.1 616)), (1, .int (nI p)), (2, .int (nI k))] rfl (by decide) 34 rfl ?_
          refine fo_iinc C dX7_pointsOf_34 1 rfl (nI (d + 1)) (nI_inc1 _) [(4, .int (nI (d + 1))), (3, .int (nI (fp_pts np kd par (v k) p (d + 1)))), (0, .ref (Λ.2.2.1 616)), (1, .int (nI p)), (2, .int (nI k))] rfl (by decide) 37 rfl ?_
          refine fo_goto C dX7_pointsOf_37 5 (by decide) ?_
          exact ih5 (d + 1) X13 (by omega) (by omega)
        · have g1 := (fo_ow_is (w := fp_win np kd par (v k) d) (fun o h => by have := (fp_lst_in h).1; omega) (by omega : p < 2 ^ 31)).mp c15
          refine fo_iconst C dX7_pointsOf_27 (nI 1) ki_1 28 rfl ?_
          refine fo_goto C dX7_pointsOf_28 32 (by decide) ?_
          refine fo_iadd C dX7_pointsOf_32 (nI ((fp_pts np kd par (v k) p d) + 1)) (nI_add _ _) 33 rfl ?_
          refine fo_ti (b := nI (fp_pts np kd par (v k) p (d + 1))) (congrArg nI (by rw [fp_pts]; first | rw [if_pos g1] | rw [if_neg g1])) ?_
          refine fo_istore_n C dX7_pointsOf_33 rfl [(3, .int (nI (fp_pts np kd par (v k) p (d + 1)))), (4, .int (nI d)), (0, .ref (Λ.2.2.1 616)), (1, .int (nI p)), (2, .int (nI k))] rfl (by decide) 34 rfl ?_
          refine fo_iinc C dX7_pointsOf_34 1 rfl (nI (d + 1)) (nI_inc1 _) [(4, .int (nI (d + 1))), (3, .int (nI (fp_pts np kd par (v k) p (d + 1)))), (0, .ref (Λ.2.2.1 616)), (1, .int (nI p)), (2, .int (nI k))] rfl (by decide) 37 rfl ?_
          refine fo_goto C dX7_pointsOf_37 5 (by decide) ?_
          exact ih5 (d + 1) X13 (by omega) (by omega)
  exact hL5 (n k + 1 + 1) 0 X (by omega) (by omega)
