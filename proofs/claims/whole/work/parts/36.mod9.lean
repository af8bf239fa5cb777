/-! THE MODEL: outliers counted -/
set_option maxRecDepth 10000 in
set_option maxHeartbeats 4000000 in
theorem mX7_offOf {l : Launch} {Λ : fo_Lt} {I : fo_Mi} {D : fo_Md} {J : fo_Mj} {X : fo_Mi} {np lim : Nat} {kd par n : Nat → Nat} {v : Nat → Nat → Nat} {k : Nat} (hk : k < 4) (ht : fm_T I 617 np lim kd par n v) : fk_i l yX7_offOf cX7_offOf 4 .int 3 74 Λ [.ref (Λ.2.2.1 616), .int (nI k)] I D J X (fo_ps (nI (fp_cnt (fp_off (v k) lim) (n k))) I D J) := by
  obtain ⟨⟨ho1, ⟨ho2, ho3⟩, ho4, ho5, ho6⟩, hnp, hlim, hP, hS⟩ := id ht
  have hnk := ho5 k hk
  refine fo_si (by decide) [(0, .ref (Λ.2.2.1 616)), (1, .int (nI k))] rfl (Nat.le_of_ble_eq_true rfl) (fun K C fin => ?_)
  refine fo_iconst C dX7_offOf_0 (nI 0) ki_0 1 rfl ?_
  refine fo_istore_n C dX7_offOf_1 rfl [(2, .int (nI 0)), (0, .ref (Λ.2.2.1 616)), (1, .int (nI k))] rfl (by decide) 2 rfl ?_
  refine fo_iconst C dX7_offOf_2 (nI 0) ki_0 3 rfl ?_
  refine fo_istore_n C dX7_offOf_3 rfl [(3, .int (nI 0)), (2, .int (nI 0)), (0, .ref (Λ.2.2.1 616)), (1, .int (nI k))] rfl (by decide) 4 rfl ?_
  have hL4 : ∀ (m4 : Nat) (d : Nat) (Y : fo_Mi), n k + 1 - d < m4 → d ≤ n k → fo_G l Λ { frames := 3, cells := 0, slots := 0, locals := 74 } K 0 0 4 [(3, .int (nI d)), (2, .int (nI (fp_cnt (fp_off (v k) lim) d))), (0, .ref (Λ.2.2.1 616)), (1, .int (nI k))] [] I D J Y := by
    intro m4
    induction m4 with
    | zero => intro d Y hm; exact absurd hm (Nat.not_lt_zero _)
    | succ m4 ih4 =>
      intro d Y hm4 hd
      have qa := fp_cnt_le (fp_off (v k) lim) d
      refine fo_iload_n C dX7_offOf_4 0 rfl rfl 5 rfl ?_
      refine fo_aload_n C dX7_offOf_5 2 rfl rfl 6 rfl ?_
      refine fo_iload_n C dX7_offOf_6 3 rfl rfl 7 rfl ?_
      refine fo_qvi C dX7_offOf_7 (mX7_daysOf (k := k) (by omega) ht) lv_X7_92 (by decide : fo_k 616 = 9) rfl (by decide) rfl ⟨Nat.le_of_ble_eq_true rfl, Nat.le_of_ble_eq_true rfl⟩ ⟨Nat.le_of_ble_eq_true rfl, Nat.le_of_ble_eq_true rfl⟩ [.int (nI d)] rfl (Nat.le_of_ble_eq_true rfl) 10 rfl (fo_er ?_)
      have q7 := ho5 k (by omega)
      refine fo_ncmp_ge C (by omega) (by omega) dX7_offOf_10 36 (by decide) 13 rfl (fun c8 => ?_) (fun c8 => ?_)
      · refine fo_iload_n C dX7_offOf_36 1 rfl rfl 37 rfl ?_
        exact fin dX7_offOf_37 rfl (⟨by rw [show n k = d by omega], rfl, rfl, rfl⟩)
      · refine fo_iload_n C dX7_offOf_13 1 rfl rfl 14 rfl ?_
        refine fo_aload_n C dX7_offOf_14 2 rfl rfl 15 rfl ?_
        refine fo_iload_n C dX7_offOf_15 3 rfl rfl 16 rfl ?_
        refine fo_iload_n C dX7_offOf_16 0 rfl rfl 17 rfl ?_
        refine fo_qvi C dX7_offOf_17 (mX7_isOff (k := k) (d := d) hk (by omega) ht) lv_X7_174 (by decide : fo_k 616 = 9) rfl (by decide) rfl ⟨Nat.le_of_ble_eq_true rfl, Nat.le_of_ble_eq_true rfl⟩ ⟨Nat.le_of_ble_eq_true rfl, Nat.le_of_ble_eq_true rfl⟩ [.int (nI (fp_cnt (fp_off (v k) lim) d))] rfl (Nat.le_of_ble_eq_true rfl) 20 rfl (fo_es (fun X13 => ?_))
        refine fo_bif_eq C dX7_offOf_20 27 (by decide) 23 rfl (fun c15 => ?_) (fun c15 => ?_)
        · refine fo_iconst C dX7_offOf_27 (nI 0) ki_0 28 rfl ?_
          refine fo_iadd C dX7_offOf_28 (nI ((fp_cnt (fp_off (v k) lim) d) + 0)) (nI_add _ _) 29 rfl ?_
          refine fo_istore_n C dX7_offOf_29 rfl [(2, .int (nI ((fp_cnt (fp_off (v k) lim) d) + 0))), (3, .int (nI d)), (0, .ref (Λ.2.2.1 616)), (1, .int (nI k))] rfl (by decide) 30 rfl ?_
          have e9 : (fp_cnt (fp_off (v k) lim) d) + 0 = fp_cnt (fp_off (v k) lim) (d + 1) := by simp [fp_cnt, *]
          rw [e9]
          refine fo_iinc C dX7_offOf_30 1 rfl (nI (d + 1)) (nI_inc1 _) [(3, .int (nI (d + 1))), (2, .int (nI (fp_cnt (fp_off (v k) lim) (d + 1)))), (0, .ref (Λ.2.2.1 616)), (1, .int (nI k))] rfl (by decide) 33 rfl ?_
          refine fo_goto C dX7_offOf_33 4 (by decide) ?_
          exact ih4 (d + 1) X13 (by omega) (by omega)
        · refine fo_iconst C dX7_offOf_23 (nI 1) ki_1 24 rfl ?_
          refine fo_goto C dX7_offOf_24 28 (by decide) ?_
          refine fo_iadd C dX7_offOf_28 (nI ((fp_cnt (fp_off (v k) lim) d) + 1)) (nI_add _ _) 29 rfl ?_
          refine fo_istore_n C dX7_offOf_29 rfl [(2, .int (nI ((fp_cnt (fp_off (v k) lim) d) + 1))), (3, .int (nI d)), (0, .ref (Λ.2.2.1 616)), (1, .int (nI k))] rfl (by decide) 30 rfl ?_
          have e9 : (fp_cnt (fp_off (v k) lim) d) + 1 = fp_cnt (fp_off (v k) lim) (d + 1) := by simp [fp_cnt, *]
          rw [e9]
          refine fo_iinc C dX7_offOf_30 1 rfl (nI (d + 1)) (nI_inc1 _) [(3, .int (nI (d + 1))), (2, .int (nI (fp_cnt (fp_off (v k) lim) (d + 1)))), (0, .ref (Λ.2.2.1 616)), (1, .int (nI k))] rfl (by decide) 33 rfl ?_
          refine fo_goto C dX7_offOf_33 4 (by decide) ?_
          exact ih4 (d + 1) X13 (by omega) (by omega)
  exact hL4 (n k + 1 + 1) 0 X (by omega) (by omega)
