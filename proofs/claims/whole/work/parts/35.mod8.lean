/-! THE MODEL: outliers -/
set_option maxRecDepth 10000 in
set_option maxHeartbeats 4000000 in
theorem mX7_isOff {l : Launch} {Λ : fo_Lt} {I : fo_Mi} {D : fo_Md} {J : fo_Mj} {X : fo_Mi} {np lim : Nat} {kd par n : Nat → Nat} {v : Nat → Nat → Nat} {k d : Nat} (hk : k < 4) (hd : d < n k) (ht : fm_T I 617 np lim kd par n v) : fk_i l yX7_isOff cX7_isOff 5 .boolean 2 50 Λ [.ref (Λ.2.2.1 616), .int (nI k), .int (nI d)] I D J X (fo_ps (fo_b (fp_off (v k) lim d)) I D J) := by
  obtain ⟨⟨ho1, ⟨ho2, ho3⟩, ho4, ho5, ho6⟩, hnp, hlim, hP, hS⟩ := id ht
  have hnk := ho5 k hk
  refine fo_si (by decide) [(0, .ref (Λ.2.2.1 616)), (1, .int (nI k)), (2, .int (nI d))] rfl (Nat.le_of_ble_eq_true rfl) (fun K C fin => ?_)
  refine fo_iload_n C dX7_isOff_0 2 rfl rfl 1 rfl ?_
  refine fo_iconst C dX7_isOff_1 (nI 5) ki_5 2 rfl ?_
  refine fo_ncmp_ge C (by omega) (by omega) dX7_isOff_2 7 (by decide) 5 rfl (fun c1 => ?_) (fun c1 => ?_)
  · refine fo_aload_n C dX7_isOff_7 0 rfl rfl 8 rfl ?_
    refine fo_iload_n C dX7_isOff_8 1 rfl rfl 9 rfl ?_
    refine fo_iload_n C dX7_isOff_9 2 rfl rfl 10 rfl ?_
    refine fo_iconst C dX7_isOff_10 (nI 5) ki_5 11 rfl ?_
    refine fo_qvi C dX7_isOff_11 (mX7_medianAhead (e := d) (c := 5) hk (by decide) (by omega) (by omega) ht) lv_X7_159 (by decide : fo_k 616 = 9) rfl (by decide) rfl ⟨Nat.le_of_ble_eq_true rfl, Nat.le_of_ble_eq_true rfl⟩ ⟨Nat.le_of_ble_eq_true rfl, Nat.le_of_ble_eq_true rfl⟩ [] rfl (Nat.le_of_ble_eq_true rfl) 14 rfl (fo_es (fun X6 => ?_))
    have qm : fp_med (fun o => v k (d - 5 + o)) 5 ≤ 999 := fp_med_le (fun o ho => ho6 k hk _ (by omega))
    refine fo_istore_n C dX7_isOff_14 rfl [(3, .int (nI (fp_med (fun o => v k (d - 5 + o)) 5))), (0, .ref (Λ.2.2.1 616)), (1, .int (nI k)), (2, .int (nI d))] rfl (by decide) 15 rfl ?_
    refine fo_iconst C dX7_isOff_15 (nI 0) ki_0 16 rfl ?_
    refine fo_istore C dX7_isOff_16 [(4, .int (nI 0)), (3, .int (nI (fp_med (fun o => v k (d - 5 + o)) 5))), (0, .ref (Λ.2.2.1 616)), (1, .int (nI k)), (2, .int (nI d))] rfl (by decide) 18 rfl ?_
    have hL18 : ∀ (m18 : Nat) (j : Nat) (Y : fo_Mi), 6 - j < m18 → j ≤ 5 → (∀ o, o < j → Y 621 o = nI (fo_ds2 (v k (d - 5 + o)) (fp_med (fun o => v k (d - 5 + o)) 5))) → fo_G l Λ { frames := 2, cells := 0, slots := 0, locals := 50 } K 0 0 18 [(4, .int (nI j)), (3, .int (nI (fp_med (fun o => v k (d - 5 + o)) 5))), (0, .ref (Λ.2.2.1 616)), (1, .int (nI k)), (2, .int (nI d))] [] I D J Y := by
      intro m18
      induction m18 with
      | zero => intro j Y hm; exact absurd hm (Nat.not_lt_zero _)
      | succ m18 ih18 =>
        intro j Y hm18 hj hY
        refine fo_iload C dX7_isOff_18 0 rfl 20 rfl ?_
        refine fo_iconst C dX7_isOff_20 (nI 5) ki_5 21 rfl ?_
        refine fo_ncmp_ge C (by omega) (by omega) dX7_isOff_21 52 (by decide) 24 rfl (fun c8 => ?_) (fun c8 => ?_)
        · refine fo_aload_n C dX7_isOff_52 2 rfl rfl 53 rfl ?_
          refine fo_iconst C dX7_isOff_53 (nI 5) ki_5 54 rfl ?_
          refine fo_qvi C dX7_isOff_54 (mX7_rowMedian (f := (fun o => fo_ds2 (v k (d - 5 + o)) (fp_med (fun o => v k (d - 5 + o)) 5))) (c := 5) (by decide) (by decide) (fun o ho => hY o (by omega)) (fun o ho => fo_ds2_le (ho6 k hk _ (by omega)) qm)) lv_X7_156 (by decide : fo_k 616 = 9) rfl (by decide) rfl ⟨Nat.le_of_ble_eq_true rfl, Nat.le_of_ble_eq_true rfl⟩ ⟨Nat.le_of_ble_eq_true rfl, Nat.le_of_ble_eq_true rfl⟩ [] rfl (Nat.le_of_ble_eq_true rfl) 57 rfl (fo_er ?_)
          have qd : fp_med (fun o => fo_ds2 (v k (d - 5 + o)) (fp_med (fun o => v k (d - 5 + o)) 5)) 5 ≤ 999 := fp_med_le (fun o ho => fo_ds2_le (ho6 k hk _ (by omega)) qm)
          refine fo_istore C dX7_isOff_57 [(4, .int (nI (fp_med (fun o => fo_ds2 (v k (d - 5 + o)) (fp_med (fun o => v k (d - 5 + o)) 5)) 5))), (3, .int (nI (fp_med (fun o => v k (d - 5 + o)) 5))), (0, .ref (Λ.2.2.1 616)), (1, .int (nI k)), (2, .int (nI d))] rfl (by decide) 59 rfl ?_
          refine fo_aload_n C dX7_isOff_59 2 rfl rfl 60 rfl ?_
          refine fo_iload_n C dX7_isOff_60 3 rfl rfl 61 rfl ?_
          refine fo_iload_n C dX7_isOff_61 4 rfl rfl 62 rfl ?_
          refine fo_qvi C dX7_isOff_62 (mX7_v (k := k) (d := d) (by omega) (by omega) ht) lv_X7_142 (by decide : fo_k 616 = 9) rfl (by decide) rfl ⟨Nat.le_of_ble_eq_true rfl, Nat.le_of_ble_eq_true rfl⟩ ⟨Nat.le_of_ble_eq_true rfl, Nat.le_of_ble_eq_true rfl⟩ [] rfl (Nat.le_of_ble_eq_true rfl) 65 rfl (fo_er ?_)
          have q21 := ho6 k (by omega) d (by omega)
          refine fo_iload_n C dX7_isOff_65 1 rfl rfl 66 rfl ?_
          refine fo_qsi C dX7_isOff_66 (mX7_apart (a := v k d) (b := fp_med (fun o => v k (d - 5 + o)) 5) (by omega) (by omega)) ls_X7_171 rfl ⟨Nat.le_of_ble_eq_true rfl, Nat.le_of_ble_eq_true rfl⟩ ⟨Nat.le_of_ble_eq_true rfl, Nat.le_of_ble_eq_true rfl⟩ [] rfl (Nat.le_of_ble_eq_true rfl) 69 rfl (fo_er ?_)
          refine fo_aload_n C dX7_isOff_69 2 rfl rfl 70 rfl ?_
          refine fo_get C dX7_isOff_70 fK9 (by decide : fo_k 616 = 9) (by decide) 0 (by decide) fl_X7_7 (v := .ref (Λ.2.2.1 617)) rfl 73 rfl ?_
          refine fo_iconst C dX7_isOff_73 (nI 1) ki_1 74 rfl ?_
          refine fo_iald C dX7_isOff_74 (by decide : fo_k 617 = 20) (by rw [(show fo_n 617 = 150 from rfl)]; omega) (nI (lim)) (hlim) 75 rfl ?_
          refine fo_iload C dX7_isOff_75 0 rfl 77 rfl ?_
          refine fo_nif_ne C (by omega) dX7_isOff_77 84 (by decide) 80 rfl (fun c28 => ?_) (fun c28 => ?_)
          · refine fo_iload C dX7_isOff_84 0 rfl 86 rfl ?_
            refine fo_ti (b := nI (max 1 (fp_med (fun o => fo_ds2 (v k (d - 5 + o)) (fp_med (fun o => v k (d - 5 + o)) 5)) 5))) (congrArg nI (by omega)) ?_
            refine fo_imul C dX7_isOff_86 (nI (lim * (max 1 (fp_med (fun o => fo_ds2 (v k (d - 5 + o)) (fp_med (fun o => v k (d - 5 + o)) 5)) 5)))) (pk_mul _ _) 87 rfl ?_
            have q8 : lim * (max 1 (fp_med (fun o => fo_ds2 (v k (d - 5 + o)) (fp_med (fun o => v k (d - 5 + o)) 5)) 5)) ≤ 9 * 999 := Nat.mul_le_mul (by omega) (by omega)
            have q9 := fo_ds2_le (ho6 k hk d hd) qm
            refine fo_ncmp_le C (by omega) (by omega) dX7_isOff_87 94 (by decide) 90 rfl (fun c29 => ?_) (fun c29 => ?_)
            · refine fo_iconst C dX7_isOff_94 (nI 0) ki_0 95 rfl ?_
              exact fin dX7_isOff_95 (by first | rfl | exact fo_nb _) (⟨fo_b0 (by unfold fp_off; rw [if_neg (by omega)]; exact decide_eq_false (by first | assumption | omega)), rfl, rfl, rfl⟩)
            · refine fo_iconst C dX7_isOff_90 (nI 1) ki_1 91 rfl ?_
              refine fo_goto C dX7_isOff_91 95 (by decide) ?_
              exact fin dX7_isOff_95 (by first | rfl | exact fo_nb _) (⟨fo_b1 (by unfold fp_off; rw [if_neg (by omega)]; exact decide_eq_true (by first | assumption | omega)), rfl, rfl, rfl⟩)
          · refine fo_iconst C dX7_isOff_80 (nI 1) ki_1 81 rfl ?_
            refine fo_goto C dX7_isOff_81 86 (by decide) ?_
            refine fo_ti (b := nI (max 1 (fp_med (fun o => fo_ds2 (v k (d - 5 + o)) (fp_med (fun o => v k (d - 5 + o)) 5)) 5))) (congrArg nI (by omega)) ?_
            refine fo_imul C dX7_isOff_86 (nI (lim * (max 1 (fp_med (fun o => fo_ds2 (v k (d - 5 + o)) (fp_med (fun o => v k (d - 5 + o)) 5)) 5)))) (pk_mul _ _) 87 rfl ?_
            have q8 : lim * (max 1 (fp_med (fun o => fo_ds2 (v k (d - 5 + o)) (fp_med (fun o => v k (d - 5 + o)) 5)) 5)) ≤ 9 * 999 := Nat.mul_le_mul (by omega) (by omega)
            have q9 := fo_ds2_le (ho6 k hk d hd) qm
            refine fo_ncmp_le C (by omega) (by omega) dX7_isOff_87 94 (by decide) 90 rfl (fun c30 => ?_) (fun c30 => ?_)
            · refine fo_iconst C dX7_isOff_94 (nI 0) ki_0 95 rfl ?_
              exact fin dX7_isOff_95 (by first | rfl | exact fo_nb _) (⟨fo_b0 (by unfold fp_off; rw [if_neg (by omega)]; exact decide_eq_false (by first | assumption | omega)), rfl, rfl, rfl⟩)
            · refine fo_iconst C dX7_isOff_90 (nI 1) ki_1 91 rfl ?_
              refine fo_goto C dX7_isOff_91 95 (by decide) ?_
              exact fin dX7_isOff_95 (by first | rfl | exact fo_nb _) (⟨fo_b1 (by unfold fp_off; rw [if_neg (by omega)]; exact decide_eq_true (by first | assumption | omega)), rfl, rfl, rfl⟩)
        · refine fo_aload_n C dX7_isOff_24 2 rfl rfl 25 rfl ?_
          refine fo_get C dX7_isOff_25 fK9 (by decide : fo_k 616 = 9) (by decide) 4 (by decide) fl_X7_22 (v := .ref (Λ.2.2.1 621)) rfl 28 rfl ?_
          refine fo_iload C dX7_isOff_28 0 rfl 30 rfl ?_
          refine fo_aload_n C dX7_isOff_30 2 rfl rfl 31 rfl ?_
          refine fo_iload_n C dX7_isOff_31 3 rfl rfl 32 rfl ?_
          refine fo_iload_n C dX7_isOff_32 4 rfl rfl 33 rfl ?_
          refine fo_iconst C dX7_isOff_33 (nI 5) ki_5 34 rfl ?_
          refine fo_isub C dX7_isOff_34 (nI (d - 5)) (pk_sub (by omega)) 35 rfl ?_
          refine fo_iload C dX7_isOff_35 0 rfl 37 rfl ?_
          refine fo_iadd C dX7_isOff_37 (nI ((d - 5) + j)) (nI_add _ _) 38 rfl ?_
          refine fo_qvi C dX7_isOff_38 (mX7_v (k := k) (d := (d - 5) + j) (by omega) (by omega) ht) lv_X7_142 (by decide : fo_k 616 = 9) rfl (by decide) rfl ⟨Nat.le_of_ble_eq_true rfl, Nat.le_of_ble_eq_true rfl⟩ ⟨Nat.le_of_ble_eq_true rfl, Nat.le_of_ble_eq_true rfl⟩ [.int (nI j), .ref (Λ.2.2.1 621)] rfl (Nat.le_of_ble_eq_true rfl) 41 rfl (fo_er ?_)
          have q37 := ho6 k (by omega) ((d - 5) + j) (by omega)
          refine fo_iload_n C dX7_isOff_41 1 rfl rfl 42 rfl ?_
          refine fo_qsi C dX7_isOff_42 (mX7_apart (a := v k ((d - 5) + j)) (b := fp_med (fun o => v k (d - 5 + o)) 5) (by omega) (by omega)) ls_X7_171 rfl ⟨Nat.le_of_ble_eq_true rfl, Nat.le_of_ble_eq_true rfl⟩ ⟨Nat.le_of_ble_eq_true rfl, Nat.le_of_ble_eq_true rfl⟩ [.int (nI j), .ref (Λ.2.2.1 621)] rfl (Nat.le_of_ble_eq_true rfl) 45 rfl (fo_er ?_)
          refine fo_xast C dX7_isOff_45 (by decide : fo_k 621 = 21) (by rw [(show fo_n 621 = 30 from rfl)]; omega) 46 rfl ?_
          refine fo_iinc C dX7_isOff_46 0 rfl (nI (j + 1)) (nI_inc1 _) [(4, .int (nI (j + 1))), (3, .int (nI (fp_med (fun o => v k (d - 5 + o)) 5))), (0, .ref (Λ.2.2.1 616)), (1, .int (nI k)), (2, .int (nI d))] rfl (by decide) 49 rfl ?_
          refine fo_goto C dX7_isOff_49 18 (by decide) ?_
          exact ih18 (j + 1) (fo_r Y 621 (upd (Y 621) (j) (nI (fo_ds2 (v k ((d - 5) + j)) (fp_med (fun o => v k (d - 5 + o)) 5))))) (by omega) (by omega) (fun o ho => by rw [fo_rs]; by_cases e1 : o = j; (rw [e1, pk_us]); (rw [pk_un e1]; exact hY o (by omega)))
    exact hL18 (6 + 1) 0 X6 (by omega) (by omega) (fun o h => absurd h (Nat.not_lt_zero _))
  · refine fo_iconst C dX7_isOff_5 (nI 0) ki_0 6 rfl ?_
    exact fin dX7_isOff_6 (by first | rfl | exact fo_nb _) (⟨fo_b0 (by unfold fp_off; rw [if_pos (by omega)]), rfl, rfl, rfl⟩)
