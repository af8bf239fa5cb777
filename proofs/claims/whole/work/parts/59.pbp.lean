/-! THE MODEL: the prophet by points -/
set_option maxRecDepth 10000 in
set_option maxHeartbeats 4000000 in
theorem mX7_prophetByPoints {l : Launch} {Λ : fo_Lt} {I : fo_Mi} {D : fo_Md} {J : fo_Mj} {X : fo_Mi} {np lim : Nat} {kd par n : Nat → Nat} {v : Nat → Nat → Nat} {z : Int32} (ht : fm_T I 617 np lim kd par n v) : fk_i l yX7_prophetByPoints cX7_prophetByPoints 5 .int 7 169 Λ [.ref (Λ.2.2.1 616), .int (z)] I D J X ((fun r I' D' J' X' => r = (fg_op (fp_fst (fun i => decide (nI (fp_rank (fp_ap np kd par n v) np i) = z)) 0 np)).2 ∧ I' = fo_r I 616 (upd (I 616) 5 (nI (fg_op (fp_fst (fun i => decide (nI (fp_rank (fp_ap np kd par n v) np i) = z)) 0 np)).1)) ∧ D' = D ∧ J' = J)) := by
  obtain ⟨⟨ho1, ⟨ho2, ho3⟩, ho4, ho5, ho6⟩, hnp, hlim, hP, hS⟩ := id ht
  refine fo_si (by decide) [(0, .ref (Λ.2.2.1 616)), (1, .int (z))] rfl (Nat.le_of_ble_eq_true rfl) (fun K C fin => ?_)
  refine fo_aload_n C dX7_prophetByPoints_0 0 rfl rfl 1 rfl ?_
  refine fo_iconst C dX7_prophetByPoints_1 (nI 0) ki_0 2 rfl ?_
  refine fo_put C dX7_prophetByPoints_2 fK9 (by decide : fo_k 616 = 9) (by decide) 5 (by decide) fl_X7_25 rfl rfl rfl rfl (Nat.le_of_ble_eq_true rfl) 5 rfl ?_
  replace ht := ht.th (g := upd (I 616) 5 (nI 0))
  refine fo_iconst C dX7_prophetByPoints_5 (nI 0) ki_0 6 rfl ?_
  refine fo_istore_n C dX7_prophetByPoints_6 rfl [(2, .int (nI 0)), (0, .ref (Λ.2.2.1 616)), (1, .int (z))] rfl (by decide) 7 rfl ?_
  have hL7 : ∀ (m7 : Nat) (i : Nat) (Y : fo_Mi), np + 1 - i < m7 → i ≤ np → fp_fst (fun i => decide (nI (fp_rank (fp_ap np kd par n v) np i) = z)) i (np - i) = fp_fst (fun i => decide (nI (fp_rank (fp_ap np kd par n v) np i) = z)) 0 np → fo_G l Λ { frames := 7, cells := 0, slots := 0, locals := 169 } K 0 0 7 [(2, .int (nI i)), (0, .ref (Λ.2.2.1 616)), (1, .int (z))] [] (fo_r I 616 (upd (I 616) 5 (nI 0))) D J Y := by
    intro m7
    induction m7 with
    | zero => intro i Y hm; exact absurd hm (Nat.not_lt_zero _)
    | succ m7 ih7 =>
      intro i Y hm7 hi hF
      refine fo_iload_n C dX7_prophetByPoints_7 0 rfl rfl 8 rfl ?_
      refine fo_aload_n C dX7_prophetByPoints_8 1 rfl rfl 9 rfl ?_
      refine fo_get C dX7_prophetByPoints_9 fK9 (by decide : fo_k 616 = 9) (by decide) 0 (by decide) fl_X7_7 (v := .ref (Λ.2.2.1 617)) rfl 12 rfl ?_
      refine fo_iconst C dX7_prophetByPoints_12 (nI 0) ki_0 13 rfl ?_
      refine fo_iald C dX7_prophetByPoints_13 (by decide : fo_k 617 = 20) (by rw [(show fo_n 617 = 150 from rfl)]; omega) (nI (np)) (hnp) 14 rfl ?_
      refine fo_ncmp_ge C (by omega) (by omega) dX7_prophetByPoints_14 94 (by decide) 17 rfl (fun c1 => ?_) (fun c1 => ?_)
      · refine fo_aload_n C dX7_prophetByPoints_94 1 rfl rfl 95 rfl ?_
        refine fo_iconst C dX7_prophetByPoints_95 (nI 1) ki_1 96 rfl ?_
        refine fo_qvi C dX7_prophetByPoints_96 (mX7_fail (x := (nI (1)))) lv_X7_111 (by decide : fo_k 616 = 9) rfl (by decide) rfl ⟨Nat.le_of_ble_eq_true rfl, Nat.le_of_ble_eq_true rfl⟩ ⟨Nat.le_of_ble_eq_true rfl, Nat.le_of_ble_eq_true rfl⟩ [] rfl (Nat.le_of_ble_eq_true rfl) 99 rfl (fo_er ?_)
        have eF : fp_fst (fun i => decide (nI (fp_rank (fp_ap np kd par n v) np i) = z)) 0 np = none := by rw [← hF, show np - i = 0 by omega]; rfl
        exact fin dX7_prophetByPoints_99 rfl (⟨by rw [eF]; rfl, by rw [eF]; exact fo_th2 I _ _, rfl, rfl⟩)
      · refine fo_iconst C dX7_prophetByPoints_17 (nI 0) ki_0 18 rfl ?_
        refine fo_istore_n C dX7_prophetByPoints_18 rfl [(3, .int (nI 0)), (2, .int (nI i)), (0, .ref (Λ.2.2.1 616)), (1, .int (z))] rfl (by decide) 19 rfl ?_
        refine fo_iconst C dX7_prophetByPoints_19 (nI 0) ki_0 20 rfl ?_
        refine fo_istore C dX7_prophetByPoints_20 [(4, .int (nI 0)), (3, .int (nI 0)), (2, .int (nI i)), (0, .ref (Λ.2.2.1 616)), (1, .int (z))] rfl (by decide) 22 rfl ?_
        have hL22 : ∀ (m22 : Nat) (j : Nat) (Z : fo_Mi), np + 1 - j < m22 → j ≤ np → fo_G l Λ { frames := 7, cells := 0, slots := 0, locals := 169 } K 0 0 22 [(4, .int (nI j)), (3, .int (nI (fp_cnt (fun o => decide (fp_ap np kd par n v i < fp_ap np kd par n v o ∨ fp_ap np kd par n v o = fp_ap np kd par n v i ∧ o < i)) j))), (2, .int (nI i)), (0, .ref (Λ.2.2.1 616)), (1, .int (z))] [] (fo_r I 616 (upd (I 616) 5 (nI 0))) D J Z := by
          intro m22
          induction m22 with
          | zero => intro j Z hm; exact absurd hm (Nat.not_lt_zero _)
          | succ m22 ih22 =>
            intro j Z hm22 hj
            have qa := fp_cnt_le (fun o => decide (fp_ap np kd par n v i < fp_ap np kd par n v o ∨ fp_ap np kd par n v o = fp_ap np kd par n v i ∧ o < i)) j
            refine fo_iload C dX7_prophetByPoints_22 0 rfl 24 rfl ?_
            refine fo_aload_n C dX7_prophetByPoints_24 3 rfl rfl 25 rfl ?_
            refine fo_get C dX7_prophetByPoints_25 fK9 (by decide : fo_k 616 = 9) (by decide) 0 (by decide) fl_X7_7 (v := .ref (Λ.2.2.1 617)) rfl 28 rfl ?_
            refine fo_iconst C dX7_prophetByPoints_28 (nI 0) ki_0 29 rfl ?_
            refine fo_iald C dX7_prophetByPoints_29 (by decide : fo_k 617 = 20) (by rw [(show fo_n 617 = 150 from rfl)]; omega) (nI (np)) (hnp) 30 rfl ?_
            refine fo_ncmp_ge C (by omega) (by omega) dX7_prophetByPoints_30 81 (by decide) 33 rfl (fun c8 => ?_) (fun c8 => ?_)
            · have e9 : fp_cnt (fun o => decide (fp_ap np kd par n v i < fp_ap np kd par n v o ∨ fp_ap np kd par n v o = fp_ap np kd par n v i ∧ o < i)) j = fp_rank (fp_ap np kd par n v) np i := by unfold fp_rank; rw [show j = np by omega]
              rw [e9]
              refine fo_iload_n C dX7_prophetByPoints_81 1 rfl rfl 82 rfl ?_
              refine fo_iload_n C dX7_prophetByPoints_82 4 rfl rfl 83 rfl ?_
              refine fo_icmp_ne C dX7_prophetByPoints_83 88 (by decide) 86 rfl (fun c9 => ?_) (fun c9 => ?_)
              · have g1 : ¬ nI (fp_rank (fp_ap np kd par n v) np i) = z := c9
                refine fo_iinc C dX7_prophetByPoints_88 2 rfl (nI (i + 1)) (nI_inc1 _) [(2, .int (nI (i + 1))), (4, .int (nI j)), (3, .int (nI (fp_rank (fp_ap np kd par n v) np i))), (0, .ref (Λ.2.2.1 616)), (1, .int (z))] rfl (by decide) 91 rfl ?_
                refine fo_goto C dX7_prophetByPoints_91 7 (by decide) ?_
                refine fo_sub C [0, 3, 4] (lv' := [(2, .int (nI (i + 1))), (0, .ref (Λ.2.2.1 616)), (1, .int (z))]) rfl ?_
                exact ih7 (i + 1) Z (by omega) (by omega) (by rw [← hF, show np - i = np - (i + 1) + 1 by omega, fp_fst, if_neg (mt of_decide_eq_true g1)])
              · have g1 : nI (fp_rank (fp_ap np kd par n v) np i) = z := c9
                refine fo_iload_n C dX7_prophetByPoints_86 2 rfl rfl 87 rfl ?_
                have eF : fp_fst (fun i => decide (nI (fp_rank (fp_ap np kd par n v) np i) = z)) 0 np = some i := by rw [← hF, show np - i = np - (i + 1) + 1 by omega, fp_fst, if_pos (decide_eq_true g1)]
                exact fin dX7_prophetByPoints_87 rfl (⟨by rw [eF]; rfl, by rw [eF]; rfl, rfl, rfl⟩)
            · refine fo_iload_n C dX7_prophetByPoints_33 1 rfl rfl 34 rfl ?_
              refine fo_aload_n C dX7_prophetByPoints_34 3 rfl rfl 35 rfl ?_
              refine fo_iload C dX7_prophetByPoints_35 0 rfl 37 rfl ?_
              refine fo_qvi C dX7_prophetByPoints_37 (mX7_allPoints (p := j) (by omega) ht) lv_X7_227 (by decide : fo_k 616 = 9) rfl (by decide) rfl ⟨Nat.le_of_ble_eq_true rfl, Nat.le_of_ble_eq_true rfl⟩ ⟨Nat.le_of_ble_eq_true rfl, Nat.le_of_ble_eq_true rfl⟩ [.int (nI (fp_cnt (fun o => decide (fp_ap np kd par n v i < fp_ap np kd par n v o ∨ fp_ap np kd par n v o = fp_ap np kd par n v i ∧ o < i)) j))] rfl (Nat.le_of_ble_eq_true rfl) 40 rfl (fo_es (fun X14 => ?_))
              have q16 := fp_ap_le (np := np) (kd := kd) (par := par) (n := n) (v := v) (p := j) ho5
              refine fo_aload_n C dX7_prophetByPoints_40 3 rfl rfl 41 rfl ?_
              refine fo_iload_n C dX7_prophetByPoints_41 2 rfl rfl 42 rfl ?_
              refine fo_qvi C dX7_prophetByPoints_42 (mX7_allPoints (p := i) (by omega) ht) lv_X7_227 (by decide : fo_k 616 = 9) rfl (by decide) rfl ⟨Nat.le_of_ble_eq_true rfl, Nat.le_of_ble_eq_true rfl⟩ ⟨Nat.le_of_ble_eq_true rfl, Nat.le_of_ble_eq_true rfl⟩ [.int (nI (fp_ap np kd par n v j)), .int (nI (fp_cnt (fun o => decide (fp_ap np kd par n v i < fp_ap np kd par n v o ∨ fp_ap np kd par n v o = fp_ap np kd par n v i ∧ o < i)) j))] rfl (Nat.le_of_ble_eq_true rfl) 45 rfl (fo_es (fun X21 => ?_))
              have q23 := fp_ap_le (np := np) (kd := kd) (par := par) (n := n) (v := v) (p := i) ho5
              refine fo_ncmp_gt C (by omega) (by omega) dX7_prophetByPoints_45 68 (by decide) 48 rfl (fun c24 => ?_) (fun c24 => ?_)
              · refine fo_iconst C dX7_prophetByPoints_68 (nI 1) ki_1 69 rfl ?_
                refine fo_goto C dX7_prophetByPoints_69 73 (by decide) ?_
                refine fo_iadd C dX7_prophetByPoints_73 (nI ((fp_cnt (fun o => decide (fp_ap np kd par n v i < fp_ap np kd par n v o ∨ fp_ap np kd par n v o = fp_ap np kd par n v i ∧ o < i)) j) + 1)) (nI_add _ _) 74 rfl ?_
                refine fo_ti (b := nI (fp_cnt (fun o => decide (fp_ap np kd par n v i < fp_ap np kd par n v o ∨ fp_ap np kd par n v o = fp_ap np kd par n v i ∧ o < i)) (j + 1))) (congrArg nI (by simp only [fp_cnt, decide_eq_true_eq]; first | rw [if_pos (by omega)] | rw [if_neg (by omega)])) ?_
                refine fo_istore_n C dX7_prophetByPoints_74 rfl [(3, .int (nI (fp_cnt (fun o => decide (fp_ap np kd par n v i < fp_ap np kd par n v o ∨ fp_ap np kd par n v o = fp_ap np kd par n v i ∧ o < i)) (j + 1)))), (4, .int (nI j)), (2, .int (nI i)), (0, .ref (Λ.2.2.1 616)), (1, .int (z))] rfl (by decide) 75 rfl ?_
                refine fo_iinc C dX7_prophetByPoints_75 1 rfl (nI (j + 1)) (nI_inc1 _) [(4, .int (nI (j + 1))), (3, .int (nI (fp_cnt (fun o => decide (fp_ap np kd par n v i < fp_ap np kd par n v o ∨ fp_ap np kd par n v o = fp_ap np kd par n v i ∧ o < i)) (j + 1)))), (2, .int (nI i)), (0, .ref (Λ.2.2.1 616)), (1, .int (z))] rfl (by decide) 78 rfl ?_
                refine fo_goto C dX7_prophetByPoints_78 22 (by decide) ?_
                exact ih22 (j + 1) X21 (by omega) (by omega)
              · refine fo_aload_n C dX7_prophetByPoints_48 3 rfl rfl 49 rfl ?_
                refine fo_iload C dX7_prophetByPoints_49 0 rfl 51 rfl ?_
                refine fo_qvi C dX7_prophetByPoints_51 (mX7_allPoints (p := j) (by omega) ht) lv_X7_227 (by decide : fo_k 616 = 9) rfl (by decide) rfl ⟨Nat.le_of_ble_eq_true rfl, Nat.le_of_ble_eq_true rfl⟩ ⟨Nat.le_of_ble_eq_true rfl, Nat.le_of_ble_eq_true rfl⟩ [.int (nI (fp_cnt (fun o => decide (fp_ap np kd par n v i < fp_ap np kd par n v o ∨ fp_ap np kd par n v o = fp_ap np kd par n v i ∧ o < i)) j))] rfl (Nat.le_of_ble_eq_true rfl) 54 rfl (fo_es (fun X29 => ?_))
                have q31 := fp_ap_le (np := np) (kd := kd) (par := par) (n := n) (v := v) (p := j) ho5
                refine fo_aload_n C dX7_prophetByPoints_54 3 rfl rfl 55 rfl ?_
                refine fo_iload_n C dX7_prophetByPoints_55 2 rfl rfl 56 rfl ?_
                refine fo_qvi C dX7_prophetByPoints_56 (mX7_allPoints (p := i) (by omega) ht) lv_X7_227 (by decide : fo_k 616 = 9) rfl (by decide) rfl ⟨Nat.le_of_ble_eq_true rfl, Nat.le_of_ble_eq_true rfl⟩ ⟨Nat.le_of_ble_eq_true rfl, Nat.le_of_ble_eq_true rfl⟩ [.int (nI (fp_ap np kd par n v j)), .int (nI (fp_cnt (fun o => decide (fp_ap np kd par n v i < fp_ap np kd par n v o ∨ fp_ap np kd par n v o = fp_ap np kd par n v i ∧ o < i)) j))] rfl (Nat.le_of_ble_eq_true rfl) 59 rfl (fo_es (fun X36 => ?_))
                have q38 := fp_ap_le (np := np) (kd := kd) (par := par) (n := n) (v := v) (p := i) ho5
                refine fo_ncmp_ne C (by omega) (by omega) dX7_prophetByPoints_59 72 (by decide) 62 rfl (fun c39 => ?_) (fun c39 => ?_)
                · refine fo_iconst C dX7_prophetByPoints_72 (nI 0) ki_0 73 rfl ?_
                  refine fo_iadd C dX7_prophetByPoints_73 (nI ((fp_cnt (fun o => decide (fp_ap np kd par n v i < fp_ap np kd par n v o ∨ fp_ap np kd par n v o = fp_ap np kd par n v i ∧ o < i)) j) + 0)) (nI_add _ _) 74 rfl ?_
                  refine fo_ti (b := nI (fp_cnt (fun o => decide (fp_ap np kd par n v i < fp_ap np kd par n v o ∨ fp_ap np kd par n v o = fp_ap np kd par n v i ∧ o < i)) (j + 1))) (congrArg nI (by simp only [fp_cnt, decide_eq_true_eq]; first | rw [if_pos (by omega)] | rw [if_neg (by omega)])) ?_
                  refine fo_istore_n C dX7_prophetByPoints_74 rfl [(3, .int (nI (fp_cnt (fun o => decide (fp_ap np kd par n v i < fp_ap np kd par n v o ∨ fp_ap np kd par n v o = fp_ap np kd par n v i ∧ o < i)) (j + 1)))), (4, .int (nI j)), (2, .int (nI i)), (0, .ref (Λ.2.2.1 616)), (1, .int (z))] rfl (by decide) 75 rfl ?_
                  refine fo_iinc C dX7_prophetByPoints_75 1 rfl (nI (j + 1)) (nI_inc1 _) [(4, .int (nI (j + 1))), (3, .int (nI (fp_cnt (fun o => decide (fp_ap np kd par n v i < fp_ap np kd par n v o ∨ fp_ap np kd par n v o = fp_ap np kd par n v i ∧ o < i)) (j + 1)))), (2, .int (nI i)), (0, .ref (Λ.2.2.1 616)), (1, .int (z))] rfl (by decide) 78 rfl ?_
                  refine fo_goto C dX7_prophetByPoints_78 22 (by decide) ?_
                  exact ih22 (j + 1) X36 (by omega) (by omega)
                · refine fo_iload C dX7_prophetByPoints_62 0 rfl 64 rfl ?_
                  refine fo_iload_n C dX7_prophetByPoints_64 2 rfl rfl 65 rfl ?_
                  refine fo_ncmp_ge C (by omega) (by omega) dX7_prophetByPoints_65 72 (by decide) 68 rfl (fun c40 => ?_) (fun c40 => ?_)
                  · refine fo_iconst C dX7_prophetByPoints_72 (nI 0) ki_0 73 rfl ?_
                    refine fo_iadd C dX7_prophetByPoints_73 (nI ((fp_cnt (fun o => decide (fp_ap np kd par n v i < fp_ap np kd par n v o ∨ fp_ap np kd par n v o = fp_ap np kd par n v i ∧ o < i)) j) + 0)) (nI_add _ _) 74 rfl ?_
                    refine fo_ti (b := nI (fp_cnt (fun o => decide (fp_ap np kd par n v i < fp_ap np kd par n v o ∨ fp_ap np kd par n v o = fp_ap np kd par n v i ∧ o < i)) (j + 1))) (congrArg nI (by simp only [fp_cnt, decide_eq_true_eq]; first | rw [if_pos (by omega)] | rw [if_neg (by omega)])) ?_
                    refine fo_istore_n C dX7_prophetByPoints_74 rfl [(3, .int (nI (fp_cnt (fun o => decide (fp_ap np kd par n v i < fp_ap np kd par n v o ∨ fp_ap np kd par n v o = fp_ap np kd par n v i ∧ o < i)) (j + 1)))), (4, .int (nI j)), (2, .int (nI i)), (0, .ref (Λ.2.2.1 616)), (1, .int (z))] rfl (by decide) 75 rfl ?_
                    refine fo_iinc C dX7_prophetByPoints_75 1 rfl (nI (j + 1)) (nI_inc1 _) [(4, .int (nI (j + 1))), (3, .int (nI (fp_cnt (fun o => decide (fp_ap np kd par n v i < fp_ap np kd par n v o ∨ fp_ap np kd par n v o = fp_ap np kd par n v i ∧ o < i)) (j + 1)))), (2, .int (nI i)), (0, .ref (Λ.2.2.1 616)), (1, .int (z))] rfl (by decide) 78 rfl ?_
                    refine fo_goto C dX7_prophetByPoints_78 22 (by decide) ?_
                    exact ih22 (j + 1) X36 (by omega) (by omega)
                  · refine fo_iconst C dX7_prophetByPoints_68 (nI 1) ki_1 69 rfl ?_
                    refine fo_goto C dX7_prophetByPoints_69 73 (by decide) ?_
                    refine fo_iadd C dX7_prophetByPoints_73 (nI ((fp_cnt (fun o => decide (fp_ap np kd par n v i < fp_ap np kd par n v o ∨ fp_ap np kd par n v o = fp_ap np kd par n v i ∧ o < i)) j) + 1)) (nI_add _ _) 74 rfl ?_
                    refine fo_ti (b := nI (fp_cnt (fun o => decide (fp_ap np kd par n v i < fp_ap np kd par n v o ∨ fp_ap np kd par n v o = fp_ap np kd par n v i ∧ o < i)) (j + 1))) (congrArg nI (by simp only [fp_cnt, decide_eq_true_eq]; first | rw [if_pos (by omega)] | rw [if_neg (by omega)])) ?_
                    refine fo_istore_n C dX7_prophetByPoints_74 rfl [(3, .int (nI (fp_cnt (fun o => decide (fp_ap np kd par n v i < fp_ap np kd par n v o ∨ fp_ap np kd par n v o = fp_ap np kd par n v i ∧ o < i)) (j + 1)))), (4, .int (nI j)), (2, .int (nI i)), (0, .ref (Λ.2.2.1 616)), (1, .int (z))] rfl (by decide) 75 rfl ?_
                    refine fo_iinc C dX7_prophetByPoints_75 1 rfl (nI (j + 1)) (nI_inc1 _) [(4, .int (nI (j + 1))), (3, .int (nI (fp_cnt (fun o => decide (fp_ap np kd par n v i < fp_ap np kd par n v o ∨ fp_ap np kd par n v o = fp_ap np kd par n v i ∧ o < i)) (j + 1)))), (2, .int (nI i)), (0, .ref (Λ.2.2.1 616)), (1, .int (z))] rfl (by decide) 78 rfl ?_
                    refine fo_goto C dX7_prophetByPoints_78 22 (by decide) ?_
                    exact ih22 (j + 1) X36 (by omega) (by omega)
        exact hL22 (np + 1 + 1) 0 Y (by omega) (by omega)
  exact hL7 (np + 1 + 1) 0 X (by omega) (by omega) rfl
