/-! THE MODEL: the median of its row -/
set_option maxRecDepth 10000 in
set_option maxHeartbeats 4000000 in
theorem mX7_rowMedian {l : Launch} {Λ : fo_Lt} {I : fo_Mi} {D : fo_Md} {J : fo_Mj} {X : fo_Mi} {f : Nat → Nat} {c : Nat} (h1 : 1 ≤ c) (h2 : c ≤ 30) (hX : ∀ o, o < c → X 621 o = nI (f o)) (hfb : ∀ o, o < c → f o ≤ 999) : fk_i l yX7_rowMedian cX7_rowMedian 7 .int 0 0 Λ [.ref (Λ.2.2.1 616), .int (nI c)] I D J X (fo_pr (nI (fp_med f c)) I D J X) := by
  refine fo_si (by decide) [(0, .ref (Λ.2.2.1 616)), (1, .int (nI c))] rfl (Nat.le_of_ble_eq_true rfl) (fun K C fin => ?_)
  refine fo_iload_n C dX7_rowMedian_0 1 rfl rfl 1 rfl ?_
  refine fo_iconst C dX7_rowMedian_1 (nI 1) ki_1 2 rfl ?_
  refine fo_isub C dX7_rowMedian_2 (nI (c - 1)) (pk_sub (by omega)) 3 rfl ?_
  refine fo_iconst C dX7_rowMedian_3 (nI 2) ki_2 4 rfl ?_
  refine fo_idiv C dX7_rowMedian_4 (nI_ne0 (by omega) (by omega)) (nI ((c - 1) / 2)) (pk_div (by omega) (by omega) (by omega)) 5 rfl ?_
  refine fo_istore_n C dX7_rowMedian_5 rfl [(2, .int (nI ((c - 1) / 2))), (0, .ref (Λ.2.2.1 616)), (1, .int (nI c))] rfl (by decide) 6 rfl ?_
  refine fo_iconst C dX7_rowMedian_6 (nI 0) ki_0 7 rfl ?_
  refine fo_istore_n C dX7_rowMedian_7 rfl [(3, .int (nI 0)), (2, .int (nI ((c - 1) / 2))), (0, .ref (Λ.2.2.1 616)), (1, .int (nI c))] rfl (by decide) 8 rfl ?_
  have hL8 : ∀ (m8 : Nat) (k : Nat), c + 1 - k < m8 → k ≤ c → fp_mg f c ((c - 1) / 2) k (c - k) = fp_med f c → (∀ o, o < k → fp_hit f c ((c - 1) / 2) o = false) → fo_G l Λ { frames := 0, cells := 0, slots := 0, locals := 0 } K 0 0 8 [(3, .int (nI k)), (2, .int (nI ((c - 1) / 2))), (0, .ref (Λ.2.2.1 616)), (1, .int (nI c))] [] I D J X := by
    intro m8
    induction m8 with
    | zero => intro k hm; exact absurd hm (Nat.not_lt_zero _)
    | succ m8 ih8 =>
      intro k hm8 hk1 hM hN
      refine fo_iload_n C dX7_rowMedian_8 0 rfl rfl 9 rfl ?_
      refine fo_iload_n C dX7_rowMedian_9 3 rfl rfl 10 rfl ?_
      refine fo_ncmp_ge C (by omega) (by omega) dX7_rowMedian_10 114 (by decide) 13 rfl (fun c1 => ?_) (fun c1 => ?_)
      · obtain ⟨o, ho, h⟩ := fp_hit_ex (f := f) (n := c) (B := 999) h1 (fun o ho => hfb o ho)
        rw [hN o (by omega)] at h
        cases h
      · refine fo_iconst C dX7_rowMedian_13 (nI 0) ki_0 14 rfl ?_
        refine fo_istore C dX7_rowMedian_14 [(4, .int (nI 0)), (3, .int (nI k)), (2, .int (nI ((c - 1) / 2))), (0, .ref (Λ.2.2.1 616)), (1, .int (nI c))] rfl (by decide) 16 rfl ?_
        refine fo_iconst C dX7_rowMedian_16 (nI 0) ki_0 17 rfl ?_
        refine fo_istore C dX7_rowMedian_17 [(5, .int (nI 0)), (4, .int (nI 0)), (3, .int (nI k)), (2, .int (nI ((c - 1) / 2))), (0, .ref (Λ.2.2.1 616)), (1, .int (nI c))] rfl (by decide) 19 rfl ?_
        refine fo_iconst C dX7_rowMedian_19 (nI 0) ki_0 20 rfl ?_
        refine fo_istore C dX7_rowMedian_20 [(6, .int (nI 0)), (5, .int (nI 0)), (4, .int (nI 0)), (3, .int (nI k)), (2, .int (nI ((c - 1) / 2))), (0, .ref (Λ.2.2.1 616)), (1, .int (nI c))] rfl (by decide) 22 rfl ?_
        have hL22 : ∀ (m22 : Nat) (o : Nat), c + 1 - o < m22 → o ≤ c → fo_G l Λ { frames := 0, cells := 0, slots := 0, locals := 0 } K 0 0 22 [(6, .int (nI o)), (5, .int (nI (fp_cnt (fun i => decide (f i = f k)) o))), (4, .int (nI (fp_cnt (fun i => decide (f i < f k)) o))), (3, .int (nI k)), (2, .int (nI ((c - 1) / 2))), (0, .ref (Λ.2.2.1 616)), (1, .int (nI c))] [] I D J X := by
          intro m22
          induction m22 with
          | zero => intro o hm; exact absurd hm (Nat.not_lt_zero _)
          | succ m22 ih22 =>
            intro o hm22 ho
            have qa := fp_cnt_le (fun i => decide (f i = f k)) o
            have qb := fp_cnt_le (fun i => decide (f i < f k)) o
            refine fo_iload C dX7_rowMedian_22 0 rfl 24 rfl ?_
            refine fo_iload_n C dX7_rowMedian_24 6 rfl rfl 25 rfl ?_
            refine fo_ncmp_ge C (by omega) (by omega) dX7_rowMedian_25 86 (by decide) 28 rfl (fun c2 => ?_) (fun c2 => ?_)
            · have eo : c = o := by omega
              subst eo
              refine fo_iload C dX7_rowMedian_86 2 rfl 88 rfl ?_
              refine fo_iload_n C dX7_rowMedian_88 4 rfl rfl 89 rfl ?_
              refine fo_ncmp_gt C (by omega) (by omega) dX7_rowMedian_89 108 (by decide) 92 rfl (fun c3 => ?_) (fun c3 => ?_)
              · have hH : fp_hit f c ((c - 1) / 2) k = false := by unfold fp_hit; rw [Bool.and_eq_false_iff]; first | exact Or.inl (decide_eq_false (by omega)) | exact Or.inr (decide_eq_false (by omega))
                refine fo_iinc C dX7_rowMedian_108 3 rfl (nI (k + 1)) (nI_inc1 _) [(3, .int (nI (k + 1))), (6, .int (nI c)), (5, .int (nI (fp_cnt (fun i => decide (f i = f k)) c))), (4, .int (nI (fp_cnt (fun i => decide (f i < f k)) c))), (2, .int (nI ((c - 1) / 2))), (0, .ref (Λ.2.2.1 616)), (1, .int (nI c))] rfl (by decide) 111 rfl ?_
                refine fo_goto C dX7_rowMedian_111 8 (by decide) ?_
                refine fo_sub C [0, 4, 5, 6] (lv' := [(3, .int (nI (k + 1))), (2, .int (nI ((c - 1) / 2))), (0, .ref (Λ.2.2.1 616)), (1, .int (nI c))]) rfl ?_
                exact ih8 (k + 1) (by omega) (by omega) (by rw [← hM, show c - k = (c - (k + 1)) + 1 by omega, fp_mg, if_neg]; rw [hH]; decide) (fun o ho => by by_cases e1 : o = k; (rw [e1]; exact hH); exact hN o (by omega))
              · refine fo_iload_n C dX7_rowMedian_92 4 rfl rfl 93 rfl ?_
                refine fo_iload C dX7_rowMedian_93 2 rfl 95 rfl ?_
                refine fo_iload C dX7_rowMedian_95 1 rfl 97 rfl ?_
                refine fo_iadd C dX7_rowMedian_97 (nI ((fp_cnt (fun i => decide (f i < f k)) c) + (fp_cnt (fun i => decide (f i = f k)) c))) (nI_add _ _) 98 rfl ?_
                refine fo_ncmp_ge C (by omega) (by omega) dX7_rowMedian_98 108 (by decide) 101 rfl (fun c4 => ?_) (fun c4 => ?_)
                · have hH : fp_hit f c ((c - 1) / 2) k = false := by unfold fp_hit; rw [Bool.and_eq_false_iff]; first | exact Or.inl (decide_eq_false (by omega)) | exact Or.inr (decide_eq_false (by omega))
                  refine fo_iinc C dX7_rowMedian_108 3 rfl (nI (k + 1)) (nI_inc1 _) [(3, .int (nI (k + 1))), (6, .int (nI c)), (5, .int (nI (fp_cnt (fun i => decide (f i = f k)) c))), (4, .int (nI (fp_cnt (fun i => decide (f i < f k)) c))), (2, .int (nI ((c - 1) / 2))), (0, .ref (Λ.2.2.1 616)), (1, .int (nI c))] rfl (by decide) 111 rfl ?_
                  refine fo_goto C dX7_rowMedian_111 8 (by decide) ?_
                  refine fo_sub C [0, 4, 5, 6] (lv' := [(3, .int (nI (k + 1))), (2, .int (nI ((c - 1) / 2))), (0, .ref (Λ.2.2.1 616)), (1, .int (nI c))]) rfl ?_
                  exact ih8 (k + 1) (by omega) (by omega) (by rw [← hM, show c - k = (c - (k + 1)) + 1 by omega, fp_mg, if_neg]; rw [hH]; decide) (fun o ho => by by_cases e1 : o = k; (rw [e1]; exact hH); exact hN o (by omega))
                · refine fo_aload_n C dX7_rowMedian_101 5 rfl rfl 102 rfl ?_
                  refine fo_get C dX7_rowMedian_102 fK9 (by decide : fo_k 616 = 9) (by decide) 4 (by decide) fl_X7_22 (v := .ref (Λ.2.2.1 621)) rfl 105 rfl ?_
                  refine fo_iload_n C dX7_rowMedian_105 3 rfl rfl 106 rfl ?_
                  have q5 := hfb k (by omega)
                  refine fo_xald C dX7_rowMedian_106 (by decide : fo_k 621 = 21) (by rw [(show fo_n 621 = 30 from rfl)]; omega) (nI (f k)) (hX _ (by omega)) 107 rfl ?_
                  exact fin dX7_rowMedian_107 rfl (⟨congrArg nI (by rw [← hM, show c - k = (c - (k + 1)) + 1 by omega, fp_mg, if_pos (show fp_hit f c ((c - 1) / 2) k = true by unfold fp_hit; rw [decide_eq_true (by omega), decide_eq_true (by omega)]; rfl)]), rfl, rfl, rfl, rfl⟩)
            · refine fo_iload C dX7_rowMedian_28 2 rfl 30 rfl ?_
              refine fo_aload_n C dX7_rowMedian_30 5 rfl rfl 31 rfl ?_
              refine fo_get C dX7_rowMedian_31 fK9 (by decide : fo_k 616 = 9) (by decide) 4 (by decide) fl_X7_22 (v := .ref (Λ.2.2.1 621)) rfl 34 rfl ?_
              refine fo_iload C dX7_rowMedian_34 0 rfl 36 rfl ?_
              have q6 := hfb o (by omega)
              refine fo_xald C dX7_rowMedian_36 (by decide : fo_k 621 = 21) (by rw [(show fo_n 621 = 30 from rfl)]; omega) (nI (f o)) (hX _ (by omega)) 37 rfl ?_
              refine fo_aload_n C dX7_rowMedian_37 5 rfl rfl 38 rfl ?_
              refine fo_get C dX7_rowMedian_38 fK9 (by decide : fo_k 616 = 9) (by decide) 4 (by decide) fl_X7_22 (v := .ref (Λ.2.2.1 621)) rfl 41 rfl ?_
              refine fo_iload_n C dX7_rowMedian_41 3 rfl rfl 42 rfl ?_
              have q7 := hfb k (by omega)
              refine fo_xald C dX7_rowMedian_42 (by decide : fo_k 621 = 21) (by rw [(show fo_n 621 = 30 from rfl)]; omega) (nI (f k)) (hX _ (by omega)) 43 rfl ?_
              refine fo_ncmp_ge C (by omega) (by omega) dX7_rowMedian_43 50 (by decide) 46 rfl (fun c8 => ?_) (fun c8 => ?_)
              · refine fo_iconst C dX7_rowMedian_50 (nI 0) ki_0 51 rfl ?_
                refine fo_iadd C dX7_rowMedian_51 (nI ((fp_cnt (fun i => decide (f i < f k)) o) + 0)) (nI_add _ _) 52 rfl ?_
                refine fo_istore C dX7_rowMedian_52 [(4, .int (nI ((fp_cnt (fun i => decide (f i < f k)) o) + 0))), (6, .int (nI o)), (5, .int (nI (fp_cnt (fun i => decide (f i = f k)) o))), (3, .int (nI k)), (2, .int (nI ((c - 1) / 2))), (0, .ref (Λ.2.2.1 616)), (1, .int (nI c))] rfl (by decide) 54 rfl ?_
                have e9 : (fp_cnt (fun i => decide (f i < f k)) o) + 0 = fp_cnt (fun i => decide (f i < f k)) (o + 1) := by simp only [fp_cnt, decide_eq_true_eq]; first | rw [if_pos (by omega)] | rw [if_neg (by omega)]
                rw [e9]
                refine fo_iload C dX7_rowMedian_54 2 rfl 56 rfl ?_
                refine fo_aload_n C dX7_rowMedian_56 5 rfl rfl 57 rfl ?_
                refine fo_get C dX7_rowMedian_57 fK9 (by decide : fo_k 616 = 9) (by decide) 4 (by decide) fl_X7_22 (v := .ref (Λ.2.2.1 621)) rfl 60 rfl ?_
                refine fo_iload C dX7_rowMedian_60 1 rfl 62 rfl ?_
                have q9 := hfb o (by omega)
                refine fo_xald C dX7_rowMedian_62 (by decide : fo_k 621 = 21) (by rw [(show fo_n 621 = 30 from rfl)]; omega) (nI (f o)) (hX _ (by omega)) 63 rfl ?_
                refine fo_aload_n C dX7_rowMedian_63 5 rfl rfl 64 rfl ?_
                refine fo_get C dX7_rowMedian_64 fK9 (by decide : fo_k 616 = 9) (by decide) 4 (by decide) fl_X7_22 (v := .ref (Λ.2.2.1 621)) rfl 67 rfl ?_
                refine fo_iload_n C dX7_rowMedian_67 3 rfl rfl 68 rfl ?_
                have q10 := hfb k (by omega)
                refine fo_xald C dX7_rowMedian_68 (by decide : fo_k 621 = 21) (by rw [(show fo_n 621 = 30 from rfl)]; omega) (nI (f k)) (hX _ (by omega)) 69 rfl ?_
                refine fo_ncmp_ne C (by omega) (by omega) dX7_rowMedian_69 76 (by decide) 72 rfl (fun c11 => ?_) (fun c11 => ?_)
                · refine fo_iconst C dX7_rowMedian_76 (nI 0) ki_0 77 rfl ?_
                  refine fo_iadd C dX7_rowMedian_77 (nI ((fp_cnt (fun i => decide (f i = f k)) o) + 0)) (nI_add _ _) 78 rfl ?_
                  refine fo_istore C dX7_rowMedian_78 [(5, .int (nI ((fp_cnt (fun i => decide (f i = f k)) o) + 0))), (4, .int (nI (fp_cnt (fun i => decide (f i < f k)) (o + 1)))), (6, .int (nI o)), (3, .int (nI k)), (2, .int (nI ((c - 1) / 2))), (0, .ref (Λ.2.2.1 616)), (1, .int (nI c))] rfl (by decide) 80 rfl ?_
                  have e8 : (fp_cnt (fun i => decide (f i = f k)) o) + 0 = fp_cnt (fun i => decide (f i = f k)) (o + 1) := by simp only [fp_cnt, decide_eq_true_eq]; first | rw [if_pos (by omega)] | rw [if_neg (by omega)]
                  rw [e8]
                  refine fo_iinc C dX7_rowMedian_80 2 rfl (nI (o + 1)) (nI_inc1 _) [(6, .int (nI (o + 1))), (5, .int (nI (fp_cnt (fun i => decide (f i = f k)) (o + 1)))), (4, .int (nI (fp_cnt (fun i => decide (f i < f k)) (o + 1)))), (3, .int (nI k)), (2, .int (nI ((c - 1) / 2))), (0, .ref (Λ.2.2.1 616)), (1, .int (nI c))] rfl (by decide) 83 rfl ?_
                  refine fo_goto C dX7_rowMedian_83 22 (by decide) ?_
                  exact ih22 (o + 1) (by omega) (by omega)
                · refine fo_iconst C dX7_rowMedian_72 (nI 1) ki_1 73 rfl ?_
                  refine fo_goto C dX7_rowMedian_73 77 (by decide) ?_
                  refine fo_iadd C dX7_rowMedian_77 (nI ((fp_cnt (fun i => decide (f i = f k)) o) + 1)) (nI_add _ _) 78 rfl ?_
                  refine fo_istore C dX7_rowMedian_78 [(5, .int (nI ((fp_cnt (fun i => decide (f i = f k)) o) + 1))), (4, .int (nI (fp_cnt (fun i => decide (f i < f k)) (o + 1)))), (6, .int (nI o)), (3, .int (nI k)), (2, .int (nI ((c - 1) / 2))), (0, .ref (Λ.2.2.1 616)), (1, .int (nI c))] rfl (by decide) 80 rfl ?_
                  have e8 : (fp_cnt (fun i => decide (f i = f k)) o) + 1 = fp_cnt (fun i => decide (f i = f k)) (o + 1) := by simp only [fp_cnt, decide_eq_true_eq]; first | rw [if_pos (by omega)] | rw [if_neg (by omega)]
                  rw [e8]
                  refine fo_iinc C dX7_rowMedian_80 2 rfl (nI (o + 1)) (nI_inc1 _) [(6, .int (nI (o + 1))), (5, .int (nI (fp_cnt (fun i => decide (f i = f k)) (o + 1)))), (4, .int (nI (fp_cnt (fun i => decide (f i < f k)) (o + 1)))), (3, .int (nI k)), (2, .int (nI ((c - 1) / 2))), (0, .ref (Λ.2.2.1 616)), (1, .int (nI c))] rfl (by decide) 83 rfl ?_
                  refine fo_goto C dX7_rowMedian_83 22 (by decide) ?_
                  exact ih22 (o + 1) (by omega) (by omega)
              · refine fo_iconst C dX7_rowMedian_46 (nI 1) ki_1 47 rfl ?_
                refine fo_goto C dX7_rowMedian_47 51 (by decide) ?_
                refine fo_iadd C dX7_rowMedian_51 (nI ((fp_cnt (fun i => decide (f i < f k)) o) + 1)) (nI_add _ _) 52 rfl ?_
                refine fo_istore C dX7_rowMedian_52 [(4, .int (nI ((fp_cnt (fun i => decide (f i < f k)) o) + 1))), (6, .int (nI o)), (5, .int (nI (fp_cnt (fun i => decide (f i = f k)) o))), (3, .int (nI k)), (2, .int (nI ((c - 1) / 2))), (0, .ref (Λ.2.2.1 616)), (1, .int (nI c))] rfl (by decide) 54 rfl ?_
                have e9 : (fp_cnt (fun i => decide (f i < f k)) o) + 1 = fp_cnt (fun i => decide (f i < f k)) (o + 1) := by simp only [fp_cnt, decide_eq_true_eq]; first | rw [if_pos (by omega)] | rw [if_neg (by omega)]
                rw [e9]
                refine fo_iload C dX7_rowMedian_54 2 rfl 56 rfl ?_
                refine fo_aload_n C dX7_rowMedian_56 5 rfl rfl 57 rfl ?_
                refine fo_get C dX7_rowMedian_57 fK9 (by decide : fo_k 616 = 9) (by decide) 4 (by decide) fl_X7_22 (v := .ref (Λ.2.2.1 621)) rfl 60 rfl ?_
                refine fo_iload C dX7_rowMedian_60 1 rfl 62 rfl ?_
                have q12 := hfb o (by omega)
                refine fo_xald C dX7_rowMedian_62 (by decide : fo_k 621 = 21) (by rw [(show fo_n 621 = 30 from rfl)]; omega) (nI (f o)) (hX _ (by omega)) 63 rfl ?_
                refine fo_aload_n C dX7_rowMedian_63 5 rfl rfl 64 rfl ?_
                refine fo_get C dX7_rowMedian_64 fK9 (by decide : fo_k 616 = 9) (by decide) 4 (by decide) fl_X7_22 (v := .ref (Λ.2.2.1 621)) rfl 67 rfl ?_
                refine fo_iload_n C dX7_rowMedian_67 3 rfl rfl 68 rfl ?_
                have q13 := hfb k (by omega)
                refine fo_xald C dX7_rowMedian_68 (by decide : fo_k 621 = 21) (by rw [(show fo_n 621 = 30 from rfl)]; omega) (nI (f k)) (hX _ (by omega)) 69 rfl ?_
                refine fo_ncmp_ne C (by omega) (by omega) dX7_rowMedian_69 76 (by decide) 72 rfl (fun c14 => ?_) (fun c14 => ?_)
                · refine fo_iconst C dX7_rowMedian_76 (nI 0) ki_0 77 rfl ?_
                  refine fo_iadd C dX7_rowMedian_77 (nI ((fp_cnt (fun i => decide (f i = f k)) o) + 0)) (nI_add _ _) 78 rfl ?_
                  refine fo_istore C dX7_rowMedian_78 [(5, .int (nI ((fp_cnt (fun i => decide (f i = f k)) o) + 0))), (4, .int (nI (fp_cnt (fun i => decide (f i < f k)) (o + 1)))), (6, .int (nI o)), (3, .int (nI k)), (2, .int (nI ((c - 1) / 2))), (0, .ref (Λ.2.2.1 616)), (1, .int (nI c))] rfl (by decide) 80 rfl ?_
                  have e8 : (fp_cnt (fun i => decide (f i = f k)) o) + 0 = fp_cnt (fun i => decide (f i = f k)) (o + 1) := by simp only [fp_cnt, decide_eq_true_eq]; first | rw [if_pos (by omega)] | rw [if_neg (by omega)]
                  rw [e8]
                  refine fo_iinc C dX7_rowMedian_80 2 rfl (nI (o + 1)) (nI_inc1 _) [(6, .int (nI (o + 1))), (5, .int (nI (fp_cnt (fun i => decide (f i = f k)) (o + 1)))), (4, .int (nI (fp_cnt (fun i => decide (f i < f k)) (o + 1)))), (3, .int (nI k)), (2, .int (nI ((c - 1) / 2))), (0, .ref (Λ.2.2.1 616)), (1, .int (nI c))] rfl (by decide) 83 rfl ?_
                  refine fo_goto C dX7_rowMedian_83 22 (by decide) ?_
                  exact ih22 (o + 1) (by omega) (by omega)
                · refine fo_iconst C dX7_rowMedian_72 (nI 1) ki_1 73 rfl ?_
                  refine fo_goto C dX7_rowMedian_73 77 (by decide) ?_
                  refine fo_iadd C dX7_rowMedian_77 (nI ((fp_cnt (fun i => decide (f i = f k)) o) + 1)) (nI_add _ _) 78 rfl ?_
                  refine fo_istore C dX7_rowMedian_78 [(5, .int (nI ((fp_cnt (fun i => decide (f i = f k)) o) + 1))), (4, .int (nI (fp_cnt (fun i => decide (f i < f k)) (o + 1)))), (6, .int (nI o)), (3, .int (nI k)), (2, .int (nI ((c - 1) / 2))), (0, .ref (Λ.2.2.1 616)), (1, .int (nI c))] rfl (by decide) 80 rfl ?_
                  have e8 : (fp_cnt (fun i => decide (f i = f k)) o) + 1 = fp_cnt (fun i => decide (f i = f k)) (o + 1) := by simp only [fp_cnt, decide_eq_true_eq]; first | rw [if_pos (by omega)] | rw [if_neg (by omega)]
                  rw [e8]
                  refine fo_iinc C dX7_rowMedian_80 2 rfl (nI (o + 1)) (nI_inc1 _) [(6, .int (nI (o + 1))), (5, .int (nI (fp_cnt (fun i => decide (f i = f k)) (o + 1)))), (4, .int (nI (fp_cnt (fun i => decide (f i < f k)) (o + 1)))), (3, .int (nI k)), (2, .int (nI ((c - 1) / 2))), (0, .ref (Λ.2.2.1 616)), (1, .int (nI c))] rfl (by decide) 83 rfl ?_
                  refine fo_goto C dX7_rowMedian_83 22 (by decide) ?_
                  exact ih22 (o + 1) (by omega) (by omega)
        exact hL22 (c + 1 + 1) 0 (by omega) (by omega)
  exact hL8 (c + 1 + 1) 0 (by omega) (by omega) rfl (fun o h => absurd h (Nat.not_lt_zero _))
