/-! THE MODEL: questions about a series -/
set_option maxRecDepth 10000 in
set_option maxHeartbeats 4000000 in
theorem mX7_noLast_g {l : Launch} {Λ : fo_Lt} {I : fo_Mi} {D : fo_Md} {J : fo_Mj} {X : fo_Mi} {np lim : Nat} {kd par n : Nat → Nat} {v : Nat → Nat → Nat} {x z : Int32} (ht : fm_T I 617 np lim kd par n v) : fk_i l yX7_noLast cX7_noLast 3 .int 2 42 Λ [.ref (Λ.2.2.1 616), .int (x), .int (z)] I D J X (fo_pr (nI (fg_nl n x z () (fun _ _ => ())).1) I D J X) := by
  obtain ⟨⟨ho1, ⟨ho2, ho3⟩, ho4, ho5, ho6⟩, hnp, hlim, hP, hS⟩ := id ht
  refine fo_si (by decide) [(0, .ref (Λ.2.2.1 616)), (1, .int (x)), (2, .int (z))] rfl (Nat.le_of_ble_eq_true rfl) (fun K C fin => ?_)
  rcases hx : fo_inr x 4 with _ | _
  · skip
    refine fo_iload_n C dX7_noLast_0 1 rfl rfl 1 rfl ?_
    refine fo_qsi C dX7_noLast_1 (mX7_isSeries (x := x)) ls_X7_120 rfl ⟨Nat.le_of_ble_eq_true rfl, Nat.le_of_ble_eq_true rfl⟩ ⟨Nat.le_of_ble_eq_true rfl, Nat.le_of_ble_eq_true rfl⟩ [] rfl (Nat.le_of_ble_eq_true rfl) 4 rfl (fo_er ?_)
    first | rw [hsx] | rw [hx]
    refine fo_bif_ne C dX7_noLast_4 11 (by decide) 7 rfl (fun c7 => ?_) (fun c7 => ?_)
    · exact absurd c7 (by decide)
    · refine fo_iconst C dX7_noLast_7 (nI 1) ki_1 8 rfl ?_
      refine fo_goto C dX7_noLast_8 39 (by decide) ?_
      exact fin dX7_noLast_39 rfl (⟨by rw [fg_nl_1 hx], rfl, rfl, rfl, rfl⟩)
  · obtain ⟨k, hk, hk31, rfl⟩ := fo_inr_at hx
    have hnk := ho5 k hk
    have hsx : fo_inr (nI k) 4 = true := fo_inr_nI hk (by omega)
    rcases hz : fo_130 z with _ | _
    · skip
      refine fo_iload_n C dX7_noLast_0 1 rfl rfl 1 rfl ?_
      refine fo_qsi C dX7_noLast_1 (mX7_isSeries (x := (nI (k)))) ls_X7_120 rfl ⟨Nat.le_of_ble_eq_true rfl, Nat.le_of_ble_eq_true rfl⟩ ⟨Nat.le_of_ble_eq_true rfl, Nat.le_of_ble_eq_true rfl⟩ [] rfl (Nat.le_of_ble_eq_true rfl) 4 rfl (fo_er ?_)
      first | rw [hsx] | rw [hx]
      refine fo_bif_ne C dX7_noLast_4 11 (by decide) 7 rfl (fun c14 => ?_) (fun c14 => ?_)
      · refine fo_iload_n C dX7_noLast_11 2 rfl rfl 12 rfl ?_
        refine fo_iconst C dX7_noLast_12 (nI 1) ki_1 13 rfl ?_
        refine fo_bipush C dX7_noLast_13 (nI 30) kb_30 15 rfl ?_
        refine fo_qsi C dX7_noLast_15 (mX7_in (x := z) (y := (nI (1))) (z := (nI (30)))) ls_X7_88 rfl ⟨Nat.le_of_ble_eq_true rfl, Nat.le_of_ble_eq_true rfl⟩ ⟨Nat.le_of_ble_eq_true rfl, Nat.le_of_ble_eq_true rfl⟩ [] rfl (Nat.le_of_ble_eq_true rfl) 18 rfl (fo_er ?_)
        rw [fm_in_30, hz]
        refine fo_bif_ne C dX7_noLast_18 25 (by decide) 21 rfl (fun c21 => ?_) (fun c21 => ?_)
        · exact absurd c21 (by decide)
        · refine fo_iconst C dX7_noLast_21 (nI 2) ki_2 22 rfl ?_
          refine fo_goto C dX7_noLast_22 39 (by decide) ?_
          exact fin dX7_noLast_39 rfl (⟨by rw [fg_nl_2 hk hz], rfl, rfl, rfl, rfl⟩)
      · exact absurd c14 (by decide)
    · obtain ⟨c, hc1, hc2, rfl⟩ := fo_130_at hz
      rcases Nat.lt_or_ge (n k) c with hc3 | hc3
      · skip
        refine fo_iload_n C dX7_noLast_0 1 rfl rfl 1 rfl ?_
        refine fo_qsi C dX7_noLast_1 (mX7_isSeries (x := (nI (k)))) ls_X7_120 rfl ⟨Nat.le_of_ble_eq_true rfl, Nat.le_of_ble_eq_true rfl⟩ ⟨Nat.le_of_ble_eq_true rfl, Nat.le_of_ble_eq_true rfl⟩ [] rfl (Nat.le_of_ble_eq_true rfl) 4 rfl (fo_er ?_)
        first | rw [hsx] | rw [hx]
        refine fo_bif_ne C dX7_noLast_4 11 (by decide) 7 rfl (fun c28 => ?_) (fun c28 => ?_)
        · refine fo_iload_n C dX7_noLast_11 2 rfl rfl 12 rfl ?_
          refine fo_iconst C dX7_noLast_12 (nI 1) ki_1 13 rfl ?_
          refine fo_bipush C dX7_noLast_13 (nI 30) kb_30 15 rfl ?_
          refine fo_qsi C dX7_noLast_15 (mX7_in (x := (nI (c))) (y := (nI (1))) (z := (nI (30)))) ls_X7_88 rfl ⟨Nat.le_of_ble_eq_true rfl, Nat.le_of_ble_eq_true rfl⟩ ⟨Nat.le_of_ble_eq_true rfl, Nat.le_of_ble_eq_true rfl⟩ [] rfl (Nat.le_of_ble_eq_true rfl) 18 rfl (fo_er ?_)
          rw [fm_in_30, fo_130_nI hc1 hc2]
          refine fo_bif_ne C dX7_noLast_18 25 (by decide) 21 rfl (fun c35 => ?_) (fun c35 => ?_)
          · refine fo_aload_n C dX7_noLast_25 0 rfl rfl 26 rfl ?_
            refine fo_iload_n C dX7_noLast_26 1 rfl rfl 27 rfl ?_
            refine fo_qvi C dX7_noLast_27 (mX7_daysOf (k := k) (by omega) ht) lv_X7_92 (by decide : fo_k 616 = 9) rfl (by decide) rfl ⟨Nat.le_of_ble_eq_true rfl, Nat.le_of_ble_eq_true rfl⟩ ⟨Nat.le_of_ble_eq_true rfl, Nat.le_of_ble_eq_true rfl⟩ [] rfl (Nat.le_of_ble_eq_true rfl) 30 rfl (fo_er ?_)
            have q42 := ho5 k (by omega)
            refine fo_iload_n C dX7_noLast_30 2 rfl rfl 31 rfl ?_
            refine fo_ncmp_ge C (by omega) (by omega) dX7_noLast_31 38 (by decide) 34 rfl (fun c43 => ?_) (fun c43 => ?_)
            · omega
            · refine fo_iconst C dX7_noLast_34 (nI 3) ki_3 35 rfl ?_
              refine fo_goto C dX7_noLast_35 39 (by decide) ?_
              exact fin dX7_noLast_39 rfl (⟨by rw [fg_nl_3 hk hc1 hc2 hc3], rfl, rfl, rfl, rfl⟩)
          · exact absurd c35 (by decide)
        · exact absurd c28 (by decide)
      · skip
        refine fo_iload_n C dX7_noLast_0 1 rfl rfl 1 rfl ?_
        refine fo_qsi C dX7_noLast_1 (mX7_isSeries (x := (nI (k)))) ls_X7_120 rfl ⟨Nat.le_of_ble_eq_true rfl, Nat.le_of_ble_eq_true rfl⟩ ⟨Nat.le_of_ble_eq_true rfl, Nat.le_of_ble_eq_true rfl⟩ [] rfl (Nat.le_of_ble_eq_true rfl) 4 rfl (fo_er ?_)
        first | rw [hsx] | rw [hx]
        refine fo_bif_ne C dX7_noLast_4 11 (by decide) 7 rfl (fun c50 => ?_) (fun c50 => ?_)
        · refine fo_iload_n C dX7_noLast_11 2 rfl rfl 12 rfl ?_
          refine fo_iconst C dX7_noLast_12 (nI 1) ki_1 13 rfl ?_
          refine fo_bipush C dX7_noLast_13 (nI 30) kb_30 15 rfl ?_
          refine fo_qsi C dX7_noLast_15 (mX7_in (x := (nI (c))) (y := (nI (1))) (z := (nI (30)))) ls_X7_88 rfl ⟨Nat.le_of_ble_eq_true rfl, Nat.le_of_ble_eq_true rfl⟩ ⟨Nat.le_of_ble_eq_true rfl, Nat.le_of_ble_eq_true rfl⟩ [] rfl (Nat.le_of_ble_eq_true rfl) 18 rfl (fo_er ?_)
          rw [fm_in_30, fo_130_nI hc1 hc2]
          refine fo_bif_ne C dX7_noLast_18 25 (by decide) 21 rfl (fun c57 => ?_) (fun c57 => ?_)
          · refine fo_aload_n C dX7_noLast_25 0 rfl rfl 26 rfl ?_
            refine fo_iload_n C dX7_noLast_26 1 rfl rfl 27 rfl ?_
            refine fo_qvi C dX7_noLast_27 (mX7_daysOf (k := k) (by omega) ht) lv_X7_92 (by decide : fo_k 616 = 9) rfl (by decide) rfl ⟨Nat.le_of_ble_eq_true rfl, Nat.le_of_ble_eq_true rfl⟩ ⟨Nat.le_of_ble_eq_true rfl, Nat.le_of_ble_eq_true rfl⟩ [] rfl (Nat.le_of_ble_eq_true rfl) 30 rfl (fo_er ?_)
            have q64 := ho5 k (by omega)
            refine fo_iload_n C dX7_noLast_30 2 rfl rfl 31 rfl ?_
            refine fo_ncmp_ge C (by omega) (by omega) dX7_noLast_31 38 (by decide) 34 rfl (fun c65 => ?_) (fun c65 => ?_)
            · refine fo_iconst C dX7_noLast_38 (nI 0) ki_0 39 rfl ?_
              exact fin dX7_noLast_39 rfl (⟨by rw [fg_nl_t hk hc1 hc2 hc3], rfl, rfl, rfl, rfl⟩)
            · omega
          · exact absurd c57 (by decide)
        · exact absurd c50 (by decide)
set_option maxRecDepth 10000 in
set_option maxHeartbeats 4000000 in
theorem mX7_lastMean {l : Launch} {Λ : fo_Lt} {I : fo_Mi} {D : fo_Md} {J : fo_Mj} {X : fo_Mi} {np lim : Nat} {kd par n : Nat → Nat} {v : Nat → Nat → Nat} {x z : Int32} (ht : fm_T I 617 np lim kd par n v) : fk_d l yX7_lastMean cX7_lastMean 3 3 64 Λ [.ref (Λ.2.2.1 616), .int (x), .int (z)] I D J X ((fun r I' D' J' X' => r = (fg_nl n x z FP.dconst0 (fun k c => fp_mean (v k) (n k - c) c)).2 ∧ I' = fo_r I 616 (upd (I 616) 5 (nI (fg_nl n x z FP.dconst0 (fun k c => fp_mean (v k) (n k - c) c)).1)) ∧ D' = D ∧ J' = J)) := by
  obtain ⟨⟨ho1, ⟨ho2, ho3⟩, ho4, ho5, ho6⟩, hnp, hlim, hP, hS⟩ := id ht
  refine fo_sd (by decide) [(0, .ref (Λ.2.2.1 616)), (1, .int (x)), (2, .int (z))] rfl (Nat.le_of_ble_eq_true rfl) (fun K C fin => ?_)
  rcases hx : fo_inr x 4 with _ | _
  · skip
    refine fo_aload_n C dX7_lastMean_0 0 rfl rfl 1 rfl ?_
    refine fo_aload_n C dX7_lastMean_1 0 rfl rfl 2 rfl ?_
    refine fo_iload_n C dX7_lastMean_2 1 rfl rfl 3 rfl ?_
    refine fo_iload_n C dX7_lastMean_3 2 rfl rfl 4 rfl ?_
    refine fo_qvi C dX7_lastMean_4 (mX7_noLast_g (x := x) (z := z) ht) lv_X7_145 (by decide : fo_k 616 = 9) rfl (by decide) rfl ⟨Nat.le_of_ble_eq_true rfl, Nat.le_of_ble_eq_true rfl⟩ ⟨Nat.le_of_ble_eq_true rfl, Nat.le_of_ble_eq_true rfl⟩ [.ref (Λ.2.2.1 616)] rfl (Nat.le_of_ble_eq_true rfl) 7 rfl (fo_er ?_)
    rw [fg_nl_1 hx]
    refine fo_put C dX7_lastMean_7 fK9 (by decide : fo_k 616 = 9) (by decide) 5 (by decide) fl_X7_25 rfl rfl rfl rfl (Nat.le_of_ble_eq_true rfl) 10 rfl ?_
    replace ht := ht.th (g := upd (I 616) 5 (nI 1))
    refine fo_aload_n C dX7_lastMean_10 0 rfl rfl 11 rfl ?_
    refine fo_get C dX7_lastMean_11 fK9 (by decide : fo_k 616 = 9) (by decide) 5 (by decide) fl_X7_25 (v := .int (nI 1)) (congrArg (fun x => some (Value.int x)) ((by rw [fo_rs, pk_us]))) 14 rfl ?_
    refine fo_nif_le C (by omega) dX7_lastMean_14 21 (by decide) 17 rfl (fun c7 => ?_) (fun c7 => ?_)
    · omega
    · refine fo_dconst0 C dX7_lastMean_17 18 rfl ?_
      refine fo_goto C dX7_lastMean_18 32 (by decide) ?_
      exact fin dX7_lastMean_32 (⟨(by rw [fg_nl_1 hx] <;> rfl), (by rw [fg_nl_1 hx] <;> exact rfl), rfl, rfl⟩)
  · obtain ⟨k, hk, hk31, rfl⟩ := fo_inr_at hx
    have hnk := ho5 k hk
    have hsx : fo_inr (nI k) 4 = true := fo_inr_nI hk (by omega)
    rcases hz : fo_130 z with _ | _
    · skip
      refine fo_aload_n C dX7_lastMean_0 0 rfl rfl 1 rfl ?_
      refine fo_aload_n C dX7_lastMean_1 0 rfl rfl 2 rfl ?_
      refine fo_iload_n C dX7_lastMean_2 1 rfl rfl 3 rfl ?_
      refine fo_iload_n C dX7_lastMean_3 2 rfl rfl 4 rfl ?_
      refine fo_qvi C dX7_lastMean_4 (mX7_noLast_g (x := (nI (k))) (z := z) ht) lv_X7_145 (by decide : fo_k 616 = 9) rfl (by decide) rfl ⟨Nat.le_of_ble_eq_true rfl, Nat.le_of_ble_eq_true rfl⟩ ⟨Nat.le_of_ble_eq_true rfl, Nat.le_of_ble_eq_true rfl⟩ [.ref (Λ.2.2.1 616)] rfl (Nat.le_of_ble_eq_true rfl) 7 rfl (fo_er ?_)
      rw [fg_nl_2 hk hz]
      refine fo_put C dX7_lastMean_7 fK9 (by decide : fo_k 616 = 9) (by decide) 5 (by decide) fl_X7_25 rfl rfl rfl rfl (Nat.le_of_ble_eq_true rfl) 10 rfl ?_
      replace ht := ht.th (g := upd (I 616) 5 (nI 2))
      refine fo_aload_n C dX7_lastMean_10 0 rfl rfl 11 rfl ?_
      refine fo_get C dX7_lastMean_11 fK9 (by decide : fo_k 616 = 9) (by decide) 5 (by decide) fl_X7_25 (v := .int (nI 2)) (congrArg (fun x => some (Value.int x)) ((by rw [fo_rs, pk_us]))) 14 rfl ?_
      refine fo_nif_le C (by omega) dX7_lastMean_14 21 (by decide) 17 rfl (fun c14 => ?_) (fun c14 => ?_)
      · omega
      · refine fo_dconst0 C dX7_lastMean_17 18 rfl ?_
        refine fo_goto C dX7_lastMean_18 32 (by decide) ?_
        exact fin dX7_lastMean_32 (⟨(by rw [fg_nl_2 hk hz] <;> rfl), (by rw [fg_nl_2 hk hz] <;> exact rfl), rfl, rfl⟩)
    · obtain ⟨c, hc1, hc2, rfl⟩ := fo_130_at hz
      rcases Nat.lt_or_ge (n k) c with hc3 | hc3
      · skip
        refine fo_aload_n C dX7_lastMean_0 0 rfl rfl 1 rfl ?_
        refine fo_aload_n C dX7_lastMean_1 0 rfl rfl 2 rfl ?_
        refine fo_iload_n C dX7_lastMean_2 1 rfl rfl 3 rfl ?_
        refine fo_iload_n C dX7_lastMean_3 2 rfl rfl 4 rfl ?_
        refine fo_qvi C dX7_lastMean_4 (mX7_noLast_g (x := (nI (k))) (z := (nI (c))) ht) lv_X7_145 (by decide : fo_k 616 = 9) rfl (by decide) rfl ⟨Nat.le_of_ble_eq_true rfl, Nat.le_of_ble_eq_true rfl⟩ ⟨Nat.le_of_ble_eq_true rfl, Nat.le_of_ble_eq_true rfl⟩ [.ref (Λ.2.2.1 616)] rfl (Nat.le_of_ble_eq_true rfl) 7 rfl (fo_er ?_)
        rw [fg_nl_3 hk hc1 hc2 hc3]
        refine fo_put C dX7_lastMean_7 fK9 (by decide : fo_k 616 = 9) (by decide) 5 (by decide) fl_X7_25 rfl rfl rfl rfl (Nat.le_of_ble_eq_true rfl) 10 rfl ?_
        replace ht := ht.th (g := upd (I 616) 5 (nI 3))
        refine fo_aload_n C dX7_lastMean_10 0 rfl rfl 11 rfl ?_
        refine fo_get C dX7_lastMean_11 fK9 (by decide : fo_k 616 = 9) (by decide) 5 (by decide) fl_X7_25 (v := .int (nI 3)) (congrArg (fun x => some (Value.int x)) ((by rw [fo_rs, pk_us]))) 14 rfl ?_
        refine fo_nif_le C (by omega) dX7_lastMean_14 21 (by decide) 17 rfl (fun c21 => ?_) (fun c21 => ?_)
        · omega
        · refine fo_dconst0 C dX7_lastMean_17 18 rfl ?_
          refine fo_goto C dX7_lastMean_18 32 (by decide) ?_
          exact fin dX7_lastMean_32 (⟨(by rw [fg_nl_3 hk hc1 hc2 hc3] <;> rfl), (by rw [fg_nl_3 hk hc1 hc2 hc3] <;> exact rfl), rfl, rfl⟩)
      · skip
        refine fo_aload_n C dX7_lastMean_0 0 rfl rfl 1 rfl ?_
        refine fo_aload_n C dX7_lastMean_1 0 rfl rfl 2 rfl ?_
        refine fo_iload_n C dX7_lastMean_2 1 rfl rfl 3 rfl ?_
        refine fo_iload_n C dX7_lastMean_3 2 rfl rfl 4 rfl ?_
        refine fo_qvi C dX7_lastMean_4 (mX7_noLast_g (x := (nI (k))) (z := (nI (c))) ht) lv_X7_145 (by decide : fo_k 616 = 9) rfl (by decide) rfl ⟨Nat.le_of_ble_eq_true rfl, Nat.le_of_ble_eq_true rfl⟩ ⟨Nat.le_of_ble_eq_true rfl, Nat.le_of_ble_eq_true rfl⟩ [.ref (Λ.2.2.1 616)] rfl (Nat.le_of_ble_eq_true rfl) 7 rfl (fo_er ?_)
        rw [fg_nl_t hk hc1 hc2 hc3]
        refine fo_put C dX7_lastMean_7 fK9 (by decide : fo_k 616 = 9) (by decide) 5 (by decide) fl_X7_25 rfl rfl rfl rfl (Nat.le_of_ble_eq_true rfl) 10 rfl ?_
        replace ht := ht.th (g := upd (I 616) 5 (nI 0))
        refine fo_aload_n C dX7_lastMean_10 0 rfl rfl 11 rfl ?_
        refine fo_get C dX7_lastMean_11 fK9 (by decide : fo_k 616 = 9) (by decide) 5 (by decide) fl_X7_25 (v := .int (nI 0)) (congrArg (fun x => some (Value.int x)) ((by rw [fo_rs, pk_us]))) 14 rfl ?_
        refine fo_nif_le C (by omega) dX7_lastMean_14 21 (by decide) 17 rfl (fun c28 => ?_) (fun c28 => ?_)
        · refine fo_aload_n C dX7_lastMean_21 0 rfl rfl 22 rfl ?_
          refine fo_iload_n C dX7_lastMean_22 1 rfl rfl 23 rfl ?_
          refine fo_aload_n C dX7_lastMean_23 0 rfl rfl 24 rfl ?_
          refine fo_iload_n C dX7_lastMean_24 1 rfl rfl 25 rfl ?_
          refine fo_qvi C dX7_lastMean_25 (mX7_daysOf (k := k) (by omega) ht) lv_X7_92 (by decide : fo_k 616 = 9) rfl (by decide) rfl ⟨Nat.le_of_ble_eq_true rfl, Nat.le_of_ble_eq_true rfl⟩ ⟨Nat.le_of_ble_eq_true rfl, Nat.le_of_ble_eq_true rfl⟩ [.int (nI k), .ref (Λ.2.2.1 616)] rfl (Nat.le_of_ble_eq_true rfl) 28 rfl (fo_er ?_)
          have q35 := ho5 k (by omega)
          refine fo_iload_n C dX7_lastMean_28 2 rfl rfl 29 rfl ?_
          refine fo_qvd C dX7_lastMean_29 (mX7_mean (k := k) (e := n k) (c := c) hk hc1 hc3 (Nat.le_refl _) ht) lv_X7_148 (by decide : fo_k 616 = 9) rfl (by decide) rfl ⟨Nat.le_of_ble_eq_true rfl, Nat.le_of_ble_eq_true rfl⟩ ⟨Nat.le_of_ble_eq_true rfl, Nat.le_of_ble_eq_true rfl⟩ [] rfl (Nat.le_of_ble_eq_true rfl) 32 rfl (fo_er ?_)
          exact fin dX7_lastMean_32 (⟨(by rw [fg_nl_t hk hc1 hc2 hc3] <;> rfl), (by rw [fg_nl_t hk hc1 hc2 hc3] <;> exact rfl), rfl, rfl⟩)
        · omega
set_option maxRecDepth 10000 in
set_option maxHeartbeats 4000000 in
theorem mX7_lastMedian {l : Launch} {Λ : fo_Lt} {I : fo_Mi} {D : fo_Md} {J : fo_Mj} {X : fo_Mi} {np lim : Nat} {kd par n : Nat → Nat} {v : Nat → Nat → Nat} {x z : Int32} (ht : fm_T I 617 np lim kd par n v) : fk_i l yX7_lastMedian cX7_lastMedian 3 .int 3 64 Λ [.ref (Λ.2.2.1 616), .int (x), .int (z)] I D J X ((fun r I' D' J' X' => r = (fg_nl n x z (nI 0) (fun k c => nI (fp_med (fun o => v k (n k - c + o)) c))).2 ∧ I' = fo_r I 616 (upd (I 616) 5 (nI (fg_nl n x z (nI 0) (fun k c => nI (fp_med (fun o => v k (n k - c + o)) c))).1)) ∧ D' = D ∧ J' = J)) := by
  obtain ⟨⟨ho1, ⟨ho2, ho3⟩, ho4, ho5, ho6⟩, hnp, hlim, hP, hS⟩ := id ht
  refine fo_si (by decide) [(0, .ref (Λ.2.2.1 616)), (1, .int (x)), (2, .int (z))] rfl (Nat.le_of_ble_eq_true rfl) (fun K C fin => ?_)
  rcases hx : fo_inr x 4 with _ | _
  · skip
    refine fo_aload_n C dX7_lastMedian_0 0 rfl rfl 1 rfl ?_
    refine fo_aload_n C dX7_lastMedian_1 0 rfl rfl 2 rfl ?_
    refine fo_iload_n C dX7_lastMedian_2 1 rfl rfl 3 rfl ?_
    refine fo_iload_n C dX7_lastMedian_3 2 rfl rfl 4 rfl ?_
    refine fo_qvi C dX7_lastMedian_4 (mX7_noLast_g (x := x) (z := z) ht) lv_X7_145 (by decide : fo_k 616 = 9) rfl (by decide) rfl ⟨Nat.le_of_ble_eq_true rfl, Nat.le_of_ble_eq_true rfl⟩ ⟨Nat.le_of_ble_eq_true rfl, Nat.le_of_ble_eq_true rfl⟩ [.ref (Λ.2.2.1 616)] rfl (Nat.le_of_ble_eq_true rfl) 7 rfl (fo_er ?_)
    rw [fg_nl_1 hx]
    refine fo_put C dX7_lastMedian_7 fK9 (by decide : fo_k 616 = 9) (by decide) 5 (by decide) fl_X7_25 rfl rfl rfl rfl (Nat.le_of_ble_eq_true rfl) 10 rfl ?_
    replace ht := ht.th (g := upd (I 616) 5 (nI 1))
    refine fo_aload_n C dX7_lastMedian_10 0 rfl rfl 11 rfl ?_
    refine fo_get C dX7_lastMedian_11 fK9 (by decide : fo_k 616 = 9) (by decide) 5 (by decide) fl_X7_25 (v := .int (nI 1)) (congrArg (fun x => some (Value.int x)) ((by rw [fo_rs, pk_us]))) 14 rfl ?_
    refine fo_nif_le C (by omega) dX7_lastMedian_14 21 (by decide) 17 rfl (fun c7 => ?_) (fun c7 => ?_)
    · omega
    · refine fo_iconst C dX7_lastMedian_17 (nI 0) ki_0 18 rfl ?_
      refine fo_goto C dX7_lastMedian_18 32 (by decide) ?_
      exact fin dX7_lastMedian_32 rfl (⟨(by rw [fg_nl_1 hx] <;> rfl), (by rw [fg_nl_1 hx] <;> exact rfl), rfl, rfl⟩)
  · obtain ⟨k, hk, hk31, rfl⟩ := fo_inr_at hx
    have hnk := ho5 k hk
    have hsx : fo_inr (nI k) 4 = true := fo_inr_nI hk (by omega)
    rcases hz : fo_130 z with _ | _
    · skip
      refine fo_aload_n C dX7_lastMedian_0 0 rfl rfl 1 rfl ?_
      refine fo_aload_n C dX7_lastMedian_1 0 rfl rfl 2 rfl ?_
      refine fo_iload_n C dX7_lastMedian_2 1 rfl rfl 3 rfl ?_
      refine fo_iload_n C dX7_lastMedian_3 2 rfl rfl 4 rfl ?_
      refine fo_qvi C dX7_lastMedian_4 (mX7_noLast_g (x := (nI (k))) (z := z) ht) lv_X7_145 (by decide : fo_k 616 = 9) rfl (by decide) rfl ⟨Nat.le_of_ble_eq_true rfl, Nat.le_of_ble_eq_true rfl⟩ ⟨Nat.le_of_ble_eq_true rfl, Nat.le_of_ble_eq_true rfl⟩ [.ref (Λ.2.2.1 616)] rfl (Nat.le_of_ble_eq_true rfl) 7 rfl (fo_er ?_)
      rw [fg_nl_2 hk hz]
      refine fo_put C dX7_lastMedian_7 fK9 (by decide : fo_k 616 = 9) (by decide) 5 (by decide) fl_X7_25 rfl rfl rfl rfl (Nat.le_of_ble_eq_true rfl) 10 rfl ?_
      replace ht := ht.th (g := upd (I 616) 5 (nI 2))
      refine fo_aload_n C dX7_lastMedian_10 0 rfl rfl 11 rfl ?_
      refine fo_get C dX7_lastMedian_11 fK9 (by decide : fo_k 616 = 9) (by decide) 5 (by decide) fl_X7_25 (v := .int (nI 2)) (congrArg (fun x => some (Value.int x)) ((by rw [fo_rs, pk_us]))) 14 rfl ?_
      refine fo_nif_le C (by omega) dX7_lastMedian_14 21 (by decide) 17 rfl (fun c14 => ?_) (fun c14 => ?_)
      · omega
      · refine fo_iconst C dX7_lastMedian_17 (nI 0) ki_0 18 rfl ?_
        refine fo_goto C dX7_lastMedian_18 32 (by decide) ?_
        exact fin dX7_lastMedian_32 rfl (⟨(by rw [fg_nl_2 hk hz] <;> rfl), (by rw [fg_nl_2 hk hz] <;> exact rfl), rfl, rfl⟩)
    · obtain ⟨c, hc1, hc2, rfl⟩ := fo_130_at hz
      rcases Nat.lt_or_ge (n k) c with hc3 | hc3
      · skip
        refine fo_aload_n C dX7_lastMedian_0 0 rfl rfl 1 rfl ?_
        refine fo_aload_n C dX7_lastMedian_1 0 rfl rfl 2 rfl ?_
        refine fo_iload_n C dX7_lastMedian_2 1 rfl rfl 3 rfl ?_
        refine fo_iload_n C dX7_lastMedian_3 2 rfl rfl 4 rfl ?_
        refine fo_qvi C dX7_lastMedian_4 (mX7_noLast_g (x := (nI (k))) (z := (nI (c))) ht) lv_X7_145 (by decide : fo_k 616 = 9) rfl (by decide) rfl ⟨Nat.le_of_ble_eq_true rfl, Nat.le_of_ble_eq_true rfl⟩ ⟨Nat.le_of_ble_eq_true rfl, Nat.le_of_ble_eq_true rfl⟩ [.ref (Λ.2.2.1 616)] rfl (Nat.le_of_ble_eq_true rfl) 7 rfl (fo_er ?_)
        rw [fg_nl_3 hk hc1 hc2 hc3]
        refine fo_put C dX7_lastMedian_7 fK9 (by decide : fo_k 616 = 9) (by decide) 5 (by decide) fl_X7_25 rfl rfl rfl rfl (Nat.le_of_ble_eq_true rfl) 10 rfl ?_
        replace ht := ht.th (g := upd (I 616) 5 (nI 3))
        refine fo_aload_n C dX7_lastMedian_10 0 rfl rfl 11 rfl ?_
        refine fo_get C dX7_lastMedian_11 fK9 (by decide : fo_k 616 = 9) (by decide) 5 (by decide) fl_X7_25 (v := .int (nI 3)) (congrArg (fun x => some (Value.int x)) ((by rw [fo_rs, pk_us]))) 14 rfl ?_
        refine fo_nif_le C (by omega) dX7_lastMedian_14 21 (by decide) 17 rfl (fun c21 => ?_) (fun c21 => ?_)
        · omega
        · refine fo_iconst C dX7_lastMedian_17 (nI 0) ki_0 18 rfl ?_
          refine fo_goto C dX7_lastMedian_18 32 (by decide) ?_
          exact fin dX7_lastMedian_32 rfl (⟨(by rw [fg_nl_3 hk hc1 hc2 hc3] <;> rfl), (by rw [fg_nl_3 hk hc1 hc2 hc3] <;> exact rfl), rfl, rfl⟩)
      · skip
        refine fo_aload_n C dX7_lastMedian_0 0 rfl rfl 1 rfl ?_
        refine fo_aload_n C dX7_lastMedian_1 0 rfl rfl 2 rfl ?_
        refine fo_iload_n C dX7_lastMedian_2 1 rfl rfl 3 rfl ?_
        refine fo_iload_n C dX7_lastMedian_3 2 rfl rfl 4 rfl ?_
        refine fo_qvi C dX7_lastMedian_4 (mX7_noLast_g (x := (nI (k))) (z := (nI (c))) ht) lv_X7_145 (by decide : fo_k 616 = 9) rfl (by decide) rfl ⟨Nat.le_of_ble_eq_true rfl, Nat.le_of_ble_eq_true rfl⟩ ⟨Nat.le_of_ble_eq_true rfl, Nat.le_of_ble_eq_true rfl⟩ [.ref (Λ.2.2.1 616)] rfl (Nat.le_of_ble_eq_true rfl) 7 rfl (fo_er ?_)
        rw [fg_nl_t hk hc1 hc2 hc3]
        refine fo_put C dX7_lastMedian_7 fK9 (by decide : fo_k 616 = 9) (by decide) 5 (by decide) fl_X7_25 rfl rfl rfl rfl (Nat.le_of_ble_eq_true rfl) 10 rfl ?_
        replace ht := ht.th (g := upd (I 616) 5 (nI 0))
        refine fo_aload_n C dX7_lastMedian_10 0 rfl rfl 11 rfl ?_
        refine fo_get C dX7_lastMedian_11 fK9 (by decide : fo_k 616 = 9) (by decide) 5 (by decide) fl_X7_25 (v := .int (nI 0)) (congrArg (fun x => some (Value.int x)) ((by rw [fo_rs, pk_us]))) 14 rfl ?_
        refine fo_nif_le C (by omega) dX7_lastMedian_14 21 (by decide) 17 rfl (fun c28 => ?_) (fun c28 => ?_)
        · refine fo_aload_n C dX7_lastMedian_21 0 rfl rfl 22 rfl ?_
          refine fo_iload_n C dX7_lastMedian_22 1 rfl rfl 23 rfl ?_
          refine fo_aload_n C dX7_lastMedian_23 0 rfl rfl 24 rfl ?_
          refine fo_iload_n C dX7_lastMedian_24 1 rfl rfl 25 rfl ?_
          refine fo_qvi C dX7_lastMedian_25 (mX7_daysOf (k := k) (by omega) ht) lv_X7_92 (by decide : fo_k 616 = 9) rfl (by decide) rfl ⟨Nat.le_of_ble_eq_true rfl, Nat.le_of_ble_eq_true rfl⟩ ⟨Nat.le_of_ble_eq_true rfl, Nat.le_of_ble_eq_true rfl⟩ [.int (nI k), .ref (Λ.2.2.1 616)] rfl (Nat.le_of_ble_eq_true rfl) 28 rfl (fo_er ?_)
          have q35 := ho5 k (by omega)
          refine fo_iload_n C dX7_lastMedian_28 2 rfl rfl 29 rfl ?_
          refine fo_qvi C dX7_lastMedian_29 (mX7_medianAhead (k := k) (e := n k) (c := c) hk hc1 hc3 (Nat.le_refl _) ht) lv_X7_159 (by decide : fo_k 616 = 9) rfl (by decide) rfl ⟨Nat.le_of_ble_eq_true rfl, Nat.le_of_ble_eq_true rfl⟩ ⟨Nat.le_of_ble_eq_true rfl, Nat.le_of_ble_eq_true rfl⟩ [] rfl (Nat.le_of_ble_eq_true rfl) 32 rfl (fo_es (fun X40 => ?_))
          exact fin dX7_lastMedian_32 rfl (⟨(by rw [fg_nl_t hk hc1 hc2 hc3] <;> rfl), (by rw [fg_nl_t hk hc1 hc2 hc3] <;> exact rfl), rfl, rfl⟩)
        · omega
set_option maxRecDepth 10000 in
set_option maxHeartbeats 4000000 in
theorem mX7_movingAverage {l : Launch} {Λ : fo_Lt} {I : fo_Mi} {D : fo_Md} {J : fo_Mj} {X : fo_Mi} {np lim : Nat} {kd par n : Nat → Nat} {v : Nat → Nat → Nat} {x z : Int32} (ht : fm_T I 617 np lim kd par n v) : fk_d l yX7_movingAverage cX7_movingAverage 3 4 86 Λ [.ref (Λ.2.2.1 616), .int (x), .int (z)] I D J X ((fun r I' D' J' X' => r = (fg_nl n x z FP.dconst0 (fun k c => fp_mean (v k) (n k - c) c)).2 ∧ I' = fo_r I 616 (upd (I 616) 5 (nI (fg_nl n x z FP.dconst0 (fun k c => fp_mean (v k) (n k - c) c)).1)) ∧ D' = D ∧ J' = J)) := by
  refine fo_sd (by decide) [(0, .ref (Λ.2.2.1 616)), (1, .int (x)), (2, .int (z))] rfl (Nat.le_of_ble_eq_true rfl) (fun K C fin => ?_)
  refine fo_aload_n C dX7_movingAverage_0 0 rfl rfl 1 rfl ?_
  refine fo_iload_n C dX7_movingAverage_1 1 rfl rfl 2 rfl ?_
  refine fo_iload_n C dX7_movingAverage_2 2 rfl rfl 3 rfl ?_
  refine fo_qvd C dX7_movingAverage_3 (mX7_lastMean (x := x) (z := z) ht) lv_X7_152 (by decide : fo_k 616 = 9) rfl (by decide) rfl ⟨Nat.le_of_ble_eq_true rfl, Nat.le_of_ble_eq_true rfl⟩ ⟨Nat.le_of_ble_eq_true rfl, Nat.le_of_ble_eq_true rfl⟩ [] rfl (Nat.le_of_ble_eq_true rfl) 6 rfl (fun r1 I2 D3 J4 X5 p6 => ?_)
  obtain ⟨rfl, rfl, z3, z4⟩ := p6
  obtain rfl := z3.symm
  obtain rfl := z4.symm
  exact fin dX7_movingAverage_6 (⟨rfl, rfl, rfl, rfl⟩)
set_option maxRecDepth 10000 in
set_option maxHeartbeats 4000000 in
theorem mX7_movingAverageBySums {l : Launch} {Λ : fo_Lt} {I : fo_Mi} {D : fo_Md} {J : fo_Mj} {X : fo_Mi} {np lim : Nat} {kd par n : Nat → Nat} {v : Nat → Nat → Nat} {x z : Int32} (ht : fm_T I 617 np lim kd par n v) : fk_d l yX7_movingAverageBySums cX7_movingAverageBySums 3 4 86 Λ [.ref (Λ.2.2.1 616), .int (x), .int (z)] I D J X ((fun r I' D' J' X' => r = (fg_nl n x z FP.dconst0 (fun k c => fp_mean (v k) (n k - c) c)).2 ∧ I' = fo_r I 616 (upd (I 616) 5 (nI (fg_nl n x z FP.dconst0 (fun k c => fp_mean (v k) (n k - c) c)).1)) ∧ D' = D ∧ J' = J)) := by
  refine fo_sd (by decide) [(0, .ref (Λ.2.2.1 616)), (1, .int (x)), (2, .int (z))] rfl (Nat.le_of_ble_eq_true rfl) (fun K C fin => ?_)
  refine fo_aload_n C dX7_movingAverageBySums_0 0 rfl rfl 1 rfl ?_
  refine fo_iload_n C dX7_movingAverageBySums_1 1 rfl rfl 2 rfl ?_
  refine fo_iload_n C dX7_movingAverageBySums_2 2 rfl rfl 3 rfl ?_
  refine fo_qvd C dX7_movingAverageBySums_3 (mX7_lastMean (x := x) (z := z) ht) lv_X7_152 (by decide : fo_k 616 = 9) rfl (by decide) rfl ⟨Nat.le_of_ble_eq_true rfl, Nat.le_of_ble_eq_true rfl⟩ ⟨Nat.le_of_ble_eq_true rfl, Nat.le_of_ble_eq_true rfl⟩ [] rfl (Nat.le_of_ble_eq_true rfl) 6 rfl (fun r1 I2 D3 J4 X5 p6 => ?_)
  obtain ⟨rfl, rfl, z3, z4⟩ := p6
  obtain rfl := z3.symm
  obtain rfl := z4.symm
  exact fin dX7_movingAverageBySums_6 (⟨rfl, rfl, rfl, rfl⟩)
set_option maxRecDepth 10000 in
set_option maxHeartbeats 4000000 in
theorem mX7_median {l : Launch} {Λ : fo_Lt} {I : fo_Mi} {D : fo_Md} {J : fo_Mj} {X : fo_Mi} {np lim : Nat} {kd par n : Nat → Nat} {v : Nat → Nat → Nat} {x z : Int32} (ht : fm_T I 617 np lim kd par n v) : fk_i l yX7_median cX7_median 3 .int 4 86 Λ [.ref (Λ.2.2.1 616), .int (x), .int (z)] I D J X ((fun r I' D' J' X' => r = (fg_nl n x z (nI 0) (fun k c => nI (fp_med (fun o => v k (n k - c + o)) c))).2 ∧ I' = fo_r I 616 (upd (I 616) 5 (nI (fg_nl n x z (nI 0) (fun k c => nI (fp_med (fun o => v k (n k - c + o)) c))).1)) ∧ D' = D ∧ J' = J)) := by
  refine fo_si (by decide) [(0, .ref (Λ.2.2.1 616)), (1, .int (x)), (2, .int (z))] rfl (Nat.le_of_ble_eq_true rfl) (fun K C fin => ?_)
  refine fo_aload_n C dX7_median_0 0 rfl rfl 1 rfl ?_
  refine fo_iload_n C dX7_median_1 1 rfl rfl 2 rfl ?_
  refine fo_iload_n C dX7_median_2 2 rfl rfl 3 rfl ?_
  refine fo_qvi C dX7_median_3 (mX7_lastMedian (x := x) (z := z) ht) lv_X7_163 (by decide : fo_k 616 = 9) rfl (by decide) rfl ⟨Nat.le_of_ble_eq_true rfl, Nat.le_of_ble_eq_true rfl⟩ ⟨Nat.le_of_ble_eq_true rfl, Nat.le_of_ble_eq_true rfl⟩ [] rfl (Nat.le_of_ble_eq_true rfl) 6 rfl (fun r1 I2 D3 J4 X5 p6 => ?_)
  obtain ⟨rfl, rfl, z3, z4⟩ := p6
  obtain rfl := z3.symm
  obtain rfl := z4.symm
  exact fin dX7_median_6 rfl (⟨rfl, rfl, rfl, rfl⟩)
set_option maxRecDepth 10000 in
set_option maxHeartbeats 4000000 in
theorem mX7_medianByCounting {l : Launch} {Λ : fo_Lt} {I : fo_Mi} {D : fo_Md} {J : fo_Mj} {X : fo_Mi} {np lim : Nat} {kd par n : Nat → Nat} {v : Nat → Nat → Nat} {x z : Int32} (ht : fm_T I 617 np lim kd par n v) : fk_i l yX7_medianByCounting cX7_medianByCounting 3 .int 4 86 Λ [.ref (Λ.2.2.1 616), .int (x), .int (z)] I D J X ((fun r I' D' J' X' => r = (fg_nl n x z (nI 0) (fun k c => nI (fp_med (fun o => v k (n k - c + o)) c))).2 ∧ I' = fo_r I 616 (upd (I 616) 5 (nI (fg_nl n x z (nI 0) (fun k c => nI (fp_med (fun o => v k (n k - c + o)) c))).1)) ∧ D' = D ∧ J' = J)) := by
  refine fo_si (by decide) [(0, .ref (Λ.2.2.1 616)), (1, .int (x)), (2, .int (z))] rfl (Nat.le_of_ble_eq_true rfl) (fun K C fin => ?_)
  refine fo_aload_n C dX7_medianByCounting_0 0 rfl rfl 1 rfl ?_
  refine fo_iload_n C dX7_medianByCounting_1 1 rfl rfl 2 rfl ?_
  refine fo_iload_n C dX7_medianByCounting_2 2 rfl rfl 3 rfl ?_
  refine fo_qvi C dX7_medianByCounting_3 (mX7_lastMedian (x := x) (z := z) ht) lv_X7_163 (by decide : fo_k 616 = 9) rfl (by decide) rfl ⟨Nat.le_of_ble_eq_true rfl, Nat.le_of_ble_eq_true rfl⟩ ⟨Nat.le_of_ble_eq_true rfl, Nat.le_of_ble_eq_true rfl⟩ [] rfl (Nat.le_of_ble_eq_true rfl) 6 rfl (fun r1 I2 D3 J4 X5 p6 => ?_)
  obtain ⟨rfl, rfl, z3, z4⟩ := p6
  obtain rfl := z3.symm
  obtain rfl := z4.symm
  exact fin dX7_medianByCounting_6 rfl (⟨rfl, rfl, rfl, rfl⟩)
set_option maxRecDepth 10000 in
set_option maxHeartbeats 4000000 in
theorem mX7_smoothed {l : Launch} {Λ : fo_Lt} {I : fo_Mi} {D : fo_Md} {J : fo_Mj} {X : fo_Mi} {np lim : Nat} {kd par n : Nat → Nat} {v : Nat → Nat → Nat} {x z : Int32} (ht : fm_T I 617 np lim kd par n v) : fk_d l yX7_smoothed cX7_smoothed 3 2 48 Λ [.ref (Λ.2.2.1 616), .int (x), .int (z)] I D J X ((fun r I' D' J' X' => r = (fg_sm n x z FP.dconst0 (fun k c => fp_lev (v k) c (n k - 1))).2 ∧ I' = fo_r I 616 (upd (I 616) 5 (nI (fg_sm n x z FP.dconst0 (fun k c => fp_lev (v k) c (n k - 1))).1)) ∧ D' = D ∧ J' = J)) := by
  obtain ⟨⟨ho1, ⟨ho2, ho3⟩, ho4, ho5, ho6⟩, hnp, hlim, hP, hS⟩ := id ht
  refine fo_sd (by decide) [(0, .ref (Λ.2.2.1 616)), (1, .int (x)), (2, .int (z))] rfl (Nat.le_of_ble_eq_true rfl) (fun K C fin => ?_)
  rcases hx : fo_inr x 4 with _ | _
  · skip
    refine fo_aload_n C dX7_smoothed_0 0 rfl rfl 1 rfl ?_
    refine fo_iload_n C dX7_smoothed_1 1 rfl rfl 2 rfl ?_
    refine fo_qsi C dX7_smoothed_2 (mX7_isSeries (x := x)) ls_X7_120 rfl ⟨Nat.le_of_ble_eq_true rfl, Nat.le_of_ble_eq_true rfl⟩ ⟨Nat.le_of_ble_eq_true rfl, Nat.le_of_ble_eq_true rfl⟩ [.ref (Λ.2.2.1 616)] rfl (Nat.le_of_ble_eq_true rfl) 5 rfl (fo_er ?_)
    first | rw [hsx] | rw [hx]
    refine fo_bif_ne C dX7_smoothed_5 12 (by decide) 8 rfl (fun c7 => ?_) (fun c7 => ?_)
    · exact absurd c7 (by decide)
    · refine fo_iconst C dX7_smoothed_8 (nI 1) ki_1 9 rfl ?_
      refine fo_goto C dX7_smoothed_9 39 (by decide) ?_
      refine fo_put C dX7_smoothed_39 fK9 (by decide : fo_k 616 = 9) (by decide) 5 (by decide) fl_X7_25 rfl rfl rfl rfl (Nat.le_of_ble_eq_true rfl) 42 rfl ?_
      replace ht := ht.th (g := upd (I 616) 5 (nI 1))
      refine fo_aload_n C dX7_smoothed_42 0 rfl rfl 43 rfl ?_
      refine fo_get C dX7_smoothed_43 fK9 (by decide : fo_k 616 = 9) (by decide) 5 (by decide) fl_X7_25 (v := .int (nI 1)) (congrArg (fun x => some (Value.int x)) ((by rw [fo_rs, pk_us]))) 46 rfl ?_
      refine fo_nif_le C (by omega) dX7_smoothed_46 53 (by decide) 49 rfl (fun c8 => ?_) (fun c8 => ?_)
      · omega
      · refine fo_dconst0 C dX7_smoothed_49 50 rfl ?_
        refine fo_goto C dX7_smoothed_50 64 (by decide) ?_
        exact fin dX7_smoothed_64 (⟨(by rw [fg_sm_1 hx] <;> rfl), (by rw [fg_sm_1 hx] <;> exact rfl), rfl, rfl⟩)
  · obtain ⟨k, hk, hk31, rfl⟩ := fo_inr_at hx
    have hnk := ho5 k hk
    have hsx : fo_inr (nI k) 4 = true := fo_inr_nI hk (by omega)
    rcases hz : fo_19 z with _ | _
    · skip
      refine fo_aload_n C dX7_smoothed_0 0 rfl rfl 1 rfl ?_
      refine fo_iload_n C dX7_smoothed_1 1 rfl rfl 2 rfl ?_
      refine fo_qsi C dX7_smoothed_2 (mX7_isSeries (x := (nI (k)))) ls_X7_120 rfl ⟨Nat.le_of_ble_eq_true rfl, Nat.le_of_ble_eq_true rfl⟩ ⟨Nat.le_of_ble_eq_true rfl, Nat.le_of_ble_eq_true rfl⟩ [.ref (Λ.2.2.1 616)] rfl (Nat.le_of_ble_eq_true rfl) 5 rfl (fo_er ?_)
      first | rw [hsx] | rw [hx]
      refine fo_bif_ne C dX7_smoothed_5 12 (by decide) 8 rfl (fun c15 => ?_) (fun c15 => ?_)
      · refine fo_iload_n C dX7_smoothed_12 2 rfl rfl 13 rfl ?_
        refine fo_iconst C dX7_smoothed_13 (nI 1) ki_1 14 rfl ?_
        refine fo_bipush C dX7_smoothed_14 (nI 9) kb_9 16 rfl ?_
        refine fo_qsi C dX7_smoothed_16 (mX7_in (x := z) (y := (nI (1))) (z := (nI (9)))) ls_X7_88 rfl ⟨Nat.le_of_ble_eq_true rfl, Nat.le_of_ble_eq_true rfl⟩ ⟨Nat.le_of_ble_eq_true rfl, Nat.le_of_ble_eq_true rfl⟩ [.ref (Λ.2.2.1 616)] rfl (Nat.le_of_ble_eq_true rfl) 19 rfl (fo_er ?_)
        rw [fm_in_9, hz]
        refine fo_bif_ne C dX7_smoothed_19 26 (by decide) 22 rfl (fun c22 => ?_) (fun c22 => ?_)
        · exact absurd c22 (by decide)
        · refine fo_iconst C dX7_smoothed_22 (nI 2) ki_2 23 rfl ?_
          refine fo_goto C dX7_smoothed_23 39 (by decide) ?_
          refine fo_put C dX7_smoothed_39 fK9 (by decide : fo_k 616 = 9) (by decide) 5 (by decide) fl_X7_25 rfl rfl rfl rfl (Nat.le_of_ble_eq_true rfl) 42 rfl ?_
          replace ht := ht.th (g := upd (I 616) 5 (nI 2))
          refine fo_aload_n C dX7_smoothed_42 0 rfl rfl 43 rfl ?_
          refine fo_get C dX7_smoothed_43 fK9 (by decide : fo_k 616 = 9) (by decide) 5 (by decide) fl_X7_25 (v := .int (nI 2)) (congrArg (fun x => some (Value.int x)) ((by rw [fo_rs, pk_us]))) 46 rfl ?_
          refine fo_nif_le C (by omega) dX7_smoothed_46 53 (by decide) 49 rfl (fun c23 => ?_) (fun c23 => ?_)
          · omega
          · refine fo_dconst0 C dX7_smoothed_49 50 rfl ?_
            refine fo_goto C dX7_smoothed_50 64 (by decide) ?_
            exact fin dX7_smoothed_64 (⟨(by rw [fg_sm_2 hk hz] <;> rfl), (by rw [fg_sm_2 hk hz] <;> exact rfl), rfl, rfl⟩)
      · exact absurd c15 (by decide)
    · obtain ⟨c, hc1, hc2, rfl⟩ := fo_19_at hz
      rcases Nat.eq_zero_or_pos (n k) with hc3 | hc3
      · skip
        refine fo_aload_n C dX7_smoothed_0 0 rfl rfl 1 rfl ?_
        refine fo_iload_n C dX7_smoothed_1 1 rfl rfl 2 rfl ?_
        refine fo_qsi C dX7_smoothed_2 (mX7_isSeries (x := (nI (k)))) ls_X7_120 rfl ⟨Nat.le_of_ble_eq_true rfl, Nat.le_of_ble_eq_true rfl⟩ ⟨Nat.le_of_ble_eq_true rfl, Nat.le_of_ble_eq_true rfl⟩ [.ref (Λ.2.2.1 616)] rfl (Nat.le_of_ble_eq_true rfl) 5 rfl (fo_er ?_)
        first | rw [hsx] | rw [hx]
        refine fo_bif_ne C dX7_smoothed_5 12 (by decide) 8 rfl (fun c30 => ?_) (fun c30 => ?_)
        · refine fo_iload_n C dX7_smoothed_12 2 rfl rfl 13 rfl ?_
          refine fo_iconst C dX7_smoothed_13 (nI 1) ki_1 14 rfl ?_
          refine fo_bipush C dX7_smoothed_14 (nI 9) kb_9 16 rfl ?_
          refine fo_qsi C dX7_smoothed_16 (mX7_in (x := (nI (c))) (y := (nI (1))) (z := (nI (9)))) ls_X7_88 rfl ⟨Nat.le_of_ble_eq_true rfl, Nat.le_of_ble_eq_true rfl⟩ ⟨Nat.le_of_ble_eq_true rfl, Nat.le_of_ble_eq_true rfl⟩ [.ref (Λ.2.2.1 616)] rfl (Nat.le_of_ble_eq_true rfl) 19 rfl (fo_er ?_)
          rw [fm_in_9, fo_19_nI hc1 hc2]
          refine fo_bif_ne C dX7_smoothed_19 26 (by decide) 22 rfl (fun c37 => ?_) (fun c37 => ?_)
          · refine fo_aload_n C dX7_smoothed_26 0 rfl rfl 27 rfl ?_
            refine fo_iload_n C dX7_smoothed_27 1 rfl rfl 28 rfl ?_
            refine fo_qvi C dX7_smoothed_28 (mX7_daysOf (k := k) (by omega) ht) lv_X7_92 (by decide : fo_k 616 = 9) rfl (by decide) rfl ⟨Nat.le_of_ble_eq_true rfl, Nat.le_of_ble_eq_true rfl⟩ ⟨Nat.le_of_ble_eq_true rfl, Nat.le_of_ble_eq_true rfl⟩ [.ref (Λ.2.2.1 616)] rfl (Nat.le_of_ble_eq_true rfl) 31 rfl (fo_er ?_)
            have q44 := ho5 k (by omega)
            refine fo_nif_ne C (by omega) dX7_smoothed_31 38 (by decide) 34 rfl (fun c45 => ?_) (fun c45 => ?_)
            · omega
            · refine fo_iconst C dX7_smoothed_34 (nI 3) ki_3 35 rfl ?_
              refine fo_goto C dX7_smoothed_35 39 (by decide) ?_
              refine fo_put C dX7_smoothed_39 fK9 (by decide : fo_k 616 = 9) (by decide) 5 (by decide) fl_X7_25 rfl rfl rfl rfl (Nat.le_of_ble_eq_true rfl) 42 rfl ?_
              replace ht := ht.th (g := upd (I 616) 5 (nI 3))
              refine fo_aload_n C dX7_smoothed_42 0 rfl rfl 43 rfl ?_
              refine fo_get C dX7_smoothed_43 fK9 (by decide : fo_k 616 = 9) (by decide) 5 (by decide) fl_X7_25 (v := .int (nI 3)) (congrArg (fun x => some (Value.int x)) ((by rw [fo_rs, pk_us]))) 46 rfl ?_
              refine fo_nif_le C (by omega) dX7_smoothed_46 53 (by decide) 49 rfl (fun c46 => ?_) (fun c46 => ?_)
              · omega
              · refine fo_dconst0 C dX7_smoothed_49 50 rfl ?_
                refine fo_goto C dX7_smoothed_50 64 (by decide) ?_
                exact fin dX7_smoothed_64 (⟨(by rw [fg_sm_3 hk hc1 hc2 hc3] <;> rfl), (by rw [fg_sm_3 hk hc1 hc2 hc3] <;> exact rfl), rfl, rfl⟩)
          · exact absurd c37 (by decide)
        · exact absurd c30 (by decide)
      · skip
        refine fo_aload_n C dX7_smoothed_0 0 rfl rfl 1 rfl ?_
        refine fo_iload_n C dX7_smoothed_1 1 rfl rfl 2 rfl ?_
        refine fo_qsi C dX7_smoothed_2 (mX7_isSeries (x := (nI (k)))) ls_X7_120 rfl ⟨Nat.le_of_ble_eq_true rfl, Nat.le_of_ble_eq_true rfl⟩ ⟨Nat.le_of_ble_eq_true rfl, Nat.le_of_ble_eq_true rfl⟩ [.ref (Λ.2.2.1 616)] rfl (Nat.le_of_ble_eq_true rfl) 5 rfl (fo_er ?_)
        first | rw [hsx] | rw [hx]
        refine fo_bif_ne C dX7_smoothed_5 12 (by decide) 8 rfl (fun c53 => ?_) (fun c53 => ?_)
        · refine fo_iload_n C dX7_smoothed_12 2 rfl rfl 13 rfl ?_
          refine fo_iconst C dX7_smoothed_13 (nI 1) ki_1 14 rfl ?_
          refine fo_bipush C dX7_smoothed_14 (nI 9) kb_9 16 rfl ?_
          refine fo_qsi C dX7_smoothed_16 (mX7_in (x := (nI (c))) (y := (nI (1))) (z := (nI (9)))) ls_X7_88 rfl ⟨Nat.le_of_ble_eq_true rfl, Nat.le_of_ble_eq_true rfl⟩ ⟨Nat.le_of_ble_eq_true rfl, Nat.le_of_ble_eq_true rfl⟩ [.ref (Λ.2.2.1 616)] rfl (Nat.le_of_ble_eq_true rfl) 19 rfl (fo_er ?_)
          rw [fm_in_9, fo_19_nI hc1 hc2]
          refine fo_bif_ne C dX7_smoothed_19 26 (by decide) 22 rfl (fun c60 => ?_) (fun c60 => ?_)
          · refine fo_aload_n C dX7_smoothed_26 0 rfl rfl 27 rfl ?_
            refine fo_iload_n C dX7_smoothed_27 1 rfl rfl 28 rfl ?_
            refine fo_qvi C dX7_smoothed_28 (mX7_daysOf (k := k) (by omega) ht) lv_X7_92 (by decide : fo_k 616 = 9) rfl (by decide) rfl ⟨Nat.le_of_ble_eq_true rfl, Nat.le_of_ble_eq_true rfl⟩ ⟨Nat.le_of_ble_eq_true rfl, Nat.le_of_ble_eq_true rfl⟩ [.ref (Λ.2.2.1 616)] rfl (Nat.le_of_ble_eq_true rfl) 31 rfl (fo_er ?_)
            have q67 := ho5 k (by omega)
            refine fo_nif_ne C (by omega) dX7_smoothed_31 38 (by decide) 34 rfl (fun c68 => ?_) (fun c68 => ?_)
            · refine fo_iconst C dX7_smoothed_38 (nI 0) ki_0 39 rfl ?_
              refine fo_put C dX7_smoothed_39 fK9 (by decide : fo_k 616 = 9) (by decide) 5 (by decide) fl_X7_25 rfl rfl rfl rfl (Nat.le_of_ble_eq_true rfl) 42 rfl ?_
              replace ht := ht.th (g := upd (I 616) 5 (nI 0))
              refine fo_aload_n C dX7_smoothed_42 0 rfl rfl 43 rfl ?_
              refine fo_get C dX7_smoothed_43 fK9 (by decide : fo_k 616 = 9) (by decide) 5 (by decide) fl_X7_25 (v := .int (nI 0)) (congrArg (fun x => some (Value.int x)) ((by rw [fo_rs, pk_us]))) 46 rfl ?_
              refine fo_nif_le C (by omega) dX7_smoothed_46 53 (by decide) 49 rfl (fun c69 => ?_) (fun c69 => ?_)
              · refine fo_aload_n C dX7_smoothed_53 0 rfl rfl 54 rfl ?_
                refine fo_iload_n C dX7_smoothed_54 1 rfl rfl 55 rfl ?_
                refine fo_aload_n C dX7_smoothed_55 0 rfl rfl 56 rfl ?_
                refine fo_iload_n C dX7_smoothed_56 1 rfl rfl 57 rfl ?_
                refine fo_qvi C dX7_smoothed_57 (mX7_daysOf (k := k) (by omega) ht) lv_X7_92 (by decide : fo_k 616 = 9) rfl (by decide) rfl ⟨Nat.le_of_ble_eq_true rfl, Nat.le_of_ble_eq_true rfl⟩ ⟨Nat.le_of_ble_eq_true rfl, Nat.le_of_ble_eq_true rfl⟩ [.int (nI k), .ref (Λ.2.2.1 616)] rfl (Nat.le_of_ble_eq_true rfl) 60 rfl (fo_er ?_)
                have q76 := ho5 k (by omega)
                refine fo_iload_n C dX7_smoothed_60 2 rfl rfl 61 rfl ?_
                refine fo_qvd C dX7_smoothed_61 (mX7_level (k := k) (e := n k) (p := c) hk (by omega) (Nat.le_refl _) (by omega) ht) lv_X7_168 (by decide : fo_k 616 = 9) rfl (by decide) rfl ⟨Nat.le_of_ble_eq_true rfl, Nat.le_of_ble_eq_true rfl⟩ ⟨Nat.le_of_ble_eq_true rfl, Nat.le_of_ble_eq_true rfl⟩ [] rfl (Nat.le_of_ble_eq_true rfl) 64 rfl (fo_er ?_)
                exact fin dX7_smoothed_64 (⟨(by rw [fg_sm_t hk hc1 hc2 hc3] <;> rfl), (by rw [fg_sm_t hk hc1 hc2 hc3] <;> exact rfl), rfl, rfl⟩)
              · omega
            · omega
          · exact absurd c60 (by decide)
        · exact absurd c53 (by decide)
set_option maxRecDepth 10000 in
set_option maxHeartbeats 4000000 in
theorem mX7_isOutlier {l : Launch} {Λ : fo_Lt} {I : fo_Mi} {D : fo_Md} {J : fo_Mj} {X : fo_Mi} {np lim : Nat} {kd par n : Nat → Nat} {v : Nat → Nat → Nat} {x z : Int32} (ht : fm_T I 617 np lim kd par n v) : fk_i l yX7_isOutlier cX7_isOutlier 3 .boolean 3 74 Λ [.ref (Λ.2.2.1 616), .int (x), .int (z)] I D J X ((fun r I' D' J' X' => r = (fg_nv n x z (fo_b false) (fun k d => fo_b (fp_off (v k) lim d))).2 ∧ I' = fo_r I 616 (upd (I 616) 5 (nI (fg_nv n x z (fo_b false) (fun k d => fo_b (fp_off (v k) lim d))).1)) ∧ D' = D ∧ J' = J)) := by
  obtain ⟨⟨ho1, ⟨ho2, ho3⟩, ho4, ho5, ho6⟩, hnp, hlim, hP, hS⟩ := id ht
  refine fo_si (by decide) [(0, .ref (Λ.2.2.1 616)), (1, .int (x)), (2, .int (z))] rfl (Nat.le_of_ble_eq_true rfl) (fun K C fin => ?_)
  rcases hx : fo_inr x 4 with _ | _
  · skip
    refine fo_aload_n C dX7_isOutlier_0 0 rfl rfl 1 rfl ?_
    refine fo_aload_n C dX7_isOutlier_1 0 rfl rfl 2 rfl ?_
    refine fo_iload_n C dX7_isOutlier_2 1 rfl rfl 3 rfl ?_
    refine fo_iload_n C dX7_isOutlier_3 2 rfl rfl 4 rfl ?_
    refine fo_qvi C dX7_isOutlier_4 (mX7_noValue_g (x := x) (z := z) ht) lv_X7_139 (by decide : fo_k 616 = 9) rfl (by decide) rfl ⟨Nat.le_of_ble_eq_true rfl, Nat.le_of_ble_eq_true rfl⟩ ⟨Nat.le_of_ble_eq_true rfl, Nat.le_of_ble_eq_true rfl⟩ [.ref (Λ.2.2.1 616)] rfl (Nat.le_of_ble_eq_true rfl) 7 rfl (fo_er ?_)
    rw [fg_nv_1 hx]
    refine fo_put C dX7_isOutlier_7 fK9 (by decide : fo_k 616 = 9) (by decide) 5 (by decide) fl_X7_25 rfl rfl rfl rfl (Nat.le_of_ble_eq_true rfl) 10 rfl ?_
    replace ht := ht.th (g := upd (I 616) 5 (nI 1))
    refine fo_aload_n C dX7_isOutlier_10 0 rfl rfl 11 rfl ?_
    refine fo_get C dX7_isOutlier_11 fK9 (by decide : fo_k 616 = 9) (by decide) 5 (by decide) fl_X7_25 (v := .int (nI 1)) (congrArg (fun x => some (Value.int x)) ((by rw [fo_rs, pk_us]))) 14 rfl ?_
    refine fo_nif_ne C (by omega) dX7_isOutlier_14 30 (by decide) 17 rfl (fun c7 => ?_) (fun c7 => ?_)
    · refine fo_iconst C dX7_isOutlier_30 (nI 0) ki_0 31 rfl ?_
      exact fin dX7_isOutlier_31 (by first | rfl | exact fo_nb _) (⟨(by rw [fg_nv_1 hx] <;> rfl), (by rw [fg_nv_1 hx] <;> exact rfl), rfl, rfl⟩)
    · omega
  · obtain ⟨k, hk, hk31, rfl⟩ := fo_inr_at hx
    have hnk := ho5 k hk
    have hsx : fo_inr (nI k) 4 = true := fo_inr_nI hk (by omega)
    rcases hz : fo_inr z (n k) with _ | _
    · skip
      refine fo_aload_n C dX7_isOutlier_0 0 rfl rfl 1 rfl ?_
      refine fo_aload_n C dX7_isOutlier_1 0 rfl rfl 2 rfl ?_
      refine fo_iload_n C dX7_isOutlier_2 1 rfl rfl 3 rfl ?_
      refine fo_iload_n C dX7_isOutlier_3 2 rfl rfl 4 rfl ?_
      refine fo_qvi C dX7_isOutlier_4 (mX7_noValue_g (x := (nI (k))) (z := z) ht) lv_X7_139 (by decide : fo_k 616 = 9) rfl (by decide) rfl ⟨Nat.le_of_ble_eq_true rfl, Nat.le_of_ble_eq_true rfl⟩ ⟨Nat.le_of_ble_eq_true rfl, Nat.le_of_ble_eq_true rfl⟩ [.ref (Λ.2.2.1 616)] rfl (Nat.le_of_ble_eq_true rfl) 7 rfl (fo_er ?_)
      rw [fg_nv_2 hk hz]
      refine fo_put C dX7_isOutlier_7 fK9 (by decide : fo_k 616 = 9) (by decide) 5 (by decide) fl_X7_25 rfl rfl rfl rfl (Nat.le_of_ble_eq_true rfl) 10 rfl ?_
      replace ht := ht.th (g := upd (I 616) 5 (nI 2))
      refine fo_aload_n C dX7_isOutlier_10 0 rfl rfl 11 rfl ?_
      refine fo_get C dX7_isOutlier_11 fK9 (by decide : fo_k 616 = 9) (by decide) 5 (by decide) fl_X7_25 (v := .int (nI 2)) (congrArg (fun x => some (Value.int x)) ((by rw [fo_rs, pk_us]))) 14 rfl ?_
      refine fo_nif_ne C (by omega) dX7_isOutlier_14 30 (by decide) 17 rfl (fun c14 => ?_) (fun c14 => ?_)
      · refine fo_iconst C dX7_isOutlier_30 (nI 0) ki_0 31 rfl ?_
        exact fin dX7_isOutlier_31 (by first | rfl | exact fo_nb _) (⟨(by rw [fg_nv_2 hk hz] <;> rfl), (by rw [fg_nv_2 hk hz] <;> exact rfl), rfl, rfl⟩)
      · omega
    · obtain ⟨d, hd, hd31, rfl⟩ := fo_inr_at hz
      refine fo_aload_n C dX7_isOutlier_0 0 rfl rfl 1 rfl ?_
      refine fo_aload_n C dX7_isOutlier_1 0 rfl rfl 2 rfl ?_
      refine fo_iload_n C dX7_isOutlier_2 1 rfl rfl 3 rfl ?_
      refine fo_iload_n C dX7_isOutlier_3 2 rfl rfl 4 rfl ?_
      refine fo_qvi C dX7_isOutlier_4 (mX7_noValue_g (x := (nI (k))) (z := (nI (d))) ht) lv_X7_139 (by decide : fo_k 616 = 9) rfl (by decide) rfl ⟨Nat.le_of_ble_eq_true rfl, Nat.le_of_ble_eq_true rfl⟩ ⟨Nat.le_of_ble_eq_true rfl, Nat.le_of_ble_eq_true rfl⟩ [.ref (Λ.2.2.1 616)] rfl (Nat.le_of_ble_eq_true rfl) 7 rfl (fo_er ?_)
      rw [fg_nv_t hk hd hnk]
      refine fo_put C dX7_isOutlier_7 fK9 (by decide : fo_k 616 = 9) (by decide) 5 (by decide) fl_X7_25 rfl rfl rfl rfl (Nat.le_of_ble_eq_true rfl) 10 rfl ?_
      replace ht := ht.th (g := upd (I 616) 5 (nI 0))
      refine fo_aload_n C dX7_isOutlier_10 0 rfl rfl 11 rfl ?_
      refine fo_get C dX7_isOutlier_11 fK9 (by decide : fo_k 616 = 9) (by decide) 5 (by decide) fl_X7_25 (v := .int (nI 0)) (congrArg (fun x => some (Value.int x)) ((by rw [fo_rs, pk_us]))) 14 rfl ?_
      refine fo_nif_ne C (by omega) dX7_isOutlier_14 30 (by decide) 17 rfl (fun c21 => ?_) (fun c21 => ?_)
      · omega
      · refine fo_aload_n C dX7_isOutlier_17 0 rfl rfl 18 rfl ?_
        refine fo_iload_n C dX7_isOutlier_18 1 rfl rfl 19 rfl ?_
        refine fo_iload_n C dX7_isOutlier_19 2 rfl rfl 20 rfl ?_
        refine fo_qvi C dX7_isOutlier_20 (mX7_isOff (k := k) (d := d) hk hd ht) lv_X7_174 (by decide : fo_k 616 = 9) rfl (by decide) rfl ⟨Nat.le_of_ble_eq_true rfl, Nat.le_of_ble_eq_true rfl⟩ ⟨Nat.le_of_ble_eq_true rfl, Nat.le_of_ble_eq_true rfl⟩ [] rfl (Nat.le_of_ble_eq_true rfl) 23 rfl (fo_es (fun X26 => ?_))
        refine fo_bif_eq C dX7_isOutlier_23 30 (by decide) 26 rfl (fun c28 => ?_) (fun c28 => ?_)
        · refine fo_iconst C dX7_isOutlier_30 (nI 0) ki_0 31 rfl ?_
          exact fin dX7_isOutlier_31 (by first | rfl | exact fo_nb _) (⟨(by rw [fg_nv_t hk hd hnk] <;> first | rfl | exact fo_b0 c28), (by rw [fg_nv_t hk hd hnk] <;> exact rfl), rfl, rfl⟩)
        · refine fo_iconst C dX7_isOutlier_26 (nI 1) ki_1 27 rfl ?_
          refine fo_goto C dX7_isOutlier_27 31 (by decide) ?_
          exact fin dX7_isOutlier_31 (by first | rfl | exact fo_nb _) (⟨(by rw [fg_nv_t hk hd hnk] <;> first | rfl | exact fo_b1 c28), (by rw [fg_nv_t hk hd hnk] <;> exact rfl), rfl, rfl⟩)
set_option maxRecDepth 10000 in
set_option maxHeartbeats 4000000 in
theorem mX7_outliers {l : Launch} {Λ : fo_Lt} {I : fo_Mi} {D : fo_Md} {J : fo_Mj} {X : fo_Mi} {np lim : Nat} {kd par n : Nat → Nat} {v : Nat → Nat → Nat} {x : Int32} (ht : fm_T I 617 np lim kd par n v) : fk_i l yX7_outliers cX7_outliers 2 .int 4 97 Λ [.ref (Λ.2.2.1 616), .int (x)] I D J X ((fun r I' D' J' X' => r = (fg_se x (nI 0) (fun k => (0, nI (fp_cnt (fp_off (v k) lim) (n k))))).2 ∧ I' = fo_r I 616 (upd (I 616) 5 (nI (fg_se x (nI 0) (fun k => (0, nI (fp_cnt (fp_off (v k) lim) (n k))))).1)) ∧ D' = D ∧ J' = J)) := by
  obtain ⟨⟨ho1, ⟨ho2, ho3⟩, ho4, ho5, ho6⟩, hnp, hlim, hP, hS⟩ := id ht
  refine fo_si (by decide) [(0, .ref (Λ.2.2.1 616)), (1, .int (x))] rfl (Nat.le_of_ble_eq_true rfl) (fun K C fin => ?_)
  rcases hx : fo_inr x 4 with _ | _
  · skip
    refine fo_aload_n C dX7_outliers_0 0 rfl rfl 1 rfl ?_
    refine fo_iload_n C dX7_outliers_1 1 rfl rfl 2 rfl ?_
    refine fo_qsi C dX7_outliers_2 (mX7_isSeries (x := x)) ls_X7_120 rfl ⟨Nat.le_of_ble_eq_true rfl, Nat.le_of_ble_eq_true rfl⟩ ⟨Nat.le_of_ble_eq_true rfl, Nat.le_of_ble_eq_true rfl⟩ [.ref (Λ.2.2.1 616)] rfl (Nat.le_of_ble_eq_true rfl) 5 rfl (fo_er ?_)
    first | rw [hsx] | rw [hx]
    refine fo_qvi C dX7_outliers_5 mX7_checked_f lv_X7_135 (by decide : fo_k 616 = 9) rfl (by decide) rfl ⟨Nat.le_of_ble_eq_true rfl, Nat.le_of_ble_eq_true rfl⟩ ⟨Nat.le_of_ble_eq_true rfl, Nat.le_of_ble_eq_true rfl⟩ [] rfl (Nat.le_of_ble_eq_true rfl) 8 rfl (fo_er ?_)
    replace ht := ht.th (g := upd (I 616) 5 (nI 1))
    refine fo_nif_le C (by omega) dX7_outliers_8 15 (by decide) 11 rfl (fun c13 => ?_) (fun c13 => ?_)
    · omega
    · refine fo_iconst C dX7_outliers_11 (nI 0) ki_0 12 rfl ?_
      refine fo_goto C dX7_outliers_12 20 (by decide) ?_
      exact fin dX7_outliers_20 rfl (⟨(by rw [fg_se_f hx] <;> rfl), (by rw [fg_se_f hx] <;> exact rfl), rfl, rfl⟩)
  · obtain ⟨k, hk, hk31, rfl⟩ := fo_inr_at hx
    have hnk := ho5 k hk
    have hsx : fo_inr (nI k) 4 = true := fo_inr_nI hk (by omega)
    refine fo_aload_n C dX7_outliers_0 0 rfl rfl 1 rfl ?_
    refine fo_iload_n C dX7_outliers_1 1 rfl rfl 2 rfl ?_
    refine fo_qsi C dX7_outliers_2 (mX7_isSeries (x := (nI (k)))) ls_X7_120 rfl ⟨Nat.le_of_ble_eq_true rfl, Nat.le_of_ble_eq_true rfl⟩ ⟨Nat.le_of_ble_eq_true rfl, Nat.le_of_ble_eq_true rfl⟩ [.ref (Λ.2.2.1 616)] rfl (Nat.le_of_ble_eq_true rfl) 5 rfl (fo_er ?_)
    first | rw [hsx] | rw [hx]
    refine fo_qvi C dX7_outliers_5 mX7_checked_t lv_X7_135 (by decide : fo_k 616 = 9) rfl (by decide) rfl ⟨Nat.le_of_ble_eq_true rfl, Nat.le_of_ble_eq_true rfl⟩ ⟨Nat.le_of_ble_eq_true rfl, Nat.le_of_ble_eq_true rfl⟩ [] rfl (Nat.le_of_ble_eq_true rfl) 8 rfl (fo_er ?_)
    replace ht := ht.th (g := upd (I 616) 5 (nI 0))
    refine fo_nif_le C (by omega) dX7_outliers_8 15 (by decide) 11 rfl (fun c26 => ?_) (fun c26 => ?_)
    · refine fo_aload_n C dX7_outliers_15 0 rfl rfl 16 rfl ?_
      refine fo_iload_n C dX7_outliers_16 1 rfl rfl 17 rfl ?_
      refine fo_qvi C dX7_outliers_17 (mX7_offOf (k := k) hk ht) lv_X7_178 (by decide : fo_k 616 = 9) rfl (by decide) rfl ⟨Nat.le_of_ble_eq_true rfl, Nat.le_of_ble_eq_true rfl⟩ ⟨Nat.le_of_ble_eq_true rfl, Nat.le_of_ble_eq_true rfl⟩ [] rfl (Nat.le_of_ble_eq_true rfl) 20 rfl (fo_es (fun X31 => ?_))
      exact fin dX7_outliers_20 rfl (⟨(by rw [fg_se_t hk] <;> rfl), (by rw [fg_se_t hk] <;> exact rfl), rfl, rfl⟩)
    · omega
set_option maxRecDepth 10000 in
set_option maxHeartbeats 4000000 in
theorem mX7_longestRise {l : Launch} {Λ : fo_Lt} {I : fo_Mi} {D : fo_Md} {J : fo_Mj} {X : fo_Mi} {np lim : Nat} {kd par n : Nat → Nat} {v : Nat → Nat → Nat} {x : Int32} (ht : fm_T I 617 np lim kd par n v) : fk_i l yX7_longestRise cX7_longestRise 5 .int 2 42 Λ [.ref (Λ.2.2.1 616), .int (x)] I D J X ((fun r I' D' J' X' => r = (fg_se x (nI 0) (fun k => (0, nI (fp_best (v k) (n k))))).2 ∧ I' = fo_r I 616 (upd (I 616) 5 (nI (fg_se x (nI 0) (fun k => (0, nI (fp_best (v k) (n k))))).1)) ∧ D' = D ∧ J' = J)) := by
  obtain ⟨⟨ho1, ⟨ho2, ho3⟩, ho4, ho5, ho6⟩, hnp, hlim, hP, hS⟩ := id ht
  refine fo_si (by decide) [(0, .ref (Λ.2.2.1 616)), (1, .int (x))] rfl (Nat.le_of_ble_eq_true rfl) (fun K C fin => ?_)
  rcases hx : fo_inr x 4 with _ | _
  · skip
    refine fo_aload_n C dX7_longestRise_0 0 rfl rfl 1 rfl ?_
    refine fo_iload_n C dX7_longestRise_1 1 rfl rfl 2 rfl ?_
    refine fo_qsi C dX7_longestRise_2 (mX7_isSeries (x := x)) ls_X7_120 rfl ⟨Nat.le_of_ble_eq_true rfl, Nat.le_of_ble_eq_true rfl⟩ ⟨Nat.le_of_ble_eq_true rfl, Nat.le_of_ble_eq_true rfl⟩ [.ref (Λ.2.2.1 616)] rfl (Nat.le_of_ble_eq_true rfl) 5 rfl (fo_er ?_)
    first | rw [hsx] | rw [hx]
    refine fo_qvi C dX7_longestRise_5 mX7_checked_f lv_X7_135 (by decide : fo_k 616 = 9) rfl (by decide) rfl ⟨Nat.le_of_ble_eq_true rfl, Nat.le_of_ble_eq_true rfl⟩ ⟨Nat.le_of_ble_eq_true rfl, Nat.le_of_ble_eq_true rfl⟩ [] rfl (Nat.le_of_ble_eq_true rfl) 8 rfl (fo_er ?_)
    replace ht := ht.th (g := upd (I 616) 5 (nI 1))
    refine fo_nif_le C (by omega) dX7_longestRise_8 13 (by decide) 11 rfl (fun c13 => ?_) (fun c13 => ?_)
    · omega
    · refine fo_iconst C dX7_longestRise_11 (nI 0) ki_0 12 rfl ?_
      exact fin dX7_longestRise_12 rfl (⟨(by rw [fg_se_f hx] <;> rfl), (by rw [fg_se_f hx] <;> exact rfl), rfl, rfl⟩)
  · obtain ⟨k, hk, hk31, rfl⟩ := fo_inr_at hx
    have hnk := ho5 k hk
    have hsx : fo_inr (nI k) 4 = true := fo_inr_nI hk (by omega)
    refine fo_aload_n C dX7_longestRise_0 0 rfl rfl 1 rfl ?_
    refine fo_iload_n C dX7_longestRise_1 1 rfl rfl 2 rfl ?_
    refine fo_qsi C dX7_longestRise_2 (mX7_isSeries (x := (nI (k)))) ls_X7_120 rfl ⟨Nat.le_of_ble_eq_true rfl, Nat.le_of_ble_eq_true rfl⟩ ⟨Nat.le_of_ble_eq_true rfl, Nat.le_of_ble_eq_true rfl⟩ [.ref (Λ.2.2.1 616)] rfl (Nat.le_of_ble_eq_true rfl) 5 rfl (fo_er ?_)
    first | rw [hsx] | rw [hx]
    refine fo_qvi C dX7_longestRise_5 mX7_checked_t lv_X7_135 (by decide : fo_k 616 = 9) rfl (by decide) rfl ⟨Nat.le_of_ble_eq_true rfl, Nat.le_of_ble_eq_true rfl⟩ ⟨Nat.le_of_ble_eq_true rfl, Nat.le_of_ble_eq_true rfl⟩ [] rfl (Nat.le_of_ble_eq_true rfl) 8 rfl (fo_er ?_)
    replace ht := ht.th (g := upd (I 616) 5 (nI 0))
    refine fo_nif_le C (by omega) dX7_longestRise_8 13 (by decide) 11 rfl (fun c26 => ?_) (fun c26 => ?_)
    · refine fo_iconst C dX7_longestRise_13 (nI 0) ki_0 14 rfl ?_
      refine fo_istore_n C dX7_longestRise_14 rfl [(2, .int (nI 0)), (0, .ref (Λ.2.2.1 616)), (1, .int (nI k))] rfl (by decide) 15 rfl ?_
      refine fo_iconst C dX7_longestRise_15 (nI 0) ki_0 16 rfl ?_
      refine fo_istore_n C dX7_longestRise_16 rfl [(3, .int (nI 0)), (2, .int (nI 0)), (0, .ref (Λ.2.2.1 616)), (1, .int (nI k))] rfl (by decide) 17 rfl ?_
      refine fo_iconst C dX7_longestRise_17 (nI 0) ki_0 18 rfl ?_
      refine fo_istore C dX7_longestRise_18 [(4, .int (nI 0)), (3, .int (nI 0)), (2, .int (nI 0)), (0, .ref (Λ.2.2.1 616)), (1, .int (nI k))] rfl (by decide) 20 rfl ?_
      have hL20 : ∀ (m20 : Nat) (j : Nat), n k + 1 - j < m20 → j ≤ n k → fo_G l Λ { frames := 2, cells := 0, slots := 0, locals := 42 } K 0 0 20 [(4, .int (nI j)), (3, .int (nI (fp_run (v k) j))), (2, .int (nI (fp_best (v k) j))), (0, .ref (Λ.2.2.1 616)), (1, .int (nI k))] [] (fo_r I 616 (upd (I 616) 5 (nI 0))) D J X := by
        intro m20
        induction m20 with
        | zero => intro j hm; exact absurd hm (Nat.not_lt_zero _)
        | succ m20 ih20 =>
          intro j hm20 hj
          have qa := fp_run_le (v k) j
          have qb := fp_best_le (v k) j
          refine fo_iload C dX7_longestRise_20 0 rfl 22 rfl ?_
          refine fo_aload_n C dX7_longestRise_22 3 rfl rfl 23 rfl ?_
          refine fo_iload_n C dX7_longestRise_23 4 rfl rfl 24 rfl ?_
          refine fo_qvi C dX7_longestRise_24 (mX7_daysOf (k := k) (by omega) ht) lv_X7_92 (by decide : fo_k 616 = 9) rfl (by decide) rfl ⟨Nat.le_of_ble_eq_true rfl, Nat.le_of_ble_eq_true rfl⟩ ⟨Nat.le_of_ble_eq_true rfl, Nat.le_of_ble_eq_true rfl⟩ [.int (nI j)] rfl (Nat.le_of_ble_eq_true rfl) 27 rfl (fo_er ?_)
          have q33 := ho5 k (by omega)
          refine fo_ncmp_ge C (by omega) (by omega) dX7_longestRise_27 79 (by decide) 30 rfl (fun c34 => ?_) (fun c34 => ?_)
          · refine fo_iload_n C dX7_longestRise_79 2 rfl rfl 80 rfl ?_
            exact fin dX7_longestRise_80 rfl (⟨(by rw [fg_se_t hk] <;> first | rfl | exact (show nI (fp_best (v k) j) = nI (fp_best (v k) (n k)) by rw [show j = n k by omega])), (by rw [fg_se_t hk] <;> exact rfl), rfl, rfl⟩)
          · refine fo_iload C dX7_longestRise_30 0 rfl 32 rfl ?_
            refine fo_nif_le C (by omega) dX7_longestRise_32 60 (by decide) 35 rfl (fun c35 => ?_) (fun c35 => ?_)
            · refine fo_iconst C dX7_longestRise_60 (nI 1) ki_1 61 rfl ?_
              refine fo_ti (b := nI (fp_run (v k) (j + 1))) (congrArg nI (by rw [fp_run]; first | rw [if_pos (by omega)] | rw [if_neg (by omega)])) ?_
              have qc := fp_run_le (v k) (j + 1)
              refine fo_istore_n C dX7_longestRise_61 rfl [(3, .int (nI (fp_run (v k) (j + 1)))), (4, .int (nI j)), (2, .int (nI (fp_best (v k) j))), (0, .ref (Λ.2.2.1 616)), (1, .int (nI k))] rfl (by decide) 62 rfl ?_
              refine fo_iload_n C dX7_longestRise_62 0 rfl rfl 63 rfl ?_
              refine fo_iload_n C dX7_longestRise_63 2 rfl rfl 64 rfl ?_
              refine fo_ncmp_le C (by omega) (by omega) dX7_longestRise_64 71 (by decide) 67 rfl (fun c36 => ?_) (fun c36 => ?_)
              · refine fo_iload_n C dX7_longestRise_71 2 rfl rfl 72 rfl ?_
                refine fo_ti (b := nI (fp_best (v k) (j + 1))) (congrArg nI (by rw [fp_best]; omega)) ?_
                refine fo_istore_n C dX7_longestRise_72 rfl [(2, .int (nI (fp_best (v k) (j + 1)))), (3, .int (nI (fp_run (v k) (j + 1)))), (4, .int (nI j)), (0, .ref (Λ.2.2.1 616)), (1, .int (nI k))] rfl (by decide) 73 rfl ?_
                refine fo_iinc C dX7_longestRise_73 2 rfl (nI (j + 1)) (nI_inc1 _) [(4, .int (nI (j + 1))), (2, .int (nI (fp_best (v k) (j + 1)))), (3, .int (nI (fp_run (v k) (j + 1)))), (0, .ref (Λ.2.2.1 616)), (1, .int (nI k))] rfl (by decide) 76 rfl ?_
                refine fo_goto C dX7_longestRise_76 20 (by decide) ?_
                refine fo_sub C [0, 2, 1, 3, 4] (lv' := [(4, .int (nI (j + 1))), (3, .int (nI (fp_run (v k) (j + 1)))), (2, .int (nI (fp_best (v k) (j + 1)))), (0, .ref (Λ.2.2.1 616)), (1, .int (nI k))]) rfl ?_
                exact ih20 (j + 1) (by omega) (by omega)
              · refine fo_iload_n C dX7_longestRise_67 0 rfl rfl 68 rfl ?_
                refine fo_goto C dX7_longestRise_68 72 (by decide) ?_
                refine fo_ti (b := nI (fp_best (v k) (j + 1))) (congrArg nI (by rw [fp_best]; omega)) ?_
                refine fo_istore_n C dX7_longestRise_72 rfl [(2, .int (nI (fp_best (v k) (j + 1)))), (3, .int (nI (fp_run (v k) (j + 1)))), (4, .int (nI j)), (0, .ref (Λ.2.2.1 616)), (1, .int (nI k))] rfl (by decide) 73 rfl ?_
                refine fo_iinc C dX7_longestRise_73 2 rfl (nI (j + 1)) (nI_inc1 _) [(4, .int (nI (j + 1))), (2, .int (nI (fp_best (v k) (j + 1)))), (3, .int (nI (fp_run (v k) (j + 1)))), (0, .ref (Λ.2.2.1 616)), (1, .int (nI k))] rfl (by decide) 76 rfl ?_
                refine fo_goto C dX7_longestRise_76 20 (by decide) ?_
                refine fo_sub C [0, 2, 1, 3, 4] (lv' := [(4, .int (nI (j + 1))), (3, .int (nI (fp_run (v k) (j + 1)))), (2, .int (nI (fp_best (v k) (j + 1)))), (0, .ref (Λ.2.2.1 616)), (1, .int (nI k))]) rfl ?_
                exact ih20 (j + 1) (by omega) (by omega)
            · refine fo_aload_n C dX7_longestRise_35 3 rfl rfl 36 rfl ?_
              refine fo_iload_n C dX7_longestRise_36 4 rfl rfl 37 rfl ?_
              refine fo_iload C dX7_longestRise_37 0 rfl 39 rfl ?_
              refine fo_qvi C dX7_longestRise_39 (mX7_v (k := k) (d := j) (by omega) (by omega) ht) lv_X7_142 (by decide : fo_k 616 = 9) rfl (by decide) rfl ⟨Nat.le_of_ble_eq_true rfl, Nat.le_of_ble_eq_true rfl⟩ ⟨Nat.le_of_ble_eq_true rfl, Nat.le_of_ble_eq_true rfl⟩ [] rfl (Nat.le_of_ble_eq_true rfl) 42 rfl (fo_er ?_)
              have q43 := ho6 k (by omega) j (by omega)
              refine fo_aload_n C dX7_longestRise_42 3 rfl rfl 43 rfl ?_
              refine fo_iload_n C dX7_longestRise_43 4 rfl rfl 44 rfl ?_
              refine fo_iload C dX7_longestRise_44 0 rfl 46 rfl ?_
              refine fo_iconst C dX7_longestRise_46 (nI 1) ki_1 47 rfl ?_
              refine fo_isub C dX7_longestRise_47 (nI (j - 1)) (pk_sub (by omega)) 48 rfl ?_
              refine fo_qvi C dX7_longestRise_48 (mX7_v (k := k) (d := j - 1) (by omega) (by omega) ht) lv_X7_142 (by decide : fo_k 616 = 9) rfl (by decide) rfl ⟨Nat.le_of_ble_eq_true rfl, Nat.le_of_ble_eq_true rfl⟩ ⟨Nat.le_of_ble_eq_true rfl, Nat.le_of_ble_eq_true rfl⟩ [.int (nI (v k j))] rfl (Nat.le_of_ble_eq_true rfl) 51 rfl (fo_er ?_)
              have q50 := ho6 k (by omega) (j - 1) (by omega)
              refine fo_ncmp_le C (by omega) (by omega) dX7_longestRise_51 60 (by decide) 54 rfl (fun c51 => ?_) (fun c51 => ?_)
              · refine fo_iconst C dX7_longestRise_60 (nI 1) ki_1 61 rfl ?_
                refine fo_ti (b := nI (fp_run (v k) (j + 1))) (congrArg nI (by rw [fp_run]; first | rw [if_pos (by omega)] | rw [if_neg (by omega)])) ?_
                have qc := fp_run_le (v k) (j + 1)
                refine fo_istore_n C dX7_longestRise_61 rfl [(3, .int (nI (fp_run (v k) (j + 1)))), (4, .int (nI j)), (2, .int (nI (fp_best (v k) j))), (0, .ref (Λ.2.2.1 616)), (1, .int (nI k))] rfl (by decide) 62 rfl ?_
                refine fo_iload_n C dX7_longestRise_62 0 rfl rfl 63 rfl ?_
                refine fo_iload_n C dX7_longestRise_63 2 rfl rfl 64 rfl ?_
                refine fo_ncmp_le C (by omega) (by omega) dX7_longestRise_64 71 (by decide) 67 rfl (fun c52 => ?_) (fun c52 => ?_)
                · refine fo_iload_n C dX7_longestRise_71 2 rfl rfl 72 rfl ?_
                  refine fo_ti (b := nI (fp_best (v k) (j + 1))) (congrArg nI (by rw [fp_best]; omega)) ?_
                  refine fo_istore_n C dX7_longestRise_72 rfl [(2, .int (nI (fp_best (v k) (j + 1)))), (3, .int (nI (fp_run (v k) (j + 1)))), (4, .int (nI j)), (0, .ref (Λ.2.2.1 616)), (1, .int (nI k))] rfl (by decide) 73 rfl ?_
                  refine fo_iinc C dX7_longestRise_73 2 rfl (nI (j + 1)) (nI_inc1 _) [(4, .int (nI (j + 1))), (2, .int (nI (fp_best (v k) (j + 1)))), (3, .int (nI (fp_run (v k) (j + 1)))), (0, .ref (Λ.2.2.1 616)), (1, .int (nI k))] rfl (by decide) 76 rfl ?_
                  refine fo_goto C dX7_longestRise_76 20 (by decide) ?_
                  refine fo_sub C [0, 2, 1, 3, 4] (lv' := [(4, .int (nI (j + 1))), (3, .int (nI (fp_run (v k) (j + 1)))), (2, .int (nI (fp_best (v k) (j + 1)))), (0, .ref (Λ.2.2.1 616)), (1, .int (nI k))]) rfl ?_
                  exact ih20 (j + 1) (by omega) (by omega)
                · refine fo_iload_n C dX7_longestRise_67 0 rfl rfl 68 rfl ?_
                  refine fo_goto C dX7_longestRise_68 72 (by decide) ?_
                  refine fo_ti (b := nI (fp_best (v k) (j + 1))) (congrArg nI (by rw [fp_best]; omega)) ?_
                  refine fo_istore_n C dX7_longestRise_72 rfl [(2, .int (nI (fp_best (v k) (j + 1)))), (3, .int (nI (fp_run (v k) (j + 1)))), (4, .int (nI j)), (0, .ref (Λ.2.2.1 616)), (1, .int (nI k))] rfl (by decide) 73 rfl ?_
                  refine fo_iinc C dX7_longestRise_73 2 rfl (nI (j + 1)) (nI_inc1 _) [(4, .int (nI (j + 1))), (2, .int (nI (fp_best (v k) (j + 1)))), (3, .int (nI (fp_run (v k) (j + 1)))), (0, .ref (Λ.2.2.1 616)), (1, .int (nI k))] rfl (by decide) 76 rfl ?_
                  refine fo_goto C dX7_longestRise_76 20 (by decide) ?_
                  refine fo_sub C [0, 2, 1, 3, 4] (lv' := [(4, .int (nI (j + 1))), (3, .int (nI (fp_run (v k) (j + 1)))), (2, .int (nI (fp_best (v k) (j + 1)))), (0, .ref (Λ.2.2.1 616)), (1, .int (nI k))]) rfl ?_
                  exact ih20 (j + 1) (by omega) (by omega)
              · refine fo_iload_n C dX7_longestRise_54 1 rfl rfl 55 rfl ?_
                refine fo_iconst C dX7_longestRise_55 (nI 1) ki_1 56 rfl ?_
                refine fo_iadd C dX7_longestRise_56 (nI ((fp_run (v k) j) + 1)) (nI_add _ _) 57 rfl ?_
                refine fo_goto C dX7_longestRise_57 61 (by decide) ?_
                refine fo_ti (b := nI (fp_run (v k) (j + 1))) (congrArg nI (by rw [fp_run]; first | rw [if_pos (by omega)] | rw [if_neg (by omega)])) ?_
                have qc := fp_run_le (v k) (j + 1)
                refine fo_istore_n C dX7_longestRise_61 rfl [(3, .int (nI (fp_run (v k) (j + 1)))), (4, .int (nI j)), (2, .int (nI (fp_best (v k) j))), (0, .ref (Λ.2.2.1 616)), (1, .int (nI k))] rfl (by decide) 62 rfl ?_
                refine fo_iload_n C dX7_longestRise_62 0 rfl rfl 63 rfl ?_
                refine fo_iload_n C dX7_longestRise_63 2 rfl rfl 64 rfl ?_
                refine fo_ncmp_le C (by omega) (by omega) dX7_longestRise_64 71 (by decide) 67 rfl (fun c53 => ?_) (fun c53 => ?_)
                · refine fo_iload_n C dX7_longestRise_71 2 rfl rfl 72 rfl ?_
                  refine fo_ti (b := nI (fp_best (v k) (j + 1))) (congrArg nI (by rw [fp_best]; omega)) ?_
                  refine fo_istore_n C dX7_longestRise_72 rfl [(2, .int (nI (fp_best (v k) (j + 1)))), (3, .int (nI (fp_run (v k) (j + 1)))), (4, .int (nI j)), (0, .ref (Λ.2.2.1 616)), (1, .int (nI k))] rfl (by decide) 73 rfl ?_
                  refine fo_iinc C dX7_longestRise_73 2 rfl (nI (j + 1)) (nI_inc1 _) [(4, .int (nI (j + 1))), (2, .int (nI (fp_best (v k) (j + 1)))), (3, .int (nI (fp_run (v k) (j + 1)))), (0, .ref (Λ.2.2.1 616)), (1, .int (nI k))] rfl (by decide) 76 rfl ?_
                  refine fo_goto C dX7_longestRise_76 20 (by decide) ?_
                  refine fo_sub C [0, 2, 1, 3, 4] (lv' := [(4, .int (nI (j + 1))), (3, .int (nI (fp_run (v k) (j + 1)))), (2, .int (nI (fp_best (v k) (j + 1)))), (0, .ref (Λ.2.2.1 616)), (1, .int (nI k))]) rfl ?_
                  exact ih20 (j + 1) (by omega) (by omega)
                · refine fo_iload_n C dX7_longestRise_67 0 rfl rfl 68 rfl ?_
                  refine fo_goto C dX7_longestRise_68 72 (by decide) ?_
                  refine fo_ti (b := nI (fp_best (v k) (j + 1))) (congrArg nI (by rw [fp_best]; omega)) ?_
                  refine fo_istore_n C dX7_longestRise_72 rfl [(2, .int (nI (fp_best (v k) (j + 1)))), (3, .int (nI (fp_run (v k) (j + 1)))), (4, .int (nI j)), (0, .ref (Λ.2.2.1 616)), (1, .int (nI k))] rfl (by decide) 73 rfl ?_
                  refine fo_iinc C dX7_longestRise_73 2 rfl (nI (j + 1)) (nI_inc1 _) [(4, .int (nI (j + 1))), (2, .int (nI (fp_best (v k) (j + 1)))), (3, .int (nI (fp_run (v k) (j + 1)))), (0, .ref (Λ.2.2.1 616)), (1, .int (nI k))] rfl (by decide) 76 rfl ?_
                  refine fo_goto C dX7_longestRise_76 20 (by decide) ?_
                  refine fo_sub C [0, 2, 1, 3, 4] (lv' := [(4, .int (nI (j + 1))), (3, .int (nI (fp_run (v k) (j + 1)))), (2, .int (nI (fp_best (v k) (j + 1)))), (0, .ref (Λ.2.2.1 616)), (1, .int (nI k))]) rfl ?_
                  exact ih20 (j + 1) (by omega) (by omega)
      exact hL20 (n k + 1 + 1) 0 (by omega) (by omega)
    · omega
set_option maxRecDepth 10000 in
set_option maxHeartbeats 4000000 in
theorem mX7_valuesBetween {l : Launch} {Λ : fo_Lt} {I : fo_Mi} {D : fo_Md} {J : fo_Mj} {X : fo_Mi} {np lim : Nat} {kd par n : Nat → Nat} {v : Nat → Nat → Nat} {x y z : Int32} (ht : fm_T I 617 np lim kd par n v) : fk_i l yX7_valuesBetween cX7_valuesBetween 6 .int 2 42 Λ [.ref (Λ.2.2.1 616), .int (x), .int (y), .int (z)] I D J X ((fun r I' D' J' X' => r = (fg_se x (nI 0) (fun k => (0, nI (fp_cnt (fun o => decide (¬ nI (v k o) < y ∧ ¬ z < nI (v k o))) (n k))))).2 ∧ I' = fo_r I 616 (upd (I 616) 5 (nI (fg_se x (nI 0) (fun k => (0, nI (fp_cnt (fun o => decide (¬ nI (v k o) < y ∧ ¬ z < nI (v k o))) (n k))))).1)) ∧ D' = D ∧ J' = J)) := by
  obtain ⟨⟨ho1, ⟨ho2, ho3⟩, ho4, ho5, ho6⟩, hnp, hlim, hP, hS⟩ := id ht
  refine fo_si (by decide) [(0, .ref (Λ.2.2.1 616)), (1, .int (x)), (2, .int (y)), (3, .int (z))] rfl (Nat.le_of_ble_eq_true rfl) (fun K C fin => ?_)
  rcases hx : fo_inr x 4 with _ | _
  · skip
    refine fo_aload_n C dX7_valuesBetween_0 0 rfl rfl 1 rfl ?_
    refine fo_iload_n C dX7_valuesBetween_1 1 rfl rfl 2 rfl ?_
    refine fo_qsi C dX7_valuesBetween_2 (mX7_isSeries (x := x)) ls_X7_120 rfl ⟨Nat.le_of_ble_eq_true rfl, Nat.le_of_ble_eq_true rfl⟩ ⟨Nat.le_of_ble_eq_true rfl, Nat.le_of_ble_eq_true rfl⟩ [.ref (Λ.2.2.1 616)] rfl (Nat.le_of_ble_eq_true rfl) 5 rfl (fo_er ?_)
    first | rw [hsx] | rw [hx]
    refine fo_qvi C dX7_valuesBetween_5 mX7_checked_f lv_X7_135 (by decide : fo_k 616 = 9) rfl (by decide) rfl ⟨Nat.le_of_ble_eq_true rfl, Nat.le_of_ble_eq_true rfl⟩ ⟨Nat.le_of_ble_eq_true rfl, Nat.le_of_ble_eq_true rfl⟩ [] rfl (Nat.le_of_ble_eq_true rfl) 8 rfl (fo_er ?_)
    replace ht := ht.th (g := upd (I 616) 5 (nI 1))
    refine fo_nif_le C (by omega) dX7_valuesBetween_8 13 (by decide) 11 rfl (fun c13 => ?_) (fun c13 => ?_)
    · omega
    · refine fo_iconst C dX7_valuesBetween_11 (nI 0) ki_0 12 rfl ?_
      exact fin dX7_valuesBetween_12 rfl (⟨(by rw [fg_se_f hx] <;> rfl), (by rw [fg_se_f hx] <;> exact rfl), rfl, rfl⟩)
  · obtain ⟨k, hk, hk31, rfl⟩ := fo_inr_at hx
    have hnk := ho5 k hk
    have hsx : fo_inr (nI k) 4 = true := fo_inr_nI hk (by omega)
    refine fo_aload_n C dX7_valuesBetween_0 0 rfl rfl 1 rfl ?_
    refine fo_iload_n C dX7_valuesBetween_1 1 rfl rfl 2 rfl ?_
    refine fo_qsi C dX7_valuesBetween_2 (mX7_isSeries (x := (nI (k)))) ls_X7_120 rfl ⟨Nat.le_of_ble_eq_true rfl, Nat.le_of_ble_eq_true rfl⟩ ⟨Nat.le_of_ble_eq_true rfl, Nat.le_of_ble_eq_true rfl⟩ [.ref (Λ.2.2.1 616)] rfl (Nat.le_of_ble_eq_true rfl) 5 rfl (fo_er ?_)
    first | rw [hsx] | rw [hx]
    refine fo_qvi C dX7_valuesBetween_5 mX7_checked_t lv_X7_135 (by decide : fo_k 616 = 9) rfl (by decide) rfl ⟨Nat.le_of_ble_eq_true rfl, Nat.le_of_ble_eq_true rfl⟩ ⟨Nat.le_of_ble_eq_true rfl, Nat.le_of_ble_eq_true rfl⟩ [] rfl (Nat.le_of_ble_eq_true rfl) 8 rfl (fo_er ?_)
    replace ht := ht.th (g := upd (I 616) 5 (nI 0))
    refine fo_nif_le C (by omega) dX7_valuesBetween_8 13 (by decide) 11 rfl (fun c26 => ?_) (fun c26 => ?_)
    · refine fo_iconst C dX7_valuesBetween_13 (nI 0) ki_0 14 rfl ?_
      refine fo_istore C dX7_valuesBetween_14 [(4, .int (nI 0)), (0, .ref (Λ.2.2.1 616)), (1, .int (nI k)), (2, .int (y)), (3, .int (z))] rfl (by decide) 16 rfl ?_
      refine fo_iconst C dX7_valuesBetween_16 (nI 0) ki_0 17 rfl ?_
      refine fo_istore C dX7_valuesBetween_17 [(5, .int (nI 0)), (4, .int (nI 0)), (0, .ref (Λ.2.2.1 616)), (1, .int (nI k)), (2, .int (y)), (3, .int (z))] rfl (by decide) 19 rfl ?_
      have hL19 : ∀ (m19 : Nat) (j : Nat), n k + 1 - j < m19 → j ≤ n k → fo_G l Λ { frames := 2, cells := 0, slots := 0, locals := 42 } K 0 0 19 [(5, .int (nI j)), (4, .int (nI (fp_cnt (fun o => decide (¬ nI (v k o) < y ∧ ¬ z < nI (v k o))) j))), (0, .ref (Λ.2.2.1 616)), (1, .int (nI k)), (2, .int (y)), (3, .int (z))] [] (fo_r I 616 (upd (I 616) 5 (nI 0))) D J X := by
        intro m19
        induction m19 with
        | zero => intro j hm; exact absurd hm (Nat.not_lt_zero _)
        | succ m19 ih19 =>
          intro j hm19 hj
          have qa := fp_cnt_le (fun o => decide (¬ nI (v k o) < y ∧ ¬ z < nI (v k o))) j
          refine fo_iload C dX7_valuesBetween_19 0 rfl 21 rfl ?_
          refine fo_aload_n C dX7_valuesBetween_21 2 rfl rfl 22 rfl ?_
          refine fo_iload_n C dX7_valuesBetween_22 3 rfl rfl 23 rfl ?_
          refine fo_qvi C dX7_valuesBetween_23 (mX7_daysOf (k := k) (by omega) ht) lv_X7_92 (by decide : fo_k 616 = 9) rfl (by decide) rfl ⟨Nat.le_of_ble_eq_true rfl, Nat.le_of_ble_eq_true rfl⟩ ⟨Nat.le_of_ble_eq_true rfl, Nat.le_of_ble_eq_true rfl⟩ [.int (nI j)] rfl (Nat.le_of_ble_eq_true rfl) 26 rfl (fo_er ?_)
          have q33 := ho5 k (by omega)
          refine fo_ncmp_ge C (by omega) (by omega) dX7_valuesBetween_26 60 (by decide) 29 rfl (fun c34 => ?_) (fun c34 => ?_)
          · refine fo_iload C dX7_valuesBetween_60 1 rfl 62 rfl ?_
            exact fin dX7_valuesBetween_62 rfl (⟨(by rw [fg_se_t hk] <;> first | rfl | exact (show nI (fp_cnt (fun o => decide (¬ nI (v k o) < y ∧ ¬ z < nI (v k o))) j) = nI (fp_cnt (fun o => decide (¬ nI (v k o) < y ∧ ¬ z < nI (v k o))) (n k)) by rw [show j = n k by omega])), (by rw [fg_se_t hk] <;> exact rfl), rfl, rfl⟩)
          · refine fo_iload C dX7_valuesBetween_29 1 rfl 31 rfl ?_
            refine fo_aload_n C dX7_valuesBetween_31 2 rfl rfl 32 rfl ?_
            refine fo_iload_n C dX7_valuesBetween_32 3 rfl rfl 33 rfl ?_
            refine fo_iload C dX7_valuesBetween_33 0 rfl 35 rfl ?_
            refine fo_qvi C dX7_valuesBetween_35 (mX7_v (k := k) (d := j) (by omega) (by omega) ht) lv_X7_142 (by decide : fo_k 616 = 9) rfl (by decide) rfl ⟨Nat.le_of_ble_eq_true rfl, Nat.le_of_ble_eq_true rfl⟩ ⟨Nat.le_of_ble_eq_true rfl, Nat.le_of_ble_eq_true rfl⟩ [.int (nI (fp_cnt (fun o => decide (¬ nI (v k o) < y ∧ ¬ z < nI (v k o))) j))] rfl (Nat.le_of_ble_eq_true rfl) 38 rfl (fo_er ?_)
            have q41 := ho6 k (by omega) j (by omega)
            refine fo_iload_n C dX7_valuesBetween_38 4 rfl rfl 39 rfl ?_
            refine fo_iload_n C dX7_valuesBetween_39 5 rfl rfl 40 rfl ?_
            refine fo_qsi C dX7_valuesBetween_40 (mX7_in (x := (nI (v k j))) (y := y) (z := z)) ls_X7_88 rfl ⟨Nat.le_of_ble_eq_true rfl, Nat.le_of_ble_eq_true rfl⟩ ⟨Nat.le_of_ble_eq_true rfl, Nat.le_of_ble_eq_true rfl⟩ [.int (nI (fp_cnt (fun o => decide (¬ nI (v k o) < y ∧ ¬ z < nI (v k o))) j))] rfl (Nat.le_of_ble_eq_true rfl) 43 rfl (fo_er ?_)
            refine fo_bif_eq C dX7_valuesBetween_43 50 (by decide) 46 rfl (fun c48 => ?_) (fun c48 => ?_)
            · refine fo_iconst C dX7_valuesBetween_50 (nI 0) ki_0 51 rfl ?_
              refine fo_iadd C dX7_valuesBetween_51 (nI ((fp_cnt (fun o => decide (¬ nI (v k o) < y ∧ ¬ z < nI (v k o))) j) + 0)) (nI_add _ _) 52 rfl ?_
              refine fo_ti (b := nI (fp_cnt (fun o => decide (¬ nI (v k o) < y ∧ ¬ z < nI (v k o))) (j + 1))) (congrArg (fun q => nI (fp_cnt (fun o => decide (¬ nI (v k o) < y ∧ ¬ z < nI (v k o))) j + q)) (if_neg (fun q => Bool.noConfusion (c48.symm.trans q))).symm) ?_
              refine fo_istore C dX7_valuesBetween_52 [(4, .int (nI (fp_cnt (fun o => decide (¬ nI (v k o) < y ∧ ¬ z < nI (v k o))) (j + 1)))), (5, .int (nI j)), (0, .ref (Λ.2.2.1 616)), (1, .int (nI k)), (2, .int (y)), (3, .int (z))] rfl (by decide) 54 rfl ?_
              refine fo_iinc C dX7_valuesBetween_54 1 rfl (nI (j + 1)) (nI_inc1 _) [(5, .int (nI (j + 1))), (4, .int (nI (fp_cnt (fun o => decide (¬ nI (v k o) < y ∧ ¬ z < nI (v k o))) (j + 1)))), (0, .ref (Λ.2.2.1 616)), (1, .int (nI k)), (2, .int (y)), (3, .int (z))] rfl (by decide) 57 rfl ?_
              refine fo_goto C dX7_valuesBetween_57 19 (by decide) ?_
              exact ih19 (j + 1) (by omega) (by omega)
            · refine fo_iconst C dX7_valuesBetween_46 (nI 1) ki_1 47 rfl ?_
              refine fo_goto C dX7_valuesBetween_47 51 (by decide) ?_
              refine fo_iadd C dX7_valuesBetween_51 (nI ((fp_cnt (fun o => decide (¬ nI (v k o) < y ∧ ¬ z < nI (v k o))) j) + 1)) (nI_add _ _) 52 rfl ?_
              refine fo_ti (b := nI (fp_cnt (fun o => decide (¬ nI (v k o) < y ∧ ¬ z < nI (v k o))) (j + 1))) (congrArg (fun q => nI (fp_cnt (fun o => decide (¬ nI (v k o) < y ∧ ¬ z < nI (v k o))) j + q)) (if_pos c48).symm) ?_
              refine fo_istore C dX7_valuesBetween_52 [(4, .int (nI (fp_cnt (fun o => decide (¬ nI (v k o) < y ∧ ¬ z < nI (v k o))) (j + 1)))), (5, .int (nI j)), (0, .ref (Λ.2.2.1 616)), (1, .int (nI k)), (2, .int (y)), (3, .int (z))] rfl (by decide) 54 rfl ?_
              refine fo_iinc C dX7_valuesBetween_54 1 rfl (nI (j + 1)) (nI_inc1 _) [(5, .int (nI (j + 1))), (4, .int (nI (fp_cnt (fun o => decide (¬ nI (v k o) < y ∧ ¬ z < nI (v k o))) (j + 1)))), (0, .ref (Λ.2.2.1 616)), (1, .int (nI k)), (2, .int (y)), (3, .int (z))] rfl (by decide) 57 rfl ?_
              refine fo_goto C dX7_valuesBetween_57 19 (by decide) ?_
              exact ih19 (j + 1) (by omega) (by omega)
      exact hL19 (n k + 1 + 1) 0 (by omega) (by omega)
    · omega
set_option maxRecDepth 10000 in
set_option maxHeartbeats 4000000 in
theorem mX7_range {l : Launch} {Λ : fo_Lt} {I : fo_Mi} {D : fo_Md} {J : fo_Mj} {X : fo_Mi} {np lim : Nat} {kd par n : Nat → Nat} {v : Nat → Nat → Nat} {x : Int32} (ht : fm_T I 617 np lim kd par n v) : fk_i l yX7_range cX7_range 5 .int 3 64 Λ [.ref (Λ.2.2.1 616), .int (x)] I D J X ((fun r I' D' J' X' => r = (fg_se x (nI 0) (fun k => if 0 < n k then (0, nI (fp_hi (v k) (n k - 1) - fp_lo (v k) (n k - 1))) else (2, nI 0))).2 ∧ I' = fo_r I 616 (upd (I 616) 5 (nI (fg_se x (nI 0) (fun k => if 0 < n k then (0, nI (fp_hi (v k) (n k - 1) - fp_lo (v k) (n k - 1))) else (2, nI 0))).1)) ∧ D' = D ∧ J' = J)) := by
  obtain ⟨⟨ho1, ⟨ho2, ho3⟩, ho4, ho5, ho6⟩, hnp, hlim, hP, hS⟩ := id ht
  refine fo_si (by decide) [(0, .ref (Λ.2.2.1 616)), (1, .int (x))] rfl (Nat.le_of_ble_eq_true rfl) (fun K C fin => ?_)
  rcases hx : fo_inr x 4 with _ | _
  · skip
    refine fo_aload_n C dX7_range_0 0 rfl rfl 1 rfl ?_
    refine fo_aload_n C dX7_range_1 0 rfl rfl 2 rfl ?_
    refine fo_iload_n C dX7_range_2 1 rfl rfl 3 rfl ?_
    refine fo_iconst C dX7_range_3 (nI 0) ki_0 4 rfl ?_
    refine fo_qvi C dX7_range_4 (mX7_noValue_g (x := x) (z := (nI (0))) ht) lv_X7_139 (by decide : fo_k 616 = 9) rfl (by decide) rfl ⟨Nat.le_of_ble_eq_true rfl, Nat.le_of_ble_eq_true rfl⟩ ⟨Nat.le_of_ble_eq_true rfl, Nat.le_of_ble_eq_true rfl⟩ [.ref (Λ.2.2.1 616)] rfl (Nat.le_of_ble_eq_true rfl) 7 rfl (fo_er ?_)
    rw [fg_nv_1 hx]
    refine fo_put C dX7_range_7 fK9 (by decide : fo_k 616 = 9) (by decide) 5 (by decide) fl_X7_25 rfl rfl rfl rfl (Nat.le_of_ble_eq_true rfl) 10 rfl ?_
    replace ht := ht.th (g := upd (I 616) 5 (nI 1))
    refine fo_aload_n C dX7_range_10 0 rfl rfl 11 rfl ?_
    refine fo_get C dX7_range_11 fK9 (by decide : fo_k 616 = 9) (by decide) 5 (by decide) fl_X7_25 (v := .int (nI 1)) (congrArg (fun x => some (Value.int x)) ((by rw [fo_rs, pk_us]))) 14 rfl ?_
    refine fo_nif_le C (by omega) dX7_range_14 19 (by decide) 17 rfl (fun c7 => ?_) (fun c7 => ?_)
    · omega
    · refine fo_iconst C dX7_range_17 (nI 0) ki_0 18 rfl ?_
      exact fin dX7_range_18 rfl (⟨(by rw [fg_se_f hx] <;> rfl), (by rw [fg_se_f hx] <;> exact rfl), rfl, rfl⟩)
  · obtain ⟨k, hk, hk31, rfl⟩ := fo_inr_at hx
    have hnk := ho5 k hk
    have hsx : fo_inr (nI k) 4 = true := fo_inr_nI hk (by omega)
    rcases Nat.eq_zero_or_pos (n k) with hc3 | hc3
    · skip
      refine fo_aload_n C dX7_range_0 0 rfl rfl 1 rfl ?_
      refine fo_aload_n C dX7_range_1 0 rfl rfl 2 rfl ?_
      refine fo_iload_n C dX7_range_2 1 rfl rfl 3 rfl ?_
      refine fo_iconst C dX7_range_3 (nI 0) ki_0 4 rfl ?_
      refine fo_qvi C dX7_range_4 (mX7_noValue_g (x := (nI (k))) (z := (nI (0))) ht) lv_X7_139 (by decide : fo_k 616 = 9) rfl (by decide) rfl ⟨Nat.le_of_ble_eq_true rfl, Nat.le_of_ble_eq_true rfl⟩ ⟨Nat.le_of_ble_eq_true rfl, Nat.le_of_ble_eq_true rfl⟩ [.ref (Λ.2.2.1 616)] rfl (Nat.le_of_ble_eq_true rfl) 7 rfl (fo_er ?_)
      rw [fg_nv_2 hk (by rw [hc3]; rfl)]
      refine fo_put C dX7_range_7 fK9 (by decide : fo_k 616 = 9) (by decide) 5 (by decide) fl_X7_25 rfl rfl rfl rfl (Nat.le_of_ble_eq_true rfl) 10 rfl ?_
      replace ht := ht.th (g := upd (I 616) 5 (nI 2))
      refine fo_aload_n C dX7_range_10 0 rfl rfl 11 rfl ?_
      refine fo_get C dX7_range_11 fK9 (by decide : fo_k 616 = 9) (by decide) 5 (by decide) fl_X7_25 (v := .int (nI 2)) (congrArg (fun x => some (Value.int x)) ((by rw [fo_rs, pk_us]))) 14 rfl ?_
      refine fo_nif_le C (by omega) dX7_range_14 19 (by decide) 17 rfl (fun c14 => ?_) (fun c14 => ?_)
      · omega
      · refine fo_iconst C dX7_range_17 (nI 0) ki_0 18 rfl ?_
        exact fin dX7_range_18 rfl (⟨(by rw [fg_se_t hk, if_neg (by omega)] <;> rfl), (by rw [fg_se_t hk, if_neg (by omega)] <;> exact rfl), rfl, rfl⟩)
    · skip
      refine fo_aload_n C dX7_range_0 0 rfl rfl 1 rfl ?_
      refine fo_aload_n C dX7_range_1 0 rfl rfl 2 rfl ?_
      refine fo_iload_n C dX7_range_2 1 rfl rfl 3 rfl ?_
      refine fo_iconst C dX7_range_3 (nI 0) ki_0 4 rfl ?_
      refine fo_qvi C dX7_range_4 (mX7_noValue_g (x := (nI (k))) (z := (nI (0))) ht) lv_X7_139 (by decide : fo_k 616 = 9) rfl (by decide) rfl ⟨Nat.le_of_ble_eq_true rfl, Nat.le_of_ble_eq_true rfl⟩ ⟨Nat.le_of_ble_eq_true rfl, Nat.le_of_ble_eq_true rfl⟩ [.ref (Λ.2.2.1 616)] rfl (Nat.le_of_ble_eq_true rfl) 7 rfl (fo_er ?_)
      rw [fg_nv_t hk hc3 hnk]
      refine fo_put C dX7_range_7 fK9 (by decide : fo_k 616 = 9) (by decide) 5 (by decide) fl_X7_25 rfl rfl rfl rfl (Nat.le_of_ble_eq_true rfl) 10 rfl ?_
      replace ht := ht.th (g := upd (I 616) 5 (nI 0))
      refine fo_aload_n C dX7_range_10 0 rfl rfl 11 rfl ?_
      refine fo_get C dX7_range_11 fK9 (by decide : fo_k 616 = 9) (by decide) 5 (by decide) fl_X7_25 (v := .int (nI 0)) (congrArg (fun x => some (Value.int x)) ((by rw [fo_rs, pk_us]))) 14 rfl ?_
      refine fo_nif_le C (by omega) dX7_range_14 19 (by decide) 17 rfl (fun c21 => ?_) (fun c21 => ?_)
      · refine fo_aload_n C dX7_range_19 0 rfl rfl 20 rfl ?_
        refine fo_iload_n C dX7_range_20 1 rfl rfl 21 rfl ?_
        refine fo_iconst C dX7_range_21 (nI 0) ki_0 22 rfl ?_
        refine fo_qvi C dX7_range_22 (mX7_v (k := k) (d := 0) (by omega) (by omega) ht) lv_X7_142 (by decide : fo_k 616 = 9) rfl (by decide) rfl ⟨Nat.le_of_ble_eq_true rfl, Nat.le_of_ble_eq_true rfl⟩ ⟨Nat.le_of_ble_eq_true rfl, Nat.le_of_ble_eq_true rfl⟩ [] rfl (Nat.le_of_ble_eq_true rfl) 25 rfl (fo_er ?_)
        have q28 := ho6 k (by omega) 0 (by omega)
        refine fo_istore_n C dX7_range_25 rfl [(2, .int (nI (v k 0))), (0, .ref (Λ.2.2.1 616)), (1, .int (nI k))] rfl (by decide) 26 rfl ?_
        refine fo_iload_n C dX7_range_26 0 rfl rfl 27 rfl ?_
        refine fo_istore_n C dX7_range_27 rfl [(3, .int (nI (v k 0))), (2, .int (nI (v k 0))), (0, .ref (Λ.2.2.1 616)), (1, .int (nI k))] rfl (by decide) 28 rfl ?_
        refine fo_iconst C dX7_range_28 (nI 1) ki_1 29 rfl ?_
        refine fo_istore C dX7_range_29 [(4, .int (nI 1)), (3, .int (nI (v k 0))), (2, .int (nI (v k 0))), (0, .ref (Λ.2.2.1 616)), (1, .int (nI k))] rfl (by decide) 31 rfl ?_
        have hL31 : ∀ (m31 : Nat) (j : Nat), n k - j < m31 → j + 1 ≤ n k → fo_G l Λ { frames := 3, cells := 0, slots := 0, locals := 64 } K 0 0 31 [(4, .int (nI (j + 1))), (3, .int (nI (fp_hi (v k) j))), (2, .int (nI (fp_lo (v k) j))), (0, .ref (Λ.2.2.1 616)), (1, .int (nI k))] [] (fo_r I 616 (upd (I 616) 5 (nI (0)))) D J X := by
          intro m31
          induction m31 with
          | zero => intro j hm; exact absurd hm (Nat.not_lt_zero _)
          | succ m31 ih31 =>
            intro j hm31 hj
            have qa := fp_hi_le (v := v k) (c := 999) (k := j) (fun i hi => ho6 k hk i (by omega))
            have qb := fp_lohi (v k) j
            refine fo_iload C dX7_range_31 0 rfl 33 rfl ?_
            refine fo_aload_n C dX7_range_33 3 rfl rfl 34 rfl ?_
            refine fo_iload_n C dX7_range_34 4 rfl rfl 35 rfl ?_
            refine fo_qvi C dX7_range_35 (mX7_daysOf (k := k) (by omega) ht) lv_X7_92 (by decide : fo_k 616 = 9) rfl (by decide) rfl ⟨Nat.le_of_ble_eq_true rfl, Nat.le_of_ble_eq_true rfl⟩ ⟨Nat.le_of_ble_eq_true rfl, Nat.le_of_ble_eq_true rfl⟩ [.int (nI (j + 1))] rfl (Nat.le_of_ble_eq_true rfl) 38 rfl (fo_er ?_)
            have q35 := ho5 k (by omega)
            refine fo_ncmp_ge C (by omega) (by omega) dX7_range_38 93 (by decide) 41 rfl (fun c36 => ?_) (fun c36 => ?_)
            · refine fo_iload_n C dX7_range_93 1 rfl rfl 94 rfl ?_
              refine fo_iload_n C dX7_range_94 2 rfl rfl 95 rfl ?_
              refine fo_isub C dX7_range_95 (nI ((fp_hi (v k) j) - (fp_lo (v k) j))) (pk_sub (by omega)) 96 rfl ?_
              exact fin dX7_range_96 rfl (⟨(by rw [fg_se_t hk, if_pos (by omega)] <;> first | rfl | exact (show nI (fp_hi (v k) j - fp_lo (v k) j) = nI (fp_hi (v k) (n k - 1) - fp_lo (v k) (n k - 1)) by rw [show n k - 1 = j by omega])), (by rw [fg_se_t hk, if_pos (by omega)] <;> exact rfl), rfl, rfl⟩)
            · refine fo_aload_n C dX7_range_41 3 rfl rfl 42 rfl ?_
              refine fo_iload_n C dX7_range_42 4 rfl rfl 43 rfl ?_
              refine fo_iload C dX7_range_43 0 rfl 45 rfl ?_
              refine fo_qvi C dX7_range_45 (mX7_v (k := k) (d := j + 1) (by omega) (by omega) ht) lv_X7_142 (by decide : fo_k 616 = 9) rfl (by decide) rfl ⟨Nat.le_of_ble_eq_true rfl, Nat.le_of_ble_eq_true rfl⟩ ⟨Nat.le_of_ble_eq_true rfl, Nat.le_of_ble_eq_true rfl⟩ [] rfl (Nat.le_of_ble_eq_true rfl) 48 rfl (fo_er ?_)
              have q43 := ho6 k (by omega) (j + 1) (by omega)
              refine fo_iload_n C dX7_range_48 2 rfl rfl 49 rfl ?_
              refine fo_ncmp_ge C (by omega) (by omega) dX7_range_49 62 (by decide) 52 rfl (fun c44 => ?_) (fun c44 => ?_)
              · refine fo_iload_n C dX7_range_62 2 rfl rfl 63 rfl ?_
                refine fo_ti (b := nI (fp_lo (v k) (j + 1))) (congrArg nI (by rw [fp_lo]; omega)) ?_
                refine fo_istore_n C dX7_range_63 rfl [(2, .int (nI (fp_lo (v k) (j + 1)))), (4, .int (nI (j + 1))), (3, .int (nI (fp_hi (v k) j))), (0, .ref (Λ.2.2.1 616)), (1, .int (nI k))] rfl (by decide) 64 rfl ?_
                refine fo_aload_n C dX7_range_64 3 rfl rfl 65 rfl ?_
                refine fo_iload_n C dX7_range_65 4 rfl rfl 66 rfl ?_
                refine fo_iload C dX7_range_66 1 rfl 68 rfl ?_
                refine fo_qvi C dX7_range_68 (mX7_v (k := k) (d := j + 1) (by omega) (by omega) ht) lv_X7_142 (by decide : fo_k 616 = 9) rfl (by decide) rfl ⟨Nat.le_of_ble_eq_true rfl, Nat.le_of_ble_eq_true rfl⟩ ⟨Nat.le_of_ble_eq_true rfl, Nat.le_of_ble_eq_true rfl⟩ [] rfl (Nat.le_of_ble_eq_true rfl) 71 rfl (fo_er ?_)
                have q51 := ho6 k (by omega) (j + 1) (by omega)
                refine fo_iload_n C dX7_range_71 2 rfl rfl 72 rfl ?_
                refine fo_ncmp_le C (by omega) (by omega) dX7_range_72 85 (by decide) 75 rfl (fun c52 => ?_) (fun c52 => ?_)
                · refine fo_iload_n C dX7_range_85 2 rfl rfl 86 rfl ?_
                  refine fo_ti (b := nI (fp_hi (v k) (j + 1))) (congrArg nI (by rw [fp_hi]; omega)) ?_
                  refine fo_istore_n C dX7_range_86 rfl [(3, .int (nI (fp_hi (v k) (j + 1)))), (2, .int (nI (fp_lo (v k) (j + 1)))), (4, .int (nI (j + 1))), (0, .ref (Λ.2.2.1 616)), (1, .int (nI k))] rfl (by decide) 87 rfl ?_
                  refine fo_iinc C dX7_range_87 2 rfl (nI (j + 1 + 1)) (nI_inc1 _) [(4, .int (nI (j + 1 + 1))), (3, .int (nI (fp_hi (v k) (j + 1)))), (2, .int (nI (fp_lo (v k) (j + 1)))), (0, .ref (Λ.2.2.1 616)), (1, .int (nI k))] rfl (by decide) 90 rfl ?_
                  refine fo_goto C dX7_range_90 31 (by decide) ?_
                  exact ih31 (j + 1) (by omega) (by omega)
                · refine fo_aload_n C dX7_range_75 3 rfl rfl 76 rfl ?_
                  refine fo_iload_n C dX7_range_76 4 rfl rfl 77 rfl ?_
                  refine fo_iload C dX7_range_77 1 rfl 79 rfl ?_
                  refine fo_qvi C dX7_range_79 (mX7_v (k := k) (d := j + 1) (by omega) (by omega) ht) lv_X7_142 (by decide : fo_k 616 = 9) rfl (by decide) rfl ⟨Nat.le_of_ble_eq_true rfl, Nat.le_of_ble_eq_true rfl⟩ ⟨Nat.le_of_ble_eq_true rfl, Nat.le_of_ble_eq_true rfl⟩ [] rfl (Nat.le_of_ble_eq_true rfl) 82 rfl (fo_er ?_)
                  have q59 := ho6 k (by omega) (j + 1) (by omega)
                  refine fo_goto C dX7_range_82 86 (by decide) ?_
                  refine fo_ti (b := nI (fp_hi (v k) (j + 1))) (congrArg nI (by rw [fp_hi]; omega)) ?_
                  refine fo_istore_n C dX7_range_86 rfl [(3, .int (nI (fp_hi (v k) (j + 1)))), (2, .int (nI (fp_lo (v k) (j + 1)))), (4, .int (nI (j + 1))), (0, .ref (Λ.2.2.1 616)), (1, .int (nI k))] rfl (by decide) 87 rfl ?_
                  refine fo_iinc C dX7_range_87 2 rfl (nI (j + 1 + 1)) (nI_inc1 _) [(4, .int (nI (j + 1 + 1))), (3, .int (nI (fp_hi (v k) (j + 1)))), (2, .int (nI (fp_lo (v k) (j + 1)))), (0, .ref (Λ.2.2.1 616)), (1, .int (nI k))] rfl (by decide) 90 rfl ?_
                  refine fo_goto C dX7_range_90 31 (by decide) ?_
                  exact ih31 (j + 1) (by omega) (by omega)
              · refine fo_aload_n C dX7_range_52 3 rfl rfl 53 rfl ?_
                refine fo_iload_n C dX7_range_53 4 rfl rfl 54 rfl ?_
                refine fo_iload C dX7_range_54 0 rfl 56 rfl ?_
                refine fo_qvi C dX7_range_56 (mX7_v (k := k) (d := j + 1) (by omega) (by omega) ht) lv_X7_142 (by decide : fo_k 616 = 9) rfl (by decide) rfl ⟨Nat.le_of_ble_eq_true rfl, Nat.le_of_ble_eq_true rfl⟩ ⟨Nat.le_of_ble_eq_true rfl, Nat.le_of_ble_eq_true rfl⟩ [] rfl (Nat.le_of_ble_eq_true rfl) 59 rfl (fo_er ?_)
                have q66 := ho6 k (by omega) (j + 1) (by omega)
                refine fo_goto C dX7_range_59 63 (by decide) ?_
                refine fo_ti (b := nI (fp_lo (v k) (j + 1))) (congrArg nI (by rw [fp_lo]; omega)) ?_
                refine fo_istore_n C dX7_range_63 rfl [(2, .int (nI (fp_lo (v k) (j + 1)))), (4, .int (nI (j + 1))), (3, .int (nI (fp_hi (v k) j))), (0, .ref (Λ.2.2.1 616)), (1, .int (nI k))] rfl (by decide) 64 rfl ?_
                refine fo_aload_n C dX7_range_64 3 rfl rfl 65 rfl ?_
                refine fo_iload_n C dX7_range_65 4 rfl rfl 66 rfl ?_
                refine fo_iload C dX7_range_66 1 rfl 68 rfl ?_
                refine fo_qvi C dX7_range_68 (mX7_v (k := k) (d := j + 1) (by omega) (by omega) ht) lv_X7_142 (by decide : fo_k 616 = 9) rfl (by decide) rfl ⟨Nat.le_of_ble_eq_true rfl, Nat.le_of_ble_eq_true rfl⟩ ⟨Nat.le_of_ble_eq_true rfl, Nat.le_of_ble_eq_true rfl⟩ [] rfl (Nat.le_of_ble_eq_true rfl) 71 rfl (fo_er ?_)
                have q73 := ho6 k (by omega) (j + 1) (by omega)
                refine fo_iload_n C dX7_range_71 2 rfl rfl 72 rfl ?_
                refine fo_ncmp_le C (by omega) (by omega) dX7_range_72 85 (by decide) 75 rfl (fun c74 => ?_) (fun c74 => ?_)
                · refine fo_iload_n C dX7_range_85 2 rfl rfl 86 rfl ?_
                  refine fo_ti (b := nI (fp_hi (v k) (j + 1))) (congrArg nI (by rw [fp_hi]; omega)) ?_
                  refine fo_istore_n C dX7_range_86 rfl [(3, .int (nI (fp_hi (v k) (j + 1)))), (2, .int (nI (fp_lo (v k) (j + 1)))), (4, .int (nI (j + 1))), (0, .ref (Λ.2.2.1 616)), (1, .int (nI k))] rfl (by decide) 87 rfl ?_
                  refine fo_iinc C dX7_range_87 2 rfl (nI (j + 1 + 1)) (nI_inc1 _) [(4, .int (nI (j + 1 + 1))), (3, .int (nI (fp_hi (v k) (j + 1)))), (2, .int (nI (fp_lo (v k) (j + 1)))), (0, .ref (Λ.2.2.1 616)), (1, .int (nI k))] rfl (by decide) 90 rfl ?_
                  refine fo_goto C dX7_range_90 31 (by decide) ?_
                  exact ih31 (j + 1) (by omega) (by omega)
                · refine fo_aload_n C dX7_range_75 3 rfl rfl 76 rfl ?_
                  refine fo_iload_n C dX7_range_76 4 rfl rfl 77 rfl ?_
                  refine fo_iload C dX7_range_77 1 rfl 79 rfl ?_
                  refine fo_qvi C dX7_range_79 (mX7_v (k := k) (d := j + 1) (by omega) (by omega) ht) lv_X7_142 (by decide : fo_k 616 = 9) rfl (by decide) rfl ⟨Nat.le_of_ble_eq_true rfl, Nat.le_of_ble_eq_true rfl⟩ ⟨Nat.le_of_ble_eq_true rfl, Nat.le_of_ble_eq_true rfl⟩ [] rfl (Nat.le_of_ble_eq_true rfl) 82 rfl (fo_er ?_)
                  have q81 := ho6 k (by omega) (j + 1) (by omega)
                  refine fo_goto C dX7_range_82 86 (by decide) ?_
                  refine fo_ti (b := nI (fp_hi (v k) (j + 1))) (congrArg nI (by rw [fp_hi]; omega)) ?_
                  refine fo_istore_n C dX7_range_86 rfl [(3, .int (nI (fp_hi (v k) (j + 1)))), (2, .int (nI (fp_lo (v k) (j + 1)))), (4, .int (nI (j + 1))), (0, .ref (Λ.2.2.1 616)), (1, .int (nI k))] rfl (by decide) 87 rfl ?_
                  refine fo_iinc C dX7_range_87 2 rfl (nI (j + 1 + 1)) (nI_inc1 _) [(4, .int (nI (j + 1 + 1))), (3, .int (nI (fp_hi (v k) (j + 1)))), (2, .int (nI (fp_lo (v k) (j + 1)))), (0, .ref (Λ.2.2.1 616)), (1, .int (nI k))] rfl (by decide) 90 rfl ?_
                  refine fo_goto C dX7_range_90 31 (by decide) ?_
                  exact ih31 (j + 1) (by omega) (by omega)
        exact hL31 (n k + 1 + 1) 0 (by omega) (by omega)
      · omega
set_option maxRecDepth 10000 in
set_option maxHeartbeats 4000000 in
theorem mX7_limit {l : Launch} {Λ : fo_Lt} {I : fo_Mi} {D : fo_Md} {J : fo_Mj} {X : fo_Mi} {np lim : Nat} {kd par n : Nat → Nat} {v : Nat → Nat → Nat} (ht : fm_T I 617 np lim kd par n v) : fk_i l yX7_limit cX7_limit 1 .int 1 21 Λ [.ref (Λ.2.2.1 616)] I D J X (fo_pr (nI lim) (fo_r I 616 (upd (I 616) 5 (nI 0))) D J X) := by
  obtain ⟨⟨ho1, ⟨ho2, ho3⟩, ho4, ho5, ho6⟩, hnp, hlim, hP, hS⟩ := id ht
  refine fo_si (by decide) [(0, .ref (Λ.2.2.1 616))] rfl (Nat.le_of_ble_eq_true rfl) (fun K C fin => ?_)
  refine fo_aload_n C dX7_limit_0 0 rfl rfl 1 rfl ?_
  refine fo_aload_n C dX7_limit_1 0 rfl rfl 2 rfl ?_
  refine fo_get C dX7_limit_2 fK9 (by decide : fo_k 616 = 9) (by decide) 0 (by decide) fl_X7_7 (v := .ref (Λ.2.2.1 617)) rfl 5 rfl ?_
  refine fo_iconst C dX7_limit_5 (nI 1) ki_1 6 rfl ?_
  refine fo_iald C dX7_limit_6 (by decide : fo_k 617 = 20) (by rw [(show fo_n 617 = 150 from rfl)]; omega) (nI (lim)) (hlim) 7 rfl ?_
  refine fo_qvi C dX7_limit_7 (mX7_plain (x := (nI (lim)))) lv_X7_181 (by decide : fo_k 616 = 9) rfl (by decide) rfl ⟨Nat.le_of_ble_eq_true rfl, Nat.le_of_ble_eq_true rfl⟩ ⟨Nat.le_of_ble_eq_true rfl, Nat.le_of_ble_eq_true rfl⟩ [] rfl (Nat.le_of_ble_eq_true rfl) 10 rfl (fo_er ?_)
  exact fin dX7_limit_10 rfl (⟨rfl, rfl, rfl, rfl, rfl⟩)
set_option maxRecDepth 10000 in
set_option maxHeartbeats 4000000 in
theorem mX7_prophets {l : Launch} {Λ : fo_Lt} {I : fo_Mi} {D : fo_Md} {J : fo_Mj} {X : fo_Mi} {np lim : Nat} {kd par n : Nat → Nat} {v : Nat → Nat → Nat} (ht : fm_T I 617 np lim kd par n v) : fk_i l yX7_prophets cX7_prophets 1 .int 1 21 Λ [.ref (Λ.2.2.1 616)] I D J X (fo_pr (nI np) (fo_r I 616 (upd (I 616) 5 (nI 0))) D J X) := by
  obtain ⟨⟨ho1, ⟨ho2, ho3⟩, ho4, ho5, ho6⟩, hnp, hlim, hP, hS⟩ := id ht
  refine fo_si (by decide) [(0, .ref (Λ.2.2.1 616))] rfl (Nat.le_of_ble_eq_true rfl) (fun K C fin => ?_)
  refine fo_aload_n C dX7_prophets_0 0 rfl rfl 1 rfl ?_
  refine fo_aload_n C dX7_prophets_1 0 rfl rfl 2 rfl ?_
  refine fo_get C dX7_prophets_2 fK9 (by decide : fo_k 616 = 9) (by decide) 0 (by decide) fl_X7_7 (v := .ref (Λ.2.2.1 617)) rfl 5 rfl ?_
  refine fo_iconst C dX7_prophets_5 (nI 0) ki_0 6 rfl ?_
  refine fo_iald C dX7_prophets_6 (by decide : fo_k 617 = 20) (by rw [(show fo_n 617 = 150 from rfl)]; omega) (nI (np)) (hnp) 7 rfl ?_
  refine fo_qvi C dX7_prophets_7 (mX7_plain (x := (nI (np)))) lv_X7_181 (by decide : fo_k 616 = 9) rfl (by decide) rfl ⟨Nat.le_of_ble_eq_true rfl, Nat.le_of_ble_eq_true rfl⟩ ⟨Nat.le_of_ble_eq_true rfl, Nat.le_of_ble_eq_true rfl⟩ [] rfl (Nat.le_of_ble_eq_true rfl) 10 rfl (fo_er ?_)
  exact fin dX7_prophets_10 rfl (⟨rfl, rfl, rfl, rfl, rfl⟩)
set_option maxRecDepth 10000 in
set_option maxHeartbeats 4000000 in
theorem mX7_isConsistent {l : Launch} {Λ : fo_Lt} {I : fo_Mi} {D : fo_Md} {J : fo_Mj} {X : fo_Mi}   : fk_i l yX7_isConsistent cX7_isConsistent 1 .boolean 1 21 Λ [.ref (Λ.2.2.1 616)] I D J X (fo_pr (fo_b true) (fo_r I 616 (upd (I 616) 5 (nI 0))) D J X) := by
  refine fo_si (by decide) [(0, .ref (Λ.2.2.1 616))] rfl (Nat.le_of_ble_eq_true rfl) (fun K C fin => ?_)
  refine fo_aload_n C dX7_isConsistent_0 0 rfl rfl 1 rfl ?_
  refine fo_iconst C dX7_isConsistent_1 (nI 1) ki_1 2 rfl ?_
  refine fo_qvi C dX7_isConsistent_2 (mX7_plain (x := (nI (1)))) lv_X7_181 (by decide : fo_k 616 = 9) rfl (by decide) rfl ⟨Nat.le_of_ble_eq_true rfl, Nat.le_of_ble_eq_true rfl⟩ ⟨Nat.le_of_ble_eq_true rfl, Nat.le_of_ble_eq_true rfl⟩ [] rfl (Nat.le_of_ble_eq_true rfl) 5 rfl (fo_er ?_)
  refine fo_iconst C dX7_isConsistent_5 (nI 1) ki_1 6 rfl ?_
  refine fo_ncmp_ne C (by omega) (by omega) dX7_isConsistent_6 13 (by decide) 9 rfl (fun c7 => ?_) (fun c7 => ?_)
  · omega
  · refine fo_iconst C dX7_isConsistent_9 (nI 1) ki_1 10 rfl ?_
    refine fo_goto C dX7_isConsistent_10 14 (by decide) ?_
    exact fin dX7_isConsistent_14 (by first | rfl | exact fo_nb _) (⟨rfl, rfl, rfl, rfl, rfl⟩)
