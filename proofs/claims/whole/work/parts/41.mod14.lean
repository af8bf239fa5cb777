
/-! THE MODEL: questions about a prophet -/
def fg_op (o : Option Nat) : Nat × Int32 := match o with
  | none => (1, nI 0)
  | some k => (0, nI k)

set_option maxRecDepth 10000 in
set_option maxHeartbeats 4000000 in
theorem mX7_kind {l : Launch} {Λ : fo_Lt} {I : fo_Mi} {D : fo_Md} {J : fo_Mj} {X : fo_Mi} {np lim : Nat} {kd par n : Nat → Nat} {v : Nat → Nat → Nat} {y : Int32} (ht : fm_T I 617 np lim kd par n v) : fk_i l yX7_kind cX7_kind 2 .char 2 43 Λ [.ref (Λ.2.2.1 616), .int (y)] I D J X ((fun r I' D' J' X' => r = (fg_pr np y (nI 32) (fun p => (0, nI (kd p)))).2 ∧ I' = fo_r I 616 (upd (I 616) 5 (nI (fg_pr np y (nI 32) (fun p => (0, nI (kd p)))).1)) ∧ D' = D ∧ J' = J)) := by
  obtain ⟨⟨ho1, ⟨ho2, ho3⟩, ho4, ho5, ho6⟩, hnp, hlim, hP, hS⟩ := id ht
  refine fo_si (by decide) [(0, .ref (Λ.2.2.1 616)), (1, .int (y))] rfl (Nat.le_of_ble_eq_true rfl) (fun K C fin => ?_)
  rcases hy : fo_inr y np with _ | _
  · skip
    refine fo_aload_n C dX7_kind_0 0 rfl rfl 1 rfl ?_
    refine fo_aload_n C dX7_kind_1 0 rfl rfl 2 rfl ?_
    refine fo_iload_n C dX7_kind_2 1 rfl rfl 3 rfl ?_
    refine fo_qvi C dX7_kind_3 (mX7_isProphet (y := y) ht) lv_X7_184 (by decide : fo_k 616 = 9) rfl (by decide) rfl ⟨Nat.le_of_ble_eq_true rfl, Nat.le_of_ble_eq_true rfl⟩ ⟨Nat.le_of_ble_eq_true rfl, Nat.le_of_ble_eq_true rfl⟩ [.ref (Λ.2.2.1 616)] rfl (Nat.le_of_ble_eq_true rfl) 6 rfl (fo_er ?_)
    first | rw [hsy] | rw [hy]
    refine fo_qvi C dX7_kind_6 mX7_checked_f lv_X7_135 (by decide : fo_k 616 = 9) rfl (by decide) rfl ⟨Nat.le_of_ble_eq_true rfl, Nat.le_of_ble_eq_true rfl⟩ ⟨Nat.le_of_ble_eq_true rfl, Nat.le_of_ble_eq_true rfl⟩ [] rfl (Nat.le_of_ble_eq_true rfl) 9 rfl (fo_er ?_)
    replace ht := ht.th (g := upd (I 616) 5 (nI 1))
    refine fo_nif_le C (by omega) dX7_kind_9 17 (by decide) 12 rfl (fun c13 => ?_) (fun c13 => ?_)
    · omega
    · refine fo_bipush C dX7_kind_12 (nI 32) kb_32 14 rfl ?_
      refine fo_goto C dX7_kind_14 26 (by decide) ?_
      exact fin dX7_kind_26 (by first | exact (pk_charN (by omega)).1 | rfl) (⟨(by rw [fg_pr_f hy] <;> rfl), (by rw [fg_pr_f hy] <;> exact rfl), rfl, rfl⟩)
  · obtain ⟨p, hp, hp31, rfl⟩ := fo_inr_at hy
    have hkp := ho4 p hp
    have hnd := fp_need_in hkp
    have hsy : fo_inr (nI p) np = true := fo_inr_nI hp (by omega)
    refine fo_aload_n C dX7_kind_0 0 rfl rfl 1 rfl ?_
    refine fo_aload_n C dX7_kind_1 0 rfl rfl 2 rfl ?_
    refine fo_iload_n C dX7_kind_2 1 rfl rfl 3 rfl ?_
    refine fo_qvi C dX7_kind_3 (mX7_isProphet (y := (nI (p))) ht) lv_X7_184 (by decide : fo_k 616 = 9) rfl (by decide) rfl ⟨Nat.le_of_ble_eq_true rfl, Nat.le_of_ble_eq_true rfl⟩ ⟨Nat.le_of_ble_eq_true rfl, Nat.le_of_ble_eq_true rfl⟩ [.ref (Λ.2.2.1 616)] rfl (Nat.le_of_ble_eq_true rfl) 6 rfl (fo_er ?_)
    first | rw [hsy] | rw [hy]
    refine fo_qvi C dX7_kind_6 mX7_checked_t lv_X7_135 (by decide : fo_k 616 = 9) rfl (by decide) rfl ⟨Nat.le_of_ble_eq_true rfl, Nat.le_of_ble_eq_true rfl⟩ ⟨Nat.le_of_ble_eq_true rfl, Nat.le_of_ble_eq_true rfl⟩ [] rfl (Nat.le_of_ble_eq_true rfl) 9 rfl (fo_er ?_)
    replace ht := ht.th (g := upd (I 616) 5 (nI 0))
    refine fo_nif_le C (by omega) dX7_kind_9 17 (by decide) 12 rfl (fun c26 => ?_) (fun c26 => ?_)
    · refine fo_aload_n C dX7_kind_17 0 rfl rfl 18 rfl ?_
      refine fo_get C dX7_kind_18 fK9 (by decide : fo_k 616 = 9) (by decide) 0 (by decide) fl_X7_7 (v := .ref (Λ.2.2.1 617)) rfl 21 rfl ?_
      refine fo_iconst C dX7_kind_21 (nI 2) ki_2 22 rfl ?_
      refine fo_iload_n C dX7_kind_22 1 rfl rfl 23 rfl ?_
      refine fo_iadd C dX7_kind_23 (nI (2 + p)) (nI_add _ _) 24 rfl ?_
      refine fo_iald C dX7_kind_24 (by decide : fo_k 617 = 20) (by rw [(show fo_n 617 = 150 from rfl)]; omega) (nI (kd p)) ((hP p (by omega)).1) 25 rfl ?_
      have hkb := hkp.1
      refine fo_i2c C dX7_kind_25 (nI (kd p)) (fo_chr (by omega)) 26 rfl ?_
      exact fin dX7_kind_26 (by first | exact (pk_charN (by omega)).1 | rfl) (⟨(by rw [fg_pr_t hp ho1] <;> rfl), (by rw [fg_pr_t hp ho1] <;> exact rfl), rfl, rfl⟩)
    · omega
set_option maxRecDepth 10000 in
set_option maxHeartbeats 4000000 in
theorem mX7_parameter {l : Launch} {Λ : fo_Lt} {I : fo_Mi} {D : fo_Md} {J : fo_Mj} {X : fo_Mi} {np lim : Nat} {kd par n : Nat → Nat} {v : Nat → Nat → Nat} {y : Int32} (ht : fm_T I 617 np lim kd par n v) : fk_i l yX7_parameter cX7_parameter 2 .int 2 43 Λ [.ref (Λ.2.2.1 616), .int (y)] I D J X ((fun r I' D' J' X' => r = (fg_pr np y (nI 0) (fun p => (0, nI (par p)))).2 ∧ I' = fo_r I 616 (upd (I 616) 5 (nI (fg_pr np y (nI 0) (fun p => (0, nI (par p)))).1)) ∧ D' = D ∧ J' = J)) := by
  obtain ⟨⟨ho1, ⟨ho2, ho3⟩, ho4, ho5, ho6⟩, hnp, hlim, hP, hS⟩ := id ht
  refine fo_si (by decide) [(0, .ref (Λ.2.2.1 616)), (1, .int (y))] rfl (Nat.le_of_ble_eq_true rfl) (fun K C fin => ?_)
  rcases hy : fo_inr y np with _ | _
  · skip
    refine fo_aload_n C dX7_parameter_0 0 rfl rfl 1 rfl ?_
    refine fo_aload_n C dX7_parameter_1 0 rfl rfl 2 rfl ?_
    refine fo_iload_n C dX7_parameter_2 1 rfl rfl 3 rfl ?_
    refine fo_qvi C dX7_parameter_3 (mX7_isProphet (y := y) ht) lv_X7_184 (by decide : fo_k 616 = 9) rfl (by decide) rfl ⟨Nat.le_of_ble_eq_true rfl, Nat.le_of_ble_eq_true rfl⟩ ⟨Nat.le_of_ble_eq_true rfl, Nat.le_of_ble_eq_true rfl⟩ [.ref (Λ.2.2.1 616)] rfl (Nat.le_of_ble_eq_true rfl) 6 rfl (fo_er ?_)
    first | rw [hsy] | rw [hy]
    refine fo_qvi C dX7_parameter_6 mX7_checked_f lv_X7_135 (by decide : fo_k 616 = 9) rfl (by decide) rfl ⟨Nat.le_of_ble_eq_true rfl, Nat.le_of_ble_eq_true rfl⟩ ⟨Nat.le_of_ble_eq_true rfl, Nat.le_of_ble_eq_true rfl⟩ [] rfl (Nat.le_of_ble_eq_true rfl) 9 rfl (fo_er ?_)
    replace ht := ht.th (g := upd (I 616) 5 (nI 1))
    refine fo_nif_le C (by omega) dX7_parameter_9 16 (by decide) 12 rfl (fun c13 => ?_) (fun c13 => ?_)
    · omega
    · refine fo_iconst C dX7_parameter_12 (nI 0) ki_0 13 rfl ?_
      refine fo_goto C dX7_parameter_13 25 (by decide) ?_
      exact fin dX7_parameter_25 rfl (⟨(by rw [fg_pr_f hy] <;> rfl), (by rw [fg_pr_f hy] <;> exact rfl), rfl, rfl⟩)
  · obtain ⟨p, hp, hp31, rfl⟩ := fo_inr_at hy
    have hkp := ho4 p hp
    have hnd := fp_need_in hkp
    have hsy : fo_inr (nI p) np = true := fo_inr_nI hp (by omega)
    refine fo_aload_n C dX7_parameter_0 0 rfl rfl 1 rfl ?_
    refine fo_aload_n C dX7_parameter_1 0 rfl rfl 2 rfl ?_
    refine fo_iload_n C dX7_parameter_2 1 rfl rfl 3 rfl ?_
    refine fo_qvi C dX7_parameter_3 (mX7_isProphet (y := (nI (p))) ht) lv_X7_184 (by decide : fo_k 616 = 9) rfl (by decide) rfl ⟨Nat.le_of_ble_eq_true rfl, Nat.le_of_ble_eq_true rfl⟩ ⟨Nat.le_of_ble_eq_true rfl, Nat.le_of_ble_eq_true rfl⟩ [.ref (Λ.2.2.1 616)] rfl (Nat.le_of_ble_eq_true rfl) 6 rfl (fo_er ?_)
    first | rw [hsy] | rw [hy]
    refine fo_qvi C dX7_parameter_6 mX7_checked_t lv_X7_135 (by decide : fo_k 616 = 9) rfl (by decide) rfl ⟨Nat.le_of_ble_eq_true rfl, Nat.le_of_ble_eq_true rfl⟩ ⟨Nat.le_of_ble_eq_true rfl, Nat.le_of_ble_eq_true rfl⟩ [] rfl (Nat.le_of_ble_eq_true rfl) 9 rfl (fo_er ?_)
    replace ht := ht.th (g := upd (I 616) 5 (nI 0))
    refine fo_nif_le C (by omega) dX7_parameter_9 16 (by decide) 12 rfl (fun c26 => ?_) (fun c26 => ?_)
    · refine fo_aload_n C dX7_parameter_16 0 rfl rfl 17 rfl ?_
      refine fo_get C dX7_parameter_17 fK9 (by decide : fo_k 616 = 9) (by decide) 0 (by decide) fl_X7_7 (v := .ref (Λ.2.2.1 617)) rfl 20 rfl ?_
      refine fo_bipush C dX7_parameter_20 (nI 10) kb_10 22 rfl ?_
      refine fo_iload_n C dX7_parameter_22 1 rfl rfl 23 rfl ?_
      refine fo_iadd C dX7_parameter_23 (nI (10 + p)) (nI_add _ _) 24 rfl ?_
      refine fo_iald C dX7_parameter_24 (by decide : fo_k 617 = 20) (by rw [(show fo_n 617 = 150 from rfl)]; omega) (nI (par p)) ((hP p (by omega)).2) 25 rfl ?_
      exact fin dX7_parameter_25 rfl (⟨(by rw [fg_pr_t hp ho1] <;> rfl), (by rw [fg_pr_t hp ho1] <;> exact rfl), rfl, rfl⟩)
    · omega
set_option maxRecDepth 10000 in
set_option maxHeartbeats 4000000 in
theorem mX7_isPair_f {l : Launch} {Λ : fo_Lt} {I : fo_Mi} {D : fo_Md} {J : fo_Mj} {X : fo_Mi} {np lim : Nat} {kd par n : Nat → Nat} {v : Nat → Nat → Nat} {y x : Int32} (hyx : (fo_inr y np && fo_inr x 4) = false) (ht : fm_T I 617 np lim kd par n v) : fk_i l yX7_isPair cX7_isPair 3 .boolean 2 43 Λ [.ref (Λ.2.2.1 616), .int (y), .int (x)] I D J X (fo_pr (nI 0) (fo_r I 616 (upd (I 616) 5 (nI 1))) D J X) := by
  obtain ⟨⟨ho1, ⟨ho2, ho3⟩, ho4, ho5, ho6⟩, hnp, hlim, hP, hS⟩ := id ht
  refine fo_si (by decide) [(0, .ref (Λ.2.2.1 616)), (1, .int (y)), (2, .int (x))] rfl (Nat.le_of_ble_eq_true rfl) (fun K C fin => ?_)
  rcases hy : fo_inr y np with _ | _
  · skip
    refine fo_aload_n C dX7_isPair_0 0 rfl rfl 1 rfl ?_
    refine fo_aload_n C dX7_isPair_1 0 rfl rfl 2 rfl ?_
    refine fo_iload_n C dX7_isPair_2 1 rfl rfl 3 rfl ?_
    refine fo_qvi C dX7_isPair_3 (mX7_isProphet (y := y) ht) lv_X7_184 (by decide : fo_k 616 = 9) rfl (by decide) rfl ⟨Nat.le_of_ble_eq_true rfl, Nat.le_of_ble_eq_true rfl⟩ ⟨Nat.le_of_ble_eq_true rfl, Nat.le_of_ble_eq_true rfl⟩ [.ref (Λ.2.2.1 616)] rfl (Nat.le_of_ble_eq_true rfl) 6 rfl (fo_er ?_)
    first | rw [hsy] | rw [hy]
    refine fo_bif_eq C dX7_isPair_6 20 (by decide) 9 rfl (fun c7 => ?_) (fun c7 => ?_)
    · refine fo_iconst C dX7_isPair_20 (nI 0) ki_0 21 rfl ?_
      refine fo_qvi C dX7_isPair_21 mX7_checked_f lv_X7_135 (by decide : fo_k 616 = 9) rfl (by decide) rfl ⟨Nat.le_of_ble_eq_true rfl, Nat.le_of_ble_eq_true rfl⟩ ⟨Nat.le_of_ble_eq_true rfl, Nat.le_of_ble_eq_true rfl⟩ [] rfl (Nat.le_of_ble_eq_true rfl) 24 rfl (fo_er ?_)
      replace ht := ht.th (g := upd (I 616) 5 (nI 1))
      refine fo_nif_ne C (by omega) dX7_isPair_24 31 (by decide) 27 rfl (fun c14 => ?_) (fun c14 => ?_)
      · refine fo_iconst C dX7_isPair_31 (nI 0) ki_0 32 rfl ?_
        exact fin dX7_isPair_32 (by first | rfl | exact fo_nb _) (⟨rfl, rfl, rfl, rfl, rfl⟩)
      · omega
    · exact absurd c7 (by decide)
  · have hx : fo_inr x 4 = false := by rw [hy] at hyx; exact hyx
    refine fo_aload_n C dX7_isPair_0 0 rfl rfl 1 rfl ?_
    refine fo_aload_n C dX7_isPair_1 0 rfl rfl 2 rfl ?_
    refine fo_iload_n C dX7_isPair_2 1 rfl rfl 3 rfl ?_
    refine fo_qvi C dX7_isPair_3 (mX7_isProphet (y := y) ht) lv_X7_184 (by decide : fo_k 616 = 9) rfl (by decide) rfl ⟨Nat.le_of_ble_eq_true rfl, Nat.le_of_ble_eq_true rfl⟩ ⟨Nat.le_of_ble_eq_true rfl, Nat.le_of_ble_eq_true rfl⟩ [.ref (Λ.2.2.1 616)] rfl (Nat.le_of_ble_eq_true rfl) 6 rfl (fo_er ?_)
    first | rw [hsy] | rw [hy]
    refine fo_bif_eq C dX7_isPair_6 20 (by decide) 9 rfl (fun c21 => ?_) (fun c21 => ?_)
    · exact absurd c21 (by decide)
    · refine fo_iload_n C dX7_isPair_9 2 rfl rfl 10 rfl ?_
      refine fo_qsi C dX7_isPair_10 (mX7_isSeries (x := x)) ls_X7_120 rfl ⟨Nat.le_of_ble_eq_true rfl, Nat.le_of_ble_eq_true rfl⟩ ⟨Nat.le_of_ble_eq_true rfl, Nat.le_of_ble_eq_true rfl⟩ [.ref (Λ.2.2.1 616)] rfl (Nat.le_of_ble_eq_true rfl) 13 rfl (fo_er ?_)
      first | rw [hsx] | rw [hx]
      refine fo_bif_eq C dX7_isPair_13 20 (by decide) 16 rfl (fun c28 => ?_) (fun c28 => ?_)
      · refine fo_iconst C dX7_isPair_20 (nI 0) ki_0 21 rfl ?_
        refine fo_qvi C dX7_isPair_21 mX7_checked_f lv_X7_135 (by decide : fo_k 616 = 9) rfl (by decide) rfl ⟨Nat.le_of_ble_eq_true rfl, Nat.le_of_ble_eq_true rfl⟩ ⟨Nat.le_of_ble_eq_true rfl, Nat.le_of_ble_eq_true rfl⟩ [] rfl (Nat.le_of_ble_eq_true rfl) 24 rfl (fo_er ?_)
        replace ht := ht.th (g := upd (I 616) 5 (nI 1))
        refine fo_nif_ne C (by omega) dX7_isPair_24 31 (by decide) 27 rfl (fun c35 => ?_) (fun c35 => ?_)
        · refine fo_iconst C dX7_isPair_31 (nI 0) ki_0 32 rfl ?_
          exact fin dX7_isPair_32 (by first | rfl | exact fo_nb _) (⟨rfl, rfl, rfl, rfl, rfl⟩)
        · omega
      · exact absurd c28 (by decide)
set_option maxRecDepth 10000 in
set_option maxHeartbeats 4000000 in
theorem mX7_isPair_t {l : Launch} {Λ : fo_Lt} {I : fo_Mi} {D : fo_Md} {J : fo_Mj} {X : fo_Mi} {np lim : Nat} {kd par n : Nat → Nat} {v : Nat → Nat → Nat} {p k : Nat} (hp : p < np) (hk : k < 4) (ht : fm_T I 617 np lim kd par n v) : fk_i l yX7_isPair cX7_isPair 3 .boolean 2 43 Λ [.ref (Λ.2.2.1 616), .int (nI p), .int (nI k)] I D J X (fo_pr (nI 1) (fo_r I 616 (upd (I 616) 5 (nI 0))) D J X) := by
  obtain ⟨⟨ho1, ⟨ho2, ho3⟩, ho4, ho5, ho6⟩, hnp, hlim, hP, hS⟩ := id ht
  have hsy : fo_inr (nI p) np = true := fo_inr_nI hp (by omega)
  have hsx : fo_inr (nI k) 4 = true := fo_inr_nI hk (by omega)
  refine fo_si (by decide) [(0, .ref (Λ.2.2.1 616)), (1, .int (nI p)), (2, .int (nI k))] rfl (Nat.le_of_ble_eq_true rfl) (fun K C fin => ?_)
  refine fo_aload_n C dX7_isPair_0 0 rfl rfl 1 rfl ?_
  refine fo_aload_n C dX7_isPair_1 0 rfl rfl 2 rfl ?_
  refine fo_iload_n C dX7_isPair_2 1 rfl rfl 3 rfl ?_
  refine fo_qvi C dX7_isPair_3 (mX7_isProphet (y := (nI (p))) ht) lv_X7_184 (by decide : fo_k 616 = 9) rfl (by decide) rfl ⟨Nat.le_of_ble_eq_true rfl, Nat.le_of_ble_eq_true rfl⟩ ⟨Nat.le_of_ble_eq_true rfl, Nat.le_of_ble_eq_true rfl⟩ [.ref (Λ.2.2.1 616)] rfl (Nat.le_of_ble_eq_true rfl) 6 rfl (fo_er ?_)
  first | rw [hsy] | rw [hy]
  refine fo_bif_eq C dX7_isPair_6 20 (by decide) 9 rfl (fun c7 => ?_) (fun c7 => ?_)
  · exact absurd c7 (by decide)
  · refine fo_iload_n C dX7_isPair_9 2 rfl rfl 10 rfl ?_
    refine fo_qsi C dX7_isPair_10 (mX7_isSeries (x := (nI (k)))) ls_X7_120 rfl ⟨Nat.le_of_ble_eq_true rfl, Nat.le_of_ble_eq_true rfl⟩ ⟨Nat.le_of_ble_eq_true rfl, Nat.le_of_ble_eq_true rfl⟩ [.ref (Λ.2.2.1 616)] rfl (Nat.le_of_ble_eq_true rfl) 13 rfl (fo_er ?_)
    first | rw [hsx] | rw [hx]
    refine fo_bif_eq C dX7_isPair_13 20 (by decide) 16 rfl (fun c14 => ?_) (fun c14 => ?_)
    · exact absurd c14 (by decide)
    · refine fo_iconst C dX7_isPair_16 (nI 1) ki_1 17 rfl ?_
      refine fo_goto C dX7_isPair_17 21 (by decide) ?_
      refine fo_qvi C dX7_isPair_21 mX7_checked_t lv_X7_135 (by decide : fo_k 616 = 9) rfl (by decide) rfl ⟨Nat.le_of_ble_eq_true rfl, Nat.le_of_ble_eq_true rfl⟩ ⟨Nat.le_of_ble_eq_true rfl, Nat.le_of_ble_eq_true rfl⟩ [] rfl (Nat.le_of_ble_eq_true rfl) 24 rfl (fo_er ?_)
      replace ht := ht.th (g := upd (I 616) 5 (nI 0))
      refine fo_nif_ne C (by omega) dX7_isPair_24 31 (by decide) 27 rfl (fun c21 => ?_) (fun c21 => ?_)
      · omega
      · refine fo_iconst C dX7_isPair_27 (nI 1) ki_1 28 rfl ?_
        refine fo_goto C dX7_isPair_28 32 (by decide) ?_
        exact fin dX7_isPair_32 (by first | rfl | exact fo_nb _) (⟨rfl, rfl, rfl, rfl, rfl⟩)
set_option maxRecDepth 10000 in
set_option maxHeartbeats 4000000 in
theorem mX7_hasForecast {l : Launch} {Λ : fo_Lt} {I : fo_Mi} {D : fo_Md} {J : fo_Mj} {X : fo_Mi} {np lim : Nat} {kd par n : Nat → Nat} {v : Nat → Nat → Nat} {y x : Int32} (ht : fm_T I 617 np lim kd par n v) : fk_i l yX7_hasForecast cX7_hasForecast 3 .boolean 3 65 Λ [.ref (Λ.2.2.1 616), .int (y), .int (x)] I D J X ((fun r I' D' J' X' => r = (fg_pa np y x (fo_b false) (fun p k => (0, fo_b (decide (fp_need (kd p) (par p) ≤ n k))))).2 ∧ I' = fo_r I 616 (upd (I 616) 5 (nI (fg_pa np y x (fo_b false) (fun p k => (0, fo_b (decide (fp_need (kd p) (par p) ≤ n k))))).1)) ∧ D' = D ∧ J' = J)) := by
  obtain ⟨⟨ho1, ⟨ho2, ho3⟩, ho4, ho5, ho6⟩, hnp, hlim, hP, hS⟩ := id ht
  refine fo_si (by decide) [(0, .ref (Λ.2.2.1 616)), (1, .int (y)), (2, .int (x))] rfl (Nat.le_of_ble_eq_true rfl) (fun K C fin => ?_)
  rcases hyx : (fo_inr y np && fo_inr x 4) with _ | _
  · skip
    refine fo_aload_n C dX7_hasForecast_0 0 rfl rfl 1 rfl ?_
    refine fo_iload_n C dX7_hasForecast_1 1 rfl rfl 2 rfl ?_
    refine fo_iload_n C dX7_hasForecast_2 2 rfl rfl 3 rfl ?_
    refine fo_qvi C dX7_hasForecast_3 (mX7_isPair_f (y := y) (x := x) hyx ht) lv_X7_187 (by decide : fo_k 616 = 9) rfl (by decide) rfl ⟨Nat.le_of_ble_eq_true rfl, Nat.le_of_ble_eq_true rfl⟩ ⟨Nat.le_of_ble_eq_true rfl, Nat.le_of_ble_eq_true rfl⟩ [] rfl (Nat.le_of_ble_eq_true rfl) 6 rfl (fo_er ?_)
    replace ht := ht.th (g := upd (I 616) 5 (nI 1))
    refine fo_nif_eq C (by omega) dX7_hasForecast_6 26 (by decide) 9 rfl (fun c7 => ?_) (fun c7 => ?_)
    · refine fo_iconst C dX7_hasForecast_26 (nI 0) ki_0 27 rfl ?_
      exact fin dX7_hasForecast_27 (by first | rfl | exact fo_nb _) (⟨(by rw [fg_pa_f hyx] <;> rfl), (by rw [fg_pa_f hyx] <;> exact rfl), rfl, rfl⟩)
    · omega
  · obtain ⟨hy, hx⟩ := (Bool.and_eq_true _ _).mp hyx
    obtain ⟨p, hp, hp31, rfl⟩ := fo_inr_at hy
    obtain ⟨k, hk, hk31, rfl⟩ := fo_inr_at hx
    have hkp := ho4 p hp
    have hnk := ho5 k hk
    have hnd := fp_need_in hkp
    refine fo_aload_n C dX7_hasForecast_0 0 rfl rfl 1 rfl ?_
    refine fo_iload_n C dX7_hasForecast_1 1 rfl rfl 2 rfl ?_
    refine fo_iload_n C dX7_hasForecast_2 2 rfl rfl 3 rfl ?_
    refine fo_qvi C dX7_hasForecast_3 (mX7_isPair_t (p := p) (k := k) hp hk ht) lv_X7_187 (by decide : fo_k 616 = 9) rfl (by decide) rfl ⟨Nat.le_of_ble_eq_true rfl, Nat.le_of_ble_eq_true rfl⟩ ⟨Nat.le_of_ble_eq_true rfl, Nat.le_of_ble_eq_true rfl⟩ [] rfl (Nat.le_of_ble_eq_true rfl) 6 rfl (fo_er ?_)
    replace ht := ht.th (g := upd (I 616) 5 (nI 0))
    refine fo_nif_eq C (by omega) dX7_hasForecast_6 26 (by decide) 9 rfl (fun c14 => ?_) (fun c14 => ?_)
    · omega
    · refine fo_aload_n C dX7_hasForecast_9 0 rfl rfl 10 rfl ?_
      refine fo_iload_n C dX7_hasForecast_10 1 rfl rfl 11 rfl ?_
      refine fo_aload_n C dX7_hasForecast_11 0 rfl rfl 12 rfl ?_
      refine fo_iload_n C dX7_hasForecast_12 2 rfl rfl 13 rfl ?_
      refine fo_qvi C dX7_hasForecast_13 (mX7_daysOf (k := k) (by omega) ht) lv_X7_92 (by decide : fo_k 616 = 9) rfl (by decide) rfl ⟨Nat.le_of_ble_eq_true rfl, Nat.le_of_ble_eq_true rfl⟩ ⟨Nat.le_of_ble_eq_true rfl, Nat.le_of_ble_eq_true rfl⟩ [.int (nI p), .ref (Λ.2.2.1 616)] rfl (Nat.le_of_ble_eq_true rfl) 16 rfl (fo_er ?_)
      have q21 := ho5 k (by omega)
      refine fo_qvi C dX7_hasForecast_16 (mX7_foresees (p := p) (e := n k) hp hnk ht) lv_X7_190 (by decide : fo_k 616 = 9) rfl (by decide) rfl ⟨Nat.le_of_ble_eq_true rfl, Nat.le_of_ble_eq_true rfl⟩ ⟨Nat.le_of_ble_eq_true rfl, Nat.le_of_ble_eq_true rfl⟩ [] rfl (Nat.le_of_ble_eq_true rfl) 19 rfl (fo_er ?_)
      refine fo_bif_eq C dX7_hasForecast_19 26 (by decide) 22 rfl (fun c28 => ?_) (fun c28 => ?_)
      · refine fo_iconst C dX7_hasForecast_26 (nI 0) ki_0 27 rfl ?_
        exact fin dX7_hasForecast_27 (by first | rfl | exact fo_nb _) (⟨(by rw [fg_pa_t hp ho1 hk] <;> first | rfl | exact fo_b0 c28), (by rw [fg_pa_t hp ho1 hk] <;> exact rfl), rfl, rfl⟩)
      · refine fo_iconst C dX7_hasForecast_22 (nI 1) ki_1 23 rfl ?_
        refine fo_goto C dX7_hasForecast_23 27 (by decide) ?_
        exact fin dX7_hasForecast_27 (by first | rfl | exact fo_nb _) (⟨(by rw [fg_pa_t hp ho1 hk] <;> first | rfl | exact fo_b1 c28), (by rw [fg_pa_t hp ho1 hk] <;> exact rfl), rfl, rfl⟩)
set_option maxRecDepth 10000 in
set_option maxHeartbeats 4000000 in
theorem mX7_next {l : Launch} {Λ : fo_Lt} {I : fo_Mi} {D : fo_Md} {J : fo_Mj} {X : fo_Mi} {np lim : Nat} {kd par n : Nat → Nat} {v : Nat → Nat → Nat} {y x : Int32} (ht : fm_T I 617 np lim kd par n v) : fk_d l yX7_next cX7_next 3 3 75 Λ [.ref (Λ.2.2.1 616), .int (y), .int (x)] I D J X ((fun r I' D' J' X' => r = (fg_pa np y x FP.dconst0 (fun p k => if fp_need (kd p) (par p) ≤ n k then (0, fp_fore (kd p) (par p) (v k) (n k)) else (2, FP.dconst0))).2 ∧ I' = fo_r I 616 (upd (I 616) 5 (nI (fg_pa np y x FP.dconst0 (fun p k => if fp_need (kd p) (par p) ≤ n k then (0, fp_fore (kd p) (par p) (v k) (n k)) else (2, FP.dconst0))).1)) ∧ D' = D ∧ J' = J)) := by
  obtain ⟨⟨ho1, ⟨ho2, ho3⟩, ho4, ho5, ho6⟩, hnp, hlim, hP, hS⟩ := id ht
  refine fo_sd (by decide) [(0, .ref (Λ.2.2.1 616)), (1, .int (y)), (2, .int (x))] rfl (Nat.le_of_ble_eq_true rfl) (fun K C fin => ?_)
  rcases hyx : (fo_inr y np && fo_inr x 4) with _ | _
  · skip
    refine fo_aload_n C dX7_next_0 0 rfl rfl 1 rfl ?_
    refine fo_iload_n C dX7_next_1 1 rfl rfl 2 rfl ?_
    refine fo_iload_n C dX7_next_2 2 rfl rfl 3 rfl ?_
    refine fo_qvi C dX7_next_3 (mX7_isPair_f (y := y) (x := x) hyx ht) lv_X7_187 (by decide : fo_k 616 = 9) rfl (by decide) rfl ⟨Nat.le_of_ble_eq_true rfl, Nat.le_of_ble_eq_true rfl⟩ ⟨Nat.le_of_ble_eq_true rfl, Nat.le_of_ble_eq_true rfl⟩ [] rfl (Nat.le_of_ble_eq_true rfl) 6 rfl (fo_er ?_)
    replace ht := ht.th (g := upd (I 616) 5 (nI 1))
    refine fo_nif_ne C (by omega) dX7_next_6 11 (by decide) 9 rfl (fun c7 => ?_) (fun c7 => ?_)
    · omega
    · refine fo_dconst0 C dX7_next_9 10 rfl ?_
      exact fin dX7_next_10 (⟨(by rw [fg_pa_f hyx] <;> rfl), (by rw [fg_pa_f hyx] <;> exact rfl), rfl, rfl⟩)
  · obtain ⟨hy, hx⟩ := (Bool.and_eq_true _ _).mp hyx
    obtain ⟨p, hp, hp31, rfl⟩ := fo_inr_at hy
    obtain ⟨k, hk, hk31, rfl⟩ := fo_inr_at hx
    have hkp := ho4 p hp
    have hnk := ho5 k hk
    have hnd := fp_need_in hkp
    rcases Nat.lt_or_ge (n k) (fp_need (kd p) (par p)) with hc3 | hc3
    · skip
      refine fo_aload_n C dX7_next_0 0 rfl rfl 1 rfl ?_
      refine fo_iload_n C dX7_next_1 1 rfl rfl 2 rfl ?_
      refine fo_iload_n C dX7_next_2 2 rfl rfl 3 rfl ?_
      refine fo_qvi C dX7_next_3 (mX7_isPair_t (p := p) (k := k) hp hk ht) lv_X7_187 (by decide : fo_k 616 = 9) rfl (by decide) rfl ⟨Nat.le_of_ble_eq_true rfl, Nat.le_of_ble_eq_true rfl⟩ ⟨Nat.le_of_ble_eq_true rfl, Nat.le_of_ble_eq_true rfl⟩ [] rfl (Nat.le_of_ble_eq_true rfl) 6 rfl (fo_er ?_)
      replace ht := ht.th (g := upd (I 616) 5 (nI 0))
      refine fo_nif_ne C (by omega) dX7_next_6 11 (by decide) 9 rfl (fun c14 => ?_) (fun c14 => ?_)
      · refine fo_aload_n C dX7_next_11 0 rfl rfl 12 rfl ?_
        refine fo_aload_n C dX7_next_12 0 rfl rfl 13 rfl ?_
        refine fo_iload_n C dX7_next_13 1 rfl rfl 14 rfl ?_
        refine fo_aload_n C dX7_next_14 0 rfl rfl 15 rfl ?_
        refine fo_iload_n C dX7_next_15 2 rfl rfl 16 rfl ?_
        refine fo_qvi C dX7_next_16 (mX7_daysOf (k := k) (by omega) ht) lv_X7_92 (by decide : fo_k 616 = 9) rfl (by decide) rfl ⟨Nat.le_of_ble_eq_true rfl, Nat.le_of_ble_eq_true rfl⟩ ⟨Nat.le_of_ble_eq_true rfl, Nat.le_of_ble_eq_true rfl⟩ [.int (nI p), .ref (Λ.2.2.1 616), .ref (Λ.2.2.1 616)] rfl (Nat.le_of_ble_eq_true rfl) 19 rfl (fo_er ?_)
        have q21 := ho5 k (by omega)
        refine fo_qvi C dX7_next_19 (mX7_foresees (p := p) (e := n k) hp hnk ht) lv_X7_190 (by decide : fo_k 616 = 9) rfl (by decide) rfl ⟨Nat.le_of_ble_eq_true rfl, Nat.le_of_ble_eq_true rfl⟩ ⟨Nat.le_of_ble_eq_true rfl, Nat.le_of_ble_eq_true rfl⟩ [.ref (Λ.2.2.1 616)] rfl (Nat.le_of_ble_eq_true rfl) 22 rfl (fo_er ?_)
        rw [decide_eq_false (by omega)]
        refine fo_bif_eq C dX7_next_22 29 (by decide) 25 rfl (fun c28 => ?_) (fun c28 => ?_)
        · refine fo_iconst C dX7_next_29 (nI 2) ki_2 30 rfl ?_
          refine fo_put C dX7_next_30 fK9 (by decide : fo_k 616 = 9) (by decide) 5 (by decide) fl_X7_25 rfl rfl rfl rfl (Nat.le_of_ble_eq_true rfl) 33 rfl ?_
          replace ht : fm_T (fo_r (fo_r I 616 (upd (I 616) 5 (nI 0))) 616 (upd ((fo_r I 616 (upd (I 616) 5 (nI 0))) 616) 5 (nI (2)))) 617 np lim kd par n v := ht
          refine fo_aload_n C dX7_next_33 0 rfl rfl 34 rfl ?_
          refine fo_get C dX7_next_34 fK9 (by decide : fo_k 616 = 9) (by decide) 5 (by decide) fl_X7_25 (v := .int (nI 2)) (congrArg (fun x => some (Value.int x)) ((by rw [fo_rs, pk_us]))) 37 rfl ?_
          refine fo_nif_le C (by omega) dX7_next_37 44 (by decide) 40 rfl (fun c29 => ?_) (fun c29 => ?_)
          · omega
          · refine fo_dconst0 C dX7_next_40 41 rfl ?_
            refine fo_goto C dX7_next_41 55 (by decide) ?_
            exact fin dX7_next_55 (⟨(by rw [fg_pa_t hp ho1 hk, if_neg (by omega)] <;> rfl), (by rw [fg_pa_t hp ho1 hk, if_neg (by omega)] <;> exact fo_th2 I _ _), rfl, rfl⟩)
        · exact absurd c28 (by decide)
      · omega
    · skip
      refine fo_aload_n C dX7_next_0 0 rfl rfl 1 rfl ?_
      refine fo_iload_n C dX7_next_1 1 rfl rfl 2 rfl ?_
      refine fo_iload_n C dX7_next_2 2 rfl rfl 3 rfl ?_
      refine fo_qvi C dX7_next_3 (mX7_isPair_t (p := p) (k := k) hp hk ht) lv_X7_187 (by decide : fo_k 616 = 9) rfl (by decide) rfl ⟨Nat.le_of_ble_eq_true rfl, Nat.le_of_ble_eq_true rfl⟩ ⟨Nat.le_of_ble_eq_true rfl, Nat.le_of_ble_eq_true rfl⟩ [] rfl (Nat.le_of_ble_eq_true rfl) 6 rfl (fo_er ?_)
      replace ht := ht.th (g := upd (I 616) 5 (nI 0))
      refine fo_nif_ne C (by omega) dX7_next_6 11 (by decide) 9 rfl (fun c36 => ?_) (fun c36 => ?_)
      · refine fo_aload_n C dX7_next_11 0 rfl rfl 12 rfl ?_
        refine fo_aload_n C dX7_next_12 0 rfl rfl 13 rfl ?_
        refine fo_iload_n C dX7_next_13 1 rfl rfl 14 rfl ?_
        refine fo_aload_n C dX7_next_14 0 rfl rfl 15 rfl ?_
        refine fo_iload_n C dX7_next_15 2 rfl rfl 16 rfl ?_
        refine fo_qvi C dX7_next_16 (mX7_daysOf (k := k) (by omega) ht) lv_X7_92 (by decide : fo_k 616 = 9) rfl (by decide) rfl ⟨Nat.le_of_ble_eq_true rfl, Nat.le_of_ble_eq_true rfl⟩ ⟨Nat.le_of_ble_eq_true rfl, Nat.le_of_ble_eq_true rfl⟩ [.int (nI p), .ref (Λ.2.2.1 616), .ref (Λ.2.2.1 616)] rfl (Nat.le_of_ble_eq_true rfl) 19 rfl (fo_er ?_)
        have q43 := ho5 k (by omega)
        refine fo_qvi C dX7_next_19 (mX7_foresees (p := p) (e := n k) hp hnk ht) lv_X7_190 (by decide : fo_k 616 = 9) rfl (by decide) rfl ⟨Nat.le_of_ble_eq_true rfl, Nat.le_of_ble_eq_true rfl⟩ ⟨Nat.le_of_ble_eq_true rfl, Nat.le_of_ble_eq_true rfl⟩ [.ref (Λ.2.2.1 616)] rfl (Nat.le_of_ble_eq_true rfl) 22 rfl (fo_er ?_)
        rw [decide_eq_true hc3]
        refine fo_bif_eq C dX7_next_22 29 (by decide) 25 rfl (fun c50 => ?_) (fun c50 => ?_)
        · exact absurd c50 (by decide)
        · refine fo_iconst C dX7_next_25 (nI 0) ki_0 26 rfl ?_
          refine fo_goto C dX7_next_26 30 (by decide) ?_
          refine fo_put C dX7_next_30 fK9 (by decide : fo_k 616 = 9) (by decide) 5 (by decide) fl_X7_25 rfl rfl rfl rfl (Nat.le_of_ble_eq_true rfl) 33 rfl ?_
          replace ht : fm_T (fo_r (fo_r I 616 (upd (I 616) 5 (nI 0))) 616 (upd ((fo_r I 616 (upd (I 616) 5 (nI 0))) 616) 5 (nI (0)))) 617 np lim kd par n v := ht
          refine fo_aload_n C dX7_next_33 0 rfl rfl 34 rfl ?_
          refine fo_get C dX7_next_34 fK9 (by decide : fo_k 616 = 9) (by decide) 5 (by decide) fl_X7_25 (v := .int (nI 0)) (congrArg (fun x => some (Value.int x)) ((by rw [fo_rs, pk_us]))) 37 rfl ?_
          refine fo_nif_le C (by omega) dX7_next_37 44 (by decide) 40 rfl (fun c51 => ?_) (fun c51 => ?_)
          · refine fo_aload_n C dX7_next_44 0 rfl rfl 45 rfl ?_
            refine fo_iload_n C dX7_next_45 1 rfl rfl 46 rfl ?_
            refine fo_iload_n C dX7_next_46 2 rfl rfl 47 rfl ?_
            refine fo_aload_n C dX7_next_47 0 rfl rfl 48 rfl ?_
            refine fo_iload_n C dX7_next_48 2 rfl rfl 49 rfl ?_
            refine fo_qvi C dX7_next_49 (mX7_daysOf (k := k) (by omega) ht) lv_X7_92 (by decide : fo_k 616 = 9) rfl (by decide) rfl ⟨Nat.le_of_ble_eq_true rfl, Nat.le_of_ble_eq_true rfl⟩ ⟨Nat.le_of_ble_eq_true rfl, Nat.le_of_ble_eq_true rfl⟩ [.int (nI k), .int (nI p), .ref (Λ.2.2.1 616)] rfl (Nat.le_of_ble_eq_true rfl) 52 rfl (fo_er ?_)
            have q58 := ho5 k (by omega)
            refine fo_qvd C dX7_next_52 (mX7_foreseen (p := p) (k := k) (e := n k) hp hk (Nat.le_refl _) hc3 ht) lv_X7_193 (by decide : fo_k 616 = 9) rfl (by decide) rfl ⟨Nat.le_of_ble_eq_true rfl, Nat.le_of_ble_eq_true rfl⟩ ⟨Nat.le_of_ble_eq_true rfl, Nat.le_of_ble_eq_true rfl⟩ [] rfl (Nat.le_of_ble_eq_true rfl) 55 rfl (fo_es (fun X63 => ?_))
            exact fin dX7_next_55 (⟨(by rw [fg_pa_t hp ho1 hk, if_pos hc3] <;> rfl), (by rw [fg_pa_t hp ho1 hk, if_pos hc3] <;> exact fo_th2 I _ _), rfl, rfl⟩)
          · omega
      · omega
set_option maxRecDepth 10000 in
set_option maxHeartbeats 4000000 in
theorem mX7_forecast {l : Launch} {Λ : fo_Lt} {I : fo_Mi} {D : fo_Md} {J : fo_Mj} {X : fo_Mi} {np lim : Nat} {kd par n : Nat → Nat} {v : Nat → Nat → Nat} {y x : Int32} (ht : fm_T I 617 np lim kd par n v) : fk_d l yX7_forecast cX7_forecast 3 4 97 Λ [.ref (Λ.2.2.1 616), .int (y), .int (x)] I D J X ((fun r I' D' J' X' => r = (fg_pa np y x FP.dconst0 (fun p k => if fp_need (kd p) (par p) ≤ n k then (0, fp_fore (kd p) (par p) (v k) (n k)) else (2, FP.dconst0))).2 ∧ I' = fo_r I 616 (upd (I 616) 5 (nI (fg_pa np y x FP.dconst0 (fun p k => if fp_need (kd p) (par p) ≤ n k then (0, fp_fore (kd p) (par p) (v k) (n k)) else (2, FP.dconst0))).1)) ∧ D' = D ∧ J' = J)) := by
  refine fo_sd (by decide) [(0, .ref (Λ.2.2.1 616)), (1, .int (y)), (2, .int (x))] rfl (Nat.le_of_ble_eq_true rfl) (fun K C fin => ?_)
  refine fo_aload_n C dX7_forecast_0 0 rfl rfl 1 rfl ?_
  refine fo_iload_n C dX7_forecast_1 1 rfl rfl 2 rfl ?_
  refine fo_iload_n C dX7_forecast_2 2 rfl rfl 3 rfl ?_
  refine fo_qvd C dX7_forecast_3 (mX7_next (y := y) (x := x) ht) lv_X7_196 (by decide : fo_k 616 = 9) rfl (by decide) rfl ⟨Nat.le_of_ble_eq_true rfl, Nat.le_of_ble_eq_true rfl⟩ ⟨Nat.le_of_ble_eq_true rfl, Nat.le_of_ble_eq_true rfl⟩ [] rfl (Nat.le_of_ble_eq_true rfl) 6 rfl (fun r1 I2 D3 J4 X5 p6 => ?_)
  obtain ⟨rfl, rfl, z3, z4⟩ := p6
  obtain rfl := z3.symm
  obtain rfl := z4.symm
  exact fin dX7_forecast_6 (⟨rfl, rfl, rfl, rfl⟩)
set_option maxRecDepth 10000 in
set_option maxHeartbeats 4000000 in
theorem mX7_errors {l : Launch} {Λ : fo_Lt} {I : fo_Mi} {D : fo_Md} {J : fo_Mj} {X : fo_Mi} {np lim : Nat} {kd par n : Nat → Nat} {v : Nat → Nat → Nat} {y x : Int32} (ht : fm_T I 617 np lim kd par n v) : fk_i l yX7_errors cX7_errors 3 .int 3 65 Λ [.ref (Λ.2.2.1 616), .int (y), .int (x)] I D J X ((fun r I' D' J' X' => r = (fg_pa np y x (nI 0) (fun p k => (0, nI (n k - fp_need (kd p) (par p))))).2 ∧ I' = fo_r I 616 (upd (I 616) 5 (nI (fg_pa np y x (nI 0) (fun p k => (0, nI (n k - fp_need (kd p) (par p))))).1)) ∧ D' = D ∧ J' = J)) := by
  obtain ⟨⟨ho1, ⟨ho2, ho3⟩, ho4, ho5, ho6⟩, hnp, hlim, hP, hS⟩ := id ht
  refine fo_si (by decide) [(0, .ref (Λ.2.2.1 616)), (1, .int (y)), (2, .int (x))] rfl (Nat.le_of_ble_eq_true rfl) (fun K C fin => ?_)
  rcases hyx : (fo_inr y np && fo_inr x 4) with _ | _
  · skip
    refine fo_aload_n C dX7_errors_0 0 rfl rfl 1 rfl ?_
    refine fo_iload_n C dX7_errors_1 1 rfl rfl 2 rfl ?_
    refine fo_iload_n C dX7_errors_2 2 rfl rfl 3 rfl ?_
    refine fo_qvi C dX7_errors_3 (mX7_isPair_f (y := y) (x := x) hyx ht) lv_X7_187 (by decide : fo_k 616 = 9) rfl (by decide) rfl ⟨Nat.le_of_ble_eq_true rfl, Nat.le_of_ble_eq_true rfl⟩ ⟨Nat.le_of_ble_eq_true rfl, Nat.le_of_ble_eq_true rfl⟩ [] rfl (Nat.le_of_ble_eq_true rfl) 6 rfl (fo_er ?_)
    replace ht := ht.th (g := upd (I 616) 5 (nI 1))
    refine fo_nif_eq C (by omega) dX7_errors_6 18 (by decide) 9 rfl (fun c7 => ?_) (fun c7 => ?_)
    · refine fo_iconst C dX7_errors_18 (nI 0) ki_0 19 rfl ?_
      exact fin dX7_errors_19 rfl (⟨(by rw [fg_pa_f hyx] <;> rfl), (by rw [fg_pa_f hyx] <;> exact rfl), rfl, rfl⟩)
    · omega
  · obtain ⟨hy, hx⟩ := (Bool.and_eq_true _ _).mp hyx
    obtain ⟨p, hp, hp31, rfl⟩ := fo_inr_at hy
    obtain ⟨k, hk, hk31, rfl⟩ := fo_inr_at hx
    have hkp := ho4 p hp
    have hnk := ho5 k hk
    have hnd := fp_need_in hkp
    refine fo_aload_n C dX7_errors_0 0 rfl rfl 1 rfl ?_
    refine fo_iload_n C dX7_errors_1 1 rfl rfl 2 rfl ?_
    refine fo_iload_n C dX7_errors_2 2 rfl rfl 3 rfl ?_
    refine fo_qvi C dX7_errors_3 (mX7_isPair_t (p := p) (k := k) hp hk ht) lv_X7_187 (by decide : fo_k 616 = 9) rfl (by decide) rfl ⟨Nat.le_of_ble_eq_true rfl, Nat.le_of_ble_eq_true rfl⟩ ⟨Nat.le_of_ble_eq_true rfl, Nat.le_of_ble_eq_true rfl⟩ [] rfl (Nat.le_of_ble_eq_true rfl) 6 rfl (fo_er ?_)
    replace ht := ht.th (g := upd (I 616) 5 (nI 0))
    refine fo_nif_eq C (by omega) dX7_errors_6 18 (by decide) 9 rfl (fun c14 => ?_) (fun c14 => ?_)
    · omega
    · refine fo_aload_n C dX7_errors_9 0 rfl rfl 10 rfl ?_
      refine fo_iload_n C dX7_errors_10 1 rfl rfl 11 rfl ?_
      refine fo_iload_n C dX7_errors_11 2 rfl rfl 12 rfl ?_
      refine fo_qvi C dX7_errors_12 (mX7_errorsOf (p := p) (k := k) hp (by omega) ht) lv_X7_205 (by decide : fo_k 616 = 9) rfl (by decide) rfl ⟨Nat.le_of_ble_eq_true rfl, Nat.le_of_ble_eq_true rfl⟩ ⟨Nat.le_of_ble_eq_true rfl, Nat.le_of_ble_eq_true rfl⟩ [] rfl (Nat.le_of_ble_eq_true rfl) 15 rfl (fo_er ?_)
      have q21 := ho5 k (by omega)
      refine fo_goto C dX7_errors_15 19 (by decide) ?_
      exact fin dX7_errors_19 rfl (⟨(by rw [fg_pa_t hp ho1 hk] <;> rfl), (by rw [fg_pa_t hp ho1 hk] <;> exact rfl), rfl, rfl⟩)
set_option maxRecDepth 10000 in
set_option maxHeartbeats 4000000 in
theorem mX7_errorSum {l : Launch} {Λ : fo_Lt} {I : fo_Mi} {D : fo_Md} {J : fo_Mj} {X : fo_Mi} {np lim : Nat} {kd par n : Nat → Nat} {v : Nat → Nat → Nat} {y x : Int32} (ht : fm_T I 617 np lim kd par n v) : fk_d l yX7_errorSum cX7_errorSum 3 5 125 Λ [.ref (Λ.2.2.1 616), .int (y), .int (x)] I D J X ((fun r I' D' J' X' => r = (fg_pa np y x FP.dconst0 (fun p k => (0, fp_es (kd p) (par p) (v k) (n k)))).2 ∧ I' = fo_r I 616 (upd (I 616) 5 (nI (fg_pa np y x FP.dconst0 (fun p k => (0, fp_es (kd p) (par p) (v k) (n k)))).1)) ∧ D' = D ∧ J' = J)) := by
  obtain ⟨⟨ho1, ⟨ho2, ho3⟩, ho4, ho5, ho6⟩, hnp, hlim, hP, hS⟩ := id ht
  refine fo_sd (by decide) [(0, .ref (Λ.2.2.1 616)), (1, .int (y)), (2, .int (x))] rfl (Nat.le_of_ble_eq_true rfl) (fun K C fin => ?_)
  rcases hyx : (fo_inr y np && fo_inr x 4) with _ | _
  · skip
    refine fo_aload_n C dX7_errorSum_0 0 rfl rfl 1 rfl ?_
    refine fo_iload_n C dX7_errorSum_1 1 rfl rfl 2 rfl ?_
    refine fo_iload_n C dX7_errorSum_2 2 rfl rfl 3 rfl ?_
    refine fo_qvi C dX7_errorSum_3 (mX7_isPair_f (y := y) (x := x) hyx ht) lv_X7_187 (by decide : fo_k 616 = 9) rfl (by decide) rfl ⟨Nat.le_of_ble_eq_true rfl, Nat.le_of_ble_eq_true rfl⟩ ⟨Nat.le_of_ble_eq_true rfl, Nat.le_of_ble_eq_true rfl⟩ [] rfl (Nat.le_of_ble_eq_true rfl) 6 rfl (fo_er ?_)
    replace ht := ht.th (g := upd (I 616) 5 (nI 1))
    refine fo_nif_eq C (by omega) dX7_errorSum_6 18 (by decide) 9 rfl (fun c7 => ?_) (fun c7 => ?_)
    · refine fo_dconst0 C dX7_errorSum_18 19 rfl ?_
      exact fin dX7_errorSum_19 (⟨(by rw [fg_pa_f hyx] <;> rfl), (by rw [fg_pa_f hyx] <;> exact rfl), rfl, rfl⟩)
    · omega
  · obtain ⟨hy, hx⟩ := (Bool.and_eq_true _ _).mp hyx
    obtain ⟨p, hp, hp31, rfl⟩ := fo_inr_at hy
    obtain ⟨k, hk, hk31, rfl⟩ := fo_inr_at hx
    have hkp := ho4 p hp
    have hnk := ho5 k hk
    have hnd := fp_need_in hkp
    refine fo_aload_n C dX7_errorSum_0 0 rfl rfl 1 rfl ?_
    refine fo_iload_n C dX7_errorSum_1 1 rfl rfl 2 rfl ?_
    refine fo_iload_n C dX7_errorSum_2 2 rfl rfl 3 rfl ?_
    refine fo_qvi C dX7_errorSum_3 (mX7_isPair_t (p := p) (k := k) hp hk ht) lv_X7_187 (by decide : fo_k 616 = 9) rfl (by decide) rfl ⟨Nat.le_of_ble_eq_true rfl, Nat.le_of_ble_eq_true rfl⟩ ⟨Nat.le_of_ble_eq_true rfl, Nat.le_of_ble_eq_true rfl⟩ [] rfl (Nat.le_of_ble_eq_true rfl) 6 rfl (fo_er ?_)
    replace ht := ht.th (g := upd (I 616) 5 (nI 0))
    refine fo_nif_eq C (by omega) dX7_errorSum_6 18 (by decide) 9 rfl (fun c14 => ?_) (fun c14 => ?_)
    · omega
    · refine fo_aload_n C dX7_errorSum_9 0 rfl rfl 10 rfl ?_
      refine fo_iload_n C dX7_errorSum_10 1 rfl rfl 11 rfl ?_
      refine fo_iload_n C dX7_errorSum_11 2 rfl rfl 12 rfl ?_
      refine fo_qvd C dX7_errorSum_12 (mX7_errorSumOf (p := p) (k := k) hp (by omega) ht) lv_X7_211 (by decide : fo_k 616 = 9) rfl (by decide) rfl ⟨Nat.le_of_ble_eq_true rfl, Nat.le_of_ble_eq_true rfl⟩ ⟨Nat.le_of_ble_eq_true rfl, Nat.le_of_ble_eq_true rfl⟩ [] rfl (Nat.le_of_ble_eq_true rfl) 15 rfl (fo_es (fun X19 => ?_))
      refine fo_goto C dX7_errorSum_15 19 (by decide) ?_
      exact fin dX7_errorSum_19 (⟨(by rw [fg_pa_t hp ho1 hk] <;> rfl), (by rw [fg_pa_t hp ho1 hk] <;> exact rfl), rfl, rfl⟩)
set_option maxRecDepth 10000 in
set_option maxHeartbeats 4000000 in
theorem mX7_errorSumByBacktest {l : Launch} {Λ : fo_Lt} {I : fo_Mi} {D : fo_Md} {J : fo_Mj} {X : fo_Mi} {np lim : Nat} {kd par n : Nat → Nat} {v : Nat → Nat → Nat} {y x : Int32} (ht : fm_T I 617 np lim kd par n v) : fk_d l yX7_errorSumByBacktest cX7_errorSumByBacktest 3 5 125 Λ [.ref (Λ.2.2.1 616), .int (y), .int (x)] I D J X ((fun r I' D' J' X' => r = (fg_pa np y x FP.dconst0 (fun p k => (0, fp_es (kd p) (par p) (v k) (n k)))).2 ∧ I' = fo_r I 616 (upd (I 616) 5 (nI (fg_pa np y x FP.dconst0 (fun p k => (0, fp_es (kd p) (par p) (v k) (n k)))).1)) ∧ D' = D ∧ J' = J)) := by
  obtain ⟨⟨ho1, ⟨ho2, ho3⟩, ho4, ho5, ho6⟩, hnp, hlim, hP, hS⟩ := id ht
  refine fo_sd (by decide) [(0, .ref (Λ.2.2.1 616)), (1, .int (y)), (2, .int (x))] rfl (Nat.le_of_ble_eq_true rfl) (fun K C fin => ?_)
  rcases hyx : (fo_inr y np && fo_inr x 4) with _ | _
  · skip
    refine fo_aload_n C dX7_errorSumByBacktest_0 0 rfl rfl 1 rfl ?_
    refine fo_iload_n C dX7_errorSumByBacktest_1 1 rfl rfl 2 rfl ?_
    refine fo_iload_n C dX7_errorSumByBacktest_2 2 rfl rfl 3 rfl ?_
    refine fo_qvi C dX7_errorSumByBacktest_3 (mX7_isPair_f (y := y) (x := x) hyx ht) lv_X7_187 (by decide : fo_k 616 = 9) rfl (by decide) rfl ⟨Nat.le_of_ble_eq_true rfl, Nat.le_of_ble_eq_true rfl⟩ ⟨Nat.le_of_ble_eq_true rfl, Nat.le_of_ble_eq_true rfl⟩ [] rfl (Nat.le_of_ble_eq_true rfl) 6 rfl (fo_er ?_)
    replace ht := ht.th (g := upd (I 616) 5 (nI 1))
    refine fo_nif_eq C (by omega) dX7_errorSumByBacktest_6 18 (by decide) 9 rfl (fun c7 => ?_) (fun c7 => ?_)
    · refine fo_dconst0 C dX7_errorSumByBacktest_18 19 rfl ?_
      exact fin dX7_errorSumByBacktest_19 (⟨(by rw [fg_pa_f hyx] <;> rfl), (by rw [fg_pa_f hyx] <;> exact rfl), rfl, rfl⟩)
    · omega
  · obtain ⟨hy, hx⟩ := (Bool.and_eq_true _ _).mp hyx
    obtain ⟨p, hp, hp31, rfl⟩ := fo_inr_at hy
    obtain ⟨k, hk, hk31, rfl⟩ := fo_inr_at hx
    have hkp := ho4 p hp
    have hnk := ho5 k hk
    have hnd := fp_need_in hkp
    refine fo_aload_n C dX7_errorSumByBacktest_0 0 rfl rfl 1 rfl ?_
    refine fo_iload_n C dX7_errorSumByBacktest_1 1 rfl rfl 2 rfl ?_
    refine fo_iload_n C dX7_errorSumByBacktest_2 2 rfl rfl 3 rfl ?_
    refine fo_qvi C dX7_errorSumByBacktest_3 (mX7_isPair_t (p := p) (k := k) hp hk ht) lv_X7_187 (by decide : fo_k 616 = 9) rfl (by decide) rfl ⟨Nat.le_of_ble_eq_true rfl, Nat.le_of_ble_eq_true rfl⟩ ⟨Nat.le_of_ble_eq_true rfl, Nat.le_of_ble_eq_true rfl⟩ [] rfl (Nat.le_of_ble_eq_true rfl) 6 rfl (fo_er ?_)
    replace ht := ht.th (g := upd (I 616) 5 (nI 0))
    refine fo_nif_eq C (by omega) dX7_errorSumByBacktest_6 18 (by decide) 9 rfl (fun c14 => ?_) (fun c14 => ?_)
    · omega
    · refine fo_aload_n C dX7_errorSumByBacktest_9 0 rfl rfl 10 rfl ?_
      refine fo_iload_n C dX7_errorSumByBacktest_10 1 rfl rfl 11 rfl ?_
      refine fo_iload_n C dX7_errorSumByBacktest_11 2 rfl rfl 12 rfl ?_
      refine fo_qvd C dX7_errorSumByBacktest_12 (mX7_errorSumOf (p := p) (k := k) hp (by omega) ht) lv_X7_211 (by decide : fo_k 616 = 9) rfl (by decide) rfl ⟨Nat.le_of_ble_eq_true rfl, Nat.le_of_ble_eq_true rfl⟩ ⟨Nat.le_of_ble_eq_true rfl, Nat.le_of_ble_eq_true rfl⟩ [] rfl (Nat.le_of_ble_eq_true rfl) 15 rfl (fo_es (fun X19 => ?_))
      refine fo_goto C dX7_errorSumByBacktest_15 19 (by decide) ?_
      exact fin dX7_errorSumByBacktest_19 (⟨(by rw [fg_pa_t hp ho1 hk] <;> rfl), (by rw [fg_pa_t hp ho1 hk] <;> exact rfl), rfl, rfl⟩)
set_option maxRecDepth 10000 in
set_option maxHeartbeats 4000000 in
theorem mX7_points {l : Launch} {Λ : fo_Lt} {I : fo_Mi} {D : fo_Md} {J : fo_Mj} {X : fo_Mi} {np lim : Nat} {kd par n : Nat → Nat} {v : Nat → Nat → Nat} {y x : Int32} (ht : fm_T I 617 np lim kd par n v) : fk_i l yX7_points cX7_points 3 .int 6 148 Λ [.ref (Λ.2.2.1 616), .int (y), .int (x)] I D J X ((fun r I' D' J' X' => r = (fg_pa np y x (nI 0) (fun p k => (0, nI (fp_pts np kd par (v k) p (n k))))).2 ∧ I' = fo_r I 616 (upd (I 616) 5 (nI (fg_pa np y x (nI 0) (fun p k => (0, nI (fp_pts np kd par (v k) p (n k))))).1)) ∧ D' = D ∧ J' = J)) := by
  obtain ⟨⟨ho1, ⟨ho2, ho3⟩, ho4, ho5, ho6⟩, hnp, hlim, hP, hS⟩ := id ht
  refine fo_si (by decide) [(0, .ref (Λ.2.2.1 616)), (1, .int (y)), (2, .int (x))] rfl (Nat.le_of_ble_eq_true rfl) (fun K C fin => ?_)
  rcases hyx : (fo_inr y np && fo_inr x 4) with _ | _
  · skip
    refine fo_aload_n C dX7_points_0 0 rfl rfl 1 rfl ?_
    refine fo_iload_n C dX7_points_1 1 rfl rfl 2 rfl ?_
    refine fo_iload_n C dX7_points_2 2 rfl rfl 3 rfl ?_
    refine fo_qvi C dX7_points_3 (mX7_isPair_f (y := y) (x := x) hyx ht) lv_X7_187 (by decide : fo_k 616 = 9) rfl (by decide) rfl ⟨Nat.le_of_ble_eq_true rfl, Nat.le_of_ble_eq_true rfl⟩ ⟨Nat.le_of_ble_eq_true rfl, Nat.le_of_ble_eq_true rfl⟩ [] rfl (Nat.le_of_ble_eq_true rfl) 6 rfl (fo_er ?_)
    replace ht := ht.th (g := upd (I 616) 5 (nI 1))
    refine fo_nif_eq C (by omega) dX7_points_6 18 (by decide) 9 rfl (fun c7 => ?_) (fun c7 => ?_)
    · refine fo_iconst C dX7_points_18 (nI 0) ki_0 19 rfl ?_
      exact fin dX7_points_19 rfl (⟨(by rw [fg_pa_f hyx] <;> rfl), (by rw [fg_pa_f hyx] <;> exact rfl), rfl, rfl⟩)
    · omega
  · obtain ⟨hy, hx⟩ := (Bool.and_eq_true _ _).mp hyx
    obtain ⟨p, hp, hp31, rfl⟩ := fo_inr_at hy
    obtain ⟨k, hk, hk31, rfl⟩ := fo_inr_at hx
    have hkp := ho4 p hp
    have hnk := ho5 k hk
    have hnd := fp_need_in hkp
    refine fo_aload_n C dX7_points_0 0 rfl rfl 1 rfl ?_
    refine fo_iload_n C dX7_points_1 1 rfl rfl 2 rfl ?_
    refine fo_iload_n C dX7_points_2 2 rfl rfl 3 rfl ?_
    refine fo_qvi C dX7_points_3 (mX7_isPair_t (p := p) (k := k) hp hk ht) lv_X7_187 (by decide : fo_k 616 = 9) rfl (by decide) rfl ⟨Nat.le_of_ble_eq_true rfl, Nat.le_of_ble_eq_true rfl⟩ ⟨Nat.le_of_ble_eq_true rfl, Nat.le_of_ble_eq_true rfl⟩ [] rfl (Nat.le_of_ble_eq_true rfl) 6 rfl (fo_er ?_)
    replace ht := ht.th (g := upd (I 616) 5 (nI 0))
    refine fo_nif_eq C (by omega) dX7_points_6 18 (by decide) 9 rfl (fun c14 => ?_) (fun c14 => ?_)
    · omega
    · refine fo_aload_n C dX7_points_9 0 rfl rfl 10 rfl ?_
      refine fo_iload_n C dX7_points_10 1 rfl rfl 11 rfl ?_
      refine fo_iload_n C dX7_points_11 2 rfl rfl 12 rfl ?_
      refine fo_qvi C dX7_points_12 (mX7_pointsOf (p := p) (k := k) hp (by omega) ht) lv_X7_217 (by decide : fo_k 616 = 9) rfl (by decide) rfl ⟨Nat.le_of_ble_eq_true rfl, Nat.le_of_ble_eq_true rfl⟩ ⟨Nat.le_of_ble_eq_true rfl, Nat.le_of_ble_eq_true rfl⟩ [] rfl (Nat.le_of_ble_eq_true rfl) 15 rfl (fo_es (fun X19 => ?_))
      have q21 := fp_pts_le np kd par (v k) p (n k)
      have q22 := ho5 k (by omega)
      refine fo_goto C dX7_points_15 19 (by decide) ?_
      exact fin dX7_points_19 rfl (⟨(by rw [fg_pa_t hp ho1 hk] <;> rfl), (by rw [fg_pa_t hp ho1 hk] <;> exact rfl), rfl, rfl⟩)
set_option maxRecDepth 10000 in
set_option maxHeartbeats 4000000 in
theorem mX7_allErrors {l : Launch} {Λ : fo_Lt} {I : fo_Mi} {D : fo_Md} {J : fo_Mj} {X : fo_Mi} {np lim : Nat} {kd par n : Nat → Nat} {v : Nat → Nat → Nat} {p : Nat} (hp : p < np) (ht : fm_T I 617 np lim kd par n v) : fk_i l yX7_allErrors cX7_allErrors 2 .int 2 47 Λ [.ref (Λ.2.2.1 616), .int (nI p)] I D J X (fo_pr (nI (fp_ae kd par n p)) I D J X) := by
  obtain ⟨⟨ho1, ⟨ho2, ho3⟩, ho4, ho5, ho6⟩, hnp, hlim, hP, hS⟩ := id ht
  have hkp := ho4 p hp
  have hnd := fp_need_in hkp
  have o0 := ho5 0 (by decide)
  have o1 := ho5 1 (by decide)
  have o2 := ho5 2 (by decide)
  have o3 := ho5 3 (by decide)
  refine fo_si (by decide) [(0, .ref (Λ.2.2.1 616)), (1, .int (nI p))] rfl (Nat.le_of_ble_eq_true rfl) (fun K C fin => ?_)
  refine fo_aload_n C dX7_allErrors_0 0 rfl rfl 1 rfl ?_
  refine fo_iload_n C dX7_allErrors_1 1 rfl rfl 2 rfl ?_
  refine fo_iconst C dX7_allErrors_2 (nI 0) ki_0 3 rfl ?_
  refine fo_qvi C dX7_allErrors_3 (mX7_errorsOf (p := p) (k := 0) hp (by omega) ht) lv_X7_205 (by decide : fo_k 616 = 9) rfl (by decide) rfl ⟨Nat.le_of_ble_eq_true rfl, Nat.le_of_ble_eq_true rfl⟩ ⟨Nat.le_of_ble_eq_true rfl, Nat.le_of_ble_eq_true rfl⟩ [] rfl (Nat.le_of_ble_eq_true rfl) 6 rfl (fo_er ?_)
  have q7 := ho5 0 (by omega)
  refine fo_aload_n C dX7_allErrors_6 0 rfl rfl 7 rfl ?_
  refine fo_iload_n C dX7_allErrors_7 1 rfl rfl 8 rfl ?_
  refine fo_iconst C dX7_allErrors_8 (nI 1) ki_1 9 rfl ?_
  refine fo_qvi C dX7_allErrors_9 (mX7_errorsOf (p := p) (k := 1) hp (by omega) ht) lv_X7_205 (by decide : fo_k 616 = 9) rfl (by decide) rfl ⟨Nat.le_of_ble_eq_true rfl, Nat.le_of_ble_eq_true rfl⟩ ⟨Nat.le_of_ble_eq_true rfl, Nat.le_of_ble_eq_true rfl⟩ [.int (nI (n 0 - fp_need (kd p) (par p)))] rfl (Nat.le_of_ble_eq_true rfl) 12 rfl (fo_er ?_)
  have q14 := ho5 1 (by omega)
  refine fo_iadd C dX7_allErrors_12 (nI ((n 0 - fp_need (kd p) (par p)) + (n 1 - fp_need (kd p) (par p)))) (nI_add _ _) 13 rfl ?_
  refine fo_aload_n C dX7_allErrors_13 0 rfl rfl 14 rfl ?_
  refine fo_iload_n C dX7_allErrors_14 1 rfl rfl 15 rfl ?_
  refine fo_iconst C dX7_allErrors_15 (nI 2) ki_2 16 rfl ?_
  refine fo_qvi C dX7_allErrors_16 (mX7_errorsOf (p := p) (k := 2) hp (by omega) ht) lv_X7_205 (by decide : fo_k 616 = 9) rfl (by decide) rfl ⟨Nat.le_of_ble_eq_true rfl, Nat.le_of_ble_eq_true rfl⟩ ⟨Nat.le_of_ble_eq_true rfl, Nat.le_of_ble_eq_true rfl⟩ [.int (nI ((n 0 - fp_need (kd p) (par p)) + (n 1 - fp_need (kd p) (par p))))] rfl (Nat.le_of_ble_eq_true rfl) 19 rfl (fo_er ?_)
  have q21 := ho5 2 (by omega)
  refine fo_iadd C dX7_allErrors_19 (nI (((n 0 - fp_need (kd p) (par p)) + (n 1 - fp_need (kd p) (par p))) + (n 2 - fp_need (kd p) (par p)))) (nI_add _ _) 20 rfl ?_
  refine fo_aload_n C dX7_allErrors_20 0 rfl rfl 21 rfl ?_
  refine fo_iload_n C dX7_allErrors_21 1 rfl rfl 22 rfl ?_
  refine fo_iconst C dX7_allErrors_22 (nI 3) ki_3 23 rfl ?_
  refine fo_qvi C dX7_allErrors_23 (mX7_errorsOf (p := p) (k := 3) hp (by omega) ht) lv_X7_205 (by decide : fo_k 616 = 9) rfl (by decide) rfl ⟨Nat.le_of_ble_eq_true rfl, Nat.le_of_ble_eq_true rfl⟩ ⟨Nat.le_of_ble_eq_true rfl, Nat.le_of_ble_eq_true rfl⟩ [.int (nI (((n 0 - fp_need (kd p) (par p)) + (n 1 - fp_need (kd p) (par p))) + (n 2 - fp_need (kd p) (par p))))] rfl (Nat.le_of_ble_eq_true rfl) 26 rfl (fo_er ?_)
  have q28 := ho5 3 (by omega)
  refine fo_iadd C dX7_allErrors_26 (nI ((((n 0 - fp_need (kd p) (par p)) + (n 1 - fp_need (kd p) (par p))) + (n 2 - fp_need (kd p) (par p))) + (n 3 - fp_need (kd p) (par p)))) (nI_add _ _) 27 rfl ?_
  exact fin dX7_allErrors_27 rfl (⟨congrArg nI (by unfold fp_ae; simp only [fp_sum, Nat.zero_add]), rfl, rfl, rfl, rfl⟩)
set_option maxRecDepth 10000 in
set_option maxHeartbeats 4000000 in
theorem mX7_allPoints {l : Launch} {Λ : fo_Lt} {I : fo_Mi} {D : fo_Md} {J : fo_Mj} {X : fo_Mi} {np lim : Nat} {kd par n : Nat → Nat} {v : Nat → Nat → Nat} {p : Nat} (hp : p < np) (ht : fm_T I 617 np lim kd par n v) : fk_i l yX7_allPoints cX7_allPoints 2 .int 6 148 Λ [.ref (Λ.2.2.1 616), .int (nI p)] I D J X (fo_ps (nI (fp_ap np kd par n v p)) I D J) := by
  obtain ⟨⟨ho1, ⟨ho2, ho3⟩, ho4, ho5, ho6⟩, hnp, hlim, hP, hS⟩ := id ht
  have hkp := ho4 p hp
  have hnd := fp_need_in hkp
  have o0 := ho5 0 (by decide)
  have o1 := ho5 1 (by decide)
  have o2 := ho5 2 (by decide)
  have o3 := ho5 3 (by decide)
  refine fo_si (by decide) [(0, .ref (Λ.2.2.1 616)), (1, .int (nI p))] rfl (Nat.le_of_ble_eq_true rfl) (fun K C fin => ?_)
  refine fo_aload_n C dX7_allPoints_0 0 rfl rfl 1 rfl ?_
  refine fo_iload_n C dX7_allPoints_1 1 rfl rfl 2 rfl ?_
  refine fo_iconst C dX7_allPoints_2 (nI 0) ki_0 3 rfl ?_
  refine fo_qvi C dX7_allPoints_3 (mX7_pointsOf (p := p) (k := 0) hp (by omega) ht) lv_X7_217 (by decide : fo_k 616 = 9) rfl (by decide) rfl ⟨Nat.le_of_ble_eq_true rfl, Nat.le_of_ble_eq_true rfl⟩ ⟨Nat.le_of_ble_eq_true rfl, Nat.le_of_ble_eq_true rfl⟩ [] rfl (Nat.le_of_ble_eq_true rfl) 6 rfl (fo_es (fun X5 => ?_))
  have q7 := fp_pts_le np kd par (v 0) p (n 0)
  have q8 := ho5 0 (by omega)
  refine fo_aload_n C dX7_allPoints_6 0 rfl rfl 7 rfl ?_
  refine fo_iload_n C dX7_allPoints_7 1 rfl rfl 8 rfl ?_
  refine fo_iconst C dX7_allPoints_8 (nI 1) ki_1 9 rfl ?_
  refine fo_qvi C dX7_allPoints_9 (mX7_pointsOf (p := p) (k := 1) hp (by omega) ht) lv_X7_217 (by decide : fo_k 616 = 9) rfl (by decide) rfl ⟨Nat.le_of_ble_eq_true rfl, Nat.le_of_ble_eq_true rfl⟩ ⟨Nat.le_of_ble_eq_true rfl, Nat.le_of_ble_eq_true rfl⟩ [.int (nI (fp_pts np kd par (v 0) p (n 0)))] rfl (Nat.le_of_ble_eq_true rfl) 12 rfl (fo_es (fun X13 => ?_))
  have q15 := fp_pts_le np kd par (v 1) p (n 1)
  have q16 := ho5 1 (by omega)
  refine fo_iadd C dX7_allPoints_12 (nI ((fp_pts np kd par (v 0) p (n 0)) + (fp_pts np kd par (v 1) p (n 1)))) (nI_add _ _) 13 rfl ?_
  refine fo_aload_n C dX7_allPoints_13 0 rfl rfl 14 rfl ?_
  refine fo_iload_n C dX7_allPoints_14 1 rfl rfl 15 rfl ?_
  refine fo_iconst C dX7_allPoints_15 (nI 2) ki_2 16 rfl ?_
  refine fo_qvi C dX7_allPoints_16 (mX7_pointsOf (p := p) (k := 2) hp (by omega) ht) lv_X7_217 (by decide : fo_k 616 = 9) rfl (by decide) rfl ⟨Nat.le_of_ble_eq_true rfl, Nat.le_of_ble_eq_true rfl⟩ ⟨Nat.le_of_ble_eq_true rfl, Nat.le_of_ble_eq_true rfl⟩ [.int (nI ((fp_pts np kd par (v 0) p (n 0)) + (fp_pts np kd par (v 1) p (n 1))))] rfl (Nat.le_of_ble_eq_true rfl) 19 rfl (fo_es (fun X21 => ?_))
  have q23 := fp_pts_le np kd par (v 2) p (n 2)
  have q24 := ho5 2 (by omega)
  refine fo_iadd C dX7_allPoints_19 (nI (((fp_pts np kd par (v 0) p (n 0)) + (fp_pts np kd par (v 1) p (n 1))) + (fp_pts np kd par (v 2) p (n 2)))) (nI_add _ _) 20 rfl ?_
  refine fo_aload_n C dX7_allPoints_20 0 rfl rfl 21 rfl ?_
  refine fo_iload_n C dX7_allPoints_21 1 rfl rfl 22 rfl ?_
  refine fo_iconst C dX7_allPoints_22 (nI 3) ki_3 23 rfl ?_
  refine fo_qvi C dX7_allPoints_23 (mX7_pointsOf (p := p) (k := 3) hp (by omega) ht) lv_X7_217 (by decide : fo_k 616 = 9) rfl (by decide) rfl ⟨Nat.le_of_ble_eq_true rfl, Nat.le_of_ble_eq_true rfl⟩ ⟨Nat.le_of_ble_eq_true rfl, Nat.le_of_ble_eq_true rfl⟩ [.int (nI (((fp_pts np kd par (v 0) p (n 0)) + (fp_pts np kd par (v 1) p (n 1))) + (fp_pts np kd par (v 2) p (n 2))))] rfl (Nat.le_of_ble_eq_true rfl) 26 rfl (fo_es (fun X29 => ?_))
  have q31 := fp_pts_le np kd par (v 3) p (n 3)
  have q32 := ho5 3 (by omega)
  refine fo_iadd C dX7_allPoints_26 (nI ((((fp_pts np kd par (v 0) p (n 0)) + (fp_pts np kd par (v 1) p (n 1))) + (fp_pts np kd par (v 2) p (n 2))) + (fp_pts np kd par (v 3) p (n 3)))) (nI_add _ _) 27 rfl ?_
  exact fin dX7_allPoints_27 rfl (⟨congrArg nI (by unfold fp_ap; simp only [fp_sum, Nat.zero_add]), rfl, rfl, rfl⟩)
set_option maxRecDepth 10000 in
set_option maxHeartbeats 4000000 in
theorem mX7_meanErrorOf {l : Launch} {Λ : fo_Lt} {I : fo_Mi} {D : fo_Md} {J : fo_Mj} {X : fo_Mi} {np lim : Nat} {kd par n : Nat → Nat} {v : Nat → Nat → Nat} {p : Nat} (hp : p < np) (h0 : 0 < fp_ae kd par n p) (ht : fm_T I 617 np lim kd par n v) : fk_d l yX7_meanErrorOf cX7_meanErrorOf 5 5 125 Λ [.ref (Λ.2.2.1 616), .int (nI p)] I D J X (fo_ps (fp_me kd par n v p) I D J) := by
  obtain ⟨⟨ho1, ⟨ho2, ho3⟩, ho4, ho5, ho6⟩, hnp, hlim, hP, hS⟩ := id ht
  have hkp := ho4 p hp
  refine fo_sd (by decide) [(0, .ref (Λ.2.2.1 616)), (1, .int (nI p))] rfl (Nat.le_of_ble_eq_true rfl) (fun K C fin => ?_)
  refine fo_dconst0 C dX7_meanErrorOf_0 1 rfl ?_
  refine fo_dstore_n C dX7_meanErrorOf_1 rfl [(2, .double (FP.dconst0)), (0, .ref (Λ.2.2.1 616)), (1, .int (nI p))] rfl (by decide) 2 rfl ?_
  refine fo_iconst C dX7_meanErrorOf_2 (nI 0) ki_0 3 rfl ?_
  refine fo_istore C dX7_meanErrorOf_3 [(4, .int (nI 0)), (2, .double (FP.dconst0)), (0, .ref (Λ.2.2.1 616)), (1, .int (nI p))] rfl (by decide) 5 rfl ?_
  have hL5 : ∀ (m5 : Nat) (k : Nat) (Y : fo_Mi), 5 - k < m5 → k ≤ 4 → fo_G l Λ { frames := 5, cells := 0, slots := 0, locals := 125 } K 0 0 5 [(4, .int (nI k)), (2, .double (fp_ds (fun k => fp_es (kd p) (par p) (v k) (n k)) k)), (0, .ref (Λ.2.2.1 616)), (1, .int (nI p))] [] I D J Y := by
    intro m5
    induction m5 with
    | zero => intro k Y hm; exact absurd hm (Nat.not_lt_zero _)
    | succ m5 ih5 =>
      intro k Y hm5 hk4
      refine fo_iload C dX7_meanErrorOf_5 0 rfl 7 rfl ?_
      refine fo_iconst C dX7_meanErrorOf_7 (nI 4) ki_4 8 rfl ?_
      refine fo_ncmp_ge C (by omega) (by omega) dX7_meanErrorOf_8 27 (by decide) 11 rfl (fun c1 => ?_) (fun c1 => ?_)
      · refine fo_dload_n C dX7_meanErrorOf_27 1 rfl rfl 28 rfl ?_
        refine fo_aload_n C dX7_meanErrorOf_28 2 rfl rfl 29 rfl ?_
        refine fo_iload_n C dX7_meanErrorOf_29 3 rfl rfl 30 rfl ?_
        refine fo_qvi C dX7_meanErrorOf_30 (mX7_allErrors (p := p) (by omega) ht) lv_X7_220 (by decide : fo_k 616 = 9) rfl (by decide) rfl ⟨Nat.le_of_ble_eq_true rfl, Nat.le_of_ble_eq_true rfl⟩ ⟨Nat.le_of_ble_eq_true rfl, Nat.le_of_ble_eq_true rfl⟩ [.double (fp_ds (fun k => fp_es (kd p) (par p) (v k) (n k)) k)] rfl (Nat.le_of_ble_eq_true rfl) 33 rfl (fo_er ?_)
        have q8 := fp_ae_le (kd := kd) (par := par) (n := n) (p := p) ho5
        refine fo_i2d C dX7_meanErrorOf_33 34 rfl ?_
        refine fo_ddiv C dX7_meanErrorOf_34 (by rw [show k = 4 by omega]; exact fd_ok (K := 1411) (fd_divi (K := 1408) (fd_me (p := p) hkp ho5) (by rw [nI_toInt (by omega)]; omega) (by decide)) (by decide)) 35 rfl ?_
        exact fin dX7_meanErrorOf_35 (⟨by rw [show k = 4 by omega]; rfl, rfl, rfl, rfl⟩)
      · refine fo_dload_n C dX7_meanErrorOf_11 1 rfl rfl 12 rfl ?_
        refine fo_aload_n C dX7_meanErrorOf_12 2 rfl rfl 13 rfl ?_
        refine fo_iload_n C dX7_meanErrorOf_13 3 rfl rfl 14 rfl ?_
        refine fo_iload C dX7_meanErrorOf_14 0 rfl 16 rfl ?_
        refine fo_qvd C dX7_meanErrorOf_16 (mX7_errorSumOf (p := p) (k := k) hp (by omega) ht) lv_X7_211 (by decide : fo_k 616 = 9) rfl (by decide) rfl ⟨Nat.le_of_ble_eq_true rfl, Nat.le_of_ble_eq_true rfl⟩ ⟨Nat.le_of_ble_eq_true rfl, Nat.le_of_ble_eq_true rfl⟩ [.double (fp_ds (fun k => fp_es (kd p) (par p) (v k) (n k)) k)] rfl (Nat.le_of_ble_eq_true rfl) 19 rfl (fo_es (fun X13 => ?_))
        refine fo_dadd C dX7_meanErrorOf_19 (fd_ok (K := 1400 + 2 * k + 2) (fd_add (K := 1400 + 2 * k) (fd_ds k (by omega) (fun j hj => fd_up (fd_es hkp (v j) (n j) (ho5 j (by omega))) (by have := ho5 j (by omega); omega)) (by decide)) (fd_up (fd_es hkp (v k) (n k) (ho5 k (by omega))) (by have := ho5 k (by omega); omega)) (by omega)) (by omega)) 20 rfl ?_
        refine fo_dstore_n C dX7_meanErrorOf_20 rfl [(2, .double (FP.dadd (fp_ds (fun k => fp_es (kd p) (par p) (v k) (n k)) k) (fp_es (kd p) (par p) (v k) (n k)))), (4, .int (nI k)), (0, .ref (Λ.2.2.1 616)), (1, .int (nI p))] rfl (by decide) 21 rfl ?_
        refine fo_iinc C dX7_meanErrorOf_21 1 rfl (nI (k + 1)) (nI_inc1 _) [(4, .int (nI (k + 1))), (2, .double (FP.dadd (fp_ds (fun k => fp_es (kd p) (par p) (v k) (n k)) k) (fp_es (kd p) (par p) (v k) (n k)))), (0, .ref (Λ.2.2.1 616)), (1, .int (nI p))] rfl (by decide) 24 rfl ?_
        refine fo_goto C dX7_meanErrorOf_24 5 (by decide) ?_
        exact ih5 (k + 1) X13 (by omega) (by omega)
  exact hL5 (5 + 1) 0 X (by omega) (by omega)
set_option maxRecDepth 10000 in
set_option maxHeartbeats 4000000 in
theorem mX7_meanError {l : Launch} {Λ : fo_Lt} {I : fo_Mi} {D : fo_Md} {J : fo_Mj} {X : fo_Mi} {np lim : Nat} {kd par n : Nat → Nat} {v : Nat → Nat → Nat} {y : Int32} (ht : fm_T I 617 np lim kd par n v) : fk_d l yX7_meanError cX7_meanError 2 6 149 Λ [.ref (Λ.2.2.1 616), .int (y)] I D J X ((fun r I' D' J' X' => r = (fg_pr np y FP.dconst0 (fun p => if fp_ae kd par n p = 0 then (2, FP.dconst0) else (0, fp_me kd par n v p))).2 ∧ I' = fo_r I 616 (upd (I 616) 5 (nI (fg_pr np y FP.dconst0 (fun p => if fp_ae kd par n p = 0 then (2, FP.dconst0) else (0, fp_me kd par n v p))).1)) ∧ D' = D ∧ J' = J)) := by
  obtain ⟨⟨ho1, ⟨ho2, ho3⟩, ho4, ho5, ho6⟩, hnp, hlim, hP, hS⟩ := id ht
  refine fo_sd (by decide) [(0, .ref (Λ.2.2.1 616)), (1, .int (y))] rfl (Nat.le_of_ble_eq_true rfl) (fun K C fin => ?_)
  rcases hy : fo_inr y np with _ | _
  · skip
    refine fo_aload_n C dX7_meanError_0 0 rfl rfl 1 rfl ?_
    refine fo_aload_n C dX7_meanError_1 0 rfl rfl 2 rfl ?_
    refine fo_iload_n C dX7_meanError_2 1 rfl rfl 3 rfl ?_
    refine fo_qvi C dX7_meanError_3 (mX7_isProphet (y := y) ht) lv_X7_184 (by decide : fo_k 616 = 9) rfl (by decide) rfl ⟨Nat.le_of_ble_eq_true rfl, Nat.le_of_ble_eq_true rfl⟩ ⟨Nat.le_of_ble_eq_true rfl, Nat.le_of_ble_eq_true rfl⟩ [.ref (Λ.2.2.1 616)] rfl (Nat.le_of_ble_eq_true rfl) 6 rfl (fo_er ?_)
    first | rw [hsy] | rw [hy]
    refine fo_qvi C dX7_meanError_6 mX7_checked_f lv_X7_135 (by decide : fo_k 616 = 9) rfl (by decide) rfl ⟨Nat.le_of_ble_eq_true rfl, Nat.le_of_ble_eq_true rfl⟩ ⟨Nat.le_of_ble_eq_true rfl, Nat.le_of_ble_eq_true rfl⟩ [] rfl (Nat.le_of_ble_eq_true rfl) 9 rfl (fo_er ?_)
    replace ht := ht.th (g := upd (I 616) 5 (nI 1))
    refine fo_nif_le C (by omega) dX7_meanError_9 14 (by decide) 12 rfl (fun c13 => ?_) (fun c13 => ?_)
    · omega
    · refine fo_dconst0 C dX7_meanError_12 13 rfl ?_
      exact fin dX7_meanError_13 (⟨(by rw [fg_pr_f hy] <;> rfl), (by rw [fg_pr_f hy] <;> exact rfl), rfl, rfl⟩)
  · obtain ⟨p, hp, hp31, rfl⟩ := fo_inr_at hy
    have hkp := ho4 p hp
    have hnd := fp_need_in hkp
    have hsy : fo_inr (nI p) np = true := fo_inr_nI hp (by omega)
    rcases Nat.eq_zero_or_pos (fp_ae kd par n p) with hc3 | hc3
    · skip
      refine fo_aload_n C dX7_meanError_0 0 rfl rfl 1 rfl ?_
      refine fo_aload_n C dX7_meanError_1 0 rfl rfl 2 rfl ?_
      refine fo_iload_n C dX7_meanError_2 1 rfl rfl 3 rfl ?_
      refine fo_qvi C dX7_meanError_3 (mX7_isProphet (y := (nI (p))) ht) lv_X7_184 (by decide : fo_k 616 = 9) rfl (by decide) rfl ⟨Nat.le_of_ble_eq_true rfl, Nat.le_of_ble_eq_true rfl⟩ ⟨Nat.le_of_ble_eq_true rfl, Nat.le_of_ble_eq_true rfl⟩ [.ref (Λ.2.2.1 616)] rfl (Nat.le_of_ble_eq_true rfl) 6 rfl (fo_er ?_)
      first | rw [hsy] | rw [hy]
      refine fo_qvi C dX7_meanError_6 mX7_checked_t lv_X7_135 (by decide : fo_k 616 = 9) rfl (by decide) rfl ⟨Nat.le_of_ble_eq_true rfl, Nat.le_of_ble_eq_true rfl⟩ ⟨Nat.le_of_ble_eq_true rfl, Nat.le_of_ble_eq_true rfl⟩ [] rfl (Nat.le_of_ble_eq_true rfl) 9 rfl (fo_er ?_)
      replace ht := ht.th (g := upd (I 616) 5 (nI 0))
      refine fo_nif_le C (by omega) dX7_meanError_9 14 (by decide) 12 rfl (fun c26 => ?_) (fun c26 => ?_)
      · refine fo_aload_n C dX7_meanError_14 0 rfl rfl 15 rfl ?_
        refine fo_aload_n C dX7_meanError_15 0 rfl rfl 16 rfl ?_
        refine fo_iload_n C dX7_meanError_16 1 rfl rfl 17 rfl ?_
        refine fo_qvi C dX7_meanError_17 (mX7_allErrors (p := p) (by omega) ht) lv_X7_220 (by decide : fo_k 616 = 9) rfl (by decide) rfl ⟨Nat.le_of_ble_eq_true rfl, Nat.le_of_ble_eq_true rfl⟩ ⟨Nat.le_of_ble_eq_true rfl, Nat.le_of_ble_eq_true rfl⟩ [.ref (Λ.2.2.1 616)] rfl (Nat.le_of_ble_eq_true rfl) 20 rfl (fo_er ?_)
        have q33 := fp_ae_le (kd := kd) (par := par) (n := n) (p := p) ho5
        refine fo_nif_ne C (by omega) dX7_meanError_20 27 (by decide) 23 rfl (fun c34 => ?_) (fun c34 => ?_)
        · omega
        · refine fo_iconst C dX7_meanError_23 (nI 2) ki_2 24 rfl ?_
          refine fo_goto C dX7_meanError_24 28 (by decide) ?_
          refine fo_put C dX7_meanError_28 fK9 (by decide : fo_k 616 = 9) (by decide) 5 (by decide) fl_X7_25 rfl rfl rfl rfl (Nat.le_of_ble_eq_true rfl) 31 rfl ?_
          replace ht : fm_T (fo_r (fo_r I 616 (upd (I 616) 5 (nI 0))) 616 (upd ((fo_r I 616 (upd (I 616) 5 (nI 0))) 616) 5 (nI (2)))) 617 np lim kd par n v := ht
          refine fo_aload_n C dX7_meanError_31 0 rfl rfl 32 rfl ?_
          refine fo_get C dX7_meanError_32 fK9 (by decide : fo_k 616 = 9) (by decide) 5 (by decide) fl_X7_25 (v := .int (nI 2)) (congrArg (fun x => some (Value.int x)) ((by rw [fo_rs, pk_us]))) 35 rfl ?_
          refine fo_nif_le C (by omega) dX7_meanError_35 42 (by decide) 38 rfl (fun c35 => ?_) (fun c35 => ?_)
          · omega
          · refine fo_dconst0 C dX7_meanError_38 39 rfl ?_
            refine fo_goto C dX7_meanError_39 47 (by decide) ?_
            exact fin dX7_meanError_47 (⟨(by rw [fg_pr_t hp ho1, if_pos hc3] <;> rfl), (by rw [fg_pr_t hp ho1, if_pos hc3] <;> exact fo_th2 I _ _), rfl, rfl⟩)
      · omega
    · skip
      refine fo_aload_n C dX7_meanError_0 0 rfl rfl 1 rfl ?_
      refine fo_aload_n C dX7_meanError_1 0 rfl rfl 2 rfl ?_
      refine fo_iload_n C dX7_meanError_2 1 rfl rfl 3 rfl ?_
      refine fo_qvi C dX7_meanError_3 (mX7_isProphet (y := (nI (p))) ht) lv_X7_184 (by decide : fo_k 616 = 9) rfl (by decide) rfl ⟨Nat.le_of_ble_eq_true rfl, Nat.le_of_ble_eq_true rfl⟩ ⟨Nat.le_of_ble_eq_true rfl, Nat.le_of_ble_eq_true rfl⟩ [.ref (Λ.2.2.1 616)] rfl (Nat.le_of_ble_eq_true rfl) 6 rfl (fo_er ?_)
      first | rw [hsy] | rw [hy]
      refine fo_qvi C dX7_meanError_6 mX7_checked_t lv_X7_135 (by decide : fo_k 616 = 9) rfl (by decide) rfl ⟨Nat.le_of_ble_eq_true rfl, Nat.le_of_ble_eq_true rfl⟩ ⟨Nat.le_of_ble_eq_true rfl, Nat.le_of_ble_eq_true rfl⟩ [] rfl (Nat.le_of_ble_eq_true rfl) 9 rfl (fo_er ?_)
      replace ht := ht.th (g := upd (I 616) 5 (nI 0))
      refine fo_nif_le C (by omega) dX7_meanError_9 14 (by decide) 12 rfl (fun c48 => ?_) (fun c48 => ?_)
      · refine fo_aload_n C dX7_meanError_14 0 rfl rfl 15 rfl ?_
        refine fo_aload_n C dX7_meanError_15 0 rfl rfl 16 rfl ?_
        refine fo_iload_n C dX7_meanError_16 1 rfl rfl 17 rfl ?_
        refine fo_qvi C dX7_meanError_17 (mX7_allErrors (p := p) (by omega) ht) lv_X7_220 (by decide : fo_k 616 = 9) rfl (by decide) rfl ⟨Nat.le_of_ble_eq_true rfl, Nat.le_of_ble_eq_true rfl⟩ ⟨Nat.le_of_ble_eq_true rfl, Nat.le_of_ble_eq_true rfl⟩ [.ref (Λ.2.2.1 616)] rfl (Nat.le_of_ble_eq_true rfl) 20 rfl (fo_er ?_)
        have q55 := fp_ae_le (kd := kd) (par := par) (n := n) (p := p) ho5
        refine fo_nif_ne C (by omega) dX7_meanError_20 27 (by decide) 23 rfl (fun c56 => ?_) (fun c56 => ?_)
        · refine fo_iconst C dX7_meanError_27 (nI 0) ki_0 28 rfl ?_
          refine fo_put C dX7_meanError_28 fK9 (by decide : fo_k 616 = 9) (by decide) 5 (by decide) fl_X7_25 rfl rfl rfl rfl (Nat.le_of_ble_eq_true rfl) 31 rfl ?_
          replace ht : fm_T (fo_r (fo_r I 616 (upd (I 616) 5 (nI 0))) 616 (upd ((fo_r I 616 (upd (I 616) 5 (nI 0))) 616) 5 (nI (0)))) 617 np lim kd par n v := ht
          refine fo_aload_n C dX7_meanError_31 0 rfl rfl 32 rfl ?_
          refine fo_get C dX7_meanError_32 fK9 (by decide : fo_k 616 = 9) (by decide) 5 (by decide) fl_X7_25 (v := .int (nI 0)) (congrArg (fun x => some (Value.int x)) ((by rw [fo_rs, pk_us]))) 35 rfl ?_
          refine fo_nif_le C (by omega) dX7_meanError_35 42 (by decide) 38 rfl (fun c57 => ?_) (fun c57 => ?_)
          · refine fo_aload_n C dX7_meanError_42 0 rfl rfl 43 rfl ?_
            refine fo_iload_n C dX7_meanError_43 1 rfl rfl 44 rfl ?_
            refine fo_qvd C dX7_meanError_44 (mX7_meanErrorOf (p := p) (by omega) hc3 ht) lv_X7_223 (by decide : fo_k 616 = 9) rfl (by decide) rfl ⟨Nat.le_of_ble_eq_true rfl, Nat.le_of_ble_eq_true rfl⟩ ⟨Nat.le_of_ble_eq_true rfl, Nat.le_of_ble_eq_true rfl⟩ [] rfl (Nat.le_of_ble_eq_true rfl) 47 rfl (fo_es (fun X62 => ?_))
            exact fin dX7_meanError_47 (⟨(by rw [fg_pr_t hp ho1, if_neg (by omega)] <;> rfl), (by rw [fg_pr_t hp ho1, if_neg (by omega)] <;> exact fo_th2 I _ _), rfl, rfl⟩)
          · omega
        · omega
      · omega
set_option maxRecDepth 10000 in
set_option maxHeartbeats 4000000 in
theorem mX7_bestProphet {l : Launch} {Λ : fo_Lt} {I : fo_Mi} {D : fo_Md} {J : fo_Mj} {X : fo_Mi} {np lim : Nat} {kd par n : Nat → Nat} {v : Nat → Nat → Nat} (ht : fm_T I 617 np lim kd par n v) : fk_i l yX7_bestProphet cX7_bestProphet 3 .int 6 149 Λ [.ref (Λ.2.2.1 616)] I D J X ((fun r I' D' J' X' => r = (fg_op (fp_lst (fun p => decide (0 < fp_ae kd par n p)) (fun p => fp_me kd par n v p) np)).2 ∧ I' = fo_r I 616 (upd (I 616) 5 (nI (fg_op (fp_lst (fun p => decide (0 < fp_ae kd par n p)) (fun p => fp_me kd par n v p) np)).1)) ∧ D' = D ∧ J' = J)) := by
  obtain ⟨⟨ho1, ⟨ho2, ho3⟩, ho4, ho5, ho6⟩, hnp, hlim, hP, hS⟩ := id ht
  refine fo_si (by decide) [(0, .ref (Λ.2.2.1 616))] rfl (Nat.le_of_ble_eq_true rfl) (fun K C fin => ?_)
  refine fo_iconst C dX7_bestProphet_0 (-1) (by decide) 1 rfl ?_
  refine fo_istore_n C dX7_bestProphet_1 rfl [(1, .int (-1)), (0, .ref (Λ.2.2.1 616))] rfl (by decide) 2 rfl ?_
  refine fo_iconst C dX7_bestProphet_2 (nI 0) ki_0 3 rfl ?_
  refine fo_istore_n C dX7_bestProphet_3 rfl [(2, .int (nI 0)), (1, .int (-1)), (0, .ref (Λ.2.2.1 616))] rfl (by decide) 4 rfl ?_
  have hL4 : ∀ (m4 : Nat) (i : Nat) (Y : fo_Mi), np + 1 - i < m4 → i ≤ np → fo_G l Λ { frames := 6, cells := 0, slots := 0, locals := 149 } K 0 0 4 [(2, .int (nI i)), (1, .int (fo_ow (fp_lst (fun p => decide (0 < fp_ae kd par n p)) (fun p => fp_me kd par n v p) i))), (0, .ref (Λ.2.2.1 616))] [] I D J Y := by
    intro m4
    induction m4 with
    | zero => intro i Y hm; exact absurd hm (Nat.not_lt_zero _)
    | succ m4 ih4 =>
      intro i Y hm4 hi
      refine fo_iload_n C dX7_bestProphet_4 0 rfl rfl 5 rfl ?_
      refine fo_aload_n C dX7_bestProphet_5 2 rfl rfl 6 rfl ?_
      refine fo_get C dX7_bestProphet_6 fK9 (by decide : fo_k 616 = 9) (by decide) 0 (by decide) fl_X7_7 (v := .ref (Λ.2.2.1 617)) rfl 9 rfl ?_
      refine fo_iconst C dX7_bestProphet_9 (nI 0) ki_0 10 rfl ?_
      refine fo_iald C dX7_bestProphet_10 (by decide : fo_k 617 = 20) (by rw [(show fo_n 617 = 150 from rfl)]; omega) (nI (np)) (hnp) 11 rfl ?_
      refine fo_ncmp_ge C (by omega) (by omega) dX7_bestProphet_11 51 (by decide) 14 rfl (fun c1 => ?_) (fun c1 => ?_)
      · have ein : i = np := by omega
        subst ein
        rcases ho : fp_lst (fun p => decide (0 < fp_ae kd par n p)) (fun p => fp_me kd par n v p) i with _ | o
        · skip
          refine fo_aload_n C dX7_bestProphet_51 2 rfl rfl 52 rfl ?_
          refine fo_iload_n C dX7_bestProphet_52 1 rfl rfl 53 rfl ?_
          refine fo_if_lt C dX7_bestProphet_53 60 (by decide) 56 rfl (fun c2 => ?_) (fun c2 => ?_)
          · refine fo_iconst C dX7_bestProphet_60 (nI 0) ki_0 61 rfl ?_
            refine fo_qvi C dX7_bestProphet_61 mX7_checked_f lv_X7_135 (by decide : fo_k 616 = 9) rfl (by decide) rfl ⟨Nat.le_of_ble_eq_true rfl, Nat.le_of_ble_eq_true rfl⟩ ⟨Nat.le_of_ble_eq_true rfl, Nat.le_of_ble_eq_true rfl⟩ [] rfl (Nat.le_of_ble_eq_true rfl) 64 rfl (fo_er ?_)
            replace ht := ht.th (g := upd (I 616) 5 (nI 1))
            refine fo_nif_le C (by omega) dX7_bestProphet_64 71 (by decide) 67 rfl (fun c9 => ?_) (fun c9 => ?_)
            · omega
            · refine fo_iconst C dX7_bestProphet_67 (nI 0) ki_0 68 rfl ?_
              refine fo_goto C dX7_bestProphet_68 72 (by decide) ?_
              exact fin dX7_bestProphet_72 rfl (⟨(by rw [ho] <;> rfl), (by rw [ho] <;> rfl), rfl, rfl⟩)
          · exact absurd (by decide) c2
        · have ho7 := (fp_lst_in ho).1
          refine fo_aload_n C dX7_bestProphet_51 2 rfl rfl 52 rfl ?_
          refine fo_iload_n C dX7_bestProphet_52 1 rfl rfl 53 rfl ?_
          refine fo_nif_lt C (by omega) dX7_bestProphet_53 56 rfl 60 (by decide) ?_
          refine fo_iconst C dX7_bestProphet_56 (nI 1) ki_1 57 rfl ?_
          refine fo_goto C dX7_bestProphet_57 61 (by decide) ?_
          refine fo_qvi C dX7_bestProphet_61 mX7_checked_t lv_X7_135 (by decide : fo_k 616 = 9) rfl (by decide) rfl ⟨Nat.le_of_ble_eq_true rfl, Nat.le_of_ble_eq_true rfl⟩ ⟨Nat.le_of_ble_eq_true rfl, Nat.le_of_ble_eq_true rfl⟩ [] rfl (Nat.le_of_ble_eq_true rfl) 64 rfl (fo_er ?_)
          replace ht := ht.th (g := upd (I 616) 5 (nI 0))
          refine fo_nif_le C (by omega) dX7_bestProphet_64 71 (by decide) 67 rfl (fun c16 => ?_) (fun c16 => ?_)
          · refine fo_iload_n C dX7_bestProphet_71 1 rfl rfl 72 rfl ?_
            exact fin dX7_bestProphet_72 rfl (⟨(by rw [ho] <;> rfl), (by rw [ho] <;> rfl), rfl, rfl⟩)
          · omega
      · refine fo_aload_n C dX7_bestProphet_14 2 rfl rfl 15 rfl ?_
        refine fo_iload_n C dX7_bestProphet_15 0 rfl rfl 16 rfl ?_
        refine fo_qvi C dX7_bestProphet_16 (mX7_allErrors (p := i) (by omega) ht) lv_X7_220 (by decide : fo_k 616 = 9) rfl (by decide) rfl ⟨Nat.le_of_ble_eq_true rfl, Nat.le_of_ble_eq_true rfl⟩ ⟨Nat.le_of_ble_eq_true rfl, Nat.le_of_ble_eq_true rfl⟩ [] rfl (Nat.le_of_ble_eq_true rfl) 19 rfl (fo_er ?_)
        have q23 := fp_ae_le (kd := kd) (par := par) (n := n) (p := i) ho5
        refine fo_nif_ne C (by omega) dX7_bestProphet_19 25 (by decide) 22 rfl (fun c24 => ?_) (fun c24 => ?_)
        · rcases ho : fp_lst (fun p => decide (0 < fp_ae kd par n p)) (fun p => fp_me kd par n v p) i with _ | o
          · refine fo_iload_n C dX7_bestProphet_25 1 rfl rfl 26 rfl ?_
            refine fo_if_lt C dX7_bestProphet_26 43 (by decide) 29 rfl (fun c25 => ?_) (fun c25 => ?_)
            · refine fo_iload_n C dX7_bestProphet_43 0 rfl rfl 44 rfl ?_
              refine fo_istore_n C dX7_bestProphet_44 rfl [(1, .int (nI i)), (2, .int (nI i)), (0, .ref (Λ.2.2.1 616))] rfl (by decide) 45 rfl ?_
              have e9 : fp_lst (fun p => decide (0 < fp_ae kd par n p)) (fun p => fp_me kd par n v p) (i + 1) = some i := by rw [fp_lst, if_pos (decide_eq_true (by omega)), ho]
              refine fo_lvc (lv2 := [(1, .int (fo_ow (fp_lst (fun p => decide (0 < fp_ae kd par n p)) (fun p => fp_me kd par n v p) (i + 1)))), (2, .int (nI i)), (0, .ref (Λ.2.2.1 616))]) (by rw [e9] <;> rfl) ?_
              refine fo_iinc C dX7_bestProphet_45 1 rfl (nI (i + 1)) (nI_inc1 _) [(2, .int (nI (i + 1))), (1, .int (fo_ow (fp_lst (fun p => decide (0 < fp_ae kd par n p)) (fun p => fp_me kd par n v p) (i + 1)))), (0, .ref (Λ.2.2.1 616))] rfl (by decide) 48 rfl ?_
              refine fo_goto C dX7_bestProphet_48 4 (by decide) ?_
              exact ih4 (i + 1) Y (by omega) (by omega)
            · exact absurd (by decide) c25
          · obtain ⟨ho7, ho9⟩ := fp_lst_in ho
            have ho8 := of_decide_eq_true ho9
            refine fo_iload_n C dX7_bestProphet_25 1 rfl rfl 26 rfl ?_
            refine fo_nif_lt C (by omega) dX7_bestProphet_26 29 rfl 43 (by decide) ?_
            refine fo_aload_n C dX7_bestProphet_29 2 rfl rfl 30 rfl ?_
            refine fo_iload_n C dX7_bestProphet_30 0 rfl rfl 31 rfl ?_
            refine fo_qvd C dX7_bestProphet_31 (mX7_meanErrorOf (p := i) (by omega) (by first | omega | exact ho8) ht) lv_X7_223 (by decide : fo_k 616 = 9) rfl (by decide) rfl ⟨Nat.le_of_ble_eq_true rfl, Nat.le_of_ble_eq_true rfl⟩ ⟨Nat.le_of_ble_eq_true rfl, Nat.le_of_ble_eq_true rfl⟩ [] rfl (Nat.le_of_ble_eq_true rfl) 34 rfl (fo_es (fun X30 => ?_))
            refine fo_aload_n C dX7_bestProphet_34 2 rfl rfl 35 rfl ?_
            refine fo_iload_n C dX7_bestProphet_35 1 rfl rfl 36 rfl ?_
            refine fo_qvd C dX7_bestProphet_36 (mX7_meanErrorOf (p := o) (by omega) (by first | omega | exact ho8) ht) lv_X7_223 (by decide : fo_k 616 = 9) rfl (by decide) rfl ⟨Nat.le_of_ble_eq_true rfl, Nat.le_of_ble_eq_true rfl⟩ ⟨Nat.le_of_ble_eq_true rfl, Nat.le_of_ble_eq_true rfl⟩ [.double (fp_me kd par n v i)] rfl (Nat.le_of_ble_eq_true rfl) 39 rfl (fo_es (fun X36 => ?_))
            refine fo_dcmp C dX7_bestProphet_39 40 rfl ?_
            refine fo_if_ge C dX7_bestProphet_40 45 (by decide) 43 rfl (fun c38 => ?_) (fun c38 => ?_)
            · have e9 : fp_lst (fun p => decide (0 < fp_ae kd par n p)) (fun p => fp_me kd par n v p) (i + 1) = some o := by rw [fp_lst, if_pos (decide_eq_true (by omega)), ho]; exact if_neg (by rw [fp_lt_f (by assumption)]; decide)
              refine fo_lvc (lv2 := [(2, .int (nI i)), (1, .int (fo_ow (fp_lst (fun p => decide (0 < fp_ae kd par n p)) (fun p => fp_me kd par n v p) (i + 1)))), (0, .ref (Λ.2.2.1 616))]) (by rw [e9] <;> rfl) ?_
              refine fo_iinc C dX7_bestProphet_45 0 rfl (nI (i + 1)) (nI_inc1 _) [(2, .int (nI (i + 1))), (1, .int (fo_ow (fp_lst (fun p => decide (0 < fp_ae kd par n p)) (fun p => fp_me kd par n v p) (i + 1)))), (0, .ref (Λ.2.2.1 616))] rfl (by decide) 48 rfl ?_
              refine fo_goto C dX7_bestProphet_48 4 (by decide) ?_
              exact ih4 (i + 1) X36 (by omega) (by omega)
            · refine fo_iload_n C dX7_bestProphet_43 0 rfl rfl 44 rfl ?_
              refine fo_istore_n C dX7_bestProphet_44 rfl [(1, .int (nI i)), (2, .int (nI i)), (0, .ref (Λ.2.2.1 616))] rfl (by decide) 45 rfl ?_
              have e9 : fp_lst (fun p => decide (0 < fp_ae kd par n p)) (fun p => fp_me kd par n v p) (i + 1) = some i := by rw [fp_lst, if_pos (decide_eq_true (by omega)), ho]; exact if_pos (fp_lt_t (by assumption))
              refine fo_lvc (lv2 := [(1, .int (fo_ow (fp_lst (fun p => decide (0 < fp_ae kd par n p)) (fun p => fp_me kd par n v p) (i + 1)))), (2, .int (nI i)), (0, .ref (Λ.2.2.1 616))]) (by rw [e9] <;> rfl) ?_
              refine fo_iinc C dX7_bestProphet_45 1 rfl (nI (i + 1)) (nI_inc1 _) [(2, .int (nI (i + 1))), (1, .int (fo_ow (fp_lst (fun p => decide (0 < fp_ae kd par n p)) (fun p => fp_me kd par n v p) (i + 1)))), (0, .ref (Λ.2.2.1 616))] rfl (by decide) 48 rfl ?_
              refine fo_goto C dX7_bestProphet_48 4 (by decide) ?_
              exact ih4 (i + 1) X36 (by omega) (by omega)
        · refine fo_goto C dX7_bestProphet_22 45 (by decide) ?_
          have e9 : fp_lst (fun p => decide (0 < fp_ae kd par n p)) (fun p => fp_me kd par n v p) i = fp_lst (fun p => decide (0 < fp_ae kd par n p)) (fun p => fp_me kd par n v p) (i + 1) := (by rw [fp_lst, if_neg (by simp; omega)])
          refine fo_lvc (lv2 := [(2, .int (nI i)), (1, .int (fo_ow (fp_lst (fun p => decide (0 < fp_ae kd par n p)) (fun p => fp_me kd par n v p) (i + 1)))), (0, .ref (Λ.2.2.1 616))]) (by rw [e9]) ?_
          refine fo_iinc C dX7_bestProphet_45 0 rfl (nI (i + 1)) (nI_inc1 _) [(2, .int (nI (i + 1))), (1, .int (fo_ow (fp_lst (fun p => decide (0 < fp_ae kd par n p)) (fun p => fp_me kd par n v p) (i + 1)))), (0, .ref (Λ.2.2.1 616))] rfl (by decide) 48 rfl ?_
          refine fo_goto C dX7_bestProphet_48 4 (by decide) ?_
          exact ih4 (i + 1) Y (by omega) (by omega)
  exact hL4 (np + 1 + 1) 0 X (by omega) (by omega)
set_option maxRecDepth 10000 in
set_option maxHeartbeats 4000000 in
theorem mX7_outlierShare {l : Launch} {Λ : fo_Lt} {I : fo_Mi} {D : fo_Md} {J : fo_Mj} {X : fo_Mi} {np lim : Nat} {kd par n : Nat → Nat} {v : Nat → Nat → Nat} (ht : fm_T I 617 np lim kd par n v) : fk_f l yX7_outlierShare cX7_outlierShare 1 4 97 Λ [.ref (Λ.2.2.1 616)] I D J X ((fun r I' D' J' X' => r = ((if 0 < fp_sum n 0 4 then (0, FP.fdiv (FP.i2f (nI (fp_sum (fun k => fp_cnt (fp_off (v k) lim) (n k)) 0 4))) (FP.i2f (nI (fp_sum n 0 4)))) else (1, FP.fconst0) : Nat × UInt32)).2 ∧ I' = fo_r I 616 (upd (I 616) 5 (nI ((if 0 < fp_sum n 0 4 then (0, FP.fdiv (FP.i2f (nI (fp_sum (fun k => fp_cnt (fp_off (v k) lim) (n k)) 0 4))) (FP.i2f (nI (fp_sum n 0 4)))) else (1, FP.fconst0) : Nat × UInt32)).1)) ∧ D' = D ∧ J' = J)) := by
  obtain ⟨⟨ho1, ⟨ho2, ho3⟩, ho4, ho5, ho6⟩, hnp, hlim, hP, hS⟩ := id ht
  refine fo_sf (by decide) [(0, .ref (Λ.2.2.1 616))] rfl (Nat.le_of_ble_eq_true rfl) (fun K C fin => ?_)
  rcases Nat.eq_zero_or_pos (fp_sum n 0 4) with hc3 | hc3
  · skip
    refine fo_aload_n C dX7_outlierShare_0 0 rfl rfl 1 rfl ?_
    refine fo_aload_n C dX7_outlierShare_1 0 rfl rfl 2 rfl ?_
    refine fo_qvi C dX7_outlierShare_2 (mX7_allDays ht) lv_X7_100 (by decide : fo_k 616 = 9) rfl (by decide) rfl ⟨Nat.le_of_ble_eq_true rfl, Nat.le_of_ble_eq_true rfl⟩ ⟨Nat.le_of_ble_eq_true rfl, Nat.le_of_ble_eq_true rfl⟩ [.ref (Λ.2.2.1 616)] rfl (Nat.le_of_ble_eq_true rfl) 5 rfl (fo_er ?_)
    have qa7 := fp_sum_le (v := n) (a := 0) (c := 30) (n := 4) (fun k hk => by rw [Nat.zero_add]; exact ho5 k hk)
    refine fo_nif_le C (by omega) dX7_outlierShare_5 12 (by decide) 8 rfl (fun c8 => ?_) (fun c8 => ?_)
    · refine fo_iconst C dX7_outlierShare_12 (nI 0) ki_0 13 rfl ?_
      refine fo_qvi C dX7_outlierShare_13 mX7_checked_f lv_X7_135 (by decide : fo_k 616 = 9) rfl (by decide) rfl ⟨Nat.le_of_ble_eq_true rfl, Nat.le_of_ble_eq_true rfl⟩ ⟨Nat.le_of_ble_eq_true rfl, Nat.le_of_ble_eq_true rfl⟩ [] rfl (Nat.le_of_ble_eq_true rfl) 16 rfl (fo_er ?_)
      replace ht := ht.th (g := upd (I 616) 5 (nI 1))
      refine fo_nif_le C (by omega) dX7_outlierShare_16 21 (by decide) 19 rfl (fun c15 => ?_) (fun c15 => ?_)
      · omega
      · refine fo_fconst0 C dX7_outlierShare_19 20 rfl ?_
        exact fin dX7_outlierShare_20 (⟨(by rw [if_neg (by omega)] <;> rfl), (by rw [if_neg (by omega)] <;> exact rfl), rfl, rfl⟩)
    · omega
  · skip
    refine fo_aload_n C dX7_outlierShare_0 0 rfl rfl 1 rfl ?_
    refine fo_aload_n C dX7_outlierShare_1 0 rfl rfl 2 rfl ?_
    refine fo_qvi C dX7_outlierShare_2 (mX7_allDays ht) lv_X7_100 (by decide : fo_k 616 = 9) rfl (by decide) rfl ⟨Nat.le_of_ble_eq_true rfl, Nat.le_of_ble_eq_true rfl⟩ ⟨Nat.le_of_ble_eq_true rfl, Nat.le_of_ble_eq_true rfl⟩ [.ref (Λ.2.2.1 616)] rfl (Nat.le_of_ble_eq_true rfl) 5 rfl (fo_er ?_)
    have qa22 := fp_sum_le (v := n) (a := 0) (c := 30) (n := 4) (fun k hk => by rw [Nat.zero_add]; exact ho5 k hk)
    refine fo_nif_le C (by omega) dX7_outlierShare_5 12 (by decide) 8 rfl (fun c23 => ?_) (fun c23 => ?_)
    · omega
    · refine fo_iconst C dX7_outlierShare_8 (nI 1) ki_1 9 rfl ?_
      refine fo_goto C dX7_outlierShare_9 13 (by decide) ?_
      refine fo_qvi C dX7_outlierShare_13 mX7_checked_t lv_X7_135 (by decide : fo_k 616 = 9) rfl (by decide) rfl ⟨Nat.le_of_ble_eq_true rfl, Nat.le_of_ble_eq_true rfl⟩ ⟨Nat.le_of_ble_eq_true rfl, Nat.le_of_ble_eq_true rfl⟩ [] rfl (Nat.le_of_ble_eq_true rfl) 16 rfl (fo_er ?_)
      replace ht := ht.th (g := upd (I 616) 5 (nI 0))
      refine fo_nif_le C (by omega) dX7_outlierShare_16 21 (by decide) 19 rfl (fun c30 => ?_) (fun c30 => ?_)
      · refine fo_aload_n C dX7_outlierShare_21 0 rfl rfl 22 rfl ?_
        refine fo_iconst C dX7_outlierShare_22 (nI 0) ki_0 23 rfl ?_
        refine fo_qvi C dX7_outlierShare_23 (mX7_offOf (k := 0) (by omega) ht) lv_X7_178 (by decide : fo_k 616 = 9) rfl (by decide) rfl ⟨Nat.le_of_ble_eq_true rfl, Nat.le_of_ble_eq_true rfl⟩ ⟨Nat.le_of_ble_eq_true rfl, Nat.le_of_ble_eq_true rfl⟩ [] rfl (Nat.le_of_ble_eq_true rfl) 26 rfl (fo_es (fun X35 => ?_))
        have q37 := fp_cnt_le (fp_off (v 0) lim) (n 0)
        have q38 := ho5 0 (by omega)
        refine fo_aload_n C dX7_outlierShare_26 0 rfl rfl 27 rfl ?_
        refine fo_iconst C dX7_outlierShare_27 (nI 1) ki_1 28 rfl ?_
        refine fo_qvi C dX7_outlierShare_28 (mX7_offOf (k := 1) (by omega) ht) lv_X7_178 (by decide : fo_k 616 = 9) rfl (by decide) rfl ⟨Nat.le_of_ble_eq_true rfl, Nat.le_of_ble_eq_true rfl⟩ ⟨Nat.le_of_ble_eq_true rfl, Nat.le_of_ble_eq_true rfl⟩ [.int (nI (fp_cnt (fp_off (v 0) lim) (n 0)))] rfl (Nat.le_of_ble_eq_true rfl) 31 rfl (fo_es (fun X43 => ?_))
        have q45 := fp_cnt_le (fp_off (v 1) lim) (n 1)
        have q46 := ho5 1 (by omega)
        refine fo_iadd C dX7_outlierShare_31 (nI ((fp_cnt (fp_off (v 0) lim) (n 0)) + (fp_cnt (fp_off (v 1) lim) (n 1)))) (nI_add _ _) 32 rfl ?_
        refine fo_aload_n C dX7_outlierShare_32 0 rfl rfl 33 rfl ?_
        refine fo_iconst C dX7_outlierShare_33 (nI 2) ki_2 34 rfl ?_
        refine fo_qvi C dX7_outlierShare_34 (mX7_offOf (k := 2) (by omega) ht) lv_X7_178 (by decide : fo_k 616 = 9) rfl (by decide) rfl ⟨Nat.le_of_ble_eq_true rfl, Nat.le_of_ble_eq_true rfl⟩ ⟨Nat.le_of_ble_eq_true rfl, Nat.le_of_ble_eq_true rfl⟩ [.int (nI ((fp_cnt (fp_off (v 0) lim) (n 0)) + (fp_cnt (fp_off (v 1) lim) (n 1))))] rfl (Nat.le_of_ble_eq_true rfl) 37 rfl (fo_es (fun X51 => ?_))
        have q53 := fp_cnt_le (fp_off (v 2) lim) (n 2)
        have q54 := ho5 2 (by omega)
        refine fo_iadd C dX7_outlierShare_37 (nI (((fp_cnt (fp_off (v 0) lim) (n 0)) + (fp_cnt (fp_off (v 1) lim) (n 1))) + (fp_cnt (fp_off (v 2) lim) (n 2)))) (nI_add _ _) 38 rfl ?_
        refine fo_aload_n C dX7_outlierShare_38 0 rfl rfl 39 rfl ?_
        refine fo_iconst C dX7_outlierShare_39 (nI 3) ki_3 40 rfl ?_
        refine fo_qvi C dX7_outlierShare_40 (mX7_offOf (k := 3) (by omega) ht) lv_X7_178 (by decide : fo_k 616 = 9) rfl (by decide) rfl ⟨Nat.le_of_ble_eq_true rfl, Nat.le_of_ble_eq_true rfl⟩ ⟨Nat.le_of_ble_eq_true rfl, Nat.le_of_ble_eq_true rfl⟩ [.int (nI (((fp_cnt (fp_off (v 0) lim) (n 0)) + (fp_cnt (fp_off (v 1) lim) (n 1))) + (fp_cnt (fp_off (v 2) lim) (n 2))))] rfl (Nat.le_of_ble_eq_true rfl) 43 rfl (fo_es (fun X59 => ?_))
        have q61 := fp_cnt_le (fp_off (v 3) lim) (n 3)
        have q62 := ho5 3 (by omega)
        refine fo_iadd C dX7_outlierShare_43 (nI ((((fp_cnt (fp_off (v 0) lim) (n 0)) + (fp_cnt (fp_off (v 1) lim) (n 1))) + (fp_cnt (fp_off (v 2) lim) (n 2))) + (fp_cnt (fp_off (v 3) lim) (n 3)))) (nI_add _ _) 44 rfl ?_
        refine fo_ti (b := nI (fp_sum (fun k => fp_cnt (fp_off (v k) lim) (n k)) 0 4)) (congrArg nI (by simp only [fp_sum, Nat.zero_add])) ?_
        refine fo_i2f C dX7_outlierShare_44 45 rfl ?_
        refine fo_aload_n C dX7_outlierShare_45 0 rfl rfl 46 rfl ?_
        refine fo_qvi C dX7_outlierShare_46 (mX7_allDays ht) lv_X7_100 (by decide : fo_k 616 = 9) rfl (by decide) rfl ⟨Nat.le_of_ble_eq_true rfl, Nat.le_of_ble_eq_true rfl⟩ ⟨Nat.le_of_ble_eq_true rfl, Nat.le_of_ble_eq_true rfl⟩ [.float (FP.i2f (nI ((fp_sum (fun k => fp_cnt (fp_off (v k) lim) (n k)) 0 4))))] rfl (Nat.le_of_ble_eq_true rfl) 49 rfl (fo_er ?_)
        have qa69 := fp_sum_le (v := n) (a := 0) (c := 30) (n := 4) (fun k hk => by rw [Nat.zero_add]; exact ho5 k hk)
        refine fo_i2f C dX7_outlierShare_49 50 rfl ?_
        refine fo_fdiv C dX7_outlierShare_50 (ff_divi (by omega) (by omega)) 51 rfl ?_
        exact fin dX7_outlierShare_51 (⟨(by rw [if_pos hc3] <;> rfl), (by rw [if_pos hc3] <;> exact rfl), rfl, rfl⟩)
      · omega
