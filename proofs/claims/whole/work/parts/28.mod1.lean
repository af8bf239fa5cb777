
/-! THE MODEL: its small words -/
def fm_in (x lo hi : Int32) : Bool := decide (¬ x < lo ∧ ¬ hi < x)
theorem fm_in_s {x : Int32} {m : Nat} (hm : m < 2 ^ 30) : fm_in x (nI 0) (nI m) = fo_inr x (m + 1) := by
  unfold fm_in fo_inr
  have e1 : x < nI 0 ↔ x.toInt < 0 := by rw [Int32.lt_iff_toInt_lt, nI_toInt (by decide)]; rfl
  have e2 : nI m < x ↔ (m : Int) < x.toInt := by rw [Int32.lt_iff_toInt_lt, nI_toInt (by omega)]
  by_cases h : 0 ≤ x.toInt ∧ x.toInt < ((m + 1 : Nat) : Int)
  · rw [decide_eq_true h, decide_eq_true ⟨fun q => by have := e1.mp q; omega, fun q => by have := e2.mp q; omega⟩]
  · rw [decide_eq_false h, decide_eq_false (fun q => h ⟨by have : ¬ x.toInt < 0 := fun z => q.1 (e1.mpr z); omega, by have : ¬ (m : Int) < x.toInt := fun z => q.2 (e2.mpr z); omega⟩)]
/-- a row of the model holds a state -/
def fm_T (I : fo_Mi) (r np lim : Nat) (kd par n : Nat → Nat) (v : Nat → Nat → Nat) : Prop := fa_ok np lim kd par n v ∧ I r 0 = nI np ∧ I r 1 = nI lim ∧ (∀ p, p < np → I r (2 + p) = nI (kd p) ∧ I r (10 + p) = nI (par p)) ∧ ∀ k, k < 4 → I r (18 + k) = nI (n k) ∧ ∀ d, d < n k → I r (22 + 30 * k + d) = nI (v k d)

set_option maxRecDepth 10000 in
set_option maxHeartbeats 4000000 in
theorem mX7_in {l : Launch} {Λ : fo_Lt} {I : fo_Mi} {D : fo_Md} {J : fo_Mj} {X : fo_Mi} {x y z : Int32}  : fk_i l yX7_in cX7_in 3 .boolean 0 0 Λ [.int (x), .int (y), .int (z)] I D J X (fo_pr (fo_b (fm_in x y z)) I D J X) := by
  refine fo_si (by decide) [(0, .int (x)), (1, .int (y)), (2, .int (z))] rfl (Nat.le_of_ble_eq_true rfl) (fun K C fin => ?_)
  refine fo_iload_n C dX7_in_0 0 rfl rfl 1 rfl ?_
  refine fo_iload_n C dX7_in_1 1 rfl rfl 2 rfl ?_
  refine fo_icmp_lt C dX7_in_2 14 (by decide) 5 rfl (fun c1 => ?_) (fun c1 => ?_)
  · refine fo_iconst C dX7_in_14 (nI 0) ki_0 15 rfl ?_
    exact fin dX7_in_15 (by first | rfl | exact fo_nb _) (⟨fo_b0 (decide_eq_false (fun q => by first | exact q.1 (by assumption) | exact q.2 (by assumption))), rfl, rfl, rfl, rfl⟩)
  · refine fo_iload_n C dX7_in_5 0 rfl rfl 6 rfl ?_
    refine fo_iload_n C dX7_in_6 2 rfl rfl 7 rfl ?_
    refine fo_icmp_gt C dX7_in_7 14 (by decide) 10 rfl (fun c2 => ?_) (fun c2 => ?_)
    · refine fo_iconst C dX7_in_14 (nI 0) ki_0 15 rfl ?_
      exact fin dX7_in_15 (by first | rfl | exact fo_nb _) (⟨fo_b0 (decide_eq_false (fun q => by first | exact q.1 (by assumption) | exact q.2 (by assumption))), rfl, rfl, rfl, rfl⟩)
    · refine fo_iconst C dX7_in_10 (nI 1) ki_1 11 rfl ?_
      refine fo_goto C dX7_in_11 15 (by decide) ?_
      exact fin dX7_in_15 (by first | rfl | exact fo_nb _) (⟨fo_b1 (decide_eq_true ⟨by assumption, Int32.not_lt.mpr (Int32.not_lt.mp (by assumption))⟩), rfl, rfl, rfl, rfl⟩)
set_option maxRecDepth 10000 in
set_option maxHeartbeats 4000000 in
theorem mX7_isSeries {l : Launch} {Λ : fo_Lt} {I : fo_Mi} {D : fo_Md} {J : fo_Mj} {X : fo_Mi} {x : Int32}  : fk_i l yX7_isSeries cX7_isSeries 1 .boolean 1 22 Λ [.int (x)] I D J X (fo_pr (fo_b (fo_inr x 4)) I D J X) := by
  refine fo_si (by decide) [(0, .int (x))] rfl (Nat.le_of_ble_eq_true rfl) (fun K C fin => ?_)
  refine fo_iload_n C dX7_isSeries_0 0 rfl rfl 1 rfl ?_
  refine fo_iconst C dX7_isSeries_1 (nI 0) ki_0 2 rfl ?_
  refine fo_iconst C dX7_isSeries_2 (nI 3) ki_3 3 rfl ?_
  refine fo_qsi C dX7_isSeries_3 (mX7_in (x := x) (y := (nI (0))) (z := (nI (3)))) ls_X7_88 rfl ⟨Nat.le_of_ble_eq_true rfl, Nat.le_of_ble_eq_true rfl⟩ ⟨Nat.le_of_ble_eq_true rfl, Nat.le_of_ble_eq_true rfl⟩ [] rfl (Nat.le_of_ble_eq_true rfl) 6 rfl (fo_er ?_)
  exact fin dX7_isSeries_6 (by first | rfl | exact fo_nb _) (⟨congrArg fo_b (fm_in_s (by decide)), rfl, rfl, rfl, rfl⟩)
set_option maxRecDepth 10000 in
set_option maxHeartbeats 4000000 in
theorem mX7_daysOf {l : Launch} {Λ : fo_Lt} {I : fo_Mi} {D : fo_Md} {J : fo_Mj} {X : fo_Mi} {np lim : Nat} {kd par n : Nat → Nat} {v : Nat → Nat → Nat} {k : Nat} (hk : k < 4) (ht : fm_T I 617 np lim kd par n v) : fk_i l yX7_daysOf cX7_daysOf 2 .int 0 0 Λ [.ref (Λ.2.2.1 616), .int (nI k)] I D J X (fo_pr (nI (n k)) I D J X) := by
  obtain ⟨⟨ho1, ⟨ho2, ho3⟩, ho4, ho5, ho6⟩, hnp, hlim, hP, hS⟩ := id ht
  refine fo_si (by decide) [(0, .ref (Λ.2.2.1 616)), (1, .int (nI k))] rfl (Nat.le_of_ble_eq_true rfl) (fun K C fin => ?_)
  refine fo_aload_n C dX7_daysOf_0 0 rfl rfl 1 rfl ?_
  refine fo_get C dX7_daysOf_1 fK9 (by decide : fo_k 616 = 9) (by decide) 0 (by decide) fl_X7_7 (v := .ref (Λ.2.2.1 617)) rfl 4 rfl ?_
  refine fo_bipush C dX7_daysOf_4 (nI 18) kb_18 6 rfl ?_
  refine fo_iload_n C dX7_daysOf_6 1 rfl rfl 7 rfl ?_
  refine fo_iadd C dX7_daysOf_7 (nI (18 + k)) (nI_add _ _) 8 rfl ?_
  have q1 := ho5 k (by omega)
  refine fo_iald C dX7_daysOf_8 (by decide : fo_k 617 = 20) (by rw [(show fo_n 617 = 150 from rfl)]; omega) (nI (n k)) ((hS k (by omega)).1) 9 rfl ?_
  exact fin dX7_daysOf_9 rfl (⟨rfl, rfl, rfl, rfl, rfl⟩)
set_option maxRecDepth 10000 in
set_option maxHeartbeats 4000000 in
theorem mX7_v {l : Launch} {Λ : fo_Lt} {I : fo_Mi} {D : fo_Md} {J : fo_Mj} {X : fo_Mi} {np lim : Nat} {kd par n : Nat → Nat} {v : Nat → Nat → Nat} {k d : Nat} (hk : k < 4) (hd : d < n k) (ht : fm_T I 617 np lim kd par n v) : fk_i l yX7_v cX7_v 3 .int 0 0 Λ [.ref (Λ.2.2.1 616), .int (nI k), .int (nI d)] I D J X (fo_pr (nI (v k d)) I D J X) := by
  obtain ⟨⟨ho1, ⟨ho2, ho3⟩, ho4, ho5, ho6⟩, hnp, hlim, hP, hS⟩ := id ht
  have hnk := ho5 k hk
  refine fo_si (by decide) [(0, .ref (Λ.2.2.1 616)), (1, .int (nI k)), (2, .int (nI d))] rfl (Nat.le_of_ble_eq_true rfl) (fun K C fin => ?_)
  refine fo_aload_n C dX7_v_0 0 rfl rfl 1 rfl ?_
  refine fo_get C dX7_v_1 fK9 (by decide : fo_k 616 = 9) (by decide) 0 (by decide) fl_X7_7 (v := .ref (Λ.2.2.1 617)) rfl 4 rfl ?_
  refine fo_bipush C dX7_v_4 (nI 22) kb_22 6 rfl ?_
  refine fo_bipush C dX7_v_6 (nI 30) kb_30 8 rfl ?_
  refine fo_iload_n C dX7_v_8 1 rfl rfl 9 rfl ?_
  refine fo_imul C dX7_v_9 (nI (30 * k)) (pk_mul _ _) 10 rfl ?_
  refine fo_iadd C dX7_v_10 (nI (22 + (30 * k))) (nI_add _ _) 11 rfl ?_
  refine fo_iload_n C dX7_v_11 2 rfl rfl 12 rfl ?_
  refine fo_iadd C dX7_v_12 (nI ((22 + (30 * k)) + d)) (nI_add _ _) 13 rfl ?_
  have q1 := ho6 k (by omega) d (by omega)
  refine fo_iald C dX7_v_13 (by decide : fo_k 617 = 20) (by rw [(show fo_n 617 = 150 from rfl)]; omega) (nI (v k d)) (((hS k (by omega)).2 _ (by omega))) 14 rfl ?_
  exact fin dX7_v_14 rfl (⟨rfl, rfl, rfl, rfl, rfl⟩)
set_option maxRecDepth 10000 in
set_option maxHeartbeats 4000000 in
theorem mX7_allDays {l : Launch} {Λ : fo_Lt} {I : fo_Mi} {D : fo_Md} {J : fo_Mj} {X : fo_Mi} {np lim : Nat} {kd par n : Nat → Nat} {v : Nat → Nat → Nat} (ht : fm_T I 617 np lim kd par n v) : fk_i l yX7_allDays cX7_allDays 1 .int 1 21 Λ [.ref (Λ.2.2.1 616)] I D J X (fo_pr (nI (fp_sum n 0 4)) I D J X) := by
  obtain ⟨⟨ho1, ⟨ho2, ho3⟩, ho4, ho5, ho6⟩, hnp, hlim, hP, hS⟩ := id ht
  refine fo_si (by decide) [(0, .ref (Λ.2.2.1 616))] rfl (Nat.le_of_ble_eq_true rfl) (fun K C fin => ?_)
  refine fo_aload_n C dX7_allDays_0 0 rfl rfl 1 rfl ?_
  refine fo_iconst C dX7_allDays_1 (nI 0) ki_0 2 rfl ?_
  refine fo_qvi C dX7_allDays_2 (mX7_daysOf (k := 0) (by omega) ht) lv_X7_92 (by decide : fo_k 616 = 9) rfl (by decide) rfl ⟨Nat.le_of_ble_eq_true rfl, Nat.le_of_ble_eq_true rfl⟩ ⟨Nat.le_of_ble_eq_true rfl, Nat.le_of_ble_eq_true rfl⟩ [] rfl (Nat.le_of_ble_eq_true rfl) 5 rfl (fo_er ?_)
  have q7 := ho5 0 (by omega)
  refine fo_aload_n C dX7_allDays_5 0 rfl rfl 6 rfl ?_
  refine fo_iconst C dX7_allDays_6 (nI 1) ki_1 7 rfl ?_
  refine fo_qvi C dX7_allDays_7 (mX7_daysOf (k := 1) (by omega) ht) lv_X7_92 (by decide : fo_k 616 = 9) rfl (by decide) rfl ⟨Nat.le_of_ble_eq_true rfl, Nat.le_of_ble_eq_true rfl⟩ ⟨Nat.le_of_ble_eq_true rfl, Nat.le_of_ble_eq_true rfl⟩ [.int (nI (n 0))] rfl (Nat.le_of_ble_eq_true rfl) 10 rfl (fo_er ?_)
  have q14 := ho5 1 (by omega)
  refine fo_iadd C dX7_allDays_10 (nI ((n 0) + (n 1))) (nI_add _ _) 11 rfl ?_
  refine fo_aload_n C dX7_allDays_11 0 rfl rfl 12 rfl ?_
  refine fo_iconst C dX7_allDays_12 (nI 2) ki_2 13 rfl ?_
  refine fo_qvi C dX7_allDays_13 (mX7_daysOf (k := 2) (by omega) ht) lv_X7_92 (by decide : fo_k 616 = 9) rfl (by decide) rfl ⟨Nat.le_of_ble_eq_true rfl, Nat.le_of_ble_eq_true rfl⟩ ⟨Nat.le_of_ble_eq_true rfl, Nat.le_of_ble_eq_true rfl⟩ [.int (nI ((n 0) + (n 1)))] rfl (Nat.le_of_ble_eq_true rfl) 16 rfl (fo_er ?_)
  have q21 := ho5 2 (by omega)
  refine fo_iadd C dX7_allDays_16 (nI (((n 0) + (n 1)) + (n 2))) (nI_add _ _) 17 rfl ?_
  refine fo_aload_n C dX7_allDays_17 0 rfl rfl 18 rfl ?_
  refine fo_iconst C dX7_allDays_18 (nI 3) ki_3 19 rfl ?_
  refine fo_qvi C dX7_allDays_19 (mX7_daysOf (k := 3) (by omega) ht) lv_X7_92 (by decide : fo_k 616 = 9) rfl (by decide) rfl ⟨Nat.le_of_ble_eq_true rfl, Nat.le_of_ble_eq_true rfl⟩ ⟨Nat.le_of_ble_eq_true rfl, Nat.le_of_ble_eq_true rfl⟩ [.int (nI (((n 0) + (n 1)) + (n 2)))] rfl (Nat.le_of_ble_eq_true rfl) 22 rfl (fo_er ?_)
  have q28 := ho5 3 (by omega)
  refine fo_iadd C dX7_allDays_22 (nI ((((n 0) + (n 1)) + (n 2)) + (n 3))) (nI_add _ _) 23 rfl ?_
  exact fin dX7_allDays_23 rfl (⟨congrArg nI (by simp only [fp_sum, Nat.zero_add]), rfl, rfl, rfl, rfl⟩)
set_option maxRecDepth 10000 in
set_option maxHeartbeats 4000000 in
theorem mX7_fail {l : Launch} {Λ : fo_Lt} {I : fo_Mi} {D : fo_Md} {J : fo_Mj} {X : fo_Mi} {x : Int32}  : fk_i l yX7_fail cX7_fail 2 .int 0 0 Λ [.ref (Λ.2.2.1 616), .int (x)] I D J X (fo_pr (nI 0) (fo_r I 616 (upd (I 616) 5 (x))) D J X) := by
  refine fo_si (by decide) [(0, .ref (Λ.2.2.1 616)), (1, .int (x))] rfl (Nat.le_of_ble_eq_true rfl) (fun K C fin => ?_)
  refine fo_aload_n C dX7_fail_0 0 rfl rfl 1 rfl ?_
  refine fo_iload_n C dX7_fail_1 1 rfl rfl 2 rfl ?_
  refine fo_put C dX7_fail_2 fK9 (by decide : fo_k 616 = 9) (by decide) 5 (by decide) fl_X7_25 rfl rfl rfl rfl (Nat.le_of_ble_eq_true rfl) 5 rfl ?_
  refine fo_iconst C dX7_fail_5 (nI 0) ki_0 6 rfl ?_
  exact fin dX7_fail_6 rfl (⟨rfl, rfl, rfl, rfl, rfl⟩)
set_option maxRecDepth 10000 in
set_option maxHeartbeats 4000000 in
theorem mX7_plain {l : Launch} {Λ : fo_Lt} {I : fo_Mi} {D : fo_Md} {J : fo_Mj} {X : fo_Mi} {x : Int32}  : fk_i l yX7_plain cX7_plain 2 .int 0 0 Λ [.ref (Λ.2.2.1 616), .int (x)] I D J X (fo_pr x (fo_r I 616 (upd (I 616) 5 (nI 0))) D J X) := by
  refine fo_si (by decide) [(0, .ref (Λ.2.2.1 616)), (1, .int (x))] rfl (Nat.le_of_ble_eq_true rfl) (fun K C fin => ?_)
  refine fo_aload_n C dX7_plain_0 0 rfl rfl 1 rfl ?_
  refine fo_iconst C dX7_plain_1 (nI 0) ki_0 2 rfl ?_
  refine fo_put C dX7_plain_2 fK9 (by decide : fo_k 616 = 9) (by decide) 5 (by decide) fl_X7_25 rfl rfl rfl rfl (Nat.le_of_ble_eq_true rfl) 5 rfl ?_
  refine fo_iload_n C dX7_plain_5 1 rfl rfl 6 rfl ?_
  exact fin dX7_plain_6 rfl (⟨rfl, rfl, rfl, rfl, rfl⟩)
set_option maxRecDepth 10000 in
set_option maxHeartbeats 4000000 in
theorem mX7_thrown {l : Launch} {Λ : fo_Lt} {I : fo_Mi} {D : fo_Md} {J : fo_Mj} {X : fo_Mi} {x : Int32} (hx : I 616 5 = x) : fk_i l yX7_thrown cX7_thrown 1 .int 0 0 Λ [.ref (Λ.2.2.1 616)] I D J X (fo_pr (x) I D J X) := by
  refine fo_si (by decide) [(0, .ref (Λ.2.2.1 616))] rfl (Nat.le_of_ble_eq_true rfl) (fun K C fin => ?_)
  refine fo_aload_n C dX7_thrown_0 0 rfl rfl 1 rfl ?_
  refine fo_get C dX7_thrown_1 fK9 (by decide : fo_k 616 = 9) (by decide) 5 (by decide) fl_X7_25 (v := .int (x)) (congrArg (fun x => some (Value.int x)) (hx)) 4 rfl ?_
  exact fin dX7_thrown_4 rfl (⟨rfl, rfl, rfl, rfl, rfl⟩)
