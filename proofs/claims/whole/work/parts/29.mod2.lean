
/-! THE MODEL: checks -/
def fm_kc (x : Int32) : Bool := decide (x = nI 108 ∨ x = nI 109 ∨ x = nI 100 ∨ x = nI 116 ∨ x = nI 115)
theorem fm_in_p {x : Int32} {m : Nat} (hm : m < 2 ^ 30) : fm_in x (nI 0) (nI m - nI 1) = fo_inr x m := by
  unfold fm_in fo_inr
  have e0 : (nI m - nI 1).toInt = (m : Int) - 1 := pk_sub_toInt (a := m) (b := 1) hm (by decide)
  have e1 : x < nI 0 ↔ x.toInt < 0 := by rw [Int32.lt_iff_toInt_lt, nI_toInt (by decide)]; rfl
  have e2 : nI m - nI 1 < x ↔ (m : Int) - 1 < x.toInt := by rw [Int32.lt_iff_toInt_lt, e0]
  by_cases h : 0 ≤ x.toInt ∧ x.toInt < (m : Int)
  · rw [decide_eq_true h, decide_eq_true ⟨fun q => by have := e1.mp q; omega, fun q => by have := e2.mp q; omega⟩]
  · rw [decide_eq_false h, decide_eq_false (fun q => h ⟨by have : ¬ x.toInt < 0 := fun z => q.1 (e1.mpr z); omega, by have : ¬ (m : Int) - 1 < x.toInt := fun z => q.2 (e2.mpr z); omega⟩)]

set_option maxRecDepth 10000 in
set_option maxHeartbeats 4000000 in
theorem mX7_isKind {l : Launch} {Λ : fo_Lt} {I : fo_Mi} {D : fo_Md} {J : fo_Mj} {X : fo_Mi} {x : Int32}  : fk_i l yX7_isKind cX7_isKind 1 .boolean 0 0 Λ [.int (x)] I D J X (fo_pr (fo_b (fm_kc x)) I D J X) := by
  refine fo_si (by decide) [(0, .int (x))] rfl (Nat.le_of_ble_eq_true rfl) (fun K C fin => ?_)
  refine fo_iload_n C dX7_isKind_0 0 rfl rfl 1 rfl ?_
  refine fo_bipush C dX7_isKind_1 (nI 108) kb_108 3 rfl ?_
  refine fo_icmp_eq C dX7_isKind_3 30 (by decide) 6 rfl (fun c1 => ?_) (fun c1 => ?_)
  · refine fo_iconst C dX7_isKind_30 (nI 1) ki_1 31 rfl ?_
    refine fo_goto C dX7_isKind_31 35 (by decide) ?_
    exact fin dX7_isKind_35 (by first | rfl | exact fo_nb _) (⟨fo_b1 (decide_eq_true (by simp_all)), rfl, rfl, rfl, rfl⟩)
  · refine fo_iload_n C dX7_isKind_6 0 rfl rfl 7 rfl ?_
    refine fo_bipush C dX7_isKind_7 (nI 109) kb_109 9 rfl ?_
    refine fo_icmp_eq C dX7_isKind_9 30 (by decide) 12 rfl (fun c2 => ?_) (fun c2 => ?_)
    · refine fo_iconst C dX7_isKind_30 (nI 1) ki_1 31 rfl ?_
      refine fo_goto C dX7_isKind_31 35 (by decide) ?_
      exact fin dX7_isKind_35 (by first | rfl | exact fo_nb _) (⟨fo_b1 (decide_eq_true (by simp_all)), rfl, rfl, rfl, rfl⟩)
    · refine fo_iload_n C dX7_isKind_12 0 rfl rfl 13 rfl ?_
      refine fo_bipush C dX7_isKind_13 (nI 100) kb_100 15 rfl ?_
      refine fo_icmp_eq C dX7_isKind_15 30 (by decide) 18 rfl (fun c3 => ?_) (fun c3 => ?_)
      · refine fo_iconst C dX7_isKind_30 (nI 1) ki_1 31 rfl ?_
        refine fo_goto C dX7_isKind_31 35 (by decide) ?_
        exact fin dX7_isKind_35 (by first | rfl | exact fo_nb _) (⟨fo_b1 (decide_eq_true (by simp_all)), rfl, rfl, rfl, rfl⟩)
      · refine fo_iload_n C dX7_isKind_18 0 rfl rfl 19 rfl ?_
        refine fo_bipush C dX7_isKind_19 (nI 116) kb_116 21 rfl ?_
        refine fo_icmp_eq C dX7_isKind_21 30 (by decide) 24 rfl (fun c4 => ?_) (fun c4 => ?_)
        · refine fo_iconst C dX7_isKind_30 (nI 1) ki_1 31 rfl ?_
          refine fo_goto C dX7_isKind_31 35 (by decide) ?_
          exact fin dX7_isKind_35 (by first | rfl | exact fo_nb _) (⟨fo_b1 (decide_eq_true (by simp_all)), rfl, rfl, rfl, rfl⟩)
        · refine fo_iload_n C dX7_isKind_24 0 rfl rfl 25 rfl ?_
          refine fo_bipush C dX7_isKind_25 (nI 115) kb_115 27 rfl ?_
          refine fo_icmp_ne C dX7_isKind_27 34 (by decide) 30 rfl (fun c5 => ?_) (fun c5 => ?_)
          · refine fo_iconst C dX7_isKind_34 (nI 0) ki_0 35 rfl ?_
            exact fin dX7_isKind_35 (by first | rfl | exact fo_nb _) (⟨fo_b0 (decide_eq_false (by simp_all)), rfl, rfl, rfl, rfl⟩)
          · refine fo_iconst C dX7_isKind_30 (nI 1) ki_1 31 rfl ?_
            refine fo_goto C dX7_isKind_31 35 (by decide) ?_
            exact fin dX7_isKind_35 (by first | rfl | exact fo_nb _) (⟨fo_b1 (decide_eq_true (by simp_all)), rfl, rfl, rfl, rfl⟩)
set_option maxRecDepth 10000 in
set_option maxHeartbeats 4000000 in
theorem mX7_checked {l : Launch} {Λ : fo_Lt} {I : fo_Mi} {D : fo_Md} {J : fo_Mj} {X : fo_Mi} {b : Bool}  : fk_i l yX7_checked cX7_checked 2 .int 0 0 Λ [.ref (Λ.2.2.1 616), .int (fo_b (b))] I D J X (fo_pr (nI (if b then 0 else 1)) (fo_r I 616 (upd (I 616) 5 (nI (if b then 0 else 1)))) D J X) := by
  refine fo_si (by decide) [(0, .ref (Λ.2.2.1 616)), (1, .int (fo_b (b)))] rfl (Nat.le_of_ble_eq_true rfl) (fun K C fin => ?_)
  refine fo_aload_n C dX7_checked_0 0 rfl rfl 1 rfl ?_
  refine fo_iload_n C dX7_checked_1 1 rfl rfl 2 rfl ?_
  refine fo_bif_eq C dX7_checked_2 9 (by decide) 5 rfl (fun c1 => ?_) (fun c1 => ?_)
  · refine fo_iconst C dX7_checked_9 (nI 1) ki_1 10 rfl ?_
    refine fo_put C dX7_checked_10 fK9 (by decide : fo_k 616 = 9) (by decide) 5 (by decide) fl_X7_25 rfl rfl rfl rfl (Nat.le_of_ble_eq_true rfl) 13 rfl ?_
    refine fo_aload_n C dX7_checked_13 0 rfl rfl 14 rfl ?_
    refine fo_get C dX7_checked_14 fK9 (by decide : fo_k 616 = 9) (by decide) 5 (by decide) fl_X7_25 (v := .int (nI 1)) (congrArg (fun x => some (Value.int x)) ((by rw [fo_rs, pk_us]))) 17 rfl ?_
    exact fin dX7_checked_17 rfl ((by have e9 : b = false := (by first | assumption | simp_all); subst e9; exact ⟨rfl, rfl, rfl, rfl, rfl⟩))
  · refine fo_iconst C dX7_checked_5 (nI 0) ki_0 6 rfl ?_
    refine fo_goto C dX7_checked_6 10 (by decide) ?_
    refine fo_put C dX7_checked_10 fK9 (by decide : fo_k 616 = 9) (by decide) 5 (by decide) fl_X7_25 rfl rfl rfl rfl (Nat.le_of_ble_eq_true rfl) 13 rfl ?_
    refine fo_aload_n C dX7_checked_13 0 rfl rfl 14 rfl ?_
    refine fo_get C dX7_checked_14 fK9 (by decide : fo_k 616 = 9) (by decide) 5 (by decide) fl_X7_25 (v := .int (nI 0)) (congrArg (fun x => some (Value.int x)) ((by rw [fo_rs, pk_us]))) 17 rfl ?_
    exact fin dX7_checked_17 rfl ((by have e9 : b = true := (by first | assumption | simp_all); subst e9; exact ⟨rfl, rfl, rfl, rfl, rfl⟩))
set_option maxRecDepth 10000 in
set_option maxHeartbeats 4000000 in
theorem mX7_noValue {l : Launch} {Λ : fo_Lt} {I : fo_Mi} {D : fo_Md} {J : fo_Mj} {X : fo_Mi} {np lim : Nat} {kd par n : Nat → Nat} {v : Nat → Nat → Nat} {x z : Int32} (ht : fm_T I 617 np lim kd par n v) : fk_i l yX7_noValue cX7_noValue 3 .int 2 42 Λ [.ref (Λ.2.2.1 616), .int (x), .int (z)] I D J X ((fun r I' D' J' X' => (fo_inr x 4 = false ∧ r = nI 1 ∨ ∃ k, k < 4 ∧ x = nI k ∧ r = nI (if fo_inr z (n k) then 0 else 2)) ∧ I' = I ∧ D' = D ∧ J' = J ∧ X' = X)) := by
  obtain ⟨⟨ho1, ⟨ho2, ho3⟩, ho4, ho5, ho6⟩, hnp, hlim, hP, hS⟩ := id ht
  refine fo_si (by decide) [(0, .ref (Λ.2.2.1 616)), (1, .int (x)), (2, .int (z))] rfl (Nat.le_of_ble_eq_true rfl) (fun K C fin => ?_)
  refine fo_iload_n C dX7_noValue_0 1 rfl rfl 1 rfl ?_
  refine fo_qsi C dX7_noValue_1 (mX7_isSeries (x := x)) ls_X7_120 rfl ⟨Nat.le_of_ble_eq_true rfl, Nat.le_of_ble_eq_true rfl⟩ ⟨Nat.le_of_ble_eq_true rfl, Nat.le_of_ble_eq_true rfl⟩ [] rfl (Nat.le_of_ble_eq_true rfl) 4 rfl (fo_er ?_)
  refine fo_bif_ne C dX7_noValue_4 11 (by decide) 7 rfl (fun c7 => ?_) (fun c7 => ?_)
  · obtain ⟨k, hk, hk31, rfl⟩ := fo_inr_at (x := x) (n := 4) (by first | assumption | simp_all)
    refine fo_iload_n C dX7_noValue_11 2 rfl rfl 12 rfl ?_
    refine fo_iconst C dX7_noValue_12 (nI 0) ki_0 13 rfl ?_
    refine fo_aload_n C dX7_noValue_13 0 rfl rfl 14 rfl ?_
    refine fo_iload_n C dX7_noValue_14 1 rfl rfl 15 rfl ?_
    refine fo_qvi C dX7_noValue_15 (mX7_daysOf (k := k) (by omega) ht) lv_X7_92 (by decide : fo_k 616 = 9) rfl (by decide) rfl ⟨Nat.le_of_ble_eq_true rfl, Nat.le_of_ble_eq_true rfl⟩ ⟨Nat.le_of_ble_eq_true rfl, Nat.le_of_ble_eq_true rfl⟩ [.int (nI 0), .int (z)] rfl (Nat.le_of_ble_eq_true rfl) 18 rfl (fo_er ?_)
    have q14 := ho5 k (by omega)
    refine fo_iconst C dX7_noValue_18 (nI 1) ki_1 19 rfl ?_
    refine fo_isub C dX7_noValue_19 _ rfl 20 rfl ?_
    refine fo_qsi C dX7_noValue_20 (mX7_in (x := z) (y := (nI (0))) (z := (nI (n k) - nI (1)))) ls_X7_88 rfl ⟨Nat.le_of_ble_eq_true rfl, Nat.le_of_ble_eq_true rfl⟩ ⟨Nat.le_of_ble_eq_true rfl, Nat.le_of_ble_eq_true rfl⟩ [] rfl (Nat.le_of_ble_eq_true rfl) 23 rfl (fo_er ?_)
    refine fo_bif_ne C dX7_noValue_23 30 (by decide) 26 rfl (fun c21 => ?_) (fun c21 => ?_)
    · refine fo_iconst C dX7_noValue_30 (nI 0) ki_0 31 rfl ?_
      exact fin dX7_noValue_31 rfl (⟨Or.inr ⟨k, hk, rfl, by rw [show fo_inr z (n k) = true from (by rw [← fm_in_p (x := z) (m := n k) (by have := ho5 k hk; omega)]; first | assumption | simp_all)]; rfl⟩, rfl, rfl, rfl, rfl⟩)
    · refine fo_iconst C dX7_noValue_26 (nI 2) ki_2 27 rfl ?_
      refine fo_goto C dX7_noValue_27 31 (by decide) ?_
      exact fin dX7_noValue_31 rfl (⟨Or.inr ⟨k, hk, rfl, by rw [show fo_inr z (n k) = false from (by rw [← fm_in_p (x := z) (m := n k) (by have := ho5 k hk; omega)]; first | assumption | simp_all)]; rfl⟩, rfl, rfl, rfl, rfl⟩)
  · refine fo_iconst C dX7_noValue_7 (nI 1) ki_1 8 rfl ?_
    refine fo_goto C dX7_noValue_8 31 (by decide) ?_
    exact fin dX7_noValue_31 rfl (⟨Or.inl ⟨by first | assumption | simp_all, rfl⟩, rfl, rfl, rfl, rfl⟩)
