
/-! THE MODEL: changes -/
theorem fo_nI_inj {a b : Nat} (ha : a < 2 ^ 31) (hb : b < 2 ^ 31) (h : nI a = nI b) : a = b := by
  have h2 := congrArg Int32.toInt h
  rw [nI_toInt ha, nI_toInt hb] at h2
  omega
theorem fo_nI_eq {a b : Nat} (ha : a < 2 ^ 31) (hb : b < 2 ^ 31) : nI a = nI b ↔ a = b := ⟨fo_nI_inj ha hb, fun h => by rw [h]⟩
theorem fm_kc_n {w : Nat} (hw : w < 65536) : fm_kc (nI w) = fo_kc w := by
  unfold fm_kc fo_kc
  rw [decide_eq_decide, fo_nI_eq (by omega) (by decide), fo_nI_eq (by omega) (by decide), fo_nI_eq (by omega) (by decide), fo_nI_eq (by omega) (by decide), fo_nI_eq (by omega) (by decide)]
theorem fm_in_999 {x : Int32} : fm_in x (nI 0) (nI 999) = fo_999 x := by
  rw [fm_in_s (by decide)]
  unfold fo_inr fo_999
  rw [decide_eq_decide]
  omega
theorem fo_999_at {x : Int32} (h : fo_999 x = true) : ∃ u, u ≤ 999 ∧ x = nI u := by
  have h := of_decide_eq_true h
  refine ⟨x.toInt.toNat, by omega, ?_⟩
  apply Int32.toInt_inj.mp
  rw [nI_toInt (by omega)]
  omega
theorem fo_999_nI {u : Nat} (h : u ≤ 999) : fo_999 (nI u) = true := by
  refine decide_eq_true ?_
  rw [nI_toInt (by omega)]
  omega
def fg_ca (np : Nat) (n : Nat → Nat) (w : Nat) (z : Int32) : Nat := if fo_kc w && fo_19 z then (if np < 8 ∧ fp_sum n 0 4 = 0 then 0 else 2) else 1
theorem fg_ca_1 {np : Nat} {n : Nat → Nat} {w : Nat} {z : Int32} (h : (fo_kc w && fo_19 z) = false) : fg_ca np n w z = 1 := by unfold fg_ca; rw [h]; rfl
theorem fg_ca_2 {np : Nat} {n : Nat → Nat} {w : Nat} {z : Int32} (h : (fo_kc w && fo_19 z) = true) (h2 : ¬ (np < 8 ∧ fp_sum n 0 4 = 0)) : fg_ca np n w z = 2 := by unfold fg_ca; rw [h]; exact if_neg h2
theorem fg_ca_t {np : Nat} {n : Nat → Nat} {w : Nat} {z : Int32} (h : (fo_kc w && fo_19 z) = true) (h2 : np < 8 ∧ fp_sum n 0 4 = 0) : fg_ca np n w z = 0 := by unfold fg_ca; rw [h]; exact if_pos h2
def fg_cs (n : Nat → Nat) (x z : Int32) : Nat := if fo_inr x 4 then (if fo_999 z then (if n (fN x) < 30 then 0 else 3) else 2) else 1
theorem fg_cs_1 {n : Nat → Nat} {x z : Int32} (h : fo_inr x 4 = false) : fg_cs n x z = 1 := by unfold fg_cs; rw [h]; rfl
theorem fg_cs_2 {n : Nat → Nat} {k : Nat} {z : Int32} (hk : k < 4) (h : fo_999 z = false) : fg_cs n (nI k) z = 2 := by unfold fg_cs; rw [fo_inr_nI hk (by omega), h]; rfl
theorem fg_cs_3 {n : Nat → Nat} {k : Nat} {z : Int32} (hk : k < 4) (h : fo_999 z = true) (h2 : ¬ n k < 30) : fg_cs n (nI k) z = 3 := by unfold fg_cs; rw [fo_inr_nI hk (by omega), h, fN_nI (by omega)]; exact if_neg h2
theorem fg_cs_t {n : Nat → Nat} {k : Nat} {z : Int32} (hk : k < 4) (h : fo_999 z = true) (h2 : n k < 30) : fg_cs n (nI k) z = 0 := by unfold fg_cs; rw [fo_inr_nI hk (by omega), h, fN_nI (by omega)]; exact if_pos h2
theorem fm_T.add {I I' : fo_Mi} {np lim w q : Nat} {kd par n : Nat → Nat} {v : Nat → Nat → Nat} (h : fm_T I 617 np lim kd par n v) (h8 : np < 8) (hw : w = 108 ∨ w = 109 ∨ w = 100 ∨ w = 116 ∨ w = 115) (hq1 : 1 ≤ q) (hq9 : q ≤ 9) (e0 : I' 617 0 = nI (np + 1)) (e1 : I' 617 (2 + np) = nI w) (e2 : I' 617 (10 + np) = nI q) (e3 : ∀ j, j ≠ 0 → j ≠ 2 + np → j ≠ 10 + np → I' 617 j = I 617 j) : fm_T I' 617 (np + 1) lim (va_up kd np w) (va_up par np q) n v := by
  obtain ⟨⟨ho1, ⟨ho2, ho3⟩, ho4, ho5, ho6⟩, hnp, hlim, hP, hS⟩ := h
  refine ⟨⟨by omega, ⟨ho2, ho3⟩, fun p hp => ?_, ho5, ho6⟩, e0, (e3 1 (by omega) (by omega) (by omega)).trans hlim, fun p hp => ?_, fun k hk => ⟨(e3 _ (by omega) (by omega) (by omega)).trans (hS k hk).1, fun d hd => (e3 _ (by omega) (by omega) (by omega)).trans ((hS k hk).2 d hd)⟩⟩
  · unfold va_up
    by_cases e : p = np
    · rw [if_pos e, if_pos e]; exact ⟨hw, hq1, hq9⟩
    · rw [if_neg e, if_neg e]; exact ho4 p (by omega)
  · unfold va_up
    by_cases e : p = np
    · rw [if_pos e, if_pos e, e]; exact ⟨e1, e2⟩
    · rw [if_neg e, if_neg e, e3 _ (by omega) (by omega) (by omega), e3 _ (by omega) (by omega) (by omega)]; exact hP p (by omega)
theorem fm_T.see {I I' : fo_Mi} {np lim k u : Nat} {kd par n : Nat → Nat} {v : Nat → Nat → Nat} (h : fm_T I 617 np lim kd par n v) (hk : k < 4) (h30 : n k < 30) (hu : u ≤ 999) (e0 : I' 617 (18 + k) = nI (n k + 1)) (e1 : I' 617 (22 + 30 * k + n k) = nI u) (e3 : ∀ j, j ≠ 18 + k → j ≠ 22 + 30 * k + n k → I' 617 j = I 617 j) : fm_T I' 617 np lim kd par (va_up n k (n k + 1)) (va_up v k (va_up (v k) (n k) u)) := by
  obtain ⟨⟨ho1, ⟨ho2, ho3⟩, ho4, ho5, ho6⟩, hnp, hlim, hP, hS⟩ := h
  refine ⟨⟨ho1, ⟨ho2, ho3⟩, ho4, fun j hj => ?_, fun j hj => ?_⟩, (e3 0 (by omega) (by omega)).trans hnp, (e3 1 (by omega) (by omega)).trans hlim, fun p hp => ⟨(e3 _ (by omega) (by omega)).trans (hP p hp).1, (e3 _ (by omega) (by omega)).trans (hP p hp).2⟩, fun j hj => ?_⟩
  · unfold va_up
    by_cases e : j = k
    · rw [if_pos e]; omega
    · rw [if_neg e]; exact ho5 j hj
  · unfold va_up
    by_cases e : j = k
    · rw [if_pos e, if_pos e]
      intro d hd
      by_cases e9 : d = n k
      · rw [if_pos e9]; exact hu
      · rw [if_neg e9]; exact ho6 k hk d (by omega)
    · rw [if_neg e, if_neg e]; exact ho6 j hj
  · unfold va_up
    by_cases e : j = k
    · subst e
      rw [if_pos rfl, if_pos rfl]
      refine ⟨e0, fun d hd => ?_⟩
      by_cases e9 : d = n j
      · rw [if_pos e9, e9]; exact e1
      · rw [if_neg e9, e3 _ (by omega) (by omega)]; exact (hS j hj).2 d (by omega)
    · rw [if_neg e, if_neg e]
      have := ho5 j hj
      refine ⟨(e3 _ (by omega) (by omega)).trans (hS j hj).1, fun d hd => ?_⟩
      exact (e3 _ (by omega) (by omega)).trans ((hS j hj).2 d hd)
theorem fm_T.forget {I I' : fo_Mi} {np lim k : Nat} {kd par n : Nat → Nat} {v : Nat → Nat → Nat} (h : fm_T I 617 np lim kd par n v) (hk : k < 4) (e0 : I' 617 (18 + k) = nI 0) (e3 : ∀ j, j ≠ 18 + k → ¬ (22 + 30 * k ≤ j ∧ j < 22 + 30 * k + 30) → I' 617 j = I 617 j) : fm_T I' 617 np lim kd par (va_up n k 0) v := by
  obtain ⟨⟨ho1, ⟨ho2, ho3⟩, ho4, ho5, ho6⟩, hnp, hlim, hP, hS⟩ := h
  refine ⟨⟨ho1, ⟨ho2, ho3⟩, ho4, fun j hj => ?_, fun j hj => ?_⟩, (e3 0 (by omega) (by omega)).trans hnp, (e3 1 (by omega) (by omega)).trans hlim, fun p hp => ⟨(e3 _ (by omega) (by omega)).trans (hP p hp).1, (e3 _ (by omega) (by omega)).trans (hP p hp).2⟩, fun j hj => ?_⟩
  · unfold va_up
    by_cases e : j = k
    · rw [if_pos e]; omega
    · rw [if_neg e]; exact ho5 j hj
  · unfold va_up
    by_cases e : j = k
    · rw [if_pos e]; intro d hd; exact absurd hd (Nat.not_lt_zero d)
    · rw [if_neg e]; exact ho6 j hj
  · unfold va_up
    by_cases e : j = k
    · rw [if_pos e, e]
      exact ⟨e0, fun d hd => absurd hd (Nat.not_lt_zero d)⟩
    · rw [if_neg e]
      have := ho5 j hj
      refine ⟨(e3 _ (by omega) (by omega)).trans (hS j hj).1, fun d hd => ?_⟩
      exact (e3 _ (by omega) (by omega)).trans ((hS j hj).2 d hd)
theorem fm_T.limit {I I' : fo_Mi} {np lim q : Nat} {kd par n : Nat → Nat} {v : Nat → Nat → Nat} (h : fm_T I 617 np lim kd par n v) (h1 : 1 ≤ q) (h9 : q ≤ 9) (e0 : I' 617 1 = nI q) (e3 : ∀ j, j ≠ 1 → I' 617 j = I 617 j) : fm_T I' 617 np q kd par n v := by
  obtain ⟨⟨ho1, ⟨ho2, ho3⟩, ho4, ho5, ho6⟩, hnp, hlim, hP, hS⟩ := h
  exact ⟨⟨ho1, ⟨h1, h9⟩, ho4, ho5, ho6⟩, (e3 0 (by omega)).trans hnp, e0, fun p hp => ⟨(e3 _ (by omega)).trans (hP p hp).1, (e3 _ (by omega)).trans (hP p hp).2⟩, fun j hj => ⟨(e3 _ (by omega)).trans (hS j hj).1, fun d hd => (e3 _ (by omega)).trans ((hS j hj).2 d hd)⟩⟩

set_option maxRecDepth 10000 in
set_option maxHeartbeats 4000000 in
theorem mX7_cannotAdd {l : Launch} {Λ : fo_Lt} {I : fo_Mi} {D : fo_Md} {J : fo_Mj} {X : fo_Mi} {np lim : Nat} {kd par n : Nat → Nat} {v : Nat → Nat → Nat} {w : Nat} {z : Int32} (hw : w < 65536) (ht : fm_T I 617 np lim kd par n v) : fk_i l yX7_cannotAdd cX7_cannotAdd 3 .int 2 41 Λ [.ref (Λ.2.2.1 616), .int (nI w), .int (z)] I D J X (fo_pr (nI (fg_ca np n w z)) I D J X) := by
  obtain ⟨⟨ho1, ⟨ho2, ho3⟩, ho4, ho5, ho6⟩, hnp, hlim, hP, hS⟩ := id ht
  refine fo_si (by decide) [(0, .ref (Λ.2.2.1 616)), (1, .int (nI w)), (2, .int (z))] rfl (Nat.le_of_ble_eq_true rfl) (fun K C fin => ?_)
  rcases hw9 : fo_kc w with _ | _
  · have hkz : (fo_kc w && fo_19 z) = false := by rw [hw9]; rfl
    refine fo_iload_n C dX7_cannotAdd_0 1 rfl rfl 1 rfl ?_
    refine fo_qsi C dX7_cannotAdd_1 (mX7_isKind (x := (nI (w)))) ls_X7_96 rfl ⟨Nat.le_of_ble_eq_true rfl, Nat.le_of_ble_eq_true rfl⟩ ⟨Nat.le_of_ble_eq_true rfl, Nat.le_of_ble_eq_true rfl⟩ [] rfl (Nat.le_of_ble_eq_true rfl) 4 rfl (fo_er ?_)
    rw [fm_kc_n hw, hw9]
    refine fo_bif_eq C dX7_cannotAdd_4 17 (by decide) 7 rfl (fun c7 => ?_) (fun c7 => ?_)
    · refine fo_iconst C dX7_cannotAdd_17 (nI 1) ki_1 18 rfl ?_
      refine fo_goto C dX7_cannotAdd_18 44 (by decide) ?_
      exact fin dX7_cannotAdd_44 rfl (⟨by rw [fg_ca_1 hkz], rfl, rfl, rfl, rfl⟩)
    · exact absurd c7 (by decide)
  · skip
    rcases hz : fo_19 z with _ | _
    · have hkz : (fo_kc w && fo_19 z) = false := by rw [hw9, hz]; rfl
      refine fo_iload_n C dX7_cannotAdd_0 1 rfl rfl 1 rfl ?_
      refine fo_qsi C dX7_cannotAdd_1 (mX7_isKind (x := (nI (w)))) ls_X7_96 rfl ⟨Nat.le_of_ble_eq_true rfl, Nat.le_of_ble_eq_true rfl⟩ ⟨Nat.le_of_ble_eq_true rfl, Nat.le_of_ble_eq_true rfl⟩ [] rfl (Nat.le_of_ble_eq_true rfl) 4 rfl (fo_er ?_)
      rw [fm_kc_n hw, hw9]
      refine fo_bif_eq C dX7_cannotAdd_4 17 (by decide) 7 rfl (fun c14 => ?_) (fun c14 => ?_)
      · exact absurd c14 (by decide)
      · refine fo_iload_n C dX7_cannotAdd_7 2 rfl rfl 8 rfl ?_
        refine fo_iconst C dX7_cannotAdd_8 (nI 1) ki_1 9 rfl ?_
        refine fo_bipush C dX7_cannotAdd_9 (nI 9) kb_9 11 rfl ?_
        refine fo_qsi C dX7_cannotAdd_11 (mX7_in (x := z) (y := (nI (1))) (z := (nI (9)))) ls_X7_88 rfl ⟨Nat.le_of_ble_eq_true rfl, Nat.le_of_ble_eq_true rfl⟩ ⟨Nat.le_of_ble_eq_true rfl, Nat.le_of_ble_eq_true rfl⟩ [] rfl (Nat.le_of_ble_eq_true rfl) 14 rfl (fo_er ?_)
        rw [fm_in_9, hz]
        refine fo_bif_ne C dX7_cannotAdd_14 21 (by decide) 17 rfl (fun c21 => ?_) (fun c21 => ?_)
        · exact absurd c21 (by decide)
        · refine fo_iconst C dX7_cannotAdd_17 (nI 1) ki_1 18 rfl ?_
          refine fo_goto C dX7_cannotAdd_18 44 (by decide) ?_
          exact fin dX7_cannotAdd_44 rfl (⟨by rw [fg_ca_1 hkz], rfl, rfl, rfl, rfl⟩)
    · have hkz : (fo_kc w && fo_19 z) = true := by rw [hw9, hz]; rfl
      obtain ⟨q, hq1, hq2, rfl⟩ := fo_19_at hz
      have hkc : w = 108 ∨ w = 109 ∨ w = 100 ∨ w = 116 ∨ w = 115 := of_decide_eq_true hw9
      by_cases hok : np < 8 ∧ fp_sum n 0 4 = 0
      · skip
        refine fo_iload_n C dX7_cannotAdd_0 1 rfl rfl 1 rfl ?_
        refine fo_qsi C dX7_cannotAdd_1 (mX7_isKind (x := (nI (w)))) ls_X7_96 rfl ⟨Nat.le_of_ble_eq_true rfl, Nat.le_of_ble_eq_true rfl⟩ ⟨Nat.le_of_ble_eq_true rfl, Nat.le_of_ble_eq_true rfl⟩ [] rfl (Nat.le_of_ble_eq_true rfl) 4 rfl (fo_er ?_)
        rw [fm_kc_n hw, hw9]
        refine fo_bif_eq C dX7_cannotAdd_4 17 (by decide) 7 rfl (fun c28 => ?_) (fun c28 => ?_)
        · exact absurd c28 (by decide)
        · refine fo_iload_n C dX7_cannotAdd_7 2 rfl rfl 8 rfl ?_
          refine fo_iconst C dX7_cannotAdd_8 (nI 1) ki_1 9 rfl ?_
          refine fo_bipush C dX7_cannotAdd_9 (nI 9) kb_9 11 rfl ?_
          refine fo_qsi C dX7_cannotAdd_11 (mX7_in (x := (nI (q))) (y := (nI (1))) (z := (nI (9)))) ls_X7_88 rfl ⟨Nat.le_of_ble_eq_true rfl, Nat.le_of_ble_eq_true rfl⟩ ⟨Nat.le_of_ble_eq_true rfl, Nat.le_of_ble_eq_true rfl⟩ [] rfl (Nat.le_of_ble_eq_true rfl) 14 rfl (fo_er ?_)
          rw [fm_in_9, hz]
          refine fo_bif_ne C dX7_cannotAdd_14 21 (by decide) 17 rfl (fun c35 => ?_) (fun c35 => ?_)
          · refine fo_aload_n C dX7_cannotAdd_21 0 rfl rfl 22 rfl ?_
            refine fo_get C dX7_cannotAdd_22 fK9 (by decide : fo_k 616 = 9) (by decide) 0 (by decide) fl_X7_7 (v := .ref (Λ.2.2.1 617)) rfl 25 rfl ?_
            refine fo_iconst C dX7_cannotAdd_25 (nI 0) ki_0 26 rfl ?_
            refine fo_iald C dX7_cannotAdd_26 (by decide : fo_k 617 = 20) (by rw [(show fo_n 617 = 150 from rfl)]; omega) (nI (np)) (hnp) 27 rfl ?_
            refine fo_bipush C dX7_cannotAdd_27 (nI 8) kb_8 29 rfl ?_
            refine fo_ncmp_eq C (by omega) (by omega) dX7_cannotAdd_29 39 (by decide) 32 rfl (fun c36 => ?_) (fun c36 => ?_)
            · omega
            · refine fo_aload_n C dX7_cannotAdd_32 0 rfl rfl 33 rfl ?_
              refine fo_qvi C dX7_cannotAdd_33 (mX7_allDays ht) lv_X7_100 (by decide : fo_k 616 = 9) rfl (by decide) rfl ⟨Nat.le_of_ble_eq_true rfl, Nat.le_of_ble_eq_true rfl⟩ ⟨Nat.le_of_ble_eq_true rfl, Nat.le_of_ble_eq_true rfl⟩ [] rfl (Nat.le_of_ble_eq_true rfl) 36 rfl (fo_er ?_)
              have qa43 := fp_sum_le (v := n) (a := 0) (c := 30) (n := 4) (fun k hk => by rw [Nat.zero_add]; exact ho5 k hk)
              refine fo_nif_le C (by omega) dX7_cannotAdd_36 43 (by decide) 39 rfl (fun c44 => ?_) (fun c44 => ?_)
              · refine fo_iconst C dX7_cannotAdd_43 (nI 0) ki_0 44 rfl ?_
                exact fin dX7_cannotAdd_44 rfl (⟨by rw [fg_ca_t hkz hok], rfl, rfl, rfl, rfl⟩)
              · omega
          · exact absurd c35 (by decide)
      · skip
        refine fo_iload_n C dX7_cannotAdd_0 1 rfl rfl 1 rfl ?_
        refine fo_qsi C dX7_cannotAdd_1 (mX7_isKind (x := (nI (w)))) ls_X7_96 rfl ⟨Nat.le_of_ble_eq_true rfl, Nat.le_of_ble_eq_true rfl⟩ ⟨Nat.le_of_ble_eq_true rfl, Nat.le_of_ble_eq_true rfl⟩ [] rfl (Nat.le_of_ble_eq_true rfl) 4 rfl (fo_er ?_)
        rw [fm_kc_n hw, hw9]
        refine fo_bif_eq C dX7_cannotAdd_4 17 (by decide) 7 rfl (fun c51 => ?_) (fun c51 => ?_)
        · exact absurd c51 (by decide)
        · refine fo_iload_n C dX7_cannotAdd_7 2 rfl rfl 8 rfl ?_
          refine fo_iconst C dX7_cannotAdd_8 (nI 1) ki_1 9 rfl ?_
          refine fo_bipush C dX7_cannotAdd_9 (nI 9) kb_9 11 rfl ?_
          refine fo_qsi C dX7_cannotAdd_11 (mX7_in (x := (nI (q))) (y := (nI (1))) (z := (nI (9)))) ls_X7_88 rfl ⟨Nat.le_of_ble_eq_true rfl, Nat.le_of_ble_eq_true rfl⟩ ⟨Nat.le_of_ble_eq_true rfl, Nat.le_of_ble_eq_true rfl⟩ [] rfl (Nat.le_of_ble_eq_true rfl) 14 rfl (fo_er ?_)
          rw [fm_in_9, hz]
          refine fo_bif_ne C dX7_cannotAdd_14 21 (by decide) 17 rfl (fun c58 => ?_) (fun c58 => ?_)
          · refine fo_aload_n C dX7_cannotAdd_21 0 rfl rfl 22 rfl ?_
            refine fo_get C dX7_cannotAdd_22 fK9 (by decide : fo_k 616 = 9) (by decide) 0 (by decide) fl_X7_7 (v := .ref (Λ.2.2.1 617)) rfl 25 rfl ?_
            refine fo_iconst C dX7_cannotAdd_25 (nI 0) ki_0 26 rfl ?_
            refine fo_iald C dX7_cannotAdd_26 (by decide : fo_k 617 = 20) (by rw [(show fo_n 617 = 150 from rfl)]; omega) (nI (np)) (hnp) 27 rfl ?_
            refine fo_bipush C dX7_cannotAdd_27 (nI 8) kb_8 29 rfl ?_
            refine fo_ncmp_eq C (by omega) (by omega) dX7_cannotAdd_29 39 (by decide) 32 rfl (fun c59 => ?_) (fun c59 => ?_)
            · refine fo_iconst C dX7_cannotAdd_39 (nI 2) ki_2 40 rfl ?_
              refine fo_goto C dX7_cannotAdd_40 44 (by decide) ?_
              exact fin dX7_cannotAdd_44 rfl (⟨by rw [fg_ca_2 hkz hok], rfl, rfl, rfl, rfl⟩)
            · refine fo_aload_n C dX7_cannotAdd_32 0 rfl rfl 33 rfl ?_
              refine fo_qvi C dX7_cannotAdd_33 (mX7_allDays ht) lv_X7_100 (by decide : fo_k 616 = 9) rfl (by decide) rfl ⟨Nat.le_of_ble_eq_true rfl, Nat.le_of_ble_eq_true rfl⟩ ⟨Nat.le_of_ble_eq_true rfl, Nat.le_of_ble_eq_true rfl⟩ [] rfl (Nat.le_of_ble_eq_true rfl) 36 rfl (fo_er ?_)
              have qa66 := fp_sum_le (v := n) (a := 0) (c := 30) (n := 4) (fun k hk => by rw [Nat.zero_add]; exact ho5 k hk)
              refine fo_nif_le C (by omega) dX7_cannotAdd_36 43 (by decide) 39 rfl (fun c67 => ?_) (fun c67 => ?_)
              · omega
              · refine fo_iconst C dX7_cannotAdd_39 (nI 2) ki_2 40 rfl ?_
                refine fo_goto C dX7_cannotAdd_40 44 (by decide) ?_
                exact fin dX7_cannotAdd_44 rfl (⟨by rw [fg_ca_2 hkz hok], rfl, rfl, rfl, rfl⟩)
          · exact absurd c58 (by decide)
set_option maxRecDepth 10000 in
set_option maxHeartbeats 4000000 in
theorem mX7_adds {l : Launch} {Λ : fo_Lt} {I : fo_Mi} {D : fo_Md} {J : fo_Mj} {X : fo_Mi} {np lim : Nat} {kd par n : Nat → Nat} {v : Nat → Nat → Nat} {w q : Nat} (h8 : np < 8) (hkc : w = 108 ∨ w = 109 ∨ w = 100 ∨ w = 116 ∨ w = 115) (hq1 : 1 ≤ q) (hq2 : q ≤ 9) (ht : fm_T I 617 np lim kd par n v) : fk_i l yX7_adds cX7_adds 3 .int 0 0 Λ [.ref (Λ.2.2.1 616), .int (nI w), .int (nI q)] I D J X ((fun r I' D' J' X' => r = nI np ∧ fm_T I' 617 (np + 1) lim (va_up kd np w) (va_up par np q) n v ∧ (∀ b, b ≠ 617 → I' b = I b) ∧ D' = D ∧ J' = J ∧ X' = X)) := by
  obtain ⟨⟨ho1, ⟨ho2, ho3⟩, ho4, ho5, ho6⟩, hnp, hlim, hP, hS⟩ := id ht
  refine fo_si (by decide) [(0, .ref (Λ.2.2.1 616)), (1, .int (nI w)), (2, .int (nI q))] rfl (Nat.le_of_ble_eq_true rfl) (fun K C fin => ?_)
  refine fo_aload_n C dX7_adds_0 0 rfl rfl 1 rfl ?_
  refine fo_get C dX7_adds_1 fK9 (by decide : fo_k 616 = 9) (by decide) 0 (by decide) fl_X7_7 (v := .ref (Λ.2.2.1 617)) rfl 4 rfl ?_
  refine fo_iconst C dX7_adds_4 (nI 2) ki_2 5 rfl ?_
  refine fo_aload_n C dX7_adds_5 0 rfl rfl 6 rfl ?_
  refine fo_get C dX7_adds_6 fK9 (by decide : fo_k 616 = 9) (by decide) 0 (by decide) fl_X7_7 (v := .ref (Λ.2.2.1 617)) rfl 9 rfl ?_
  refine fo_iconst C dX7_adds_9 (nI 0) ki_0 10 rfl ?_
  refine fo_iald C dX7_adds_10 (by decide : fo_k 617 = 20) (by rw [(show fo_n 617 = 150 from rfl)]; omega) (nI (np)) (hnp) 11 rfl ?_
  refine fo_iadd C dX7_adds_11 (nI (2 + np)) (nI_add _ _) 12 rfl ?_
  refine fo_iload_n C dX7_adds_12 1 rfl rfl 13 rfl ?_
  refine fo_iast C dX7_adds_13 (by decide : fo_k 617 = 20) (by rw [(show fo_n 617 = 150 from rfl)]; omega) 14 rfl ?_
  refine fo_aload_n C dX7_adds_14 0 rfl rfl 15 rfl ?_
  refine fo_get C dX7_adds_15 fK9 (by decide : fo_k 616 = 9) (by decide) 0 (by decide) fl_X7_7 (v := .ref (Λ.2.2.1 617)) rfl 18 rfl ?_
  refine fo_bipush C dX7_adds_18 (nI 10) kb_10 20 rfl ?_
  refine fo_aload_n C dX7_adds_20 0 rfl rfl 21 rfl ?_
  refine fo_get C dX7_adds_21 fK9 (by decide : fo_k 616 = 9) (by decide) 0 (by decide) fl_X7_7 (v := .ref (Λ.2.2.1 617)) rfl 24 rfl ?_
  refine fo_iconst C dX7_adds_24 (nI 0) ki_0 25 rfl ?_
  refine fo_iald C dX7_adds_25 (by decide : fo_k 617 = 20) (by rw [(show fo_n 617 = 150 from rfl)]; omega) (nI (np)) ((by rw [fo_rs, pk_un (by omega)]; exact hnp)) 26 rfl ?_
  refine fo_iadd C dX7_adds_26 (nI (10 + np)) (nI_add _ _) 27 rfl ?_
  refine fo_iload_n C dX7_adds_27 2 rfl rfl 28 rfl ?_
  refine fo_iast C dX7_adds_28 (by decide : fo_k 617 = 20) (by rw [(show fo_n 617 = 150 from rfl)]; omega) 29 rfl ?_
  refine fo_aload_n C dX7_adds_29 0 rfl rfl 30 rfl ?_
  refine fo_get C dX7_adds_30 fK9 (by decide : fo_k 616 = 9) (by decide) 0 (by decide) fl_X7_7 (v := .ref (Λ.2.2.1 617)) rfl 33 rfl ?_
  refine fo_iconst C dX7_adds_33 (nI 0) ki_0 34 rfl ?_
  refine fo_dup2 C dX7_adds_34 rfl rfl 35 rfl ?_
  refine fo_iald C dX7_adds_35 (by decide : fo_k 617 = 20) (by rw [(show fo_n 617 = 150 from rfl)]; omega) (nI (np)) ((by rw [fo_rs, pk_un (by omega), fo_rs, pk_un (by omega)]; exact hnp)) 36 rfl ?_
  refine fo_iconst C dX7_adds_36 (nI 1) ki_1 37 rfl ?_
  refine fo_iadd C dX7_adds_37 (nI (np + 1)) (nI_add _ _) 38 rfl ?_
  refine fo_iast C dX7_adds_38 (by decide : fo_k 617 = 20) (by rw [(show fo_n 617 = 150 from rfl)]; omega) 39 rfl ?_
  refine fo_aload_n C dX7_adds_39 0 rfl rfl 40 rfl ?_
  refine fo_get C dX7_adds_40 fK9 (by decide : fo_k 616 = 9) (by decide) 0 (by decide) fl_X7_7 (v := .ref (Λ.2.2.1 617)) rfl 43 rfl ?_
  refine fo_iconst C dX7_adds_43 (nI 0) ki_0 44 rfl ?_
  refine fo_iald C dX7_adds_44 (by decide : fo_k 617 = 20) (by rw [(show fo_n 617 = 150 from rfl)]; omega) (nI (np + 1)) ((by rw [fo_rs, pk_us])) 45 rfl ?_
  refine fo_iconst C dX7_adds_45 (nI 1) ki_1 46 rfl ?_
  refine fo_isub C dX7_adds_46 (nI ((np + 1) - 1)) (pk_sub (by omega)) 47 rfl ?_
  exact fin dX7_adds_47 rfl (⟨rfl, fm_T.add ht h8 hkc hq1 hq2 (by rw [fo_rs, pk_us]) (by rw [fo_rs, pk_un (by omega), fo_rs, pk_un (by omega), fo_rs, pk_us]) (by rw [fo_rs, pk_un (by omega), fo_rs, pk_us]) (fun j a b c => by rw [fo_rs, pk_un a, fo_rs, pk_un c, fo_rs, pk_un b]), fun b hb => by rw [fo_rn _ _ hb, fo_rn _ _ hb, fo_rn _ _ hb], rfl, rfl, rfl⟩)
set_option maxRecDepth 10000 in
set_option maxHeartbeats 4000000 in
theorem mX7_cannotSee {l : Launch} {Λ : fo_Lt} {I : fo_Mi} {D : fo_Md} {J : fo_Mj} {X : fo_Mi} {np lim : Nat} {kd par n : Nat → Nat} {v : Nat → Nat → Nat} {x z : Int32} (ht : fm_T I 617 np lim kd par n v) : fk_i l yX7_cannotSee cX7_cannotSee 3 .int 2 42 Λ [.ref (Λ.2.2.1 616), .int (x), .int (z)] I D J X (fo_pr (nI (fg_cs n x z)) I D J X) := by
  obtain ⟨⟨ho1, ⟨ho2, ho3⟩, ho4, ho5, ho6⟩, hnp, hlim, hP, hS⟩ := id ht
  refine fo_si (by decide) [(0, .ref (Λ.2.2.1 616)), (1, .int (x)), (2, .int (z))] rfl (Nat.le_of_ble_eq_true rfl) (fun K C fin => ?_)
  rcases hx : fo_inr x 4 with _ | _
  · skip
    refine fo_iload_n C dX7_cannotSee_0 1 rfl rfl 1 rfl ?_
    refine fo_qsi C dX7_cannotSee_1 (mX7_isSeries (x := x)) ls_X7_120 rfl ⟨Nat.le_of_ble_eq_true rfl, Nat.le_of_ble_eq_true rfl⟩ ⟨Nat.le_of_ble_eq_true rfl, Nat.le_of_ble_eq_true rfl⟩ [] rfl (Nat.le_of_ble_eq_true rfl) 4 rfl (fo_er ?_)
    first | rw [hsx] | rw [hx]
    refine fo_bif_ne C dX7_cannotSee_4 11 (by decide) 7 rfl (fun c7 => ?_) (fun c7 => ?_)
    · exact absurd c7 (by decide)
    · refine fo_iconst C dX7_cannotSee_7 (nI 1) ki_1 8 rfl ?_
      refine fo_goto C dX7_cannotSee_8 41 (by decide) ?_
      exact fin dX7_cannotSee_41 rfl (⟨by rw [fg_cs_1 hx], rfl, rfl, rfl, rfl⟩)
  · obtain ⟨k, hk, hk31, rfl⟩ := fo_inr_at hx
    have hnk := ho5 k hk
    have hsx : fo_inr (nI k) 4 = true := fo_inr_nI hk (by omega)
    rcases hz : fo_999 z with _ | _
    · skip
      refine fo_iload_n C dX7_cannotSee_0 1 rfl rfl 1 rfl ?_
      refine fo_qsi C dX7_cannotSee_1 (mX7_isSeries (x := (nI (k)))) ls_X7_120 rfl ⟨Nat.le_of_ble_eq_true rfl, Nat.le_of_ble_eq_true rfl⟩ ⟨Nat.le_of_ble_eq_true rfl, Nat.le_of_ble_eq_true rfl⟩ [] rfl (Nat.le_of_ble_eq_true rfl) 4 rfl (fo_er ?_)
      first | rw [hsx] | rw [hx]
      refine fo_bif_ne C dX7_cannotSee_4 11 (by decide) 7 rfl (fun c14 => ?_) (fun c14 => ?_)
      · refine fo_iload_n C dX7_cannotSee_11 2 rfl rfl 12 rfl ?_
        refine fo_iconst C dX7_cannotSee_12 (nI 0) ki_0 13 rfl ?_
        refine fo_sipush C dX7_cannotSee_13 (nI 999) ks_999 16 rfl ?_
        refine fo_qsi C dX7_cannotSee_16 (mX7_in (x := z) (y := (nI (0))) (z := (nI (999)))) ls_X7_88 rfl ⟨Nat.le_of_ble_eq_true rfl, Nat.le_of_ble_eq_true rfl⟩ ⟨Nat.le_of_ble_eq_true rfl, Nat.le_of_ble_eq_true rfl⟩ [] rfl (Nat.le_of_ble_eq_true rfl) 19 rfl (fo_er ?_)
        rw [fm_in_999, hz]
        refine fo_bif_ne C dX7_cannotSee_19 26 (by decide) 22 rfl (fun c21 => ?_) (fun c21 => ?_)
        · exact absurd c21 (by decide)
        · refine fo_iconst C dX7_cannotSee_22 (nI 2) ki_2 23 rfl ?_
          refine fo_goto C dX7_cannotSee_23 41 (by decide) ?_
          exact fin dX7_cannotSee_41 rfl (⟨by rw [fg_cs_2 hk hz], rfl, rfl, rfl, rfl⟩)
      · exact absurd c14 (by decide)
    · obtain ⟨u, hu, rfl⟩ := fo_999_at hz
      by_cases hok : n k < 30
      · skip
        refine fo_iload_n C dX7_cannotSee_0 1 rfl rfl 1 rfl ?_
        refine fo_qsi C dX7_cannotSee_1 (mX7_isSeries (x := (nI (k)))) ls_X7_120 rfl ⟨Nat.le_of_ble_eq_true rfl, Nat.le_of_ble_eq_true rfl⟩ ⟨Nat.le_of_ble_eq_true rfl, Nat.le_of_ble_eq_true rfl⟩ [] rfl (Nat.le_of_ble_eq_true rfl) 4 rfl (fo_er ?_)
        first | rw [hsx] | rw [hx]
        refine fo_bif_ne C dX7_cannotSee_4 11 (by decide) 7 rfl (fun c28 => ?_) (fun c28 => ?_)
        · refine fo_iload_n C dX7_cannotSee_11 2 rfl rfl 12 rfl ?_
          refine fo_iconst C dX7_cannotSee_12 (nI 0) ki_0 13 rfl ?_
          refine fo_sipush C dX7_cannotSee_13 (nI 999) ks_999 16 rfl ?_
          refine fo_qsi C dX7_cannotSee_16 (mX7_in (x := (nI (u))) (y := (nI (0))) (z := (nI (999)))) ls_X7_88 rfl ⟨Nat.le_of_ble_eq_true rfl, Nat.le_of_ble_eq_true rfl⟩ ⟨Nat.le_of_ble_eq_true rfl, Nat.le_of_ble_eq_true rfl⟩ [] rfl (Nat.le_of_ble_eq_true rfl) 19 rfl (fo_er ?_)
          rw [fm_in_999, hz]
          refine fo_bif_ne C dX7_cannotSee_19 26 (by decide) 22 rfl (fun c35 => ?_) (fun c35 => ?_)
          · refine fo_aload_n C dX7_cannotSee_26 0 rfl rfl 27 rfl ?_
            refine fo_iload_n C dX7_cannotSee_27 1 rfl rfl 28 rfl ?_
            refine fo_qvi C dX7_cannotSee_28 (mX7_daysOf (k := k) (by omega) ht) lv_X7_92 (by decide : fo_k 616 = 9) rfl (by decide) rfl ⟨Nat.le_of_ble_eq_true rfl, Nat.le_of_ble_eq_true rfl⟩ ⟨Nat.le_of_ble_eq_true rfl, Nat.le_of_ble_eq_true rfl⟩ [] rfl (Nat.le_of_ble_eq_true rfl) 31 rfl (fo_er ?_)
            have q42 := ho5 k (by omega)
            refine fo_bipush C dX7_cannotSee_31 (nI 30) kb_30 33 rfl ?_
            refine fo_ncmp_ne C (by omega) (by omega) dX7_cannotSee_33 40 (by decide) 36 rfl (fun c43 => ?_) (fun c43 => ?_)
            · refine fo_iconst C dX7_cannotSee_40 (nI 0) ki_0 41 rfl ?_
              exact fin dX7_cannotSee_41 rfl (⟨by rw [fg_cs_t hk hz hok], rfl, rfl, rfl, rfl⟩)
            · omega
          · exact absurd c35 (by decide)
        · exact absurd c28 (by decide)
      · skip
        refine fo_iload_n C dX7_cannotSee_0 1 rfl rfl 1 rfl ?_
        refine fo_qsi C dX7_cannotSee_1 (mX7_isSeries (x := (nI (k)))) ls_X7_120 rfl ⟨Nat.le_of_ble_eq_true rfl, Nat.le_of_ble_eq_true rfl⟩ ⟨Nat.le_of_ble_eq_true rfl, Nat.le_of_ble_eq_true rfl⟩ [] rfl (Nat.le_of_ble_eq_true rfl) 4 rfl (fo_er ?_)
        first | rw [hsx] | rw [hx]
        refine fo_bif_ne C dX7_cannotSee_4 11 (by decide) 7 rfl (fun c50 => ?_) (fun c50 => ?_)
        · refine fo_iload_n C dX7_cannotSee_11 2 rfl rfl 12 rfl ?_
          refine fo_iconst C dX7_cannotSee_12 (nI 0) ki_0 13 rfl ?_
          refine fo_sipush C dX7_cannotSee_13 (nI 999) ks_999 16 rfl ?_
          refine fo_qsi C dX7_cannotSee_16 (mX7_in (x := (nI (u))) (y := (nI (0))) (z := (nI (999)))) ls_X7_88 rfl ⟨Nat.le_of_ble_eq_true rfl, Nat.le_of_ble_eq_true rfl⟩ ⟨Nat.le_of_ble_eq_true rfl, Nat.le_of_ble_eq_true rfl⟩ [] rfl (Nat.le_of_ble_eq_true rfl) 19 rfl (fo_er ?_)
          rw [fm_in_999, hz]
          refine fo_bif_ne C dX7_cannotSee_19 26 (by decide) 22 rfl (fun c57 => ?_) (fun c57 => ?_)
          · refine fo_aload_n C dX7_cannotSee_26 0 rfl rfl 27 rfl ?_
            refine fo_iload_n C dX7_cannotSee_27 1 rfl rfl 28 rfl ?_
            refine fo_qvi C dX7_cannotSee_28 (mX7_daysOf (k := k) (by omega) ht) lv_X7_92 (by decide : fo_k 616 = 9) rfl (by decide) rfl ⟨Nat.le_of_ble_eq_true rfl, Nat.le_of_ble_eq_true rfl⟩ ⟨Nat.le_of_ble_eq_true rfl, Nat.le_of_ble_eq_true rfl⟩ [] rfl (Nat.le_of_ble_eq_true rfl) 31 rfl (fo_er ?_)
            have q64 := ho5 k (by omega)
            refine fo_bipush C dX7_cannotSee_31 (nI 30) kb_30 33 rfl ?_
            refine fo_ncmp_ne C (by omega) (by omega) dX7_cannotSee_33 40 (by decide) 36 rfl (fun c65 => ?_) (fun c65 => ?_)
            · omega
            · refine fo_iconst C dX7_cannotSee_36 (nI 3) ki_3 37 rfl ?_
              refine fo_goto C dX7_cannotSee_37 41 (by decide) ?_
              exact fin dX7_cannotSee_41 rfl (⟨by rw [fg_cs_3 hk hz hok], rfl, rfl, rfl, rfl⟩)
          · exact absurd c57 (by decide)
        · exact absurd c50 (by decide)
set_option maxRecDepth 10000 in
set_option maxHeartbeats 4000000 in
theorem mX7_sees {l : Launch} {Λ : fo_Lt} {I : fo_Mi} {D : fo_Md} {J : fo_Mj} {X : fo_Mi} {np lim : Nat} {kd par n : Nat → Nat} {v : Nat → Nat → Nat} {k u : Nat} (hk : k < 4) (hok : n k < 30) (hu : u ≤ 999) (ht : fm_T I 617 np lim kd par n v) : fk_i l yX7_sees cX7_sees 4 .int 1 21 Λ [.ref (Λ.2.2.1 616), .int (nI k), .int (nI u)] I D J X ((fun r I' D' J' X' => r = nI (n k) ∧ fm_T I' 617 np lim kd par (va_up n k (n k + 1)) (va_up v k (va_up (v k) (n k) u)) ∧ (∀ b, b ≠ 617 → I' b = I b) ∧ D' = D ∧ J' = J ∧ X' = X)) := by
  obtain ⟨⟨ho1, ⟨ho2, ho3⟩, ho4, ho5, ho6⟩, hnp, hlim, hP, hS⟩ := id ht
  refine fo_si (by decide) [(0, .ref (Λ.2.2.1 616)), (1, .int (nI k)), (2, .int (nI u))] rfl (Nat.le_of_ble_eq_true rfl) (fun K C fin => ?_)
  refine fo_aload_n C dX7_sees_0 0 rfl rfl 1 rfl ?_
  refine fo_iload_n C dX7_sees_1 1 rfl rfl 2 rfl ?_
  refine fo_qvi C dX7_sees_2 (mX7_daysOf (k := k) (by omega) ht) lv_X7_92 (by decide : fo_k 616 = 9) rfl (by decide) rfl ⟨Nat.le_of_ble_eq_true rfl, Nat.le_of_ble_eq_true rfl⟩ ⟨Nat.le_of_ble_eq_true rfl, Nat.le_of_ble_eq_true rfl⟩ [] rfl (Nat.le_of_ble_eq_true rfl) 5 rfl (fo_er ?_)
  have q7 := ho5 k (by omega)
  refine fo_istore_n C dX7_sees_5 rfl [(3, .int (nI (n k))), (0, .ref (Λ.2.2.1 616)), (1, .int (nI k)), (2, .int (nI u))] rfl (by decide) 6 rfl ?_
  refine fo_aload_n C dX7_sees_6 1 rfl rfl 7 rfl ?_
  refine fo_get C dX7_sees_7 fK9 (by decide : fo_k 616 = 9) (by decide) 0 (by decide) fl_X7_7 (v := .ref (Λ.2.2.1 617)) rfl 10 rfl ?_
  refine fo_bipush C dX7_sees_10 (nI 22) kb_22 12 rfl ?_
  refine fo_bipush C dX7_sees_12 (nI 30) kb_30 14 rfl ?_
  refine fo_iload_n C dX7_sees_14 2 rfl rfl 15 rfl ?_
  refine fo_imul C dX7_sees_15 (nI (30 * k)) (pk_mul _ _) 16 rfl ?_
  refine fo_iadd C dX7_sees_16 (nI (22 + (30 * k))) (nI_add _ _) 17 rfl ?_
  refine fo_iload_n C dX7_sees_17 0 rfl rfl 18 rfl ?_
  refine fo_iadd C dX7_sees_18 (nI ((22 + (30 * k)) + (n k))) (nI_add _ _) 19 rfl ?_
  refine fo_iload_n C dX7_sees_19 3 rfl rfl 20 rfl ?_
  refine fo_iast C dX7_sees_20 (by decide : fo_k 617 = 20) (by rw [(show fo_n 617 = 150 from rfl)]; omega) 21 rfl ?_
  refine fo_aload_n C dX7_sees_21 1 rfl rfl 22 rfl ?_
  refine fo_get C dX7_sees_22 fK9 (by decide : fo_k 616 = 9) (by decide) 0 (by decide) fl_X7_7 (v := .ref (Λ.2.2.1 617)) rfl 25 rfl ?_
  refine fo_bipush C dX7_sees_25 (nI 18) kb_18 27 rfl ?_
  refine fo_iload_n C dX7_sees_27 2 rfl rfl 28 rfl ?_
  refine fo_iadd C dX7_sees_28 (nI (18 + k)) (nI_add _ _) 29 rfl ?_
  refine fo_dup2 C dX7_sees_29 rfl rfl 30 rfl ?_
  refine fo_iald C dX7_sees_30 (by decide : fo_k 617 = 20) (by rw [(show fo_n 617 = 150 from rfl)]; omega) (nI (n k)) ((by rw [fo_rs, pk_un (by omega)]; exact (hS k hk).1)) 31 rfl ?_
  refine fo_iconst C dX7_sees_31 (nI 1) ki_1 32 rfl ?_
  refine fo_iadd C dX7_sees_32 (nI ((n k) + 1)) (nI_add _ _) 33 rfl ?_
  refine fo_iast C dX7_sees_33 (by decide : fo_k 617 = 20) (by rw [(show fo_n 617 = 150 from rfl)]; omega) 34 rfl ?_
  refine fo_iload_n C dX7_sees_34 0 rfl rfl 35 rfl ?_
  exact fin dX7_sees_35 rfl (⟨rfl, fm_T.see ht hk hok hu (by rw [fo_rs, pk_us]) (by rw [fo_rs, pk_un (by omega), fo_rs, pk_us]) (fun j a b => by rw [fo_rs, pk_un a, fo_rs, pk_un b]), fun b hb => by rw [fo_rn _ _ hb, fo_rn _ _ hb], rfl, rfl, rfl⟩)
set_option maxRecDepth 10000 in
set_option maxHeartbeats 4000000 in
theorem mX7_limits {l : Launch} {Λ : fo_Lt} {I : fo_Mi} {D : fo_Md} {J : fo_Mj} {X : fo_Mi} {np lim : Nat} {kd par n : Nat → Nat} {v : Nat → Nat → Nat} {q : Nat} (hq1 : 1 ≤ q) (hq2 : q ≤ 9) (ht : fm_T I 617 np lim kd par n v) : fk_i l yX7_limits cX7_limits 3 .int 0 0 Λ [.ref (Λ.2.2.1 616), .int (nI q)] I D J X ((fun r I' D' J' X' => r = nI lim ∧ fm_T I' 617 np q kd par n v ∧ (∀ b, b ≠ 617 → I' b = I b) ∧ D' = D ∧ J' = J ∧ X' = X)) := by
  obtain ⟨⟨ho1, ⟨ho2, ho3⟩, ho4, ho5, ho6⟩, hnp, hlim, hP, hS⟩ := id ht
  refine fo_si (by decide) [(0, .ref (Λ.2.2.1 616)), (1, .int (nI q))] rfl (Nat.le_of_ble_eq_true rfl) (fun K C fin => ?_)
  refine fo_aload_n C dX7_limits_0 0 rfl rfl 1 rfl ?_
  refine fo_get C dX7_limits_1 fK9 (by decide : fo_k 616 = 9) (by decide) 0 (by decide) fl_X7_7 (v := .ref (Λ.2.2.1 617)) rfl 4 rfl ?_
  refine fo_iconst C dX7_limits_4 (nI 1) ki_1 5 rfl ?_
  refine fo_iald C dX7_limits_5 (by decide : fo_k 617 = 20) (by rw [(show fo_n 617 = 150 from rfl)]; omega) (nI (lim)) (hlim) 6 rfl ?_
  refine fo_istore_n C dX7_limits_6 rfl [(2, .int (nI lim)), (0, .ref (Λ.2.2.1 616)), (1, .int (nI q))] rfl (by decide) 7 rfl ?_
  refine fo_aload_n C dX7_limits_7 1 rfl rfl 8 rfl ?_
  refine fo_get C dX7_limits_8 fK9 (by decide : fo_k 616 = 9) (by decide) 0 (by decide) fl_X7_7 (v := .ref (Λ.2.2.1 617)) rfl 11 rfl ?_
  refine fo_iconst C dX7_limits_11 (nI 1) ki_1 12 rfl ?_
  refine fo_iload_n C dX7_limits_12 2 rfl rfl 13 rfl ?_
  refine fo_iast C dX7_limits_13 (by decide : fo_k 617 = 20) (by rw [(show fo_n 617 = 150 from rfl)]; omega) 14 rfl ?_
  refine fo_iload_n C dX7_limits_14 0 rfl rfl 15 rfl ?_
  exact fin dX7_limits_15 rfl (⟨rfl, fm_T.limit ht hq1 hq2 (by rw [fo_rs, pk_us]) (fun j a => by rw [fo_rs, pk_un a]), fun b hb => by rw [fo_rn _ _ hb], rfl, rfl, rfl⟩)
set_option maxRecDepth 10000 in
set_option maxHeartbeats 4000000 in
theorem mX7_forgets {l : Launch} {Λ : fo_Lt} {I : fo_Mi} {D : fo_Md} {J : fo_Mj} {X : fo_Mi} {np lim : Nat} {kd par n : Nat → Nat} {v : Nat → Nat → Nat} {k : Nat} (hk : k < 4) (ht : fm_T I 617 np lim kd par n v) : fk_i l yX7_forgets cX7_forgets 4 .int 1 21 Λ [.ref (Λ.2.2.1 616), .int (nI k)] I D J X ((fun r I' D' J' X' => r = nI (n k) ∧ fm_T I' 617 np lim kd par (va_up n k 0) v ∧ (∀ b, b ≠ 617 → I' b = I b) ∧ D' = D ∧ J' = J ∧ X' = X)) := by
  obtain ⟨⟨ho1, ⟨ho2, ho3⟩, ho4, ho5, ho6⟩, hnp, hlim, hP, hS⟩ := id ht
  have hnk := ho5 k hk
  refine fo_si (by decide) [(0, .ref (Λ.2.2.1 616)), (1, .int (nI k))] rfl (Nat.le_of_ble_eq_true rfl) (fun K C fin => ?_)
  refine fo_aload_n C dX7_forgets_0 0 rfl rfl 1 rfl ?_
  refine fo_iload_n C dX7_forgets_1 1 rfl rfl 2 rfl ?_
  refine fo_qvi C dX7_forgets_2 (mX7_daysOf (k := k) (by omega) ht) lv_X7_92 (by decide : fo_k 616 = 9) rfl (by decide) rfl ⟨Nat.le_of_ble_eq_true rfl, Nat.le_of_ble_eq_true rfl⟩ ⟨Nat.le_of_ble_eq_true rfl, Nat.le_of_ble_eq_true rfl⟩ [] rfl (Nat.le_of_ble_eq_true rfl) 5 rfl (fo_er ?_)
  have q7 := ho5 k (by omega)
  refine fo_istore_n C dX7_forgets_5 rfl [(2, .int (nI (n k))), (0, .ref (Λ.2.2.1 616)), (1, .int (nI k))] rfl (by decide) 6 rfl ?_
  refine fo_aload_n C dX7_forgets_6 1 rfl rfl 7 rfl ?_
  refine fo_get C dX7_forgets_7 fK9 (by decide : fo_k 616 = 9) (by decide) 0 (by decide) fl_X7_7 (v := .ref (Λ.2.2.1 617)) rfl 10 rfl ?_
  refine fo_bipush C dX7_forgets_10 (nI 18) kb_18 12 rfl ?_
  refine fo_iload_n C dX7_forgets_12 2 rfl rfl 13 rfl ?_
  refine fo_iadd C dX7_forgets_13 (nI (18 + k)) (nI_add _ _) 14 rfl ?_
  refine fo_iconst C dX7_forgets_14 (nI 0) ki_0 15 rfl ?_
  refine fo_iast C dX7_forgets_15 (by decide : fo_k 617 = 20) (by rw [(show fo_n 617 = 150 from rfl)]; omega) 16 rfl ?_
  refine fo_iconst C dX7_forgets_16 (nI 0) ki_0 17 rfl ?_
  refine fo_istore_n C dX7_forgets_17 rfl [(3, .int (nI 0)), (2, .int (nI (n k))), (0, .ref (Λ.2.2.1 616)), (1, .int (nI k))] rfl (by decide) 18 rfl ?_
  have hL18 : ∀ (m18 : Nat) (j : Nat) (Y : fo_Mi), 31 - j < m18 → j ≤ 30 → (∀ b, b ≠ 617 → Y b = I b) → Y 617 (18 + k) = nI 0 → (∀ i, i ≠ 18 + k → ¬ (22 + 30 * k ≤ i ∧ i < 22 + 30 * k + 30) → Y 617 i = I 617 i) → fo_G l Λ { frames := 1, cells := 0, slots := 0, locals := 21 } K 0 0 18 [(3, .int (nI j)), (2, .int (nI (n k))), (0, .ref (Λ.2.2.1 616)), (1, .int (nI k))] [] Y D J X := by
    intro m18
    induction m18 with
    | zero => intro j Y hm; exact absurd hm (Nat.not_lt_zero _)
    | succ m18 ih18 =>
      intro j Y hm18 hj hY1 hY2 hY3
      refine fo_iload_n C dX7_forgets_18 0 rfl rfl 19 rfl ?_
      refine fo_bipush C dX7_forgets_19 (nI 30) kb_30 21 rfl ?_
      refine fo_ncmp_ge C (by omega) (by omega) dX7_forgets_21 45 (by decide) 24 rfl (fun c8 => ?_) (fun c8 => ?_)
      · refine fo_iload_n C dX7_forgets_45 1 rfl rfl 46 rfl ?_
        exact fin dX7_forgets_46 rfl (⟨rfl, fm_T.forget ht hk hY2 hY3, hY1, rfl, rfl, rfl⟩)
      · refine fo_aload_n C dX7_forgets_24 2 rfl rfl 25 rfl ?_
        refine fo_get C dX7_forgets_25 fK9 (by decide : fo_k 616 = 9) (by decide) 0 (by decide) fl_X7_7 (v := .ref (Λ.2.2.1 617)) rfl 28 rfl ?_
        refine fo_bipush C dX7_forgets_28 (nI 22) kb_22 30 rfl ?_
        refine fo_bipush C dX7_forgets_30 (nI 30) kb_30 32 rfl ?_
        refine fo_iload_n C dX7_forgets_32 3 rfl rfl 33 rfl ?_
        refine fo_imul C dX7_forgets_33 (nI (30 * k)) (pk_mul _ _) 34 rfl ?_
        refine fo_iadd C dX7_forgets_34 (nI (22 + (30 * k))) (nI_add _ _) 35 rfl ?_
        refine fo_iload_n C dX7_forgets_35 0 rfl rfl 36 rfl ?_
        refine fo_iadd C dX7_forgets_36 (nI ((22 + (30 * k)) + j)) (nI_add _ _) 37 rfl ?_
        refine fo_iconst C dX7_forgets_37 (nI 0) ki_0 38 rfl ?_
        refine fo_iast C dX7_forgets_38 (by decide : fo_k 617 = 20) (by rw [(show fo_n 617 = 150 from rfl)]; omega) 39 rfl ?_
        refine fo_iinc C dX7_forgets_39 0 rfl (nI (j + 1)) (nI_inc1 _) [(3, .int (nI (j + 1))), (2, .int (nI (n k))), (0, .ref (Λ.2.2.1 616)), (1, .int (nI k))] rfl (by decide) 42 rfl ?_
        refine fo_goto C dX7_forgets_42 18 (by decide) ?_
        exact ih18 (j + 1) (fo_r Y 617 (upd (Y 617) ((22 + (30 * k)) + j) (nI (0)))) (by omega) (by omega) (fun b hb => (fo_rn _ _ hb).trans (hY1 b hb)) (by rw [fo_rs, pk_un (by omega)]; exact hY2) (fun i a c => by rw [fo_rs, pk_un (by omega)]; exact hY3 i a c)
  exact hL18 (31 + 1) 0 (fo_r I 617 (upd (I 617) (18 + k) (nI (0)))) (by omega) (by omega) (fun b hb => fo_rn _ _ hb) (by rw [fo_rs, pk_us]) (fun i a _ => by rw [fo_rs, pk_un a])
