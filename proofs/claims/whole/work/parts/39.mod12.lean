
/-! THE MODEL: answers as functions; its small questions -/
def fN (x : Int32) : Nat := x.toInt.toNat
theorem fN_nI {k : Nat} (h : k < 2 ^ 31) : fN (nI k) = k := by
  unfold fN
  rw [nI_toInt h]
  rfl
def fg_se {α : Type} (x : Int32) (d : α) (f : Nat → Nat × α) : Nat × α := if fo_inr x 4 then f (fN x) else (1, d)
theorem fg_se_t {α : Type} {k : Nat} {d : α} {f : Nat → Nat × α} (hk : k < 4) : fg_se (nI k) d f = f k := by
  unfold fg_se
  rw [fo_inr_nI hk (by omega), fN_nI (by omega)]
  rfl
theorem fg_se_f {α : Type} {x : Int32} {d : α} {f : Nat → Nat × α} (h : fo_inr x 4 = false) : fg_se x d f = (1, d) := by
  unfold fg_se
  rw [h]
  rfl
def fg_pr {α : Type} (np : Nat) (y : Int32) (d : α) (f : Nat → Nat × α) : Nat × α := if fo_inr y np then f (fN y) else (1, d)
theorem fg_pr_t {α : Type} {np p : Nat} {d : α} {f : Nat → Nat × α} (hp : p < np) (h8 : np ≤ 8) : fg_pr np (nI p) d f = f p := by
  unfold fg_pr
  rw [fo_inr_nI hp (by omega), fN_nI (by omega)]
  rfl
theorem fg_pr_f {α : Type} {np : Nat} {y : Int32} {d : α} {f : Nat → Nat × α} (h : fo_inr y np = false) : fg_pr np y d f = (1, d) := by
  unfold fg_pr
  rw [h]
  rfl
def fg_pa {α : Type} (np : Nat) (y x : Int32) (d : α) (f : Nat → Nat → Nat × α) : Nat × α := if fo_inr y np && fo_inr x 4 then f (fN y) (fN x) else (1, d)
theorem fg_pa_t {α : Type} {np p k : Nat} {d : α} {f : Nat → Nat → Nat × α} (hp : p < np) (h8 : np ≤ 8) (hk : k < 4) : fg_pa np (nI p) (nI k) d f = f p k := by
  unfold fg_pa
  rw [fo_inr_nI hp (by omega), fo_inr_nI hk (by omega), fN_nI (by omega), fN_nI (by omega)]
  rfl
theorem fg_pa_f {α : Type} {np : Nat} {y x : Int32} {d : α} {f : Nat → Nat → Nat × α} (h : (fo_inr y np && fo_inr x 4) = false) : fg_pa np y x d f = (1, d) := by
  unfold fg_pa
  rw [h]
  rfl
def fg_nv {α : Type} (n : Nat → Nat) (x z : Int32) (d : α) (f : Nat → Nat → α) : Nat × α := fg_se x d (fun k => if fo_inr z (n k) then (0, f k (fN z)) else (2, d))
theorem fg_nv_t {α : Type} {n : Nat → Nat} {k j : Nat} {d : α} {f : Nat → Nat → α} (hk : k < 4) (hj : j < n k) (hn : n k ≤ 30) : fg_nv n (nI k) (nI j) d f = (0, f k j) := by
  unfold fg_nv
  rw [fg_se_t hk, fo_inr_nI hj (by omega), fN_nI (by omega)]
  rfl
theorem fg_nv_1 {α : Type} {n : Nat → Nat} {x z : Int32} {d : α} {f : Nat → Nat → α} (h : fo_inr x 4 = false) : fg_nv n x z d f = (1, d) := fg_se_f h
theorem fg_nv_2 {α : Type} {n : Nat → Nat} {k : Nat} {z : Int32} {d : α} {f : Nat → Nat → α} (hk : k < 4) (h : fo_inr z (n k) = false) : fg_nv n (nI k) z d f = (2, d) := by
  unfold fg_nv
  rw [fg_se_t hk, h]
  rfl
def fg_nl {α : Type} (n : Nat → Nat) (x z : Int32) (d : α) (f : Nat → Nat → α) : Nat × α := fg_se x d (fun k => if fo_130 z then (if fN z ≤ n k then (0, f k (fN z)) else (3, d)) else (2, d))
theorem fg_nl_t {α : Type} {n : Nat → Nat} {k c : Nat} {d : α} {f : Nat → Nat → α} (hk : k < 4) (h1 : 1 ≤ c) (h3 : c ≤ 30) (h2 : c ≤ n k) : fg_nl n (nI k) (nI c) d f = (0, f k c) := by
  unfold fg_nl
  rw [fg_se_t hk, fo_130_nI h1 h3, fN_nI (by omega)]
  exact if_pos h2
theorem fg_nl_1 {α : Type} {n : Nat → Nat} {x z : Int32} {d : α} {f : Nat → Nat → α} (h : fo_inr x 4 = false) : fg_nl n x z d f = (1, d) := fg_se_f h
theorem fg_nl_2 {α : Type} {n : Nat → Nat} {k : Nat} {z : Int32} {d : α} {f : Nat → Nat → α} (hk : k < 4) (h : fo_130 z = false) : fg_nl n (nI k) z d f = (2, d) := by
  unfold fg_nl
  rw [fg_se_t hk, h]
  rfl
theorem fg_nl_3 {α : Type} {n : Nat → Nat} {k c : Nat} {d : α} {f : Nat → Nat → α} (hk : k < 4) (h1 : 1 ≤ c) (h3 : c ≤ 30) (h2 : n k < c) : fg_nl n (nI k) (nI c) d f = (3, d) := by
  unfold fg_nl
  rw [fg_se_t hk, fo_130_nI h1 h3, fN_nI (by omega)]
  exact if_neg (Nat.not_le.mpr h2)
def fg_sm {α : Type} (n : Nat → Nat) (x z : Int32) (d : α) (f : Nat → Nat → α) : Nat × α := fg_se x d (fun k => if fo_19 z then (if 0 < n k then (0, f k (fN z)) else (3, d)) else (2, d))
theorem fg_sm_t {α : Type} {n : Nat → Nat} {k c : Nat} {d : α} {f : Nat → Nat → α} (hk : k < 4) (h1 : 1 ≤ c) (h3 : c ≤ 9) (h2 : 0 < n k) : fg_sm n (nI k) (nI c) d f = (0, f k c) := by
  unfold fg_sm
  rw [fg_se_t hk, fo_19_nI h1 h3, fN_nI (by omega)]
  exact if_pos h2
theorem fg_sm_1 {α : Type} {n : Nat → Nat} {x z : Int32} {d : α} {f : Nat → Nat → α} (h : fo_inr x 4 = false) : fg_sm n x z d f = (1, d) := fg_se_f h
theorem fg_sm_2 {α : Type} {n : Nat → Nat} {k : Nat} {z : Int32} {d : α} {f : Nat → Nat → α} (hk : k < 4) (h : fo_19 z = false) : fg_sm n (nI k) z d f = (2, d) := by
  unfold fg_sm
  rw [fg_se_t hk, h]
  rfl
theorem fg_sm_3 {α : Type} {n : Nat → Nat} {k c : Nat} {d : α} {f : Nat → Nat → α} (hk : k < 4) (h1 : 1 ≤ c) (h3 : c ≤ 9) (h2 : n k = 0) : fg_sm n (nI k) (nI c) d f = (3, d) := by
  unfold fg_sm
  rw [fg_se_t hk, fo_19_nI h1 h3, fN_nI (by omega)]
  exact if_neg (Nat.not_lt.mpr (Nat.le_of_eq h2))
theorem fo_th2 (I : fo_Mi) (a b : Int32) : fo_r (fo_r I 616 (upd (I 616) 5 a)) 616 (upd (fo_r I 616 (upd (I 616) 5 a) 616) 5 b) = fo_r I 616 (upd (I 616) 5 b) := by
  funext id
  by_cases h : id = 616
  · subst h
    rw [fo_rs, fo_rs, fo_rs]
    funext j
    by_cases e : j = 5
    · subst e; rw [pk_us, pk_us]
    · rw [pk_un e, pk_un e, pk_un e]
  · rw [fo_rn _ _ h, fo_rn _ _ h, fo_rn _ _ h]
theorem fo_thp {α : Type} {I : fo_Mi} {p q : Nat × α} (h : p = q) : fo_r I 616 (upd (I 616) 5 (nI q.1)) = fo_r I 616 (upd (I 616) 5 (nI p.1)) := by rw [h]
theorem fm_T.th {I : fo_Mi} {g : Nat → Int32} {np lim : Nat} {kd par n : Nat → Nat} {v : Nat → Nat → Nat} (h : fm_T I 617 np lim kd par n v) : fm_T (fo_r I 616 g) 617 np lim kd par n v := h

set_option maxRecDepth 10000 in
set_option maxHeartbeats 4000000 in
theorem mX7_isProphet {l : Launch} {Λ : fo_Lt} {I : fo_Mi} {D : fo_Md} {J : fo_Mj} {X : fo_Mi} {np lim : Nat} {kd par n : Nat → Nat} {v : Nat → Nat → Nat} {y : Int32} (ht : fm_T I 617 np lim kd par n v) : fk_i l yX7_isProphet cX7_isProphet 2 .boolean 1 22 Λ [.ref (Λ.2.2.1 616), .int (y)] I D J X (fo_pr (fo_b (fo_inr y np)) I D J X) := by
  obtain ⟨⟨ho1, ⟨ho2, ho3⟩, ho4, ho5, ho6⟩, hnp, hlim, hP, hS⟩ := id ht
  refine fo_si (by decide) [(0, .ref (Λ.2.2.1 616)), (1, .int (y))] rfl (Nat.le_of_ble_eq_true rfl) (fun K C fin => ?_)
  refine fo_iload_n C dX7_isProphet_0 1 rfl rfl 1 rfl ?_
  refine fo_iconst C dX7_isProphet_1 (nI 0) ki_0 2 rfl ?_
  refine fo_aload_n C dX7_isProphet_2 0 rfl rfl 3 rfl ?_
  refine fo_get C dX7_isProphet_3 fK9 (by decide : fo_k 616 = 9) (by decide) 0 (by decide) fl_X7_7 (v := .ref (Λ.2.2.1 617)) rfl 6 rfl ?_
  refine fo_iconst C dX7_isProphet_6 (nI 0) ki_0 7 rfl ?_
  refine fo_iald C dX7_isProphet_7 (by decide : fo_k 617 = 20) (by rw [(show fo_n 617 = 150 from rfl)]; omega) (nI (np)) (hnp) 8 rfl ?_
  refine fo_iconst C dX7_isProphet_8 (nI 1) ki_1 9 rfl ?_
  refine fo_isub C dX7_isProphet_9 _ rfl 10 rfl ?_
  refine fo_qsi C dX7_isProphet_10 (mX7_in (x := y) (y := (nI (0))) (z := (nI (np) - nI (1)))) ls_X7_88 rfl ⟨Nat.le_of_ble_eq_true rfl, Nat.le_of_ble_eq_true rfl⟩ ⟨Nat.le_of_ble_eq_true rfl, Nat.le_of_ble_eq_true rfl⟩ [] rfl (Nat.le_of_ble_eq_true rfl) 13 rfl (fo_er ?_)
  exact fin dX7_isProphet_13 (by first | rfl | exact fo_nb _) (⟨congrArg fo_b (fm_in_p (by omega)), rfl, rfl, rfl, rfl⟩)
theorem mX7_checked_t {l : Launch} {Λ : fo_Lt} {I : fo_Mi} {D : fo_Md} {J : fo_Mj} {X : fo_Mi} : fk_i l yX7_checked cX7_checked 2 .int 0 0 Λ [.ref (Λ.2.2.1 616), .int (fo_b (true))] I D J X (fo_pr (nI 0) (fo_r I 616 (upd (I 616) 5 (nI 0))) D J X) := mX7_checked (b := true)
theorem mX7_checked_f {l : Launch} {Λ : fo_Lt} {I : fo_Mi} {D : fo_Md} {J : fo_Mj} {X : fo_Mi} : fk_i l yX7_checked cX7_checked 2 .int 0 0 Λ [.ref (Λ.2.2.1 616), .int (fo_b (false))] I D J X (fo_pr (nI 1) (fo_r I 616 (upd (I 616) 5 (nI 1))) D J X) := mX7_checked (b := false)
set_option maxRecDepth 10000 in
set_option maxHeartbeats 4000000 in
theorem mX7_days {l : Launch} {Λ : fo_Lt} {I : fo_Mi} {D : fo_Md} {J : fo_Mj} {X : fo_Mi} {np lim : Nat} {kd par n : Nat → Nat} {v : Nat → Nat → Nat} {x : Int32} (ht : fm_T I 617 np lim kd par n v) : fk_i l yX7_days cX7_days 2 .int 2 42 Λ [.ref (Λ.2.2.1 616), .int (x)] I D J X ((fun r I' D' J' X' => r = (fg_se x (nI 0) (fun k => (0, nI (n k)))).2 ∧ I' = fo_r I 616 (upd (I 616) 5 (nI (fg_se x (nI 0) (fun k => (0, nI (n k)))).1)) ∧ D' = D ∧ J' = J)) := by
  obtain ⟨⟨ho1, ⟨ho2, ho3⟩, ho4, ho5, ho6⟩, hnp, hlim, hP, hS⟩ := id ht
  refine fo_si (by decide) [(0, .ref (Λ.2.2.1 616)), (1, .int (x))] rfl (Nat.le_of_ble_eq_true rfl) (fun K C fin => ?_)
  rcases hx : fo_inr x 4 with _ | _
  · skip
    refine fo_aload_n C dX7_days_0 0 rfl rfl 1 rfl ?_
    refine fo_iload_n C dX7_days_1 1 rfl rfl 2 rfl ?_
    refine fo_qsi C dX7_days_2 (mX7_isSeries (x := x)) ls_X7_120 rfl ⟨Nat.le_of_ble_eq_true rfl, Nat.le_of_ble_eq_true rfl⟩ ⟨Nat.le_of_ble_eq_true rfl, Nat.le_of_ble_eq_true rfl⟩ [.ref (Λ.2.2.1 616)] rfl (Nat.le_of_ble_eq_true rfl) 5 rfl (fo_er ?_)
    first | rw [hsx] | rw [hx]
    refine fo_qvi C dX7_days_5 mX7_checked_f lv_X7_135 (by decide : fo_k 616 = 9) rfl (by decide) rfl ⟨Nat.le_of_ble_eq_true rfl, Nat.le_of_ble_eq_true rfl⟩ ⟨Nat.le_of_ble_eq_true rfl, Nat.le_of_ble_eq_true rfl⟩ [] rfl (Nat.le_of_ble_eq_true rfl) 8 rfl (fo_er ?_)
    replace ht := ht.th (g := upd (I 616) 5 (nI 1))
    refine fo_nif_le C (by omega) dX7_days_8 15 (by decide) 11 rfl (fun c13 => ?_) (fun c13 => ?_)
    · omega
    · refine fo_iconst C dX7_days_11 (nI 0) ki_0 12 rfl ?_
      refine fo_goto C dX7_days_12 20 (by decide) ?_
      exact fin dX7_days_20 rfl (⟨(by rw [fg_se_f hx] <;> rfl), (by rw [fg_se_f hx] <;> exact rfl), rfl, rfl⟩)
  · obtain ⟨k, hk, hk31, rfl⟩ := fo_inr_at hx
    have hnk := ho5 k hk
    have hsx : fo_inr (nI k) 4 = true := fo_inr_nI hk (by omega)
    refine fo_aload_n C dX7_days_0 0 rfl rfl 1 rfl ?_
    refine fo_iload_n C dX7_days_1 1 rfl rfl 2 rfl ?_
    refine fo_qsi C dX7_days_2 (mX7_isSeries (x := (nI (k)))) ls_X7_120 rfl ⟨Nat.le_of_ble_eq_true rfl, Nat.le_of_ble_eq_true rfl⟩ ⟨Nat.le_of_ble_eq_true rfl, Nat.le_of_ble_eq_true rfl⟩ [.ref (Λ.2.2.1 616)] rfl (Nat.le_of_ble_eq_true rfl) 5 rfl (fo_er ?_)
    first | rw [hsx] | rw [hx]
    refine fo_qvi C dX7_days_5 mX7_checked_t lv_X7_135 (by decide : fo_k 616 = 9) rfl (by decide) rfl ⟨Nat.le_of_ble_eq_true rfl, Nat.le_of_ble_eq_true rfl⟩ ⟨Nat.le_of_ble_eq_true rfl, Nat.le_of_ble_eq_true rfl⟩ [] rfl (Nat.le_of_ble_eq_true rfl) 8 rfl (fo_er ?_)
    replace ht := ht.th (g := upd (I 616) 5 (nI 0))
    refine fo_nif_le C (by omega) dX7_days_8 15 (by decide) 11 rfl (fun c26 => ?_) (fun c26 => ?_)
    · refine fo_aload_n C dX7_days_15 0 rfl rfl 16 rfl ?_
      refine fo_iload_n C dX7_days_16 1 rfl rfl 17 rfl ?_
      refine fo_qvi C dX7_days_17 (mX7_daysOf (k := k) (by omega) ht) lv_X7_92 (by decide : fo_k 616 = 9) rfl (by decide) rfl ⟨Nat.le_of_ble_eq_true rfl, Nat.le_of_ble_eq_true rfl⟩ ⟨Nat.le_of_ble_eq_true rfl, Nat.le_of_ble_eq_true rfl⟩ [] rfl (Nat.le_of_ble_eq_true rfl) 20 rfl (fo_er ?_)
      have q33 := ho5 k (by omega)
      exact fin dX7_days_20 rfl (⟨(by rw [fg_se_t hk] <;> rfl), (by rw [fg_se_t hk] <;> exact rfl), rfl, rfl⟩)
    · omega
set_option maxRecDepth 10000 in
set_option maxHeartbeats 4000000 in
theorem mX7_noValue_g {l : Launch} {Λ : fo_Lt} {I : fo_Mi} {D : fo_Md} {J : fo_Mj} {X : fo_Mi} {np lim : Nat} {kd par n : Nat → Nat} {v : Nat → Nat → Nat} {x z : Int32} (ht : fm_T I 617 np lim kd par n v) : fk_i l yX7_noValue cX7_noValue 3 .int 2 42 Λ [.ref (Λ.2.2.1 616), .int (x), .int (z)] I D J X (fo_pr (nI (fg_nv n x z () (fun _ _ => ())).1) I D J X) := by
  obtain ⟨⟨ho1, ⟨ho2, ho3⟩, ho4, ho5, ho6⟩, hnp, hlim, hP, hS⟩ := id ht
  refine fo_si (by decide) [(0, .ref (Λ.2.2.1 616)), (1, .int (x)), (2, .int (z))] rfl (Nat.le_of_ble_eq_true rfl) (fun K C fin => ?_)
  rcases hx : fo_inr x 4 with _ | _
  · skip
    refine fo_iload_n C dX7_noValue_0 1 rfl rfl 1 rfl ?_
    refine fo_qsi C dX7_noValue_1 (mX7_isSeries (x := x)) ls_X7_120 rfl ⟨Nat.le_of_ble_eq_true rfl, Nat.le_of_ble_eq_true rfl⟩ ⟨Nat.le_of_ble_eq_true rfl, Nat.le_of_ble_eq_true rfl⟩ [] rfl (Nat.le_of_ble_eq_true rfl) 4 rfl (fo_er ?_)
    first | rw [hsx] | rw [hx]
    refine fo_bif_ne C dX7_noValue_4 11 (by decide) 7 rfl (fun c7 => ?_) (fun c7 => ?_)
    · exact absurd c7 (by decide)
    · refine fo_iconst C dX7_noValue_7 (nI 1) ki_1 8 rfl ?_
      refine fo_goto C dX7_noValue_8 31 (by decide) ?_
      exact fin dX7_noValue_31 rfl (⟨by rw [fg_nv_1 hx], rfl, rfl, rfl, rfl⟩)
  · obtain ⟨k, hk, hk31, rfl⟩ := fo_inr_at hx
    have hnk := ho5 k hk
    have hsx : fo_inr (nI k) 4 = true := fo_inr_nI hk (by omega)
    rcases hz : fo_inr z (n k) with _ | _
    · skip
      refine fo_iload_n C dX7_noValue_0 1 rfl rfl 1 rfl ?_
      refine fo_qsi C dX7_noValue_1 (mX7_isSeries (x := (nI (k)))) ls_X7_120 rfl ⟨Nat.le_of_ble_eq_true rfl, Nat.le_of_ble_eq_true rfl⟩ ⟨Nat.le_of_ble_eq_true rfl, Nat.le_of_ble_eq_true rfl⟩ [] rfl (Nat.le_of_ble_eq_true rfl) 4 rfl (fo_er ?_)
      first | rw [hsx] | rw [hx]
      refine fo_bif_ne C dX7_noValue_4 11 (by decide) 7 rfl (fun c14 => ?_) (fun c14 => ?_)
      · refine fo_iload_n C dX7_noValue_11 2 rfl rfl 12 rfl ?_
        refine fo_iconst C dX7_noValue_12 (nI 0) ki_0 13 rfl ?_
        refine fo_aload_n C dX7_noValue_13 0 rfl rfl 14 rfl ?_
        refine fo_iload_n C dX7_noValue_14 1 rfl rfl 15 rfl ?_
        refine fo_qvi C dX7_noValue_15 (mX7_daysOf (k := k) (by omega) ht) lv_X7_92 (by decide : fo_k 616 = 9) rfl (by decide) rfl ⟨Nat.le_of_ble_eq_true rfl, Nat.le_of_ble_eq_true rfl⟩ ⟨Nat.le_of_ble_eq_true rfl, Nat.le_of_ble_eq_true rfl⟩ [.int (nI 0), .int (z)] rfl (Nat.le_of_ble_eq_true rfl) 18 rfl (fo_er ?_)
        have q21 := ho5 k (by omega)
        refine fo_iconst C dX7_noValue_18 (nI 1) ki_1 19 rfl ?_
        refine fo_isub C dX7_noValue_19 _ rfl 20 rfl ?_
        refine fo_qsi C dX7_noValue_20 (mX7_in (x := z) (y := (nI (0))) (z := (nI (n k) - nI (1)))) ls_X7_88 rfl ⟨Nat.le_of_ble_eq_true rfl, Nat.le_of_ble_eq_true rfl⟩ ⟨Nat.le_of_ble_eq_true rfl, Nat.le_of_ble_eq_true rfl⟩ [] rfl (Nat.le_of_ble_eq_true rfl) 23 rfl (fo_er ?_)
        rw [fm_in_p (by omega), hz]
        refine fo_bif_ne C dX7_noValue_23 30 (by decide) 26 rfl (fun c28 => ?_) (fun c28 => ?_)
        · exact absurd c28 (by decide)
        · refine fo_iconst C dX7_noValue_26 (nI 2) ki_2 27 rfl ?_
          refine fo_goto C dX7_noValue_27 31 (by decide) ?_
          exact fin dX7_noValue_31 rfl (⟨by rw [fg_nv_2 hk hz], rfl, rfl, rfl, rfl⟩)
      · exact absurd c14 (by decide)
    · obtain ⟨d, hd, hd31, rfl⟩ := fo_inr_at hz
      refine fo_iload_n C dX7_noValue_0 1 rfl rfl 1 rfl ?_
      refine fo_qsi C dX7_noValue_1 (mX7_isSeries (x := (nI (k)))) ls_X7_120 rfl ⟨Nat.le_of_ble_eq_true rfl, Nat.le_of_ble_eq_true rfl⟩ ⟨Nat.le_of_ble_eq_true rfl, Nat.le_of_ble_eq_true rfl⟩ [] rfl (Nat.le_of_ble_eq_true rfl) 4 rfl (fo_er ?_)
      first | rw [hsx] | rw [hx]
      refine fo_bif_ne C dX7_noValue_4 11 (by decide) 7 rfl (fun c35 => ?_) (fun c35 => ?_)
      · refine fo_iload_n C dX7_noValue_11 2 rfl rfl 12 rfl ?_
        refine fo_iconst C dX7_noValue_12 (nI 0) ki_0 13 rfl ?_
        refine fo_aload_n C dX7_noValue_13 0 rfl rfl 14 rfl ?_
        refine fo_iload_n C dX7_noValue_14 1 rfl rfl 15 rfl ?_
        refine fo_qvi C dX7_noValue_15 (mX7_daysOf (k := k) (by omega) ht) lv_X7_92 (by decide : fo_k 616 = 9) rfl (by decide) rfl ⟨Nat.le_of_ble_eq_true rfl, Nat.le_of_ble_eq_true rfl⟩ ⟨Nat.le_of_ble_eq_true rfl, Nat.le_of_ble_eq_true rfl⟩ [.int (nI 0), .int (nI d)] rfl (Nat.le_of_ble_eq_true rfl) 18 rfl (fo_er ?_)
        have q42 := ho5 k (by omega)
        refine fo_iconst C dX7_noValue_18 (nI 1) ki_1 19 rfl ?_
        refine fo_isub C dX7_noValue_19 _ rfl 20 rfl ?_
        refine fo_qsi C dX7_noValue_20 (mX7_in (x := (nI (d))) (y := (nI (0))) (z := (nI (n k) - nI (1)))) ls_X7_88 rfl ⟨Nat.le_of_ble_eq_true rfl, Nat.le_of_ble_eq_true rfl⟩ ⟨Nat.le_of_ble_eq_true rfl, Nat.le_of_ble_eq_true rfl⟩ [] rfl (Nat.le_of_ble_eq_true rfl) 23 rfl (fo_er ?_)
        rw [fm_in_p (by omega), fo_inr_nI hd (by omega)]
        refine fo_bif_ne C dX7_noValue_23 30 (by decide) 26 rfl (fun c49 => ?_) (fun c49 => ?_)
        · refine fo_iconst C dX7_noValue_30 (nI 0) ki_0 31 rfl ?_
          exact fin dX7_noValue_31 rfl (⟨by rw [fg_nv_t hk hd hnk], rfl, rfl, rfl, rfl⟩)
        · exact absurd c49 (by decide)
      · exact absurd c35 (by decide)
set_option maxRecDepth 10000 in
set_option maxHeartbeats 4000000 in
theorem mX7_value {l : Launch} {Λ : fo_Lt} {I : fo_Mi} {D : fo_Md} {J : fo_Mj} {X : fo_Mi} {np lim : Nat} {kd par n : Nat → Nat} {v : Nat → Nat → Nat} {x z : Int32} (ht : fm_T I 617 np lim kd par n v) : fk_i l yX7_value cX7_value 3 .int 3 64 Λ [.ref (Λ.2.2.1 616), .int (x), .int (z)] I D J X ((fun r I' D' J' X' => r = (fg_nv n x z (nI 0) (fun k d => nI (v k d))).2 ∧ I' = fo_r I 616 (upd (I 616) 5 (nI (fg_nv n x z (nI 0) (fun k d => nI (v k d))).1)) ∧ D' = D ∧ J' = J)) := by
  obtain ⟨⟨ho1, ⟨ho2, ho3⟩, ho4, ho5, ho6⟩, hnp, hlim, hP, hS⟩ := id ht
  refine fo_si (by decide) [(0, .ref (Λ.2.2.1 616)), (1, .int (x)), (2, .int (z))] rfl (Nat.le_of_ble_eq_true rfl) (fun K C fin => ?_)
  rcases hx : fo_inr x 4 with _ | _
  · skip
    refine fo_aload_n C dX7_value_0 0 rfl rfl 1 rfl ?_
    refine fo_aload_n C dX7_value_1 0 rfl rfl 2 rfl ?_
    refine fo_iload_n C dX7_value_2 1 rfl rfl 3 rfl ?_
    refine fo_iload_n C dX7_value_3 2 rfl rfl 4 rfl ?_
    refine fo_qvi C dX7_value_4 (mX7_noValue_g (x := x) (z := z) ht) lv_X7_139 (by decide : fo_k 616 = 9) rfl (by decide) rfl ⟨Nat.le_of_ble_eq_true rfl, Nat.le_of_ble_eq_true rfl⟩ ⟨Nat.le_of_ble_eq_true rfl, Nat.le_of_ble_eq_true rfl⟩ [.ref (Λ.2.2.1 616)] rfl (Nat.le_of_ble_eq_true rfl) 7 rfl (fo_er ?_)
    rw [fg_nv_1 hx]
    refine fo_put C dX7_value_7 fK9 (by decide : fo_k 616 = 9) (by decide) 5 (by decide) fl_X7_25 rfl rfl rfl rfl (Nat.le_of_ble_eq_true rfl) 10 rfl ?_
    replace ht := ht.th (g := upd (I 616) 5 (nI 1))
    refine fo_aload_n C dX7_value_10 0 rfl rfl 11 rfl ?_
    refine fo_get C dX7_value_11 fK9 (by decide : fo_k 616 = 9) (by decide) 5 (by decide) fl_X7_25 (v := .int (nI 1)) (congrArg (fun x => some (Value.int x)) ((by rw [fo_rs, pk_us]))) 14 rfl ?_
    refine fo_nif_le C (by omega) dX7_value_14 21 (by decide) 17 rfl (fun c7 => ?_) (fun c7 => ?_)
    · omega
    · refine fo_iconst C dX7_value_17 (nI 0) ki_0 18 rfl ?_
      refine fo_goto C dX7_value_18 27 (by decide) ?_
      exact fin dX7_value_27 rfl (⟨(by rw [fg_nv_1 hx] <;> rfl), (by rw [fg_nv_1 hx] <;> exact rfl), rfl, rfl⟩)
  · obtain ⟨k, hk, hk31, rfl⟩ := fo_inr_at hx
    have hnk := ho5 k hk
    have hsx : fo_inr (nI k) 4 = true := fo_inr_nI hk (by omega)
    rcases hz : fo_inr z (n k) with _ | _
    · skip
      refine fo_aload_n C dX7_value_0 0 rfl rfl 1 rfl ?_
      refine fo_aload_n C dX7_value_1 0 rfl rfl 2 rfl ?_
      refine fo_iload_n C dX7_value_2 1 rfl rfl 3 rfl ?_
      refine fo_iload_n C dX7_value_3 2 rfl rfl 4 rfl ?_
      refine fo_qvi C dX7_value_4 (mX7_noValue_g (x := (nI (k))) (z := z) ht) lv_X7_139 (by decide : fo_k 616 = 9) rfl (by decide) rfl ⟨Nat.le_of_ble_eq_true rfl, Nat.le_of_ble_eq_true rfl⟩ ⟨Nat.le_of_ble_eq_true rfl, Nat.le_of_ble_eq_true rfl⟩ [.ref (Λ.2.2.1 616)] rfl (Nat.le_of_ble_eq_true rfl) 7 rfl (fo_er ?_)
      rw [fg_nv_2 hk hz]
      refine fo_put C dX7_value_7 fK9 (by decide : fo_k 616 = 9) (by decide) 5 (by decide) fl_X7_25 rfl rfl rfl rfl (Nat.le_of_ble_eq_true rfl) 10 rfl ?_
      replace ht := ht.th (g := upd (I 616) 5 (nI 2))
      refine fo_aload_n C dX7_value_10 0 rfl rfl 11 rfl ?_
      refine fo_get C dX7_value_11 fK9 (by decide : fo_k 616 = 9) (by decide) 5 (by decide) fl_X7_25 (v := .int (nI 2)) (congrArg (fun x => some (Value.int x)) ((by rw [fo_rs, pk_us]))) 14 rfl ?_
      refine fo_nif_le C (by omega) dX7_value_14 21 (by decide) 17 rfl (fun c14 => ?_) (fun c14 => ?_)
      · omega
      · refine fo_iconst C dX7_value_17 (nI 0) ki_0 18 rfl ?_
        refine fo_goto C dX7_value_18 27 (by decide) ?_
        exact fin dX7_value_27 rfl (⟨(by rw [fg_nv_2 hk hz] <;> rfl), (by rw [fg_nv_2 hk hz] <;> exact rfl), rfl, rfl⟩)
    · obtain ⟨d, hd, hd31, rfl⟩ := fo_inr_at hz
      refine fo_aload_n C dX7_value_0 0 rfl rfl 1 rfl ?_
      refine fo_aload_n C dX7_value_1 0 rfl rfl 2 rfl ?_
      refine fo_iload_n C dX7_value_2 1 rfl rfl 3 rfl ?_
      refine fo_iload_n C dX7_value_3 2 rfl rfl 4 rfl ?_
      refine fo_qvi C dX7_value_4 (mX7_noValue_g (x := (nI (k))) (z := (nI (d))) ht) lv_X7_139 (by decide : fo_k 616 = 9) rfl (by decide) rfl ⟨Nat.le_of_ble_eq_true rfl, Nat.le_of_ble_eq_true rfl⟩ ⟨Nat.le_of_ble_eq_true rfl, Nat.le_of_ble_eq_true rfl⟩ [.ref (Λ.2.2.1 616)] rfl (Nat.le_of_ble_eq_true rfl) 7 rfl (fo_er ?_)
      rw [fg_nv_t hk hd hnk]
      refine fo_put C dX7_value_7 fK9 (by decide : fo_k 616 = 9) (by decide) 5 (by decide) fl_X7_25 rfl rfl rfl rfl (Nat.le_of_ble_eq_true rfl) 10 rfl ?_
      replace ht := ht.th (g := upd (I 616) 5 (nI 0))
      refine fo_aload_n C dX7_value_10 0 rfl rfl 11 rfl ?_
      refine fo_get C dX7_value_11 fK9 (by decide : fo_k 616 = 9) (by decide) 5 (by decide) fl_X7_25 (v := .int (nI 0)) (congrArg (fun x => some (Value.int x)) ((by rw [fo_rs, pk_us]))) 14 rfl ?_
      refine fo_nif_le C (by omega) dX7_value_14 21 (by decide) 17 rfl (fun c21 => ?_) (fun c21 => ?_)
      · refine fo_aload_n C dX7_value_21 0 rfl rfl 22 rfl ?_
        refine fo_iload_n C dX7_value_22 1 rfl rfl 23 rfl ?_
        refine fo_iload_n C dX7_value_23 2 rfl rfl 24 rfl ?_
        refine fo_qvi C dX7_value_24 (mX7_v (k := k) (d := d) (by omega) (by omega) ht) lv_X7_142 (by decide : fo_k 616 = 9) rfl (by decide) rfl ⟨Nat.le_of_ble_eq_true rfl, Nat.le_of_ble_eq_true rfl⟩ ⟨Nat.le_of_ble_eq_true rfl, Nat.le_of_ble_eq_true rfl⟩ [] rfl (Nat.le_of_ble_eq_true rfl) 27 rfl (fo_er ?_)
        have q28 := ho6 k (by omega) d (by omega)
        exact fin dX7_value_27 rfl (⟨(by rw [fg_nv_t hk hd hnk] <;> rfl), (by rw [fg_nv_t hk hd hnk] <;> exact rfl), rfl, rfl⟩)
      · omega
