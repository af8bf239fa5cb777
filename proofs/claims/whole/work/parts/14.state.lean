
/-! A STATE -/
def fo_19 (x : Int32) : Bool := decide (1 ≤ x.toInt ∧ x.toInt ≤ 9)
theorem fo_19_lt {x : Int32} (h : x < nI 1) : fo_19 x = false := by
  have := Int32.lt_iff_toInt_lt.mp h
  rw [nI_toInt (by decide)] at this
  exact decide_eq_false (by omega)
theorem fo_19_gt {x : Int32} (h : nI 9 < x) : fo_19 x = false := by
  have := Int32.lt_iff_toInt_lt.mp h
  rw [nI_toInt (by decide)] at this
  exact decide_eq_false (by omega)
theorem fo_19_in {x : Int32} (h0 : ¬ x < nI 1) (h : ¬ nI 9 < x) : fo_19 x = true := by
  have h1 : ¬ x.toInt < 1 := fun q => h0 (Int32.lt_iff_toInt_lt.mpr (by rw [nI_toInt (by decide)]; exact q))
  have h2 : ¬ (9 : Int) < x.toInt := fun q => h (Int32.lt_iff_toInt_lt.mpr (by rw [nI_toInt (by decide)]; exact q))
  exact decide_eq_true (by omega)
theorem fo_19_nI {m : Nat} (h1 : 1 ≤ m) (h2 : m ≤ 9) : fo_19 (nI m) = true := by
  refine decide_eq_true ?_
  rw [nI_toInt (by omega)]
  omega
theorem fo_19_at {x : Int32} (h : fo_19 x = true) : ∃ m, 1 ≤ m ∧ m ≤ 9 ∧ x = nI m := by
  have h := of_decide_eq_true h
  refine ⟨x.toInt.toNat, by omega, by omega, ?_⟩
  apply Int32.toInt_inj.mp
  rw [nI_toInt (by omega)]
  omega
theorem fo_ow_ne {o : Nat} (h : o < 2 ^ 31) : ¬ nI o = -1 := by
  intro q
  have q2 := congrArg Int32.toInt q
  rw [nI_toInt h] at q2
  exact absurd q2 (by rw [show (-1 : Int32).toInt = -1 from rfl]; omega)
theorem fo_max0 {a b : Nat} (ha : a < 2 ^ 30) (hb : b < 2 ^ 30) : (if nI 0 < nI a - nI b then nI a - nI b else nI 0) = nI (a - b) := by
  have hd := pk_sub_toInt (a := a) (b := b) ha hb
  by_cases h : b < a
  · rw [if_pos (Int32.lt_iff_toInt_lt.mpr (by rw [hd, nI_toInt (by decide)]; omega)), pk_sub (Nat.le_of_lt h)]
  · rw [if_neg (fun q => by have := Int32.lt_iff_toInt_lt.mp q; rw [hd, nI_toInt (by decide)] at this; omega), show a - b = 0 by omega]
def fo_kc (w : Nat) : Bool := decide (w = 108 ∨ w = 109 ∨ w = 100 ∨ w = 116 ∨ w = 115)
def fs_T (I : fo_Mi) (b np lim : Nat) (kd par n : Nat → Nat) (v : Nat → Nat → Nat) : Prop := fo_k b = 7 ∧ fa_ok np lim kd par n v ∧ I b 2 = nI np ∧ I b 3 = nI lim ∧ (∀ p, p < np → I (b + 23 + 4 * p) 0 = nI (kd p) ∧ I (b + 23 + 4 * p) 1 = nI (par p)) ∧ ∀ k, k < 4 → I (b + 3 + 5 * k) 1 = nI (n k) ∧ ∀ d, d < n k → I (b + 3 + 5 * k + 1) d = nI (v k d)
def fs_C (I : fo_Mi) (D : fo_Md) (b np : Nat) (kd par n : Nat → Nat) (v : Nat → Nat → Nat) : Prop := ∀ p, p < np → ∀ k, k < 4 → I (b + 23 + 4 * p + 1) k = nI (n k - fp_need (kd p) (par p)) ∧ D (b + 23 + 4 * p + 2) k = fp_es (kd p) (par p) (v k) (n k) ∧ I (b + 23 + 4 * p + 3) k = nI (fp_pts np kd par (v k) p (n k))
def fs_H (I : fo_Mi) (b : Nat) : Prop := ∀ p, p < 8 → ∃ c, c < 65536 ∧ I (b + 23 + 4 * p) 0 = nI c
def fs_F (I : fo_Mi) (D : fo_Md) (b np lim : Nat) (kd par n : Nat → Nat) (v : Nat → Nat → Nat) : Prop := fs_T I b np lim kd par n v ∧ fs_C I D b np kd par n v ∧ fs_H I b
def fs_fr (b : Nat) (I : fo_Mi) (D : fo_Md) (I' : fo_Mi) (D' : fo_Md) : Prop := ∀ c, (c < b ∨ b + 55 ≤ c) → I' c = I c ∧ D' c = D c
theorem fs_T.S {I : fo_Mi} {b np lim k : Nat} {kd par n : Nat → Nat} {v : Nat → Nat → Nat} (h : fs_T I b np lim kd par n v) (hk : k < 4) : fs_S I (b + 3 + 5 * k) (n k) (v k) :=
  ⟨fo_TSk h.1 hk, (h.2.2.2.2.2 k hk).1, h.2.1.2.2.2.1 k hk, (h.2.2.2.2.2 k hk).2, h.2.1.2.2.2.2 k hk⟩
theorem fs_T.P {I : fo_Mi} {b np lim p : Nat} {kd par n : Nat → Nat} {v : Nat → Nat → Nat} (h : fs_T I b np lim kd par n v) (hp : p < np) : fs_P I (b + 23 + 4 * p) (kd p) (par p) :=
  ⟨fo_TPk h.1 (by have := h.2.1.1; omega), (h.2.2.2.2.1 p hp).1, (h.2.2.2.2.1 p hp).2, h.2.1.2.2.1 p hp⟩

set_option maxRecDepth 10000 in
set_option maxHeartbeats 4000000 in
theorem mX6_isOneToNine {l : Launch} {Λ : fo_Lt} {I : fo_Mi} {D : fo_Md} {J : fo_Mj} {X : fo_Mi} {x : Int32}  : fk_i l yX6_isOneToNine cX6_isOneToNine 1 .boolean 0 0 Λ [.int (x)] I D J X (fo_pr (fo_b (fo_19 x)) I D J X) := by
  refine fo_si (by decide) [(0, .int (x))] rfl (Nat.le_of_ble_eq_true rfl) (fun K C fin => ?_)
  refine fo_iload_n C dX6_isOneToNine_0 0 rfl rfl 1 rfl ?_
  refine fo_iconst C dX6_isOneToNine_1 (nI 1) ki_1 2 rfl ?_
  refine fo_icmp_lt C dX6_isOneToNine_2 15 (by decide) 5 rfl (fun c1 => ?_) (fun c1 => ?_)
  · refine fo_iconst C dX6_isOneToNine_15 (nI 0) ki_0 16 rfl ?_
    exact fin dX6_isOneToNine_16 (by first | rfl | exact fo_nb _) (⟨fo_b0 (by first | exact fo_19_lt (by assumption) | exact fo_19_gt (by assumption)), rfl, rfl, rfl, rfl⟩)
  · refine fo_iload_n C dX6_isOneToNine_5 0 rfl rfl 6 rfl ?_
    refine fo_bipush C dX6_isOneToNine_6 (nI 9) kb_9 8 rfl ?_
    refine fo_icmp_gt C dX6_isOneToNine_8 15 (by decide) 11 rfl (fun c2 => ?_) (fun c2 => ?_)
    · refine fo_iconst C dX6_isOneToNine_15 (nI 0) ki_0 16 rfl ?_
      exact fin dX6_isOneToNine_16 (by first | rfl | exact fo_nb _) (⟨fo_b0 (by first | exact fo_19_lt (by assumption) | exact fo_19_gt (by assumption)), rfl, rfl, rfl, rfl⟩)
    · refine fo_iconst C dX6_isOneToNine_11 (nI 1) ki_1 12 rfl ?_
      refine fo_goto C dX6_isOneToNine_12 16 (by decide) ?_
      exact fin dX6_isOneToNine_16 (by first | rfl | exact fo_nb _) (⟨fo_b1 (fo_19_in (by assumption) (by assumption)), rfl, rfl, rfl, rfl⟩)
set_option maxRecDepth 10000 in
set_option maxHeartbeats 4000000 in
theorem mX6_isKind {l : Launch} {Λ : fo_Lt} {I : fo_Mi} {D : fo_Md} {J : fo_Mj} {X : fo_Mi} {w : Nat} (hw : w < 65536) : fk_i l yX6_isKind cX6_isKind 1 .boolean 0 0 Λ [.int (nI w)] I D J X (fo_pr (fo_b (fo_kc w)) I D J X) := by
  refine fo_si (by decide) [(0, .int (nI w))] rfl (Nat.le_of_ble_eq_true rfl) (fun K C fin => ?_)
  refine fo_iload_n C dX6_isKind_0 0 rfl rfl 1 rfl ?_
  refine fo_bipush C dX6_isKind_1 (nI 108) kb_108 3 rfl ?_
  refine fo_ncmp_eq C (by omega) (by omega) dX6_isKind_3 30 (by decide) 6 rfl (fun c1 => ?_) (fun c1 => ?_)
  · refine fo_iconst C dX6_isKind_30 (nI 1) ki_1 31 rfl ?_
    refine fo_goto C dX6_isKind_31 35 (by decide) ?_
    exact fin dX6_isKind_35 (by first | rfl | exact fo_nb _) (⟨fo_d1 (by omega), rfl, rfl, rfl, rfl⟩)
  · refine fo_iload_n C dX6_isKind_6 0 rfl rfl 7 rfl ?_
    refine fo_bipush C dX6_isKind_7 (nI 109) kb_109 9 rfl ?_
    refine fo_ncmp_eq C (by omega) (by omega) dX6_isKind_9 30 (by decide) 12 rfl (fun c2 => ?_) (fun c2 => ?_)
    · refine fo_iconst C dX6_isKind_30 (nI 1) ki_1 31 rfl ?_
      refine fo_goto C dX6_isKind_31 35 (by decide) ?_
      exact fin dX6_isKind_35 (by first | rfl | exact fo_nb _) (⟨fo_d1 (by omega), rfl, rfl, rfl, rfl⟩)
    · refine fo_iload_n C dX6_isKind_12 0 rfl rfl 13 rfl ?_
      refine fo_bipush C dX6_isKind_13 (nI 100) kb_100 15 rfl ?_
      refine fo_ncmp_eq C (by omega) (by omega) dX6_isKind_15 30 (by decide) 18 rfl (fun c3 => ?_) (fun c3 => ?_)
      · refine fo_iconst C dX6_isKind_30 (nI 1) ki_1 31 rfl ?_
        refine fo_goto C dX6_isKind_31 35 (by decide) ?_
        exact fin dX6_isKind_35 (by first | rfl | exact fo_nb _) (⟨fo_d1 (by omega), rfl, rfl, rfl, rfl⟩)
      · refine fo_iload_n C dX6_isKind_18 0 rfl rfl 19 rfl ?_
        refine fo_bipush C dX6_isKind_19 (nI 116) kb_116 21 rfl ?_
        refine fo_ncmp_eq C (by omega) (by omega) dX6_isKind_21 30 (by decide) 24 rfl (fun c4 => ?_) (fun c4 => ?_)
        · refine fo_iconst C dX6_isKind_30 (nI 1) ki_1 31 rfl ?_
          refine fo_goto C dX6_isKind_31 35 (by decide) ?_
          exact fin dX6_isKind_35 (by first | rfl | exact fo_nb _) (⟨fo_d1 (by omega), rfl, rfl, rfl, rfl⟩)
        · refine fo_iload_n C dX6_isKind_24 0 rfl rfl 25 rfl ?_
          refine fo_bipush C dX6_isKind_25 (nI 115) kb_115 27 rfl ?_
          refine fo_ncmp_ne C (by omega) (by omega) dX6_isKind_27 34 (by decide) 30 rfl (fun c5 => ?_) (fun c5 => ?_)
          · refine fo_iconst C dX6_isKind_34 (nI 0) ki_0 35 rfl ?_
            exact fin dX6_isKind_35 (by first | rfl | exact fo_nb _) (⟨fo_d0 (by omega), rfl, rfl, rfl, rfl⟩)
          · refine fo_iconst C dX6_isKind_30 (nI 1) ki_1 31 rfl ?_
            refine fo_goto C dX6_isKind_31 35 (by decide) ?_
            exact fin dX6_isKind_35 (by first | rfl | exact fo_nb _) (⟨fo_d1 (by omega), rfl, rfl, rfl, rfl⟩)
set_option maxRecDepth 10000 in
set_option maxHeartbeats 4000000 in
theorem mX6_isSeries {l : Launch} {Λ : fo_Lt} {I : fo_Mi} {D : fo_Md} {J : fo_Mj} {X : fo_Mi} {x : Int32}  : fk_i l yX6_isSeries cX6_isSeries 1 .boolean 0 0 Λ [.int (x)] I D J X (fo_pr (fo_b (fo_inr x 4)) I D J X) := by
  refine fo_si (by decide) [(0, .int (x))] rfl (Nat.le_of_ble_eq_true rfl) (fun K C fin => ?_)
  refine fo_iload_n C dX6_isSeries_0 0 rfl rfl 1 rfl ?_
  refine fo_if_lt C dX6_isSeries_1 13 (by decide) 4 rfl (fun c1 => ?_) (fun c1 => ?_)
  · refine fo_iconst C dX6_isSeries_13 (nI 0) ki_0 14 rfl ?_
    exact fin dX6_isSeries_14 (by first | rfl | exact fo_nb _) (⟨fo_b0 (by first | exact fo_inr_neg (by assumption) | exact fo_inr_ge (by omega) (by assumption)), rfl, rfl, rfl, rfl⟩)
  · refine fo_iload_n C dX6_isSeries_4 0 rfl rfl 5 rfl ?_
    refine fo_iconst C dX6_isSeries_5 (nI 4) ki_4 6 rfl ?_
    refine fo_icmp_ge C dX6_isSeries_6 13 (by decide) 9 rfl (fun c2 => ?_) (fun c2 => ?_)
    · refine fo_iconst C dX6_isSeries_13 (nI 0) ki_0 14 rfl ?_
      exact fin dX6_isSeries_14 (by first | rfl | exact fo_nb _) (⟨fo_b0 (by first | exact fo_inr_neg (by assumption) | exact fo_inr_ge (by omega) (by assumption)), rfl, rfl, rfl, rfl⟩)
    · refine fo_iconst C dX6_isSeries_9 (nI 1) ki_1 10 rfl ?_
      refine fo_goto C dX6_isSeries_10 14 (by decide) ?_
      exact fin dX6_isSeries_14 (by first | rfl | exact fo_nb _) (⟨fo_b1 (fo_inr_in (by omega) (by assumption) (by assumption)), rfl, rfl, rfl, rfl⟩)
set_option maxRecDepth 10000 in
set_option maxHeartbeats 4000000 in
theorem mX5_countAllValues {l : Launch} {Λ : fo_Lt} {I : fo_Mi} {D : fo_Md} {J : fo_Mj} {X : fo_Mi} {b np lim : Nat} {kd par n : Nat → Nat} {v : Nat → Nat → Nat} (ht : fs_T I b np lim kd par n v) : fk_i l yX5_countAllValues cX5_countAllValues 3 .int 0 0 Λ [.ref (Λ.2.2.1 b)] I D J X (fo_pr (nI (fp_sum n 0 4)) I D J X) := by
  obtain ⟨hk, ⟨ho1, ⟨ho2, ho3⟩, ho4, ho5, ho6⟩, hnp, hlim, hP, hS⟩ := id ht
  refine fo_si (by decide) [(0, .ref (Λ.2.2.1 b))] rfl (Nat.le_of_ble_eq_true rfl) (fun K C fin => ?_)
  refine fo_iconst C dX5_countAllValues_0 (nI 0) ki_0 1 rfl ?_
  refine fo_istore_n C dX5_countAllValues_1 rfl [(1, .int (nI 0)), (0, .ref (Λ.2.2.1 b))] rfl (by decide) 2 rfl ?_
  refine fo_iconst C dX5_countAllValues_2 (nI 0) ki_0 3 rfl ?_
  refine fo_istore_n C dX5_countAllValues_3 rfl [(2, .int (nI 0)), (1, .int (nI 0)), (0, .ref (Λ.2.2.1 b))] rfl (by decide) 4 rfl ?_
  have hL4 : ∀ (m4 : Nat) (i : Nat), 5 - i < m4 → i ≤ 4 → fo_G l Λ { frames := 0, cells := 0, slots := 0, locals := 0 } K 0 0 4 [(2, .int (nI i)), (1, .int (nI (fp_sum n 0 i))), (0, .ref (Λ.2.2.1 b))] [] I D J X := by
    intro m4
    induction m4 with
    | zero => intro i hm; exact absurd hm (Nat.not_lt_zero _)
    | succ m4 ih4 =>
      intro i hm4 hi
      have qa := fp_sum_le (v := n) (a := 0) (c := 30) (n := i) (fun k hk => ho5 _ (by omega))
      refine fo_iload_n C dX5_countAllValues_4 0 rfl rfl 5 rfl ?_
      refine fo_iconst C dX5_countAllValues_5 (nI 4) ki_4 6 rfl ?_
      refine fo_ncmp_ge C (by omega) (by omega) dX5_countAllValues_6 27 (by decide) 9 rfl (fun c1 => ?_) (fun c1 => ?_)
      · refine fo_iload_n C dX5_countAllValues_27 1 rfl rfl 28 rfl ?_
        exact fin dX5_countAllValues_28 rfl (⟨by rw [show i = 4 by omega], rfl, rfl, rfl, rfl⟩)
      · refine fo_iload_n C dX5_countAllValues_9 1 rfl rfl 10 rfl ?_
        refine fo_aload_n C dX5_countAllValues_10 2 rfl rfl 11 rfl ?_
        refine fo_get C dX5_countAllValues_11 fK7 hk (by decide) 0 (by decide) fl_X5_11 (v := .ref (Λ.2.2.1 (b + 1))) rfl 14 rfl ?_
        refine fo_iload_n C dX5_countAllValues_14 0 rfl rfl 15 rfl ?_
        refine fo_aaldS C dX5_countAllValues_15 (fo_T1k hk) (by rw [fo_T1n hk]; omega) (b + 3 + 5 * i) (by omega) 16 rfl ?_
        have q2 := ho5 i (by omega)
        refine fo_get C dX5_countAllValues_16 fK6 (fo_TSk hk (by omega)) (by decide) 1 (by decide) fl_X5_67 (v := .int (nI (n i))) (congrArg (fun x => some (Value.int x)) ((hS _ (by omega)).1)) 19 rfl ?_
        refine fo_iadd C dX5_countAllValues_19 (nI ((fp_sum n 0 i) + (n i))) (nI_add _ _) 20 rfl ?_
        refine fo_ti (b := nI (fp_sum n 0 (i + 1))) (congrArg nI (by rw [fp_sum, Nat.zero_add])) ?_
        refine fo_istore_n C dX5_countAllValues_20 rfl [(1, .int (nI (fp_sum n 0 (i + 1)))), (2, .int (nI i)), (0, .ref (Λ.2.2.1 b))] rfl (by decide) 21 rfl ?_
        refine fo_iinc C dX5_countAllValues_21 1 rfl (nI (i + 1)) (nI_inc1 _) [(2, .int (nI (i + 1))), (1, .int (nI (fp_sum n 0 (i + 1)))), (0, .ref (Λ.2.2.1 b))] rfl (by decide) 24 rfl ?_
        refine fo_goto C dX5_countAllValues_24 4 (by decide) ?_
        exact ih4 (i + 1) (by omega) (by omega)
  exact hL4 (5 + 1) 0 (by omega) (by omega)
set_option maxRecDepth 10000 in
set_option maxHeartbeats 4000000 in
theorem mX5_takesProphet {l : Launch} {Λ : fo_Lt} {I : fo_Mi} {D : fo_Md} {J : fo_Mj} {X : fo_Mi} {b np lim : Nat} {kd par n : Nat → Nat} {v : Nat → Nat → Nat} (ht : fs_T I b np lim kd par n v) : fk_i l yX5_takesProphet cX5_takesProphet 1 .boolean 1 22 Λ [.ref (Λ.2.2.1 b)] I D J X (fo_pr (fo_b (decide (np < 8 ∧ fp_sum n 0 4 = 0))) I D J X) := by
  obtain ⟨hk, ⟨ho1, ⟨ho2, ho3⟩, ho4, ho5, ho6⟩, hnp, hlim, hP, hS⟩ := id ht
  refine fo_si (by decide) [(0, .ref (Λ.2.2.1 b))] rfl (Nat.le_of_ble_eq_true rfl) (fun K C fin => ?_)
  refine fo_aload_n C dX5_takesProphet_0 0 rfl rfl 1 rfl ?_
  refine fo_get C dX5_takesProphet_1 fK7 hk (by decide) 2 (by decide) fl_X5_36 (v := .int (nI np)) (congrArg (fun x => some (Value.int x)) (hnp)) 4 rfl ?_
  refine fo_bipush C dX5_takesProphet_4 (nI 8) kb_8 6 rfl ?_
  refine fo_ncmp_ge C (by omega) (by omega) dX5_takesProphet_6 20 (by decide) 9 rfl (fun c1 => ?_) (fun c1 => ?_)
  · refine fo_iconst C dX5_takesProphet_20 (nI 0) ki_0 21 rfl ?_
    exact fin dX5_takesProphet_21 (by first | rfl | exact fo_nb _) (⟨fo_d0 (by omega), rfl, rfl, rfl, rfl⟩)
  · refine fo_aload_n C dX5_takesProphet_9 0 rfl rfl 10 rfl ?_
    refine fo_qvi C dX5_takesProphet_10 (mX5_countAllValues ht) lv_X5_39 hk rfl (by decide) rfl ⟨Nat.le_of_ble_eq_true rfl, Nat.le_of_ble_eq_true rfl⟩ ⟨Nat.le_of_ble_eq_true rfl, Nat.le_of_ble_eq_true rfl⟩ [] rfl (Nat.le_of_ble_eq_true rfl) 13 rfl (fo_er ?_)
    have qa := fp_sum_le (v := n) (a := 0) (c := 30) (n := 4) (fun k hk => ho5 _ (by omega))
    refine fo_nif_ne C (by omega) dX5_takesProphet_13 20 (by decide) 16 rfl (fun c8 => ?_) (fun c8 => ?_)
    · refine fo_iconst C dX5_takesProphet_20 (nI 0) ki_0 21 rfl ?_
      exact fin dX5_takesProphet_21 (by first | rfl | exact fo_nb _) (⟨fo_d0 (by omega), rfl, rfl, rfl, rfl⟩)
    · refine fo_iconst C dX5_takesProphet_16 (nI 1) ki_1 17 rfl ?_
      refine fo_goto C dX5_takesProphet_17 21 (by decide) ?_
      exact fin dX5_takesProphet_21 (by first | rfl | exact fo_nb _) (⟨fo_d1 (by omega), rfl, rfl, rfl, rfl⟩)
set_option maxRecDepth 10000 in
set_option maxHeartbeats 4000000 in
theorem mX5_countAllStrays {l : Launch} {Λ : fo_Lt} {I : fo_Mi} {D : fo_Md} {J : fo_Mj} {X : fo_Mi} {b np lim : Nat} {kd par n : Nat → Nat} {v : Nat → Nat → Nat} (ht : fs_T I b np lim kd par n v) : fk_i l yX5_countAllStrays cX5_countAllStrays 3 .int 3 88 Λ [.ref (Λ.2.2.1 b)] I D J X (fo_ps (nI (fp_sum (fun k => fp_cnt (fp_off (v k) lim) (n k)) 0 4)) I D J) := by
  obtain ⟨hk, ⟨ho1, ⟨ho2, ho3⟩, ho4, ho5, ho6⟩, hnp, hlim, hP, hS⟩ := id ht
  refine fo_si (by decide) [(0, .ref (Λ.2.2.1 b))] rfl (Nat.le_of_ble_eq_true rfl) (fun K C fin => ?_)
  refine fo_iconst C dX5_countAllStrays_0 (nI 0) ki_0 1 rfl ?_
  refine fo_istore_n C dX5_countAllStrays_1 rfl [(1, .int (nI 0)), (0, .ref (Λ.2.2.1 b))] rfl (by decide) 2 rfl ?_
  refine fo_iconst C dX5_countAllStrays_2 (nI 0) ki_0 3 rfl ?_
  refine fo_istore_n C dX5_countAllStrays_3 rfl [(2, .int (nI 0)), (1, .int (nI 0)), (0, .ref (Λ.2.2.1 b))] rfl (by decide) 4 rfl ?_
  have hL4 : ∀ (m4 : Nat) (i : Nat) (Y : fo_Mi), 5 - i < m4 → i ≤ 4 → fo_G l Λ { frames := 3, cells := 0, slots := 0, locals := 88 } K 0 0 4 [(2, .int (nI i)), (1, .int (nI (fp_sum (fun k => fp_cnt (fp_off (v k) lim) (n k)) 0 i))), (0, .ref (Λ.2.2.1 b))] [] I D J Y := by
    intro m4
    induction m4 with
    | zero => intro i Y hm; exact absurd hm (Nat.not_lt_zero _)
    | succ m4 ih4 =>
      intro i Y hm4 hi
      have qa := fp_sum_le (v := (fun k => fp_cnt (fp_off (v k) lim) (n k))) (a := 0) (c := 30) (n := i) (fun k hk => Nat.le_trans (fp_cnt_le _ _) (ho5 _ (by omega)))
      refine fo_iload_n C dX5_countAllStrays_4 0 rfl rfl 5 rfl ?_
      refine fo_iconst C dX5_countAllStrays_5 (nI 4) ki_4 6 rfl ?_
      refine fo_ncmp_ge C (by omega) (by omega) dX5_countAllStrays_6 31 (by decide) 9 rfl (fun c1 => ?_) (fun c1 => ?_)
      · refine fo_iload_n C dX5_countAllStrays_31 1 rfl rfl 32 rfl ?_
        exact fin dX5_countAllStrays_32 rfl (⟨by rw [show i = 4 by omega], rfl, rfl, rfl⟩)
      · refine fo_iload_n C dX5_countAllStrays_9 1 rfl rfl 10 rfl ?_
        refine fo_aload_n C dX5_countAllStrays_10 2 rfl rfl 11 rfl ?_
        refine fo_get C dX5_countAllStrays_11 fK7 hk (by decide) 0 (by decide) fl_X5_11 (v := .ref (Λ.2.2.1 (b + 1))) rfl 14 rfl ?_
        refine fo_iload_n C dX5_countAllStrays_14 0 rfl rfl 15 rfl ?_
        refine fo_aaldS C dX5_countAllStrays_15 (fo_T1k hk) (by rw [fo_T1n hk]; omega) (b + 3 + 5 * i) (by omega) 16 rfl ?_
        refine fo_aload_n C dX5_countAllStrays_16 2 rfl rfl 17 rfl ?_
        refine fo_get C dX5_countAllStrays_17 fK7 hk (by decide) 3 (by decide) fl_X5_23 (v := .int (nI lim)) (congrArg (fun x => some (Value.int x)) (hlim)) 20 rfl ?_
        refine fo_qvi C dX5_countAllStrays_20 (mX4_countStrays (lim := lim) (by omega) (ht.S (k := i) (by omega))) lv_X5_74 (fo_TSk hk (by omega)) rfl (by decide) rfl ⟨Nat.le_of_ble_eq_true rfl, Nat.le_of_ble_eq_true rfl⟩ ⟨Nat.le_of_ble_eq_true rfl, Nat.le_of_ble_eq_true rfl⟩ [.int (nI (fp_sum (fun k => fp_cnt (fp_off (v k) lim) (n k)) 0 i))] rfl (Nat.le_of_ble_eq_true rfl) 23 rfl (fo_es (fun X6 => ?_))
        have qc := fp_cnt_le (fp_off (v i) lim) (n i)
        have qd := ho5 i (by omega)
        refine fo_iadd C dX5_countAllStrays_23 (nI ((fp_sum (fun k => fp_cnt (fp_off (v k) lim) (n k)) 0 i) + (fp_cnt (fp_off (v i) lim) (n i)))) (nI_add _ _) 24 rfl ?_
        refine fo_ti (b := nI (fp_sum (fun k => fp_cnt (fp_off (v k) lim) (n k)) 0 (i + 1))) (congrArg nI (by rw [fp_sum, Nat.zero_add])) ?_
        refine fo_istore_n C dX5_countAllStrays_24 rfl [(1, .int (nI (fp_sum (fun k => fp_cnt (fp_off (v k) lim) (n k)) 0 (i + 1)))), (2, .int (nI i)), (0, .ref (Λ.2.2.1 b))] rfl (by decide) 25 rfl ?_
        refine fo_iinc C dX5_countAllStrays_25 1 rfl (nI (i + 1)) (nI_inc1 _) [(2, .int (nI (i + 1))), (1, .int (nI (fp_sum (fun k => fp_cnt (fp_off (v k) lim) (n k)) 0 (i + 1)))), (0, .ref (Λ.2.2.1 b))] rfl (by decide) 28 rfl ?_
        refine fo_goto C dX5_countAllStrays_28 4 (by decide) ?_
        exact ih4 (i + 1) (X6) (by omega) (by omega)
  exact hL4 (5 + 1) 0 (X) (by omega) (by omega)
set_option maxRecDepth 10000 in
set_option maxHeartbeats 4000000 in
theorem mX5_rankOf {l : Launch} {Λ : fo_Lt} {I : fo_Mi} {D : fo_Md} {J : fo_Mj} {X : fo_Mi} {b np lim : Nat} {kd par n : Nat → Nat} {v : Nat → Nat → Nat} {j : Nat} (hj : j < np) (ht : fs_T I b np lim kd par n v) (hcc : fs_C I D b np kd par n v) : fk_i l yX5_rankOf cX5_rankOf 6 .int 1 22 Λ [.ref (Λ.2.2.1 b), .int (nI j)] I D J X (fo_pr (nI (fp_rank (fp_ap np kd par n v) np j)) I D J X) := by
  obtain ⟨hk, ⟨ho1, ⟨ho2, ho3⟩, ho4, ho5, ho6⟩, hnp, hlim, hP, hS⟩ := id ht
  refine fo_si (by decide) [(0, .ref (Λ.2.2.1 b)), (1, .int (nI j))] rfl (Nat.le_of_ble_eq_true rfl) (fun K C fin => ?_)
  refine fo_aload_n C dX5_rankOf_0 0 rfl rfl 1 rfl ?_
  refine fo_get C dX5_rankOf_1 fK7 hk (by decide) 1 (by decide) fl_X5_19 (v := .ref (Λ.2.2.1 (b + 2))) rfl 4 rfl ?_
  refine fo_iload_n C dX5_rankOf_4 1 rfl rfl 5 rfl ?_
  refine fo_aaldP C dX5_rankOf_5 (fo_T2k hk) (by rw [fo_T2n hk]; omega) (b + 23 + 4 * j) (by omega) 6 rfl ?_
  have qapj := fp_ap_le (np := np) (kd := kd) (par := par) (n := n) (v := v) (p := j) ho5
  refine fo_qvi C dX5_rankOf_6 (mX3_sumAllPoints (f := fun k => fp_pts np kd par (v k) j (n k)) (fo_TPk hk (by omega)) (fun k h4 => (hcc j (by omega) k h4).2.2) (fun k h4 => by have := fp_pts_le np kd par (v k) j (n k); have := ho5 k h4; omega)) lv_X5_80 (fo_TPk hk (by omega)) rfl (by decide) rfl ⟨Nat.le_of_ble_eq_true rfl, Nat.le_of_ble_eq_true rfl⟩ ⟨Nat.le_of_ble_eq_true rfl, Nat.le_of_ble_eq_true rfl⟩ [] rfl (Nat.le_of_ble_eq_true rfl) 9 rfl (fo_er ?_)
  refine fo_istore_n C dX5_rankOf_9 rfl [(2, .int (nI (fp_ap np kd par n v j))), (0, .ref (Λ.2.2.1 b)), (1, .int (nI j))] rfl (by decide) 10 rfl ?_
  refine fo_iconst C dX5_rankOf_10 (nI 0) ki_0 11 rfl ?_
  refine fo_istore_n C dX5_rankOf_11 rfl [(3, .int (nI 0)), (2, .int (nI (fp_ap np kd par n v j))), (0, .ref (Λ.2.2.1 b)), (1, .int (nI j))] rfl (by decide) 12 rfl ?_
  refine fo_iconst C dX5_rankOf_12 (nI 0) ki_0 13 rfl ?_
  refine fo_istore C dX5_rankOf_13 [(4, .int (nI 0)), (3, .int (nI 0)), (2, .int (nI (fp_ap np kd par n v j))), (0, .ref (Λ.2.2.1 b)), (1, .int (nI j))] rfl (by decide) 15 rfl ?_
  have hL15 : ∀ (m15 : Nat) (i : Nat), np + 1 - i < m15 → i ≤ np → fo_G l Λ { frames := 1, cells := 0, slots := 0, locals := 22 } K 0 0 15 [(4, .int (nI i)), (3, .int (nI (fp_cnt (fun o => decide (fp_ap np kd par n v j < fp_ap np kd par n v o ∨ fp_ap np kd par n v o = fp_ap np kd par n v j ∧ o < j)) i))), (2, .int (nI (fp_ap np kd par n v j))), (0, .ref (Λ.2.2.1 b)), (1, .int (nI j))] [] I D J X := by
    intro m15
    induction m15 with
    | zero => intro i hm; exact absurd hm (Nat.not_lt_zero _)
    | succ m15 ih15 =>
      intro i hm15 hi
      have qa := fp_cnt_le (fun o => decide (fp_ap np kd par n v j < fp_ap np kd par n v o ∨ fp_ap np kd par n v o = fp_ap np kd par n v j ∧ o < j)) i
      refine fo_iload C dX5_rankOf_15 0 rfl 17 rfl ?_
      refine fo_aload_n C dX5_rankOf_17 3 rfl rfl 18 rfl ?_
      refine fo_get C dX5_rankOf_18 fK7 hk (by decide) 2 (by decide) fl_X5_36 (v := .int (nI np)) (congrArg (fun x => some (Value.int x)) (hnp)) 21 rfl ?_
      refine fo_ncmp_ge C (by omega) (by omega) dX5_rankOf_21 63 (by decide) 24 rfl (fun c7 => ?_) (fun c7 => ?_)
      · refine fo_iload_n C dX5_rankOf_63 1 rfl rfl 64 rfl ?_
        exact fin dX5_rankOf_64 rfl (⟨congrArg nI (by unfold fp_rank; rw [show i = np by omega]), rfl, rfl, rfl, rfl⟩)
      · refine fo_aload_n C dX5_rankOf_24 3 rfl rfl 25 rfl ?_
        refine fo_get C dX5_rankOf_25 fK7 hk (by decide) 1 (by decide) fl_X5_19 (v := .ref (Λ.2.2.1 (b + 2))) rfl 28 rfl ?_
        refine fo_iload C dX5_rankOf_28 0 rfl 30 rfl ?_
        refine fo_aaldP C dX5_rankOf_30 (fo_T2k hk) (by rw [fo_T2n hk]; omega) (b + 23 + 4 * i) (by omega) 31 rfl ?_
        have qapi := fp_ap_le (np := np) (kd := kd) (par := par) (n := n) (v := v) (p := i) ho5
        refine fo_qvi C dX5_rankOf_31 (mX3_sumAllPoints (f := fun k => fp_pts np kd par (v k) i (n k)) (fo_TPk hk (by omega)) (fun k h4 => (hcc i (by omega) k h4).2.2) (fun k h4 => by have := fp_pts_le np kd par (v k) i (n k); have := ho5 k h4; omega)) lv_X5_80 (fo_TPk hk (by omega)) rfl (by decide) rfl ⟨Nat.le_of_ble_eq_true rfl, Nat.le_of_ble_eq_true rfl⟩ ⟨Nat.le_of_ble_eq_true rfl, Nat.le_of_ble_eq_true rfl⟩ [] rfl (Nat.le_of_ble_eq_true rfl) 34 rfl (fo_er ?_)
        refine fo_istore C dX5_rankOf_34 [(5, .int (nI (fp_ap np kd par n v i))), (4, .int (nI i)), (3, .int (nI (fp_cnt (fun o => decide (fp_ap np kd par n v j < fp_ap np kd par n v o ∨ fp_ap np kd par n v o = fp_ap np kd par n v j ∧ o < j)) i))), (2, .int (nI (fp_ap np kd par n v j))), (0, .ref (Λ.2.2.1 b)), (1, .int (nI j))] rfl (by decide) 36 rfl ?_
        refine fo_iload C dX5_rankOf_36 0 rfl 38 rfl ?_
        refine fo_iload_n C dX5_rankOf_38 3 rfl rfl 39 rfl ?_
        refine fo_ncmp_gt C (by omega) (by omega) dX5_rankOf_39 54 (by decide) 42 rfl (fun c14 => ?_) (fun c14 => ?_)
        · refine fo_iinc C dX5_rankOf_54 2 rfl (nI (fp_cnt (fun o => decide (fp_ap np kd par n v j < fp_ap np kd par n v o ∨ fp_ap np kd par n v o = fp_ap np kd par n v j ∧ o < j)) i + 1)) (nI_inc1 _) [(3, .int (nI (fp_cnt (fun o => decide (fp_ap np kd par n v j < fp_ap np kd par n v o ∨ fp_ap np kd par n v o = fp_ap np kd par n v j ∧ o < j)) i + 1))), (5, .int (nI (fp_ap np kd par n v i))), (4, .int (nI i)), (2, .int (nI (fp_ap np kd par n v j))), (0, .ref (Λ.2.2.1 b)), (1, .int (nI j))] rfl (by decide) 57 rfl ?_
          have e9 : fp_cnt (fun o => decide (fp_ap np kd par n v j < fp_ap np kd par n v o ∨ fp_ap np kd par n v o = fp_ap np kd par n v j ∧ o < j)) i + 1 = fp_cnt (fun o => decide (fp_ap np kd par n v j < fp_ap np kd par n v o ∨ fp_ap np kd par n v o = fp_ap np kd par n v j ∧ o < j)) (i + 1) := by simp only [fp_cnt, decide_eq_true_eq]; first | rw [if_pos (by omega)] | (rw [if_neg (by omega)]; rfl)
          rw [e9]
          refine fo_iinc C dX5_rankOf_57 2 rfl (nI (i + 1)) (nI_inc1 _) [(4, .int (nI (i + 1))), (3, .int (nI (fp_cnt (fun o => decide (fp_ap np kd par n v j < fp_ap np kd par n v o ∨ fp_ap np kd par n v o = fp_ap np kd par n v j ∧ o < j)) (i + 1)))), (5, .int (nI (fp_ap np kd par n v i))), (2, .int (nI (fp_ap np kd par n v j))), (0, .ref (Λ.2.2.1 b)), (1, .int (nI j))] rfl (by decide) 60 rfl ?_
          refine fo_goto C dX5_rankOf_60 15 (by decide) ?_
          refine fo_sub C [0, 1, 3, 4, 5] (lv' := [(4, .int (nI (i + 1))), (3, .int (nI (fp_cnt (fun o => decide (fp_ap np kd par n v j < fp_ap np kd par n v o ∨ fp_ap np kd par n v o = fp_ap np kd par n v j ∧ o < j)) (i + 1)))), (2, .int (nI (fp_ap np kd par n v j))), (0, .ref (Λ.2.2.1 b)), (1, .int (nI j))]) rfl ?_
          exact ih15 (i + 1) (by omega) (by omega)
        · refine fo_iload C dX5_rankOf_42 0 rfl 44 rfl ?_
          refine fo_iload_n C dX5_rankOf_44 3 rfl rfl 45 rfl ?_
          refine fo_ncmp_ne C (by omega) (by omega) dX5_rankOf_45 57 (by decide) 48 rfl (fun c15 => ?_) (fun c15 => ?_)
          · have e9 : fp_cnt (fun o => decide (fp_ap np kd par n v j < fp_ap np kd par n v o ∨ fp_ap np kd par n v o = fp_ap np kd par n v j ∧ o < j)) i = fp_cnt (fun o => decide (fp_ap np kd par n v j < fp_ap np kd par n v o ∨ fp_ap np kd par n v o = fp_ap np kd par n v j ∧ o < j)) (i + 1) := by simp only [fp_cnt, decide_eq_true_eq]; first | rw [if_pos (by omega)] | (rw [if_neg (by omega)]; rfl)
            rw [e9]
            refine fo_iinc C dX5_rankOf_57 1 rfl (nI (i + 1)) (nI_inc1 _) [(4, .int (nI (i + 1))), (5, .int (nI (fp_ap np kd par n v i))), (3, .int (nI (fp_cnt (fun o => decide (fp_ap np kd par n v j < fp_ap np kd par n v o ∨ fp_ap np kd par n v o = fp_ap np kd par n v j ∧ o < j)) (i + 1)))), (2, .int (nI (fp_ap np kd par n v j))), (0, .ref (Λ.2.2.1 b)), (1, .int (nI j))] rfl (by decide) 60 rfl ?_
            refine fo_goto C dX5_rankOf_60 15 (by decide) ?_
            refine fo_sub C [0, 2, 3, 4, 5] (lv' := [(4, .int (nI (i + 1))), (3, .int (nI (fp_cnt (fun o => decide (fp_ap np kd par n v j < fp_ap np kd par n v o ∨ fp_ap np kd par n v o = fp_ap np kd par n v j ∧ o < j)) (i + 1)))), (2, .int (nI (fp_ap np kd par n v j))), (0, .ref (Λ.2.2.1 b)), (1, .int (nI j))]) rfl ?_
            exact ih15 (i + 1) (by omega) (by omega)
          · refine fo_iload C dX5_rankOf_48 1 rfl 50 rfl ?_
            refine fo_iload_n C dX5_rankOf_50 5 rfl rfl 51 rfl ?_
            refine fo_ncmp_ge C (by omega) (by omega) dX5_rankOf_51 57 (by decide) 54 rfl (fun c16 => ?_) (fun c16 => ?_)
            · have e9 : fp_cnt (fun o => decide (fp_ap np kd par n v j < fp_ap np kd par n v o ∨ fp_ap np kd par n v o = fp_ap np kd par n v j ∧ o < j)) i = fp_cnt (fun o => decide (fp_ap np kd par n v j < fp_ap np kd par n v o ∨ fp_ap np kd par n v o = fp_ap np kd par n v j ∧ o < j)) (i + 1) := by simp only [fp_cnt, decide_eq_true_eq]; first | rw [if_pos (by omega)] | (rw [if_neg (by omega)]; rfl)
              rw [e9]
              refine fo_iinc C dX5_rankOf_57 1 rfl (nI (i + 1)) (nI_inc1 _) [(4, .int (nI (i + 1))), (5, .int (nI (fp_ap np kd par n v i))), (3, .int (nI (fp_cnt (fun o => decide (fp_ap np kd par n v j < fp_ap np kd par n v o ∨ fp_ap np kd par n v o = fp_ap np kd par n v j ∧ o < j)) (i + 1)))), (2, .int (nI (fp_ap np kd par n v j))), (0, .ref (Λ.2.2.1 b)), (1, .int (nI j))] rfl (by decide) 60 rfl ?_
              refine fo_goto C dX5_rankOf_60 15 (by decide) ?_
              refine fo_sub C [0, 2, 3, 4, 5] (lv' := [(4, .int (nI (i + 1))), (3, .int (nI (fp_cnt (fun o => decide (fp_ap np kd par n v j < fp_ap np kd par n v o ∨ fp_ap np kd par n v o = fp_ap np kd par n v j ∧ o < j)) (i + 1)))), (2, .int (nI (fp_ap np kd par n v j))), (0, .ref (Λ.2.2.1 b)), (1, .int (nI j))]) rfl ?_
              exact ih15 (i + 1) (by omega) (by omega)
            · refine fo_iinc C dX5_rankOf_54 2 rfl (nI (fp_cnt (fun o => decide (fp_ap np kd par n v j < fp_ap np kd par n v o ∨ fp_ap np kd par n v o = fp_ap np kd par n v j ∧ o < j)) i + 1)) (nI_inc1 _) [(3, .int (nI (fp_cnt (fun o => decide (fp_ap np kd par n v j < fp_ap np kd par n v o ∨ fp_ap np kd par n v o = fp_ap np kd par n v j ∧ o < j)) i + 1))), (5, .int (nI (fp_ap np kd par n v i))), (4, .int (nI i)), (2, .int (nI (fp_ap np kd par n v j))), (0, .ref (Λ.2.2.1 b)), (1, .int (nI j))] rfl (by decide) 57 rfl ?_
              have e9 : fp_cnt (fun o => decide (fp_ap np kd par n v j < fp_ap np kd par n v o ∨ fp_ap np kd par n v o = fp_ap np kd par n v j ∧ o < j)) i + 1 = fp_cnt (fun o => decide (fp_ap np kd par n v j < fp_ap np kd par n v o ∨ fp_ap np kd par n v o = fp_ap np kd par n v j ∧ o < j)) (i + 1) := by simp only [fp_cnt, decide_eq_true_eq]; first | rw [if_pos (by omega)] | (rw [if_neg (by omega)]; rfl)
              rw [e9]
              refine fo_iinc C dX5_rankOf_57 2 rfl (nI (i + 1)) (nI_inc1 _) [(4, .int (nI (i + 1))), (3, .int (nI (fp_cnt (fun o => decide (fp_ap np kd par n v j < fp_ap np kd par n v o ∨ fp_ap np kd par n v o = fp_ap np kd par n v j ∧ o < j)) (i + 1)))), (5, .int (nI (fp_ap np kd par n v i))), (2, .int (nI (fp_ap np kd par n v j))), (0, .ref (Λ.2.2.1 b)), (1, .int (nI j))] rfl (by decide) 60 rfl ?_
              refine fo_goto C dX5_rankOf_60 15 (by decide) ?_
              refine fo_sub C [0, 1, 3, 4, 5] (lv' := [(4, .int (nI (i + 1))), (3, .int (nI (fp_cnt (fun o => decide (fp_ap np kd par n v j < fp_ap np kd par n v o ∨ fp_ap np kd par n v o = fp_ap np kd par n v j ∧ o < j)) (i + 1)))), (2, .int (nI (fp_ap np kd par n v j))), (0, .ref (Λ.2.2.1 b)), (1, .int (nI j))]) rfl ?_
              exact ih15 (i + 1) (by omega) (by omega)
  exact hL15 (np + 1 + 1) 0 (by omega) (by omega)
set_option maxRecDepth 10000 in
set_option maxHeartbeats 4000000 in
theorem mX5_prophetAtRank {l : Launch} {Λ : fo_Lt} {I : fo_Mi} {D : fo_Md} {J : fo_Mj} {X : fo_Mi} {b np lim : Nat} {kd par n : Nat → Nat} {v : Nat → Nat → Nat} {q : Nat} (hq : q < 2 ^ 31) (ht : fs_T I b np lim kd par n v) (hcc : fs_C I D b np kd par n v) : fk_i l yX5_prophetAtRank cX5_prophetAtRank 3 .int 2 47 Λ [.ref (Λ.2.2.1 b), .int (nI q)] I D J X (fo_pr (fo_ow (fp_fst (fun i => decide (fp_rank (fp_ap np kd par n v) np i = q)) 0 np)) I D J X) := by
  obtain ⟨hk, ⟨ho1, ⟨ho2, ho3⟩, ho4, ho5, ho6⟩, hnp, hlim, hP, hS⟩ := id ht
  refine fo_si (by decide) [(0, .ref (Λ.2.2.1 b)), (1, .int (nI q))] rfl (Nat.le_of_ble_eq_true rfl) (fun K C fin => ?_)
  refine fo_iconst C dX5_prophetAtRank_0 (nI 0) ki_0 1 rfl ?_
  refine fo_istore_n C dX5_prophetAtRank_1 rfl [(2, .int (nI 0)), (0, .ref (Λ.2.2.1 b)), (1, .int (nI q))] rfl (by decide) 2 rfl ?_
  have hL2 : ∀ (m2 : Nat) (i : Nat), np + 1 - i < m2 → i ≤ np → fp_fst (fun i => decide (fp_rank (fp_ap np kd par n v) np i = q)) i (np - i) = fp_fst (fun i => decide (fp_rank (fp_ap np kd par n v) np i = q)) 0 np → fo_G l Λ { frames := 2, cells := 0, slots := 0, locals := 47 } K 0 0 2 [(2, .int (nI i)), (0, .ref (Λ.2.2.1 b)), (1, .int (nI q))] [] I D J X := by
    intro m2
    induction m2 with
    | zero => intro i hm; exact absurd hm (Nat.not_lt_zero _)
    | succ m2 ih2 =>
      intro i hm2 hi hF
      refine fo_iload_n C dX5_prophetAtRank_2 0 rfl rfl 3 rfl ?_
      refine fo_aload_n C dX5_prophetAtRank_3 1 rfl rfl 4 rfl ?_
      refine fo_get C dX5_prophetAtRank_4 fK7 hk (by decide) 2 (by decide) fl_X5_36 (v := .int (nI np)) (congrArg (fun x => some (Value.int x)) (hnp)) 7 rfl ?_
      refine fo_ncmp_ge C (by omega) (by omega) dX5_prophetAtRank_7 27 (by decide) 10 rfl (fun c1 => ?_) (fun c1 => ?_)
      · refine fo_iconst C dX5_prophetAtRank_27 (-1) (by decide) 28 rfl ?_
        exact fin dX5_prophetAtRank_28 rfl (⟨by rw [← hF, show np - i = 0 by omega]; rfl, rfl, rfl, rfl, rfl⟩)
      · refine fo_aload_n C dX5_prophetAtRank_10 1 rfl rfl 11 rfl ?_
        refine fo_iload_n C dX5_prophetAtRank_11 0 rfl rfl 12 rfl ?_
        refine fo_qvi C dX5_prophetAtRank_12 (mX5_rankOf (j := i) (by omega) ht hcc) lv_X5_77 hk rfl (by decide) rfl ⟨Nat.le_of_ble_eq_true rfl, Nat.le_of_ble_eq_true rfl⟩ ⟨Nat.le_of_ble_eq_true rfl, Nat.le_of_ble_eq_true rfl⟩ [] rfl (Nat.le_of_ble_eq_true rfl) 15 rfl (fo_er ?_)
        have qr : fp_rank (fp_ap np kd par n v) np i ≤ np := fp_cnt_le _ _
        refine fo_iload_n C dX5_prophetAtRank_15 2 rfl rfl 16 rfl ?_
        refine fo_ncmp_ne C (by omega) (by omega) dX5_prophetAtRank_16 21 (by decide) 19 rfl (fun c8 => ?_) (fun c8 => ?_)
        · refine fo_iinc C dX5_prophetAtRank_21 0 rfl (nI (i + 1)) (nI_inc1 _) [(2, .int (nI (i + 1))), (0, .ref (Λ.2.2.1 b)), (1, .int (nI q))] rfl (by decide) 24 rfl ?_
          refine fo_goto C dX5_prophetAtRank_24 2 (by decide) ?_
          exact ih2 (i + 1) (by omega) (by omega) (by rw [← hF, show np - i = np - (i + 1) + 1 by omega, fp_fst, if_neg]; simp; omega)
        · refine fo_iload_n C dX5_prophetAtRank_19 0 rfl rfl 20 rfl ?_
          exact fin dX5_prophetAtRank_20 rfl (⟨by rw [← hF, show np - i = np - (i + 1) + 1 by omega, fp_fst, if_pos (by simp; omega)]; rfl, rfl, rfl, rfl, rfl⟩)
  exact hL2 (np + 1 + 1) 0 (by omega) (by omega) rfl
set_option maxRecDepth 10000 in
set_option maxHeartbeats 4000000 in
theorem mX5_prophetWithLeastMeanError {l : Launch} {Λ : fo_Lt} {I : fo_Mi} {D : fo_Md} {J : fo_Mj} {X : fo_Mi} {b np lim : Nat} {kd par n : Nat → Nat} {v : Nat → Nat → Nat} (ht : fs_T I b np lim kd par n v) (hcc : fs_C I D b np kd par n v) : fk_i l yX5_prophetWithLeastMeanError cX5_prophetWithLeastMeanError 8 .int 1 23 Λ [.ref (Λ.2.2.1 b)] I D J X (fo_pr (fo_ow (fp_lst (fun p => decide (0 < fp_ae kd par n p)) (fun p => fp_me kd par n v p) np)) I D J X) := by
  obtain ⟨hk, ⟨ho1, ⟨ho2, ho3⟩, ho4, ho5, ho6⟩, hnp, hlim, hP, hS⟩ := id ht
  refine fo_si (by decide) [(0, .ref (Λ.2.2.1 b))] rfl (Nat.le_of_ble_eq_true rfl) (fun K C fin => ?_)
  refine fo_iconst C dX5_prophetWithLeastMeanError_0 (-1) (by decide) 1 rfl ?_
  refine fo_istore_n C dX5_prophetWithLeastMeanError_1 rfl [(1, .int (-1)), (0, .ref (Λ.2.2.1 b))] rfl (by decide) 2 rfl ?_
  refine fo_dconst0 C dX5_prophetWithLeastMeanError_2 3 rfl ?_
  refine fo_dstore_n C dX5_prophetWithLeastMeanError_3 rfl [(2, .double (FP.dconst0)), (1, .int (-1)), (0, .ref (Λ.2.2.1 b))] rfl (by decide) 4 rfl ?_
  refine fo_iconst C dX5_prophetWithLeastMeanError_4 (nI 0) ki_0 5 rfl ?_
  refine fo_istore C dX5_prophetWithLeastMeanError_5 [(4, .int (nI 0)), (2, .double (FP.dconst0)), (1, .int (-1)), (0, .ref (Λ.2.2.1 b))] rfl (by decide) 7 rfl ?_
  have hL7 : ∀ (m7 : Nat) (i : Nat) (sm : UInt64), np + 1 - i < m7 → i ≤ np → (∀ o, fp_lst (fun p => decide (0 < fp_ae kd par n p)) (fun p => fp_me kd par n v p) i = some o → sm = fp_me kd par n v o) → fo_G l Λ { frames := 1, cells := 0, slots := 0, locals := 23 } K 0 0 7 [(4, .int (nI i)), (2, .double (sm)), (1, .int (fo_ow (fp_lst (fun p => decide (0 < fp_ae kd par n p)) (fun p => fp_me kd par n v p) i))), (0, .ref (Λ.2.2.1 b))] [] I D J X := by
    intro m7
    induction m7 with
    | zero => intro i sm hm; exact absurd hm (Nat.not_lt_zero _)
    | succ m7 ih7 =>
      intro i sm hm7 hi hw
      refine fo_iload C dX5_prophetWithLeastMeanError_7 0 rfl 9 rfl ?_
      refine fo_aload_n C dX5_prophetWithLeastMeanError_9 3 rfl rfl 10 rfl ?_
      refine fo_get C dX5_prophetWithLeastMeanError_10 fK7 hk (by decide) 2 (by decide) fl_X5_36 (v := .int (nI np)) (congrArg (fun x => some (Value.int x)) (hnp)) 13 rfl ?_
      refine fo_ncmp_ge C (by omega) (by omega) dX5_prophetWithLeastMeanError_13 76 (by decide) 16 rfl (fun c1 => ?_) (fun c1 => ?_)
      · refine fo_iload_n C dX5_prophetWithLeastMeanError_76 2 rfl rfl 77 rfl ?_
        exact fin dX5_prophetWithLeastMeanError_77 rfl (⟨by rw [show i = np by omega], rfl, rfl, rfl, rfl⟩)
      · refine fo_aload_n C dX5_prophetWithLeastMeanError_16 3 rfl rfl 17 rfl ?_
        refine fo_get C dX5_prophetWithLeastMeanError_17 fK7 hk (by decide) 1 (by decide) fl_X5_19 (v := .ref (Λ.2.2.1 (b + 2))) rfl 20 rfl ?_
        refine fo_iload C dX5_prophetWithLeastMeanError_20 0 rfl 22 rfl ?_
        refine fo_aaldP C dX5_prophetWithLeastMeanError_22 (fo_T2k hk) (by rw [fo_T2n hk]; omega) (b + 23 + 4 * i) (by omega) 23 rfl ?_
        have qae := fp_ae_le (kd := kd) (par := par) (n := n) (p := i) ho5
        refine fo_qvi C dX5_prophetWithLeastMeanError_23 (mX3_countAllErrors (f := fun k => n k - fp_need (kd i) (par i)) (fo_TPk hk (by omega)) (fun k h4 => (hcc i (by omega) k h4).1) (fun k h4 => by have := ho5 k h4; omega)) lv_X5_83 (fo_TPk hk (by omega)) rfl (by decide) rfl ⟨Nat.le_of_ble_eq_true rfl, Nat.le_of_ble_eq_true rfl⟩ ⟨Nat.le_of_ble_eq_true rfl, Nat.le_of_ble_eq_true rfl⟩ [] rfl (Nat.le_of_ble_eq_true rfl) 26 rfl (fo_er ?_)
        refine fo_istore C dX5_prophetWithLeastMeanError_26 [(5, .int (nI (fp_ae kd par n i))), (4, .int (nI i)), (2, .double (sm)), (1, .int (fo_ow (fp_lst (fun p => decide (0 < fp_ae kd par n p)) (fun p => fp_me kd par n v p) i))), (0, .ref (Λ.2.2.1 b))] rfl (by decide) 28 rfl ?_
        refine fo_iload C dX5_prophetWithLeastMeanError_28 0 rfl 30 rfl ?_
        refine fo_nif_ne C (by omega) dX5_prophetWithLeastMeanError_30 36 (by decide) 33 rfl (fun c8 => ?_) (fun c8 => ?_)
        · refine fo_aload_n C dX5_prophetWithLeastMeanError_36 4 rfl rfl 37 rfl ?_
          refine fo_get C dX5_prophetWithLeastMeanError_37 fK7 hk (by decide) 1 (by decide) fl_X5_19 (v := .ref (Λ.2.2.1 (b + 2))) rfl 40 rfl ?_
          refine fo_iload C dX5_prophetWithLeastMeanError_40 1 rfl 42 rfl ?_
          refine fo_aaldP C dX5_prophetWithLeastMeanError_42 (fo_T2k hk) (by rw [fo_T2n hk]; omega) (b + 23 + 4 * i) (by omega) 43 rfl ?_
          refine fo_qvd C dX5_prophetWithLeastMeanError_43 (mX3_sumAllErrors (fo_TPk hk (by omega)) (fun k h4 => by rw [(hcc i (by omega) k h4).2.1]; exact fd_up (fd_es (ho4 i (by omega)) (v k) (n k) (ho5 k h4)) (by have := ho5 k h4; omega))) lv_X5_86 (fo_TPk hk (by omega)) rfl (by decide) rfl ⟨Nat.le_of_ble_eq_true rfl, Nat.le_of_ble_eq_true rfl⟩ ⟨Nat.le_of_ble_eq_true rfl, Nat.le_of_ble_eq_true rfl⟩ [] rfl (Nat.le_of_ble_eq_true rfl) 46 rfl (fo_er ?_)
          rw [fp_ds_congr (u := fun k => fp_es (kd i) (par i) (v k) (n k)) (fun k h4 => (hcc i (by omega) k h4).2.1)]
          refine fo_iload C dX5_prophetWithLeastMeanError_46 0 rfl 48 rfl ?_
          refine fo_i2d C dX5_prophetWithLeastMeanError_48 49 rfl ?_
          refine fo_ddiv C dX5_prophetWithLeastMeanError_49 (fd_ok (K := 1411) (fd_divi (K := 1408) (fd_me (p := i) (ho4 i (by omega)) ho5) (by rw [nI_toInt (by omega)]; omega) (by decide)) (by decide)) 50 rfl ?_
          refine fo_td (b := fp_me kd par n v i) rfl ?_
          refine fo_dstore C dX5_prophetWithLeastMeanError_50 [(6, .double (fp_me kd par n v i)), (5, .int (nI (fp_ae kd par n i))), (4, .int (nI i)), (2, .double (sm)), (1, .int (fo_ow (fp_lst (fun p => decide (0 < fp_ae kd par n p)) (fun p => fp_me kd par n v p) i))), (0, .ref (Λ.2.2.1 b))] rfl (by decide) 52 rfl ?_
          refine fo_iload_n C dX5_prophetWithLeastMeanError_52 4 rfl rfl 53 rfl ?_
          rcases ho : fp_lst (fun p => decide (0 < fp_ae kd par n p)) (fun p => fp_me kd par n v p) i with _ | o
          · refine fo_iconst C dX5_prophetWithLeastMeanError_53 (-1) (by decide) 54 rfl ?_
            refine fo_icmp_eq C dX5_prophetWithLeastMeanError_54 64 (by decide) 57 rfl (fun c15 => ?_) (fun c15 => ?_)
            · refine fo_iload C dX5_prophetWithLeastMeanError_64 2 rfl 66 rfl ?_
              refine fo_istore_n C dX5_prophetWithLeastMeanError_66 rfl [(1, .int (nI i)), (6, .double (fp_me kd par n v i)), (5, .int (nI (fp_ae kd par n i))), (4, .int (nI i)), (2, .double (sm)), (0, .ref (Λ.2.2.1 b))] rfl (by decide) 67 rfl ?_
              refine fo_dload C dX5_prophetWithLeastMeanError_67 1 rfl 69 rfl ?_
              refine fo_dstore_n C dX5_prophetWithLeastMeanError_69 rfl [(2, .double (fp_me kd par n v i)), (1, .int (nI i)), (6, .double (fp_me kd par n v i)), (5, .int (nI (fp_ae kd par n i))), (4, .int (nI i)), (0, .ref (Λ.2.2.1 b))] rfl (by decide) 70 rfl ?_
              have e9 : fp_lst (fun p => decide (0 < fp_ae kd par n p)) (fun p => fp_me kd par n v p) (i + 1) = some i := by rw [fp_lst, if_pos (decide_eq_true (by omega)), ho]
              have hw9 : ∀ o, fp_lst (fun p => decide (0 < fp_ae kd par n p)) (fun p => fp_me kd par n v p) (i + 1) = some o → fp_me kd par n v i = fp_me kd par n v o := by rw [e9]; intro o2 h2; cases h2; rfl
              refine fo_iinc C dX5_prophetWithLeastMeanError_70 4 rfl (nI (i + 1)) (nI_inc1 _) [(4, .int (nI (i + 1))), (2, .double (fp_me kd par n v i)), (1, .int (nI i)), (6, .double (fp_me kd par n v i)), (5, .int (nI (fp_ae kd par n i))), (0, .ref (Λ.2.2.1 b))] rfl (by decide) 73 rfl ?_
              refine fo_goto C dX5_prophetWithLeastMeanError_73 7 (by decide) ?_
              refine fo_sub C [0, 1, 2, 5] (lv' := [(4, .int (nI (i + 1))), (2, .double (fp_me kd par n v i)), (1, .int (nI i)), (0, .ref (Λ.2.2.1 b))]) rfl ?_
              have ih9 := ih7 (i + 1) (fp_me kd par n v i) (by omega) (by omega) hw9
              rw [e9] at ih9
              exact ih9
            · exact absurd rfl c15
          · refine fo_iconst C dX5_prophetWithLeastMeanError_53 (-1) (by decide) 54 rfl ?_
            refine fo_icmp_eq C dX5_prophetWithLeastMeanError_54 64 (by decide) 57 rfl (fun c16 => ?_) (fun c16 => ?_)
            · exact absurd c16 (fo_ow_ne (by have := (fp_lst_in ho).1; omega))
            · refine fo_dload C dX5_prophetWithLeastMeanError_57 0 rfl 59 rfl ?_
              refine fo_dload_n C dX5_prophetWithLeastMeanError_59 3 rfl rfl 60 rfl ?_
              refine fo_dcmp C dX5_prophetWithLeastMeanError_60 61 rfl ?_
              refine fo_if_ge C dX5_prophetWithLeastMeanError_61 70 (by decide) 64 rfl (fun c17 => ?_) (fun c17 => ?_)
              · have e9 : fp_lst (fun p => decide (0 < fp_ae kd par n p)) (fun p => fp_me kd par n v p) (i + 1) = some o := by rw [fp_lst, if_pos (decide_eq_true (by omega)), ho]; show (if fp_lt (fp_me kd par n v i) (fp_me kd par n v o) = true then some i else some o) = some o; exact if_neg (by rw [← hw o ho, fp_lt_f (by assumption)]; decide)
                have hw9 : ∀ o, fp_lst (fun p => decide (0 < fp_ae kd par n p)) (fun p => fp_me kd par n v p) (i + 1) = some o → sm = fp_me kd par n v o := by rw [e9]; intro o2 h2; exact hw o2 (ho.trans h2)
                refine fo_iinc C dX5_prophetWithLeastMeanError_70 2 rfl (nI (i + 1)) (nI_inc1 _) [(4, .int (nI (i + 1))), (6, .double (fp_me kd par n v i)), (5, .int (nI (fp_ae kd par n i))), (2, .double (sm)), (1, .int (nI o)), (0, .ref (Λ.2.2.1 b))] rfl (by decide) 73 rfl ?_
                refine fo_goto C dX5_prophetWithLeastMeanError_73 7 (by decide) ?_
                refine fo_sub C [0, 3, 4, 5] (lv' := [(4, .int (nI (i + 1))), (2, .double (sm)), (1, .int (nI o)), (0, .ref (Λ.2.2.1 b))]) rfl ?_
                have ih9 := ih7 (i + 1) (sm) (by omega) (by omega) hw9
                rw [e9] at ih9
                exact ih9
              · refine fo_iload C dX5_prophetWithLeastMeanError_64 2 rfl 66 rfl ?_
                refine fo_istore_n C dX5_prophetWithLeastMeanError_66 rfl [(1, .int (nI i)), (6, .double (fp_me kd par n v i)), (5, .int (nI (fp_ae kd par n i))), (4, .int (nI i)), (2, .double (sm)), (0, .ref (Λ.2.2.1 b))] rfl (by decide) 67 rfl ?_
                refine fo_dload C dX5_prophetWithLeastMeanError_67 1 rfl 69 rfl ?_
                refine fo_dstore_n C dX5_prophetWithLeastMeanError_69 rfl [(2, .double (fp_me kd par n v i)), (1, .int (nI i)), (6, .double (fp_me kd par n v i)), (5, .int (nI (fp_ae kd par n i))), (4, .int (nI i)), (0, .ref (Λ.2.2.1 b))] rfl (by decide) 70 rfl ?_
                have e9 : fp_lst (fun p => decide (0 < fp_ae kd par n p)) (fun p => fp_me kd par n v p) (i + 1) = some i := by rw [fp_lst, if_pos (decide_eq_true (by omega)), ho]; show (if fp_lt (fp_me kd par n v i) (fp_me kd par n v o) = true then some i else some o) = some i; exact if_pos (by rw [← hw o ho]; exact fp_lt_t (by assumption))
                have hw9 : ∀ o, fp_lst (fun p => decide (0 < fp_ae kd par n p)) (fun p => fp_me kd par n v p) (i + 1) = some o → fp_me kd par n v i = fp_me kd par n v o := by rw [e9]; intro o2 h2; cases h2; rfl
                refine fo_iinc C dX5_prophetWithLeastMeanError_70 4 rfl (nI (i + 1)) (nI_inc1 _) [(4, .int (nI (i + 1))), (2, .double (fp_me kd par n v i)), (1, .int (nI i)), (6, .double (fp_me kd par n v i)), (5, .int (nI (fp_ae kd par n i))), (0, .ref (Λ.2.2.1 b))] rfl (by decide) 73 rfl ?_
                refine fo_goto C dX5_prophetWithLeastMeanError_73 7 (by decide) ?_
                refine fo_sub C [0, 1, 2, 5] (lv' := [(4, .int (nI (i + 1))), (2, .double (fp_me kd par n v i)), (1, .int (nI i)), (0, .ref (Λ.2.2.1 b))]) rfl ?_
                have ih9 := ih7 (i + 1) (fp_me kd par n v i) (by omega) (by omega) hw9
                rw [e9] at ih9
                exact ih9
        · refine fo_goto C dX5_prophetWithLeastMeanError_33 70 (by decide) ?_
          have e9 : fp_lst (fun p => decide (0 < fp_ae kd par n p)) (fun p => fp_me kd par n v p) (i + 1) = fp_lst (fun p => decide (0 < fp_ae kd par n p)) (fun p => fp_me kd par n v p) i := by rw [fp_lst, if_neg (by simp; omega)]
          have hw9 : ∀ o, fp_lst (fun p => decide (0 < fp_ae kd par n p)) (fun p => fp_me kd par n v p) (i + 1) = some o → sm = fp_me kd par n v o := by rw [e9]; exact hw
          refine fo_iinc C dX5_prophetWithLeastMeanError_70 1 rfl (nI (i + 1)) (nI_inc1 _) [(4, .int (nI (i + 1))), (5, .int (nI (fp_ae kd par n i))), (2, .double (sm)), (1, .int (fo_ow (fp_lst (fun p => decide (0 < fp_ae kd par n p)) (fun p => fp_me kd par n v p) i))), (0, .ref (Λ.2.2.1 b))] rfl (by decide) 73 rfl ?_
          refine fo_goto C dX5_prophetWithLeastMeanError_73 7 (by decide) ?_
          refine fo_sub C [0, 2, 3, 4] (lv' := [(4, .int (nI (i + 1))), (2, .double (sm)), (1, .int (fo_ow (fp_lst (fun p => decide (0 < fp_ae kd par n p)) (fun p => fp_me kd par n v p) i))), (0, .ref (Λ.2.2.1 b))]) rfl ?_
          have ih9 := ih7 (i + 1) (sm) (by omega) (by omega) hw9
          rw [e9] at ih9
          exact ih9
  exact hL7 (np + 1 + 1) 0 FP.dconst0 (by omega) (by omega) (fun o h => by cases h)
set_option maxRecDepth 10000 in
set_option maxHeartbeats 4000000 in
theorem mX5_areScoresSound {l : Launch} {Λ : fo_Lt} {I : fo_Mi} {D : fo_Md} {J : fo_Mj} {X : fo_Mi} {b np lim : Nat} {kd par n : Nat → Nat} {v : Nat → Nat → Nat} {k : Nat} (hk4 : k < 4) (ht : fs_T I b np lim kd par n v) (hcc : fs_C I D b np kd par n v) : fk_i l yX5_areScoresSound cX5_areScoresSound 7 .boolean 4 96 Λ [.ref (Λ.2.2.1 b), .int (nI k)] I D J X (fo_ps (fo_b true) I D J) := by
  obtain ⟨hk, ⟨ho1, ⟨ho2, ho3⟩, ho4, ho5, ho6⟩, hnp, hlim, hP, hS⟩ := id ht
  refine fo_si (by decide) [(0, .ref (Λ.2.2.1 b)), (1, .int (nI k))] rfl (Nat.le_of_ble_eq_true rfl) (fun K C fin => ?_)
  refine fo_iconst C dX5_areScoresSound_0 (nI 0) ki_0 1 rfl ?_
  refine fo_istore_n C dX5_areScoresSound_1 rfl [(2, .int (nI 0)), (0, .ref (Λ.2.2.1 b)), (1, .int (nI k))] rfl (by decide) 2 rfl ?_
  refine fo_iconst C dX5_areScoresSound_2 (nI 0) ki_0 3 rfl ?_
  refine fo_istore_n C dX5_areScoresSound_3 rfl [(3, .int (nI 0)), (2, .int (nI 0)), (0, .ref (Λ.2.2.1 b)), (1, .int (nI k))] rfl (by decide) 4 rfl ?_
  refine fo_iconst C dX5_areScoresSound_4 (nI 0) ki_0 5 rfl ?_
  refine fo_istore C dX5_areScoresSound_5 [(4, .int (nI 0)), (3, .int (nI 0)), (2, .int (nI 0)), (0, .ref (Λ.2.2.1 b)), (1, .int (nI k))] rfl (by decide) 7 rfl ?_
  have hL7 : ∀ (m7 : Nat) (i : Nat) (Y : fo_Mi), np + 1 - i < m7 → i ≤ np → fo_G l Λ { frames := 4, cells := 0, slots := 0, locals := 96 } K 0 0 7 [(4, .int (nI i)), (3, .int (nI (fp_sum (fun p => fp_pts np kd par (v k) p (n k)) 0 i))), (2, .int (nI (fp_most (n k) (fun p => fp_need (kd p) (par p)) i))), (0, .ref (Λ.2.2.1 b)), (1, .int (nI k))] [] I D J Y := by
    intro m7
    induction m7 with
    | zero => intro i Y hm; exact absurd hm (Nat.not_lt_zero _)
    | succ m7 ih7 =>
      intro i Y hm7 hi
      have qa := fp_sum_le (v := (fun p => fp_pts np kd par (v k) p (n k))) (a := 0) (c := 30) (n := i) (fun o h => Nat.le_trans (fp_pts_le _ _ _ _ _ _) (ho5 k hk4))
      have qb := fp_most_le (n k) (fun p => fp_need (kd p) (par p)) i
      have qc := ho5 k hk4
      refine fo_iload C dX5_areScoresSound_7 0 rfl 9 rfl ?_
      refine fo_aload_n C dX5_areScoresSound_9 3 rfl rfl 10 rfl ?_
      refine fo_get C dX5_areScoresSound_10 fK7 hk (by decide) 2 (by decide) fl_X5_36 (v := .int (nI np)) (congrArg (fun x => some (Value.int x)) (hnp)) 13 rfl ?_
      refine fo_ncmp_ge C (by omega) (by omega) dX5_areScoresSound_13 107 (by decide) 16 rfl (fun c1 => ?_) (fun c1 => ?_)
      · refine fo_iload_n C dX5_areScoresSound_107 1 rfl rfl 108 rfl ?_
        refine fo_iload_n C dX5_areScoresSound_108 2 rfl rfl 109 rfl ?_
        have e9 : fp_sum (fun p => fp_pts np kd par (v k) p (n k)) 0 i = fp_most (n k) (fun p => fp_need (kd p) (par p)) i := by rw [show i = np by omega]; exact fp_pts_sum np kd par (v k) (n k)
        refine fo_ncmp_ne C (by omega) (by omega) dX5_areScoresSound_109 116 (by decide) 112 rfl (fun c2 => ?_) (fun c2 => ?_)
        · exact absurd e9 c2
        · refine fo_iconst C dX5_areScoresSound_112 (nI 1) ki_1 113 rfl ?_
          refine fo_goto C dX5_areScoresSound_113 117 (by decide) ?_
          exact fin dX5_areScoresSound_117 (by first | rfl | exact fo_nb _) (⟨rfl, rfl, rfl, rfl⟩)
      · refine fo_aload_n C dX5_areScoresSound_16 3 rfl rfl 17 rfl ?_
        refine fo_get C dX5_areScoresSound_17 fK7 hk (by decide) 1 (by decide) fl_X5_19 (v := .ref (Λ.2.2.1 (b + 2))) rfl 20 rfl ?_
        refine fo_iload C dX5_areScoresSound_20 0 rfl 22 rfl ?_
        refine fo_aaldP C dX5_areScoresSound_22 (fo_T2k hk) (by rw [fo_T2n hk]; omega) (b + 23 + 4 * i) (by omega) 23 rfl ?_
        refine fo_astore C dX5_areScoresSound_23 [(5, .ref (Λ.2.2.1 (b + 23 + 4 * i))), (4, .int (nI i)), (3, .int (nI (fp_sum (fun p => fp_pts np kd par (v k) p (n k)) 0 i))), (2, .int (nI (fp_most (n k) (fun p => fp_need (kd p) (par p)) i))), (0, .ref (Λ.2.2.1 b)), (1, .int (nI k))] rfl (by decide) 25 rfl ?_
        refine fo_iconst C dX5_areScoresSound_25 (nI 0) ki_0 26 rfl ?_
        refine fo_aload_n C dX5_areScoresSound_26 4 rfl rfl 27 rfl ?_
        refine fo_get C dX5_areScoresSound_27 fK7 hk (by decide) 0 (by decide) fl_X5_11 (v := .ref (Λ.2.2.1 (b + 1))) rfl 30 rfl ?_
        refine fo_iload_n C dX5_areScoresSound_30 5 rfl rfl 31 rfl ?_
        refine fo_aaldS C dX5_areScoresSound_31 (fo_T1k hk) (by rw [fo_T1n hk]; omega) (b + 3 + 5 * k) (by omega) 32 rfl ?_
        have q3 := ho5 k (by omega)
        refine fo_get C dX5_areScoresSound_32 fK6 (fo_TSk hk (by omega)) (by decide) 1 (by decide) fl_X5_67 (v := .int (nI (n k))) (congrArg (fun x => some (Value.int x)) ((hS _ (by omega)).1)) 35 rfl ?_
        refine fo_aload C dX5_areScoresSound_35 0 rfl 37 rfl ?_
        have hnd := fp_need_in (ho4 i (by omega))
        refine fo_qvi C dX5_areScoresSound_37 (mX3_neededValues (ht.P (p := i) (by omega))) lv_X5_111 (fo_TPk hk (by omega)) rfl (by decide) rfl ⟨Nat.le_of_ble_eq_true rfl, Nat.le_of_ble_eq_true rfl⟩ ⟨Nat.le_of_ble_eq_true rfl, Nat.le_of_ble_eq_true rfl⟩ [.int (nI (n k)), .int (nI 0)] rfl (Nat.le_of_ble_eq_true rfl) 40 rfl (fo_er ?_)
        refine fo_isub C dX5_areScoresSound_40 _ rfl 41 rfl ?_
        refine fo_max C dX5_areScoresSound_41 lm_X5_114 ⟨Nat.le_of_ble_eq_true rfl, Nat.le_of_ble_eq_true rfl⟩ ⟨Nat.zero_le _, Nat.zero_le _⟩ (nI (n k - fp_need (kd i) (par i))) (fo_max0 (by omega) (by omega)) 44 rfl ?_
        refine fo_istore C dX5_areScoresSound_44 [(6, .int (nI (n k - fp_need (kd i) (par i)))), (5, .ref (Λ.2.2.1 (b + 23 + 4 * i))), (4, .int (nI i)), (3, .int (nI (fp_sum (fun p => fp_pts np kd par (v k) p (n k)) 0 i))), (2, .int (nI (fp_most (n k) (fun p => fp_need (kd p) (par p)) i))), (0, .ref (Λ.2.2.1 b)), (1, .int (nI k))] rfl (by decide) 46 rfl ?_
        refine fo_aload C dX5_areScoresSound_46 1 rfl 48 rfl ?_
        refine fo_get C dX5_areScoresSound_48 fK5 (fo_TPk hk (by omega)) (by decide) 2 (by decide) fl_X5_120 (v := .ref (Λ.2.2.1 (b + 23 + 4 * i + 1))) rfl 51 rfl ?_
        refine fo_iload_n C dX5_areScoresSound_51 6 rfl rfl 52 rfl ?_
        refine fo_iald C dX5_areScoresSound_52 (fo_P1k (fo_TPk hk (by omega))) (by rw [fo_P1n (fo_TPk hk (by omega))]; omega) (nI (n k - fp_need (kd i) (par i))) ((hcc _ (by omega) _ (by omega)).1) 53 rfl ?_
        refine fo_iload C dX5_areScoresSound_53 0 rfl 55 rfl ?_
        refine fo_ncmp_eq C (by omega) (by omega) dX5_areScoresSound_55 60 (by decide) 58 rfl (fun c10 => ?_) (fun c10 => ?_)
        · refine fo_aload C dX5_areScoresSound_60 1 rfl 62 rfl ?_
          refine fo_get C dX5_areScoresSound_62 fK5 (fo_TPk hk (by omega)) (by decide) 3 (by decide) fl_X5_123 (v := .ref (Λ.2.2.1 (b + 23 + 4 * i + 2))) rfl 65 rfl ?_
          refine fo_iload_n C dX5_areScoresSound_65 6 rfl rfl 66 rfl ?_
          refine fo_dald C dX5_areScoresSound_66 (fo_P2k (fo_TPk hk (by omega))) (by rw [fo_P2n (fo_TPk hk (by omega))]; omega) (fp_es (kd i) (par i) (v k) (n k)) (hcc _ (by omega) _ (by omega)).2.1 67 rfl ?_
          refine fo_aload C dX5_areScoresSound_67 1 rfl 69 rfl ?_
          refine fo_aload_n C dX5_areScoresSound_69 5 rfl rfl 70 rfl ?_
          refine fo_get C dX5_areScoresSound_70 fK7 hk (by decide) 0 (by decide) fl_X5_11 (v := .ref (Λ.2.2.1 (b + 1))) rfl 73 rfl ?_
          refine fo_iload_n C dX5_areScoresSound_73 6 rfl rfl 74 rfl ?_
          refine fo_aaldS C dX5_areScoresSound_74 (fo_T1k hk) (by rw [fo_T1n hk]; omega) (b + 3 + 5 * k) (by omega) 75 rfl ?_
          refine fo_qvd C dX5_areScoresSound_75 (mX3_backtest (ht.S (k := k) hk4) (ht.P (p := i) (by omega))) lv_X5_127 (fo_TPk hk (by omega)) rfl (by decide) rfl ⟨Nat.le_of_ble_eq_true rfl, Nat.le_of_ble_eq_true rfl⟩ ⟨Nat.le_of_ble_eq_true rfl, Nat.le_of_ble_eq_true rfl⟩ [.double (fp_es (kd i) (par i) (v k) (n k))] rfl (Nat.le_of_ble_eq_true rfl) 78 rfl (fo_es (fun X15 => ?_))
          refine fo_dcmp C dX5_areScoresSound_78 79 rfl ?_
          refine fo_if_eq C dX5_areScoresSound_79 84 (by decide) 82 rfl (fun c17 => ?_) (fun c17 => ?_)
          · refine fo_iload_n C dX5_areScoresSound_84 4 rfl rfl 85 rfl ?_
            refine fo_iload C dX5_areScoresSound_85 0 rfl 87 rfl ?_
            refine fo_max C dX5_areScoresSound_87 lm_X5_114 ⟨Nat.le_of_ble_eq_true rfl, Nat.le_of_ble_eq_true rfl⟩ ⟨Nat.zero_le _, Nat.zero_le _⟩ (nI (fp_most (n k) (fun p => fp_need (kd p) (par p)) (i + 1))) (fo_nmax (by omega) (by omega)) 90 rfl ?_
            refine fo_istore_n C dX5_areScoresSound_90 rfl [(2, .int (nI (fp_most (n k) (fun p => fp_need (kd p) (par p)) (i + 1)))), (6, .int (nI (n k - fp_need (kd i) (par i)))), (5, .ref (Λ.2.2.1 (b + 23 + 4 * i))), (4, .int (nI i)), (3, .int (nI (fp_sum (fun p => fp_pts np kd par (v k) p (n k)) 0 i))), (0, .ref (Λ.2.2.1 b)), (1, .int (nI k))] rfl (by decide) 91 rfl ?_
            refine fo_iload_n C dX5_areScoresSound_91 4 rfl rfl 92 rfl ?_
            refine fo_aload C dX5_areScoresSound_92 2 rfl 94 rfl ?_
            refine fo_get C dX5_areScoresSound_94 fK5 (fo_TPk hk (by omega)) (by decide) 4 (by decide) fl_X5_63 (v := .ref (Λ.2.2.1 (b + 23 + 4 * i + 3))) rfl 97 rfl ?_
            refine fo_iload_n C dX5_areScoresSound_97 6 rfl rfl 98 rfl ?_
            refine fo_iald C dX5_areScoresSound_98 (fo_P3k (fo_TPk hk (by omega))) (by rw [fo_P3n (fo_TPk hk (by omega))]; omega) (nI (fp_pts np kd par (v k) i (n k))) ((hcc _ (by omega) _ (by omega)).2.2) 99 rfl ?_
            have qd := fp_pts_le np kd par (v k) i (n k)
            refine fo_iadd C dX5_areScoresSound_99 (nI ((fp_sum (fun p => fp_pts np kd par (v k) p (n k)) 0 i) + (fp_pts np kd par (v k) i (n k)))) (nI_add _ _) 100 rfl ?_
            refine fo_ti (b := nI (fp_sum (fun p => fp_pts np kd par (v k) p (n k)) 0 (i + 1))) (congrArg nI (by rw [fp_sum, Nat.zero_add])) ?_
            refine fo_istore_n C dX5_areScoresSound_100 rfl [(3, .int (nI (fp_sum (fun p => fp_pts np kd par (v k) p (n k)) 0 (i + 1)))), (2, .int (nI (fp_most (n k) (fun p => fp_need (kd p) (par p)) (i + 1)))), (6, .int (nI (n k - fp_need (kd i) (par i)))), (5, .ref (Λ.2.2.1 (b + 23 + 4 * i))), (4, .int (nI i)), (0, .ref (Λ.2.2.1 b)), (1, .int (nI k))] rfl (by decide) 101 rfl ?_
            refine fo_iinc C dX5_areScoresSound_101 4 rfl (nI (i + 1)) (nI_inc1 _) [(4, .int (nI (i + 1))), (3, .int (nI (fp_sum (fun p => fp_pts np kd par (v k) p (n k)) 0 (i + 1)))), (2, .int (nI (fp_most (n k) (fun p => fp_need (kd p) (par p)) (i + 1)))), (6, .int (nI (n k - fp_need (kd i) (par i)))), (5, .ref (Λ.2.2.1 (b + 23 + 4 * i))), (0, .ref (Λ.2.2.1 b)), (1, .int (nI k))] rfl (by decide) 104 rfl ?_
            refine fo_goto C dX5_areScoresSound_104 7 (by decide) ?_
            refine fo_sub C [0, 1, 2, 5, 6] (lv' := [(4, .int (nI (i + 1))), (3, .int (nI (fp_sum (fun p => fp_pts np kd par (v k) p (n k)) 0 (i + 1)))), (2, .int (nI (fp_most (n k) (fun p => fp_need (kd p) (par p)) (i + 1)))), (0, .ref (Λ.2.2.1 b)), (1, .int (nI k))]) rfl ?_
            exact ih7 (i + 1) (X15) (by omega) (by omega)
          · exact absurd (fd_same (K := 1400) (fd_up (fd_es (ho4 i (by omega)) (v k) (n k) (by omega)) (by omega)) (by decide)) c17
        · exact absurd rfl c10
  exact hL7 (np + 1 + 1) 0 (X) (by omega) (by omega)
set_option maxRecDepth 10000 in
set_option maxHeartbeats 4000000 in
theorem mX5_isSound {l : Launch} {Λ : fo_Lt} {I : fo_Mi} {D : fo_Md} {J : fo_Mj} {X : fo_Mi} {b np lim : Nat} {kd par n : Nat → Nat} {v : Nat → Nat → Nat} (ht : fs_T I b np lim kd par n v) (hcc : fs_C I D b np kd par n v) : fk_i l yX5_isSound cX5_isSound 2 .boolean 5 122 Λ [.ref (Λ.2.2.1 b)] I D J X (fo_ps (fo_b true) I D J) := by
  obtain ⟨hk, ⟨ho1, ⟨ho2, ho3⟩, ho4, ho5, ho6⟩, hnp, hlim, hP, hS⟩ := id ht
  refine fo_si (by decide) [(0, .ref (Λ.2.2.1 b))] rfl (Nat.le_of_ble_eq_true rfl) (fun K C fin => ?_)
  refine fo_aload_n C dX5_isSound_0 0 rfl rfl 1 rfl ?_
  refine fo_get C dX5_isSound_1 fK7 hk (by decide) 3 (by decide) fl_X5_23 (v := .int (nI lim)) (congrArg (fun x => some (Value.int x)) (hlim)) 4 rfl ?_
  refine fo_qni C dX5_isSound_4 (mX6_isOneToNine (x := nI (lim))) ln_X5_90 rfl ⟨Nat.le_of_ble_eq_true rfl, Nat.le_of_ble_eq_true rfl⟩ ⟨Nat.le_of_ble_eq_true rfl, Nat.le_of_ble_eq_true rfl⟩ [] rfl (Nat.le_of_ble_eq_true rfl) 7 rfl (fo_er ?_)
  rw [fo_19_nI (by omega) (by omega)]
  refine fo_bif_eq C dX5_isSound_7 26 (by decide) 10 rfl (fun c7 => ?_) (fun c7 => ?_)
  · exact absurd c7 (by decide)
  · refine fo_aload_n C dX5_isSound_10 0 rfl rfl 11 rfl ?_
    refine fo_get C dX5_isSound_11 fK7 hk (by decide) 2 (by decide) fl_X5_36 (v := .int (nI np)) (congrArg (fun x => some (Value.int x)) (hnp)) 14 rfl ?_
    refine fo_nif_lt C (by omega) dX5_isSound_14 17 rfl 26 (by decide) ?_
    refine fo_aload_n C dX5_isSound_17 0 rfl rfl 18 rfl ?_
    refine fo_get C dX5_isSound_18 fK7 hk (by decide) 2 (by decide) fl_X5_36 (v := .int (nI np)) (congrArg (fun x => some (Value.int x)) (hnp)) 21 rfl ?_
    refine fo_bipush C dX5_isSound_21 (nI 8) kb_8 23 rfl ?_
    refine fo_ncmp_le C (by omega) (by omega) dX5_isSound_23 28 (by decide) 26 rfl (fun c8 => ?_) (fun c8 => ?_)
    · refine fo_iconst C dX5_isSound_28 (nI 0) ki_0 29 rfl ?_
      refine fo_istore_n C dX5_isSound_29 rfl [(1, .int (nI 0)), (0, .ref (Λ.2.2.1 b))] rfl (by decide) 30 rfl ?_
      have hL30 : ∀ (m30 : Nat) (i : Nat), np + 1 - i < m30 → i ≤ np → fo_G l Λ { frames := 5, cells := 0, slots := 0, locals := 122 } K 0 0 30 [(1, .int (nI i)), (0, .ref (Λ.2.2.1 b))] [] I D J X := by
        intro m30
        induction m30 with
        | zero => intro i hm; exact absurd hm (Nat.not_lt_zero _)
        | succ m30 ih30 =>
          intro i hm30 hi
          refine fo_iload_n C dX5_isSound_30 0 rfl rfl 31 rfl ?_
          refine fo_aload_n C dX5_isSound_31 1 rfl rfl 32 rfl ?_
          refine fo_get C dX5_isSound_32 fK7 hk (by decide) 2 (by decide) fl_X5_36 (v := .int (nI np)) (congrArg (fun x => some (Value.int x)) (hnp)) 35 rfl ?_
          refine fo_ncmp_ge C (by omega) (by omega) dX5_isSound_35 76 (by decide) 38 rfl (fun c9 => ?_) (fun c9 => ?_)
          · refine fo_iconst C dX5_isSound_76 (nI 0) ki_0 77 rfl ?_
            refine fo_istore_n C dX5_isSound_77 rfl [(1, .int (nI 0)), (0, .ref (Λ.2.2.1 b))] rfl (by decide) 78 rfl ?_
            have hL78 : ∀ (m78 : Nat) (i : Nat) (Y : fo_Mi), 5 - i < m78 → i ≤ 4 → fo_G l Λ { frames := 5, cells := 0, slots := 0, locals := 122 } K 0 0 78 [(1, .int (nI i)), (0, .ref (Λ.2.2.1 b))] [] I D J Y := by
              intro m78
              induction m78 with
              | zero => intro i Y hm; exact absurd hm (Nat.not_lt_zero _)
              | succ m78 ih78 =>
                intro i Y hm78 hi
                refine fo_iload_n C dX5_isSound_78 0 rfl rfl 79 rfl ?_
                refine fo_iconst C dX5_isSound_79 (nI 4) ki_4 80 rfl ?_
                refine fo_ncmp_ge C (by omega) (by omega) dX5_isSound_80 111 (by decide) 83 rfl (fun c10 => ?_) (fun c10 => ?_)
                · refine fo_iconst C dX5_isSound_111 (nI 1) ki_1 112 rfl ?_
                  exact fin dX5_isSound_112 (by first | rfl | exact fo_nb _) (⟨rfl, rfl, rfl, rfl⟩)
                · refine fo_aload_n C dX5_isSound_83 1 rfl rfl 84 rfl ?_
                  refine fo_get C dX5_isSound_84 fK7 hk (by decide) 0 (by decide) fl_X5_11 (v := .ref (Λ.2.2.1 (b + 1))) rfl 87 rfl ?_
                  refine fo_iload_n C dX5_isSound_87 0 rfl rfl 88 rfl ?_
                  refine fo_aaldS C dX5_isSound_88 (fo_T1k hk) (by rw [fo_T1n hk]; omega) (b + 3 + 5 * i) (by omega) 89 rfl ?_
                  refine fo_qvi C dX5_isSound_89 (mX4_isSound (ht.S (k := i) (by omega))) lv_X5_104 (fo_TSk hk (by omega)) rfl (by decide) rfl ⟨Nat.le_of_ble_eq_true rfl, Nat.le_of_ble_eq_true rfl⟩ ⟨Nat.le_of_ble_eq_true rfl, Nat.le_of_ble_eq_true rfl⟩ [] rfl (Nat.le_of_ble_eq_true rfl) 92 rfl (fo_er ?_)
                  refine fo_bif_eq C dX5_isSound_92 103 (by decide) 95 rfl (fun c17 => ?_) (fun c17 => ?_)
                  · exact absurd c17 (by decide)
                  · refine fo_aload_n C dX5_isSound_95 1 rfl rfl 96 rfl ?_
                    refine fo_iload_n C dX5_isSound_96 0 rfl rfl 97 rfl ?_
                    refine fo_qvi C dX5_isSound_97 (mX5_areScoresSound (k := i) (by omega) ht hcc) lv_X5_108 hk rfl (by decide) rfl ⟨Nat.le_of_ble_eq_true rfl, Nat.le_of_ble_eq_true rfl⟩ ⟨Nat.le_of_ble_eq_true rfl, Nat.le_of_ble_eq_true rfl⟩ [] rfl (Nat.le_of_ble_eq_true rfl) 100 rfl (fo_es (fun X22 => ?_))
                    refine fo_bif_ne C dX5_isSound_100 105 (by decide) 103 rfl (fun c24 => ?_) (fun c24 => ?_)
                    · refine fo_iinc C dX5_isSound_105 0 rfl (nI (i + 1)) (nI_inc1 _) [(1, .int (nI (i + 1))), (0, .ref (Λ.2.2.1 b))] rfl (by decide) 108 rfl ?_
                      refine fo_goto C dX5_isSound_108 78 (by decide) ?_
                      exact ih78 (i + 1) (X22) (by omega) (by omega)
                    · exact absurd c24 (by decide)
            exact hL78 (5 + 1) 0 (X) (by omega) (by omega)
          · refine fo_aload_n C dX5_isSound_38 1 rfl rfl 39 rfl ?_
            refine fo_get C dX5_isSound_39 fK7 hk (by decide) 1 (by decide) fl_X5_19 (v := .ref (Λ.2.2.1 (b + 2))) rfl 42 rfl ?_
            refine fo_iload_n C dX5_isSound_42 0 rfl rfl 43 rfl ?_
            refine fo_aaldP C dX5_isSound_43 (fo_T2k hk) (by rw [fo_T2n hk]; omega) (b + 23 + 4 * i) (by omega) 44 rfl ?_
            refine fo_get C dX5_isSound_44 fK5 (fo_TPk hk (by omega)) (by decide) 0 (by decide) fl_X5_93 (v := .int (nI (kd i))) (congrArg (fun x => some (Value.int x)) ((hP _ (by omega)).1)) 47 rfl ?_
            refine fo_qni C dX5_isSound_47 (mX6_isKind (w := kd i) (by have := (ho4 i (by omega)).1; omega)) ln_X5_97 rfl ⟨Nat.le_of_ble_eq_true rfl, Nat.le_of_ble_eq_true rfl⟩ ⟨Nat.le_of_ble_eq_true rfl, Nat.le_of_ble_eq_true rfl⟩ [] rfl (Nat.le_of_ble_eq_true rfl) 50 rfl (fo_er ?_)
            rw [show fo_kc (kd i) = true from decide_eq_true (by have := (ho4 i (by omega)).1; omega)]
            refine fo_bif_eq C dX5_isSound_50 68 (by decide) 53 rfl (fun c31 => ?_) (fun c31 => ?_)
            · exact absurd c31 (by decide)
            · refine fo_aload_n C dX5_isSound_53 1 rfl rfl 54 rfl ?_
              refine fo_get C dX5_isSound_54 fK7 hk (by decide) 1 (by decide) fl_X5_19 (v := .ref (Λ.2.2.1 (b + 2))) rfl 57 rfl ?_
              refine fo_iload_n C dX5_isSound_57 0 rfl rfl 58 rfl ?_
              refine fo_aaldP C dX5_isSound_58 (fo_T2k hk) (by rw [fo_T2n hk]; omega) (b + 23 + 4 * i) (by omega) 59 rfl ?_
              refine fo_get C dX5_isSound_59 fK5 (fo_TPk hk (by omega)) (by decide) 1 (by decide) fl_X5_101 (v := .int (nI (par i))) (congrArg (fun x => some (Value.int x)) ((hP _ (by omega)).2)) 62 rfl ?_
              refine fo_qni C dX5_isSound_62 (mX6_isOneToNine (x := nI (par i))) ln_X5_90 rfl ⟨Nat.le_of_ble_eq_true rfl, Nat.le_of_ble_eq_true rfl⟩ ⟨Nat.le_of_ble_eq_true rfl, Nat.le_of_ble_eq_true rfl⟩ [] rfl (Nat.le_of_ble_eq_true rfl) 65 rfl (fo_er ?_)
              rw [fo_19_nI (ho4 i (by omega)).2.1 (ho4 i (by omega)).2.2]
              refine fo_bif_ne C dX5_isSound_65 70 (by decide) 68 rfl (fun c38 => ?_) (fun c38 => ?_)
              · refine fo_iinc C dX5_isSound_70 0 rfl (nI (i + 1)) (nI_inc1 _) [(1, .int (nI (i + 1))), (0, .ref (Λ.2.2.1 b))] rfl (by decide) 73 rfl ?_
                refine fo_goto C dX5_isSound_73 30 (by decide) ?_
                exact ih30 (i + 1) (by omega) (by omega)
              · exact absurd c38 (by decide)
      exact hL30 (np + 1 + 1) 0 (by omega) (by omega)
    · omega
