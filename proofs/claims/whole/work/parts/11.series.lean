/-! A SERIES: its methods -/
set_option maxRecDepth 10000 in
set_option maxHeartbeats 4000000 in
theorem mX4_isFull {l : Launch} {Λ : fo_Lt} {I : fo_Mi} {D : fo_Md} {J : fo_Mj} {X : fo_Mi} {s n : Nat} {v : Nat → Nat} (hs : fs_S I s n v) : fk_i l yX4_isFull cX4_isFull 1 .boolean 0 0 Λ [.ref (Λ.2.2.1 s)] I D J X (fo_pr (fo_b (decide (30 ≤ n))) I D J X) := by
  obtain ⟨hk, hc, hn, hv, hb⟩ := hs
  refine fo_si (by decide) [(0, .ref (Λ.2.2.1 s))] rfl (Nat.le_of_ble_eq_true rfl) (fun K C fin => ?_)
  refine fo_aload_n C dX4_isFull_0 0 rfl rfl 1 rfl ?_
  refine fo_get C dX4_isFull_1 fK6 hk (by decide) 1 (by decide) fl_X4_30 (v := .int (nI n)) (congrArg (fun x => some (Value.int x)) (hc)) 4 rfl ?_
  refine fo_bipush C dX4_isFull_4 (nI 30) kb_30 6 rfl ?_
  refine fo_ncmp_lt C (by omega) (by omega) dX4_isFull_6 13 (by decide) 9 rfl (fun c1 => ?_) (fun c1 => ?_)
  · refine fo_iconst C dX4_isFull_13 (nI 0) ki_0 14 rfl ?_
    exact fin dX4_isFull_14 (by first | rfl | exact fo_nb _) (⟨fo_d0 (by omega), rfl, rfl, rfl, rfl⟩)
  · refine fo_iconst C dX4_isFull_9 (nI 1) ki_1 10 rfl ?_
    refine fo_goto C dX4_isFull_10 14 (by decide) ?_
    exact fin dX4_isFull_14 (by first | rfl | exact fo_nb _) (⟨fo_d1 (by omega), rfl, rfl, rfl, rfl⟩)
set_option maxRecDepth 10000 in
set_option maxHeartbeats 4000000 in
theorem mX4_hasDay {l : Launch} {Λ : fo_Lt} {I : fo_Mi} {D : fo_Md} {J : fo_Mj} {X : fo_Mi} {s n : Nat} {v : Nat → Nat} {x : Int32} (hs : fs_S I s n v) : fk_i l yX4_hasDay cX4_hasDay 2 .boolean 0 0 Λ [.ref (Λ.2.2.1 s), .int (x)] I D J X (fo_pr (fo_b (fo_inr x n)) I D J X) := by
  obtain ⟨hk, hc, hn, hv, hb⟩ := hs
  refine fo_si (by decide) [(0, .ref (Λ.2.2.1 s)), (1, .int (x))] rfl (Nat.le_of_ble_eq_true rfl) (fun K C fin => ?_)
  refine fo_iload_n C dX4_hasDay_0 1 rfl rfl 1 rfl ?_
  refine fo_if_lt C dX4_hasDay_1 16 (by decide) 4 rfl (fun c1 => ?_) (fun c1 => ?_)
  · refine fo_iconst C dX4_hasDay_16 (nI 0) ki_0 17 rfl ?_
    exact fin dX4_hasDay_17 (by first | rfl | exact fo_nb _) (⟨fo_b0 (by first | exact fo_inr_neg (by assumption) | exact fo_inr_ge (by omega) (by assumption)), rfl, rfl, rfl, rfl⟩)
  · refine fo_iload_n C dX4_hasDay_4 1 rfl rfl 5 rfl ?_
    refine fo_aload_n C dX4_hasDay_5 0 rfl rfl 6 rfl ?_
    refine fo_get C dX4_hasDay_6 fK6 hk (by decide) 1 (by decide) fl_X4_30 (v := .int (nI n)) (congrArg (fun x => some (Value.int x)) (hc)) 9 rfl ?_
    refine fo_icmp_ge C dX4_hasDay_9 16 (by decide) 12 rfl (fun c2 => ?_) (fun c2 => ?_)
    · refine fo_iconst C dX4_hasDay_16 (nI 0) ki_0 17 rfl ?_
      exact fin dX4_hasDay_17 (by first | rfl | exact fo_nb _) (⟨fo_b0 (by first | exact fo_inr_neg (by assumption) | exact fo_inr_ge (by omega) (by assumption)), rfl, rfl, rfl, rfl⟩)
    · refine fo_iconst C dX4_hasDay_12 (nI 1) ki_1 13 rfl ?_
      refine fo_goto C dX4_hasDay_13 17 (by decide) ?_
      exact fin dX4_hasDay_17 (by first | rfl | exact fo_nb _) (⟨fo_b1 (fo_inr_in (by omega) (by assumption) (by assumption)), rfl, rfl, rfl, rfl⟩)
set_option maxRecDepth 10000 in
set_option maxHeartbeats 4000000 in
theorem mX4_add {l : Launch} {Λ : fo_Lt} {I : fo_Mi} {D : fo_Md} {J : fo_Mj} {X : fo_Mi} {s n : Nat} {v : Nat → Nat} {x : Nat} (h30 : n < 30) (hs : fs_S I s n v) : fk_i l yX4_add cX4_add 2 .int 0 0 Λ [.ref (Λ.2.2.1 s), .int (nI x)] I D J X (fo_pr (nI n) (fo_r (fo_r I (s + 1) (upd (I (s + 1)) n (nI x))) s (upd (I s) 1 (nI (n + 1)))) D J X) := by
  obtain ⟨hk, hc, hn, hv, hb⟩ := hs
  refine fo_si (by decide) [(0, .ref (Λ.2.2.1 s)), (1, .int (nI x))] rfl (Nat.le_of_ble_eq_true rfl) (fun K C fin => ?_)
  refine fo_aload_n C dX4_add_0 0 rfl rfl 1 rfl ?_
  refine fo_get C dX4_add_1 fK6 hk (by decide) 0 (by decide) fl_X4_9 (v := .ref (Λ.2.2.1 (s + 1))) rfl 4 rfl ?_
  refine fo_aload_n C dX4_add_4 0 rfl rfl 5 rfl ?_
  refine fo_get C dX4_add_5 fK6 hk (by decide) 1 (by decide) fl_X4_30 (v := .int (nI n)) (congrArg (fun x => some (Value.int x)) (hc)) 8 rfl ?_
  refine fo_iload_n C dX4_add_8 1 rfl rfl 9 rfl ?_
  refine fo_iast C dX4_add_9 (fo_S1k hk) (by rw [fo_S1n hk]; omega) 10 rfl ?_
  refine fo_aload_n C dX4_add_10 0 rfl rfl 11 rfl ?_
  refine fo_dup C dX4_add_11 rfl 12 rfl ?_
  refine fo_get C dX4_add_12 fK6 hk (by decide) 1 (by decide) fl_X4_30 (v := .int (nI n)) (congrArg (fun x => some (Value.int x)) ((by rw [fo_rn _ _ (by omega)]; exact hc))) 15 rfl ?_
  refine fo_iconst C dX4_add_15 (nI 1) ki_1 16 rfl ?_
  refine fo_iadd C dX4_add_16 (nI (n + 1)) (nI_add _ _) 17 rfl ?_
  refine fo_put C dX4_add_17 fK6 hk (by decide) 1 (by decide) fl_X4_30 rfl rfl rfl rfl (Nat.le_of_ble_eq_true rfl) 20 rfl ?_
  refine fo_aload_n C dX4_add_20 0 rfl rfl 21 rfl ?_
  refine fo_get C dX4_add_21 fK6 hk (by decide) 1 (by decide) fl_X4_30 (v := .int (nI (n + 1))) (congrArg (fun x => some (Value.int x)) ((by rw [fo_rs]; exact pk_us))) 24 rfl ?_
  refine fo_iconst C dX4_add_24 (nI 1) ki_1 25 rfl ?_
  refine fo_isub C dX4_add_25 (nI ((n + 1) - 1)) (pk_sub (by omega)) 26 rfl ?_
  exact fin dX4_add_26 rfl (⟨congrArg nI (by omega), by rw [fo_rn I _ (by omega)], rfl, rfl, rfl⟩)
set_option maxRecDepth 10000 in
set_option maxHeartbeats 4000000 in
theorem mX4_spread {l : Launch} {Λ : fo_Lt} {I : fo_Mi} {D : fo_Md} {J : fo_Mj} {X : fo_Mi} {s n : Nat} {v : Nat → Nat} (h0 : 0 < n) (hs : fs_S I s n v) : fk_i l yX4_spread cX4_spread 4 .int 1 40 Λ [.ref (Λ.2.2.1 s)] I D J X (fo_pr (nI (fp_hi v (n - 1) - fp_lo v (n - 1))) I D J X) := by
  obtain ⟨hk, hc, hn, hv, hb⟩ := hs
  refine fo_si (by decide) [(0, .ref (Λ.2.2.1 s))] rfl (Nat.le_of_ble_eq_true rfl) (fun K C fin => ?_)
  refine fo_aload_n C dX4_spread_0 0 rfl rfl 1 rfl ?_
  refine fo_get C dX4_spread_1 fK6 hk (by decide) 0 (by decide) fl_X4_9 (v := .ref (Λ.2.2.1 (s + 1))) rfl 4 rfl ?_
  refine fo_iconst C dX4_spread_4 (nI 0) ki_0 5 rfl ?_
  have q1 := hb (0) (by omega)
  refine fo_iald C dX4_spread_5 (fo_S1k hk) (by rw [fo_S1n hk]; omega) (nI (v 0)) (hv _ (by omega)) 6 rfl ?_
  refine fo_istore_n C dX4_spread_6 rfl [(1, .int (nI (v 0))), (0, .ref (Λ.2.2.1 s))] rfl (by decide) 7 rfl ?_
  refine fo_aload_n C dX4_spread_7 1 rfl rfl 8 rfl ?_
  refine fo_get C dX4_spread_8 fK6 hk (by decide) 0 (by decide) fl_X4_9 (v := .ref (Λ.2.2.1 (s + 1))) rfl 11 rfl ?_
  refine fo_iconst C dX4_spread_11 (nI 0) ki_0 12 rfl ?_
  have q2 := hb (0) (by omega)
  refine fo_iald C dX4_spread_12 (fo_S1k hk) (by rw [fo_S1n hk]; omega) (nI (v 0)) (hv _ (by omega)) 13 rfl ?_
  refine fo_istore_n C dX4_spread_13 rfl [(2, .int (nI (v 0))), (1, .int (nI (v 0))), (0, .ref (Λ.2.2.1 s))] rfl (by decide) 14 rfl ?_
  refine fo_iconst C dX4_spread_14 (nI 1) ki_1 15 rfl ?_
  refine fo_istore_n C dX4_spread_15 rfl [(3, .int (nI 1)), (2, .int (nI (v 0))), (1, .int (nI (v 0))), (0, .ref (Λ.2.2.1 s))] rfl (by decide) 16 rfl ?_
  have hL16 : ∀ (m16 : Nat) (k : Nat), n - k < m16 → k + 1 ≤ n → fo_G l Λ { frames := 1, cells := 0, slots := 0, locals := 40 } K 0 0 16 [(3, .int (nI (k + 1))), (2, .int (nI (fp_hi v k))), (1, .int (nI (fp_lo v k))), (0, .ref (Λ.2.2.1 s))] [] I D J X := by
    intro m16
    induction m16 with
    | zero => intro k hm; exact absurd hm (Nat.not_lt_zero _)
    | succ m16 ih16 =>
      intro k hm16 hk1
      have qa := fp_hi_le (v := v) (c := 999) (k := k) (fun j hj => hb j (by omega))
      have qb := fp_lohi v k
      refine fo_iload_n C dX4_spread_16 0 rfl rfl 17 rfl ?_
      refine fo_aload_n C dX4_spread_17 3 rfl rfl 18 rfl ?_
      refine fo_get C dX4_spread_18 fK6 hk (by decide) 1 (by decide) fl_X4_30 (v := .int (nI n)) (congrArg (fun x => some (Value.int x)) (hc)) 21 rfl ?_
      refine fo_ncmp_ge C (by omega) (by omega) dX4_spread_21 52 (by decide) 24 rfl (fun c3 => ?_) (fun c3 => ?_)
      · refine fo_iload_n C dX4_spread_52 1 rfl rfl 53 rfl ?_
        refine fo_iload_n C dX4_spread_53 2 rfl rfl 54 rfl ?_
        refine fo_isub C dX4_spread_54 (nI ((fp_hi v k) - (fp_lo v k))) (pk_sub (by omega)) 55 rfl ?_
        exact fin dX4_spread_55 rfl (⟨congrArg nI (by rw [show n - 1 = k by omega]), rfl, rfl, rfl, rfl⟩)
      · refine fo_iload_n C dX4_spread_24 2 rfl rfl 25 rfl ?_
        refine fo_aload_n C dX4_spread_25 3 rfl rfl 26 rfl ?_
        refine fo_get C dX4_spread_26 fK6 hk (by decide) 0 (by decide) fl_X4_9 (v := .ref (Λ.2.2.1 (s + 1))) rfl 29 rfl ?_
        refine fo_iload_n C dX4_spread_29 0 rfl rfl 30 rfl ?_
        have q4 := hb (k + 1) (by omega)
        refine fo_iald C dX4_spread_30 (fo_S1k hk) (by rw [fo_S1n hk]; omega) (nI (v (k + 1))) (hv _ (by omega)) 31 rfl ?_
        refine fo_min C dX4_spread_31 lm_X4_34 ⟨Nat.le_of_ble_eq_true rfl, Nat.le_of_ble_eq_true rfl⟩ ⟨Nat.zero_le _, Nat.zero_le _⟩ (nI (min (fp_lo v k) (v (k + 1)))) (fo_nmin (by omega) (by omega)) 34 rfl ?_
        refine fo_istore_n C dX4_spread_34 rfl [(1, .int (nI (min (fp_lo v k) (v (k + 1))))), (3, .int (nI (k + 1))), (2, .int (nI (fp_hi v k))), (0, .ref (Λ.2.2.1 s))] rfl (by decide) 35 rfl ?_
        refine fo_iload_n C dX4_spread_35 2 rfl rfl 36 rfl ?_
        refine fo_aload_n C dX4_spread_36 3 rfl rfl 37 rfl ?_
        refine fo_get C dX4_spread_37 fK6 hk (by decide) 0 (by decide) fl_X4_9 (v := .ref (Λ.2.2.1 (s + 1))) rfl 40 rfl ?_
        refine fo_iload_n C dX4_spread_40 1 rfl rfl 41 rfl ?_
        have q5 := hb (k + 1) (by omega)
        refine fo_iald C dX4_spread_41 (fo_S1k hk) (by rw [fo_S1n hk]; omega) (nI (v (k + 1))) (hv _ (by omega)) 42 rfl ?_
        refine fo_max C dX4_spread_42 lm_X4_40 ⟨Nat.le_of_ble_eq_true rfl, Nat.le_of_ble_eq_true rfl⟩ ⟨Nat.zero_le _, Nat.zero_le _⟩ (nI (max (fp_hi v k) (v (k + 1)))) (fo_nmax (by omega) (by omega)) 45 rfl ?_
        refine fo_istore_n C dX4_spread_45 rfl [(2, .int (nI (max (fp_hi v k) (v (k + 1))))), (1, .int (nI (min (fp_lo v k) (v (k + 1))))), (3, .int (nI (k + 1))), (0, .ref (Λ.2.2.1 s))] rfl (by decide) 46 rfl ?_
        refine fo_iinc C dX4_spread_46 2 rfl (nI (k + 1 + 1)) (nI_inc1 _) [(3, .int (nI (k + 1 + 1))), (2, .int (nI (max (fp_hi v k) (v (k + 1))))), (1, .int (nI (min (fp_lo v k) (v (k + 1))))), (0, .ref (Λ.2.2.1 s))] rfl (by decide) 49 rfl ?_
        refine fo_goto C dX4_spread_49 16 (by decide) ?_
        exact ih16 (k + 1) (by omega) (by omega)
  exact hL16 (n + 1 + 1) 0 (by omega) (by omega)
set_option maxRecDepth 10000 in
set_option maxHeartbeats 4000000 in
theorem mX4_meanBefore {l : Launch} {Λ : fo_Lt} {I : fo_Mi} {D : fo_Md} {J : fo_Mj} {X : fo_Mi} {s n : Nat} {v : Nat → Nat} {e c : Nat} (h1 : 1 ≤ c) (h2 : c ≤ e) (h3 : e ≤ n) (hs : fs_S I s n v) : fk_d l yX4_meanBefore cX4_meanBefore 5 0 0 Λ [.ref (Λ.2.2.1 s), .int (nI e), .int (nI c)] I D J X (fo_pr (fp_mean v (e - c) c) I D J X) := by
  obtain ⟨hk, hc, hn, hv, hb⟩ := hs
  refine fo_sd (by decide) [(0, .ref (Λ.2.2.1 s)), (1, .int (nI e)), (2, .int (nI c))] rfl (Nat.le_of_ble_eq_true rfl) (fun K C fin => ?_)
  refine fo_iconst C dX4_meanBefore_0 (nI 0) ki_0 1 rfl ?_
  refine fo_istore_n C dX4_meanBefore_1 rfl [(3, .int (nI 0)), (0, .ref (Λ.2.2.1 s)), (1, .int (nI e)), (2, .int (nI c))] rfl (by decide) 2 rfl ?_
  refine fo_iload_n C dX4_meanBefore_2 2 rfl rfl 3 rfl ?_
  refine fo_iload_n C dX4_meanBefore_3 3 rfl rfl 4 rfl ?_
  refine fo_isub C dX4_meanBefore_4 (nI (e - c)) (pk_sub (by omega)) 5 rfl ?_
  refine fo_istore C dX4_meanBefore_5 [(4, .int (nI (e - c))), (3, .int (nI 0)), (0, .ref (Λ.2.2.1 s)), (1, .int (nI e)), (2, .int (nI c))] rfl (by decide) 7 rfl ?_
  have hL7 : ∀ (m7 : Nat) (j : Nat), c + 1 - j < m7 → j ≤ c → fo_G l Λ { frames := 0, cells := 0, slots := 0, locals := 0 } K 0 0 7 [(4, .int (nI (e - c + j))), (3, .int (nI (fp_sum v (e - c) j))), (0, .ref (Λ.2.2.1 s)), (1, .int (nI e)), (2, .int (nI c))] [] I D J X := by
    intro m7
    induction m7 with
    | zero => intro j hm; exact absurd hm (Nat.not_lt_zero _)
    | succ m7 ih7 =>
      intro j hm7 hj
      have qa := fp_sum_le (v := v) (a := e - c) (c := 999) (n := j) (fun k hk => hb _ (by omega))
      refine fo_iload C dX4_meanBefore_7 0 rfl 9 rfl ?_
      refine fo_iload_n C dX4_meanBefore_9 3 rfl rfl 10 rfl ?_
      refine fo_ncmp_ge C (by omega) (by omega) dX4_meanBefore_10 29 (by decide) 13 rfl (fun c1 => ?_) (fun c1 => ?_)
      · refine fo_iload_n C dX4_meanBefore_29 1 rfl rfl 30 rfl ?_
        refine fo_i2d C dX4_meanBefore_30 31 rfl ?_
        refine fo_iload_n C dX4_meanBefore_31 4 rfl rfl 32 rfl ?_
        refine fo_i2d C dX4_meanBefore_32 33 rfl ?_
        refine fo_ddiv C dX4_meanBefore_33 (fd_meanok (by omega) (by omega)) 34 rfl ?_
        exact fin dX4_meanBefore_34 (⟨by rw [show j = c by omega]; rfl, rfl, rfl, rfl, rfl⟩)
      · refine fo_iload_n C dX4_meanBefore_13 1 rfl rfl 14 rfl ?_
        refine fo_aload_n C dX4_meanBefore_14 2 rfl rfl 15 rfl ?_
        refine fo_get C dX4_meanBefore_15 fK6 hk (by decide) 0 (by decide) fl_X4_9 (v := .ref (Λ.2.2.1 (s + 1))) rfl 18 rfl ?_
        refine fo_iload C dX4_meanBefore_18 0 rfl 20 rfl ?_
        have q2 := hb (e - c + j) (by omega)
        refine fo_iald C dX4_meanBefore_20 (fo_S1k hk) (by rw [fo_S1n hk]; omega) (nI (v (e - c + j))) (hv _ (by omega)) 21 rfl ?_
        refine fo_iadd C dX4_meanBefore_21 (nI ((fp_sum v (e - c) j) + (v (e - c + j)))) (nI_add _ _) 22 rfl ?_
        refine fo_istore_n C dX4_meanBefore_22 rfl [(3, .int (nI ((fp_sum v (e - c) j) + (v (e - c + j))))), (4, .int (nI (e - c + j))), (0, .ref (Λ.2.2.1 s)), (1, .int (nI e)), (2, .int (nI c))] rfl (by decide) 23 rfl ?_
        refine fo_iinc C dX4_meanBefore_23 1 rfl (nI (e - c + j + 1)) (nI_inc1 _) [(4, .int (nI (e - c + j + 1))), (3, .int (nI ((fp_sum v (e - c) j) + (v (e - c + j))))), (0, .ref (Λ.2.2.1 s)), (1, .int (nI e)), (2, .int (nI c))] rfl (by decide) 26 rfl ?_
        refine fo_goto C dX4_meanBefore_26 7 (by decide) ?_
        exact ih7 (j + 1) (by omega) (by omega)
  exact hL7 (c + 1 + 1) 0 (by omega) (by omega)
set_option maxRecDepth 10000 in
set_option maxHeartbeats 4000000 in
theorem mX4_countBelow {l : Launch} {Λ : fo_Lt} {I : fo_Mi} {D : fo_Md} {J : fo_Mj} {X : fo_Mi} {s n : Nat} {v : Nat → Nat} {a b : Nat} (h1 : a ≤ n) (h2 : b ≤ 1000) (hs : fs_S I s n v) : fk_i l yX4_countBelow cX4_countBelow 5 .int 0 0 Λ [.ref (Λ.2.2.1 s), .int (nI a), .int (nI b)] I D J X (fo_pr (nI (fp_cnt (fun o => decide (v (a + o) < b)) (n - a))) I D J X) := by
  obtain ⟨hk, hc, hn, hv, hb⟩ := hs
  refine fo_si (by decide) [(0, .ref (Λ.2.2.1 s)), (1, .int (nI a)), (2, .int (nI b))] rfl (Nat.le_of_ble_eq_true rfl) (fun K C fin => ?_)
  refine fo_iconst C dX4_countBelow_0 (nI 0) ki_0 1 rfl ?_
  refine fo_istore_n C dX4_countBelow_1 rfl [(3, .int (nI 0)), (0, .ref (Λ.2.2.1 s)), (1, .int (nI a)), (2, .int (nI b))] rfl (by decide) 2 rfl ?_
  refine fo_iload_n C dX4_countBelow_2 2 rfl rfl 3 rfl ?_
  refine fo_istore C dX4_countBelow_3 [(4, .int (nI a)), (3, .int (nI 0)), (0, .ref (Λ.2.2.1 s)), (1, .int (nI a)), (2, .int (nI b))] rfl (by decide) 5 rfl ?_
  have hL5 : ∀ (m5 : Nat) (j : Nat), n - a + 1 - j < m5 → a + j ≤ n → fo_G l Λ { frames := 0, cells := 0, slots := 0, locals := 0 } K 0 0 5 [(4, .int (nI (a + j))), (3, .int (nI (fp_cnt (fun o => decide (v (a + o) < b)) j))), (0, .ref (Λ.2.2.1 s)), (1, .int (nI a)), (2, .int (nI b))] [] I D J X := by
    intro m5
    induction m5 with
    | zero => intro j hm; exact absurd hm (Nat.not_lt_zero _)
    | succ m5 ih5 =>
      intro j hm5 hj
      have qa := fp_cnt_le (fun o => decide (v (a + o) < b)) j
      refine fo_iload C dX4_countBelow_5 0 rfl 7 rfl ?_
      refine fo_aload_n C dX4_countBelow_7 2 rfl rfl 8 rfl ?_
      refine fo_get C dX4_countBelow_8 fK6 hk (by decide) 1 (by decide) fl_X4_30 (v := .int (nI n)) (congrArg (fun x => some (Value.int x)) (hc)) 11 rfl ?_
      refine fo_ncmp_ge C (by omega) (by omega) dX4_countBelow_11 34 (by decide) 14 rfl (fun c1 => ?_) (fun c1 => ?_)
      · refine fo_iload_n C dX4_countBelow_34 1 rfl rfl 35 rfl ?_
        exact fin dX4_countBelow_35 rfl (⟨congrArg nI (by rw [show n - a = j by omega]), rfl, rfl, rfl, rfl⟩)
      · refine fo_aload_n C dX4_countBelow_14 2 rfl rfl 15 rfl ?_
        refine fo_get C dX4_countBelow_15 fK6 hk (by decide) 0 (by decide) fl_X4_9 (v := .ref (Λ.2.2.1 (s + 1))) rfl 18 rfl ?_
        refine fo_iload C dX4_countBelow_18 0 rfl 20 rfl ?_
        have q2 := hb (a + j) (by omega)
        refine fo_iald C dX4_countBelow_20 (fo_S1k hk) (by rw [fo_S1n hk]; omega) (nI (v (a + j))) (hv _ (by omega)) 21 rfl ?_
        refine fo_iload_n C dX4_countBelow_21 4 rfl rfl 22 rfl ?_
        refine fo_ncmp_ge C (by omega) (by omega) dX4_countBelow_22 28 (by decide) 25 rfl (fun c3 => ?_) (fun c3 => ?_)
        · have e9 : fp_cnt (fun o => decide (v (a + o) < b)) j = fp_cnt (fun o => decide (v (a + o) < b)) (j + 1) := by simp only [fp_cnt, decide_eq_true_eq]; first | rw [if_pos (by omega)] | rw [if_neg (by omega)]; try omega
          rw [e9]
          refine fo_iinc C dX4_countBelow_28 0 rfl (nI (a + j + 1)) (nI_inc1 _) [(4, .int (nI (a + j + 1))), (3, .int (nI (fp_cnt (fun o => decide (v (a + o) < b)) (j + 1)))), (0, .ref (Λ.2.2.1 s)), (1, .int (nI a)), (2, .int (nI b))] rfl (by decide) 31 rfl ?_
          refine fo_goto C dX4_countBelow_31 5 (by decide) ?_
          exact ih5 (j + 1) (by omega) (by omega)
        · refine fo_iinc C dX4_countBelow_25 1 rfl (nI (fp_cnt (fun o => decide (v (a + o) < b)) j + 1)) (nI_inc1 _) [(3, .int (nI (fp_cnt (fun o => decide (v (a + o) < b)) j + 1))), (4, .int (nI (a + j))), (0, .ref (Λ.2.2.1 s)), (1, .int (nI a)), (2, .int (nI b))] rfl (by decide) 28 rfl ?_
          have e9 : fp_cnt (fun o => decide (v (a + o) < b)) j + 1 = fp_cnt (fun o => decide (v (a + o) < b)) (j + 1) := by simp only [fp_cnt, decide_eq_true_eq]; first | rw [if_pos (by omega)] | rw [if_neg (by omega)]; try omega
          rw [e9]
          refine fo_iinc C dX4_countBelow_28 1 rfl (nI (a + j + 1)) (nI_inc1 _) [(4, .int (nI (a + j + 1))), (3, .int (nI (fp_cnt (fun o => decide (v (a + o) < b)) (j + 1)))), (0, .ref (Λ.2.2.1 s)), (1, .int (nI a)), (2, .int (nI b))] rfl (by decide) 31 rfl ?_
          refine fo_goto C dX4_countBelow_31 5 (by decide) ?_
          exact ih5 (j + 1) (by omega) (by omega)
  exact hL5 (n - a + 1 + 1) 0 (by omega) (by omega)
set_option maxRecDepth 10000 in
set_option maxHeartbeats 4000000 in
theorem mX4_levelBefore {l : Launch} {Λ : fo_Lt} {I : fo_Mi} {D : fo_Md} {J : fo_Mj} {X : fo_Mi} {s n : Nat} {v : Nat → Nat} {e p : Nat} (h1 : 1 ≤ e) (h2 : e ≤ n) (hp : p < 10) (hs : fs_S I s n v) : fk_d l yX4_levelBefore cX4_levelBefore 6 0 0 Λ [.ref (Λ.2.2.1 s), .int (nI e), .int (nI p)] I D J X (fo_pr (fp_lev v p (e - 1)) I D J X) := by
  obtain ⟨hk, hc, hn, hv, hb⟩ := hs
  refine fo_sd (by decide) [(0, .ref (Λ.2.2.1 s)), (1, .int (nI e)), (2, .int (nI p))] rfl (Nat.le_of_ble_eq_true rfl) (fun K C fin => ?_)
  refine fo_aload_n C dX4_levelBefore_0 0 rfl rfl 1 rfl ?_
  refine fo_get C dX4_levelBefore_1 fK6 hk (by decide) 0 (by decide) fl_X4_9 (v := .ref (Λ.2.2.1 (s + 1))) rfl 4 rfl ?_
  refine fo_iconst C dX4_levelBefore_4 (nI 0) ki_0 5 rfl ?_
  have q1 := hb (0) (by omega)
  refine fo_iald C dX4_levelBefore_5 (fo_S1k hk) (by rw [fo_S1n hk]; omega) (nI (v 0)) (hv _ (by omega)) 6 rfl ?_
  refine fo_i2d C dX4_levelBefore_6 7 rfl ?_
  refine fo_dstore_n C dX4_levelBefore_7 rfl [(3, .double (FP.i2d (nI (v 0)))), (0, .ref (Λ.2.2.1 s)), (1, .int (nI e)), (2, .int (nI p))] rfl (by decide) 8 rfl ?_
  refine fo_iconst C dX4_levelBefore_8 (nI 1) ki_1 9 rfl ?_
  refine fo_istore C dX4_levelBefore_9 [(5, .int (nI 1)), (3, .double (FP.i2d (nI (v 0)))), (0, .ref (Λ.2.2.1 s)), (1, .int (nI e)), (2, .int (nI p))] rfl (by decide) 11 rfl ?_
  have hL11 : ∀ (m11 : Nat) (k : Nat), e - k < m11 → k + 1 ≤ e → fo_G l Λ { frames := 0, cells := 0, slots := 0, locals := 0 } K 0 0 11 [(5, .int (nI (k + 1))), (3, .double (fp_lev v p k)), (0, .ref (Λ.2.2.1 s)), (1, .int (nI e)), (2, .int (nI p))] [] I D J X := by
    intro m11
    induction m11 with
    | zero => intro k hm; exact absurd hm (Nat.not_lt_zero _)
    | succ m11 ih11 =>
      intro k hm11 hk1
      obtain ⟨w1, w2, w3, w4⟩ := fd_step (v := nI (v (k + 1))) (fd_lev v hp k (by omega)) (by omega) (by omega) hp
      refine fo_iload C dX4_levelBefore_11 0 rfl 13 rfl ?_
      refine fo_iload_n C dX4_levelBefore_13 3 rfl rfl 14 rfl ?_
      refine fo_ncmp_ge C (by omega) (by omega) dX4_levelBefore_14 43 (by decide) 17 rfl (fun c2 => ?_) (fun c2 => ?_)
      · refine fo_dload_n C dX4_levelBefore_43 1 rfl rfl 44 rfl ?_
        exact fin dX4_levelBefore_44 (⟨by rw [show e - 1 = k by omega], rfl, rfl, rfl, rfl⟩)
      · refine fo_dload_n C dX4_levelBefore_17 1 rfl rfl 18 rfl ?_
        refine fo_iload_n C dX4_levelBefore_18 4 rfl rfl 19 rfl ?_
        refine fo_i2d C dX4_levelBefore_19 20 rfl ?_
        refine fo_aload_n C dX4_levelBefore_20 2 rfl rfl 21 rfl ?_
        refine fo_get C dX4_levelBefore_21 fK6 hk (by decide) 0 (by decide) fl_X4_9 (v := .ref (Λ.2.2.1 (s + 1))) rfl 24 rfl ?_
        refine fo_iload C dX4_levelBefore_24 0 rfl 26 rfl ?_
        have q3 := hb (k + 1) (by omega)
        refine fo_iald C dX4_levelBefore_26 (fo_S1k hk) (by rw [fo_S1n hk]; omega) (nI (v (k + 1))) (hv _ (by omega)) 27 rfl ?_
        refine fo_i2d C dX4_levelBefore_27 28 rfl ?_
        refine fo_dload_n C dX4_levelBefore_28 1 rfl rfl 29 rfl ?_
        refine fo_dsub C dX4_levelBefore_29 (fd_ok (K := 1056 + 7 * k + 2) w1 (by omega)) 30 rfl ?_
        refine fo_dmul C dX4_levelBefore_30 (fd_ok (K := 1056 + 7 * k + 7) w2 (by omega)) 31 rfl ?_
        refine fo_ldcd C dX4_levelBefore_31 fd_X4_46 34 rfl ?_
        refine fo_ddiv C dX4_levelBefore_34 (fd_ok (K := 1056 + 7 * k + 5) w3 (by omega)) 35 rfl ?_
        refine fo_dadd C dX4_levelBefore_35 (fd_ok (K := 1056 + 7 * k + 7) w4 (by omega)) 36 rfl ?_
        refine fo_dstore_n C dX4_levelBefore_36 rfl [(3, .double (FP.dadd (fp_lev v p k) (FP.ddiv (FP.dmul (FP.i2d (nI (p))) (FP.dsub (FP.i2d (nI (v (k + 1)))) (fp_lev v p k))) (4621819117588971520)))), (5, .int (nI (k + 1))), (0, .ref (Λ.2.2.1 s)), (1, .int (nI e)), (2, .int (nI p))] rfl (by decide) 37 rfl ?_
        refine fo_iinc C dX4_levelBefore_37 1 rfl (nI (k + 1 + 1)) (nI_inc1 _) [(5, .int (nI (k + 1 + 1))), (3, .double (FP.dadd (fp_lev v p k) (FP.ddiv (FP.dmul (FP.i2d (nI (p))) (FP.dsub (FP.i2d (nI (v (k + 1)))) (fp_lev v p k))) (4621819117588971520)))), (0, .ref (Λ.2.2.1 s)), (1, .int (nI e)), (2, .int (nI p))] rfl (by decide) 40 rfl ?_
        refine fo_goto C dX4_levelBefore_40 11 (by decide) ?_
        exact ih11 (k + 1) (by omega) (by omega)
  exact hL11 (e + 1 + 1) 0 (by omega) (by omega)
set_option maxRecDepth 10000 in
set_option maxHeartbeats 4000000 in
theorem mX4_meanBySums {l : Launch} {Λ : fo_Lt} {I : fo_Mi} {D : fo_Md} {J : fo_Mj} {X : fo_Mi} {s n : Nat} {v : Nat → Nat} {c : Nat} (h1 : 1 ≤ c) (h2 : c ≤ n) (hs : fs_S I s n v) : fk_d l yX4_meanBySums cX4_meanBySums 3 0 0 Λ [.ref (Λ.2.2.1 s), .int (nI c)] I D J X (fo_ps (fp_mean v (n - c) c) I D J) := by
  obtain ⟨hk, hc, hn, hv, hb⟩ := hs
  refine fo_sd (by decide) [(0, .ref (Λ.2.2.1 s)), (1, .int (nI c))] rfl (Nat.le_of_ble_eq_true rfl) (fun K C fin => ?_)
  refine fo_aload_n C dX4_meanBySums_0 0 rfl rfl 1 rfl ?_
  refine fo_get C dX4_meanBySums_1 fK6 hk (by decide) 4 (by decide) fl_X4_21 (v := .ref (Λ.2.2.1 (s + 4))) rfl 4 rfl ?_
  refine fo_iconst C dX4_meanBySums_4 (nI 0) ki_0 5 rfl ?_
  refine fo_iconst C dX4_meanBySums_5 (nI 0) ki_0 6 rfl ?_
  refine fo_xast C dX4_meanBySums_6 (fo_S4k hk) (by rw [fo_S4n hk]; omega) 7 rfl ?_
  refine fo_iconst C dX4_meanBySums_7 (nI 0) ki_0 8 rfl ?_
  refine fo_istore_n C dX4_meanBySums_8 rfl [(2, .int (nI 0)), (0, .ref (Λ.2.2.1 s)), (1, .int (nI c))] rfl (by decide) 9 rfl ?_
  have hL9 : ∀ (m9 : Nat) (i : Nat) (Y : fo_Mi), n + 1 - i < m9 → i ≤ n → (∀ o, o ≤ i → Y (s + 4) o = nI (fp_sum v 0 o)) → fo_G l Λ { frames := 0, cells := 0, slots := 0, locals := 0 } K 0 0 9 [(2, .int (nI i)), (0, .ref (Λ.2.2.1 s)), (1, .int (nI c))] [] I D J Y := by
    intro m9
    induction m9 with
    | zero => intro i Y hm; exact absurd hm (Nat.not_lt_zero _)
    | succ m9 ih9 =>
      intro i Y hm9 hi hY
      have qa := fp_sum_le (v := v) (a := 0) (c := 999) (n := i) (fun k hk => hb _ (by omega))
      refine fo_iload_n C dX4_meanBySums_9 0 rfl rfl 10 rfl ?_
      refine fo_aload_n C dX4_meanBySums_10 1 rfl rfl 11 rfl ?_
      refine fo_get C dX4_meanBySums_11 fK6 hk (by decide) 1 (by decide) fl_X4_30 (v := .int (nI n)) (congrArg (fun x => some (Value.int x)) (hc)) 14 rfl ?_
      refine fo_ncmp_ge C (by omega) (by omega) dX4_meanBySums_14 44 (by decide) 17 rfl (fun c1 => ?_) (fun c1 => ?_)
      · refine fo_aload_n C dX4_meanBySums_44 1 rfl rfl 45 rfl ?_
        refine fo_get C dX4_meanBySums_45 fK6 hk (by decide) 4 (by decide) fl_X4_21 (v := .ref (Λ.2.2.1 (s + 4))) rfl 48 rfl ?_
        refine fo_aload_n C dX4_meanBySums_48 1 rfl rfl 49 rfl ?_
        refine fo_get C dX4_meanBySums_49 fK6 hk (by decide) 1 (by decide) fl_X4_30 (v := .int (nI n)) (congrArg (fun x => some (Value.int x)) (hc)) 52 rfl ?_
        refine fo_xald C dX4_meanBySums_52 (fo_S4k hk) (by rw [fo_S4n hk]; omega) (nI (fp_sum v 0 n)) (hY _ (by omega)) 53 rfl ?_
        refine fo_aload_n C dX4_meanBySums_53 1 rfl rfl 54 rfl ?_
        refine fo_get C dX4_meanBySums_54 fK6 hk (by decide) 4 (by decide) fl_X4_21 (v := .ref (Λ.2.2.1 (s + 4))) rfl 57 rfl ?_
        refine fo_aload_n C dX4_meanBySums_57 1 rfl rfl 58 rfl ?_
        refine fo_get C dX4_meanBySums_58 fK6 hk (by decide) 1 (by decide) fl_X4_30 (v := .int (nI n)) (congrArg (fun x => some (Value.int x)) (hc)) 61 rfl ?_
        refine fo_iload_n C dX4_meanBySums_61 2 rfl rfl 62 rfl ?_
        refine fo_isub C dX4_meanBySums_62 (nI (n - c)) (pk_sub (by omega)) 63 rfl ?_
        refine fo_xald C dX4_meanBySums_63 (fo_S4k hk) (by rw [fo_S4n hk]; omega) (nI (fp_sum v 0 (n - c))) (hY _ (by omega)) 64 rfl ?_
        have q8 := fp_sum_split v (n - c) c
        rw [show n - c + c = n by omega] at q8
        refine fo_isub C dX4_meanBySums_64 (nI ((fp_sum v 0 n) - (fp_sum v 0 (n - c)))) (pk_sub (by omega)) 65 rfl ?_
        have e9 : (fp_sum v 0 n) - (fp_sum v 0 (n - c)) = fp_sum v (n - c) c := by have := fp_sum_split v (n - c) c; rw [show n - c + c = n by omega] at this; omega
        rw [e9]
        refine fo_i2d C dX4_meanBySums_65 66 rfl ?_
        refine fo_iload_n C dX4_meanBySums_66 2 rfl rfl 67 rfl ?_
        refine fo_i2d C dX4_meanBySums_67 68 rfl ?_
        refine fo_ddiv C dX4_meanBySums_68 (fd_meanok (by omega) (by omega)) 69 rfl ?_
        exact fin dX4_meanBySums_69 (⟨rfl, rfl, rfl, rfl⟩)
      · refine fo_aload_n C dX4_meanBySums_17 1 rfl rfl 18 rfl ?_
        refine fo_get C dX4_meanBySums_18 fK6 hk (by decide) 4 (by decide) fl_X4_21 (v := .ref (Λ.2.2.1 (s + 4))) rfl 21 rfl ?_
        refine fo_iload_n C dX4_meanBySums_21 0 rfl rfl 22 rfl ?_
        refine fo_iconst C dX4_meanBySums_22 (nI 1) ki_1 23 rfl ?_
        refine fo_iadd C dX4_meanBySums_23 (nI (i + 1)) (nI_add _ _) 24 rfl ?_
        refine fo_aload_n C dX4_meanBySums_24 1 rfl rfl 25 rfl ?_
        refine fo_get C dX4_meanBySums_25 fK6 hk (by decide) 4 (by decide) fl_X4_21 (v := .ref (Λ.2.2.1 (s + 4))) rfl 28 rfl ?_
        refine fo_iload_n C dX4_meanBySums_28 0 rfl rfl 29 rfl ?_
        refine fo_xald C dX4_meanBySums_29 (fo_S4k hk) (by rw [fo_S4n hk]; omega) (nI (fp_sum v 0 i)) (hY _ (by omega)) 30 rfl ?_
        refine fo_aload_n C dX4_meanBySums_30 1 rfl rfl 31 rfl ?_
        refine fo_get C dX4_meanBySums_31 fK6 hk (by decide) 0 (by decide) fl_X4_9 (v := .ref (Λ.2.2.1 (s + 1))) rfl 34 rfl ?_
        refine fo_iload_n C dX4_meanBySums_34 0 rfl rfl 35 rfl ?_
        have q2 := hb (i) (by omega)
        refine fo_iald C dX4_meanBySums_35 (fo_S1k hk) (by rw [fo_S1n hk]; omega) (nI (v i)) (hv _ (by omega)) 36 rfl ?_
        refine fo_iadd C dX4_meanBySums_36 (nI ((fp_sum v 0 i) + (v i))) (nI_add _ _) 37 rfl ?_
        refine fo_xast C dX4_meanBySums_37 (fo_S4k hk) (by rw [fo_S4n hk]; omega) 38 rfl ?_
        refine fo_iinc C dX4_meanBySums_38 0 rfl (nI (i + 1)) (nI_inc1 _) [(2, .int (nI (i + 1))), (0, .ref (Λ.2.2.1 s)), (1, .int (nI c))] rfl (by decide) 41 rfl ?_
        refine fo_goto C dX4_meanBySums_41 9 (by decide) ?_
        exact ih9 (i + 1) (fo_r Y (s + 4) (upd (Y (s + 4)) (i + 1) (nI ((fp_sum v 0 i) + (v i))))) (by omega) (by omega) (fun o ho => by rw [fo_rs]; by_cases ho2 : o = i + 1; (rw [ho2, pk_us, fp_sum, Nat.zero_add]); (rw [pk_un ho2]; exact hY o (by omega)))
  exact hL9 (n + 1 + 1) 0 (fo_r X (s + 4) (upd (X (s + 4)) (0) (nI (0)))) (by omega) (by omega) (fun o ho => by rw [show o = 0 by omega, fo_rs]; exact pk_us)
set_option maxRecDepth 10000 in
set_option maxHeartbeats 4000000 in
theorem mX4_medianOf_v {l : Launch} {Λ : fo_Lt} {I : fo_Mi} {D : fo_Md} {J : fo_Mj} {X : fo_Mi} {s n : Nat} {v : Nat → Nat} {a c : Nat} (h1 : 1 ≤ c) (h2 : a + c ≤ n) (hs : fs_S I s n v) : fk_i l yX4_medianOf cX4_medianOf 7 .int 0 0 Λ [.ref (Λ.2.2.1 s), .ref (Λ.2.2.1 (s + 1)), .int (nI a), .int (nI c)] I D J X (fo_ps (nI (fp_med (fun j => v (a + j)) c)) I D J) := by
  obtain ⟨hk, hc, hn, hv, hb⟩ := hs
  refine fo_si (by decide) [(0, .ref (Λ.2.2.1 s)), (1, .ref (Λ.2.2.1 (s + 1))), (2, .int (nI a)), (3, .int (nI c))] rfl (Nat.le_of_ble_eq_true rfl) (fun K C fin => ?_)
  refine fo_iconst C dX4_medianOf_0 (nI 0) ki_0 1 rfl ?_
  refine fo_istore C dX4_medianOf_1 [(4, .int (nI 0)), (0, .ref (Λ.2.2.1 s)), (1, .ref (Λ.2.2.1 (s + 1))), (2, .int (nI a)), (3, .int (nI c))] rfl (by decide) 3 rfl ?_
  have hL3 : ∀ (m3 : Nat) (i : Nat) (Y : fo_Mi) (g : Nat → Nat), c + 1 - i < m3 → i ≤ c → (∀ p q, p ≤ q → q < i → g p ≤ g q) → (∀ m, fp_cnt (fun o => decide (g o < m)) i = fp_cnt (fun o => decide ((fun j => v (a + j)) o < m)) i) → (∀ o, o < i → Y (s + 2) o = nI (g o)) → (∀ o, o < i → g o ≤ 999) → fo_G l Λ { frames := 0, cells := 0, slots := 0, locals := 0 } K 0 0 3 [(4, .int (nI i)), (0, .ref (Λ.2.2.1 s)), (1, .ref (Λ.2.2.1 (s + 1))), (2, .int (nI a)), (3, .int (nI c))] [] I D J Y := by
    intro m3
    induction m3 with
    | zero => intro i Y g hm; exact absurd hm (Nat.not_lt_zero _)
    | succ m3 ih3 =>
      intro i Y g hm3 hi hA hC hG hB
      refine fo_iload C dX4_medianOf_3 0 rfl 5 rfl ?_
      refine fo_iload_n C dX4_medianOf_5 4 rfl rfl 6 rfl ?_
      refine fo_ncmp_ge C (by omega) (by omega) dX4_medianOf_6 77 (by decide) 9 rfl (fun c1 => ?_) (fun c1 => ?_)
      · refine fo_aload_n C dX4_medianOf_77 1 rfl rfl 78 rfl ?_
        refine fo_get C dX4_medianOf_78 fK6 hk (by decide) 2 (by decide) fl_X4_15 (v := .ref (Λ.2.2.1 (s + 2))) rfl 81 rfl ?_
        refine fo_iload_n C dX4_medianOf_81 4 rfl rfl 82 rfl ?_
        refine fo_iconst C dX4_medianOf_82 (nI 1) ki_1 83 rfl ?_
        refine fo_isub C dX4_medianOf_83 (nI (c - 1)) (pk_sub (by omega)) 84 rfl ?_
        refine fo_iconst C dX4_medianOf_84 (nI 2) ki_2 85 rfl ?_
        refine fo_idiv C dX4_medianOf_85 (nI_ne0 (by omega) (by omega)) (nI ((c - 1) / 2)) (pk_div (by omega) (by omega) (by omega)) 86 rfl ?_
        have q2 := hB ((c - 1) / 2) (by omega)
        refine fo_xald C dX4_medianOf_86 (fo_S2k hk) (by rw [fo_S2n hk]; omega) (nI (g ((c - 1) / 2))) (hG _ (by omega)) 87 rfl ?_
        exact fin dX4_medianOf_87 rfl (⟨congrArg nI (by rw [show c = i by omega] at h1 ⊢; exact (fp_med_sorted (f := (fun j => v (a + j))) (by omega) hA hC).symm), rfl, rfl, rfl⟩)
      · refine fo_aload_n C dX4_medianOf_9 2 rfl rfl 10 rfl ?_
        refine fo_iload_n C dX4_medianOf_10 3 rfl rfl 11 rfl ?_
        refine fo_iload C dX4_medianOf_11 0 rfl 13 rfl ?_
        refine fo_iadd C dX4_medianOf_13 (nI (a + i)) (nI_add _ _) 14 rfl ?_
        have q3 := hb (a + i) (by omega)
        refine fo_iald C dX4_medianOf_14 (fo_S1k hk) (by rw [fo_S1n hk]; omega) (nI (v (a + i))) (hv _ (by omega)) 15 rfl ?_
        refine fo_istore C dX4_medianOf_15 [(5, .int (nI (v (a + i)))), (4, .int (nI i)), (0, .ref (Λ.2.2.1 s)), (1, .ref (Λ.2.2.1 (s + 1))), (2, .int (nI a)), (3, .int (nI c))] rfl (by decide) 17 rfl ?_
        refine fo_iload C dX4_medianOf_17 1 rfl 19 rfl ?_
        refine fo_istore C dX4_medianOf_19 [(6, .int (nI i)), (5, .int (nI (v (a + i)))), (4, .int (nI i)), (0, .ref (Λ.2.2.1 s)), (1, .ref (Λ.2.2.1 (s + 1))), (2, .int (nI a)), (3, .int (nI c))] rfl (by decide) 21 rfl ?_
        have hL21 : ∀ (m21 : Nat) (p : Nat) (Z : fo_Mi), p < m21 → p ≤ i → (∀ o, o < p → Z (s + 2) o = nI (g o)) → (∀ o, p < o → o ≤ i → Z (s + 2) o = nI (g (o - 1))) → (∀ o, p ≤ o → o < i → v (a + i) < g o) → fo_G l Λ { frames := 0, cells := 0, slots := 0, locals := 0 } K 0 0 21 [(6, .int (nI p)), (5, .int (nI (v (a + i)))), (4, .int (nI i)), (0, .ref (Λ.2.2.1 s)), (1, .ref (Λ.2.2.1 (s + 1))), (2, .int (nI a)), (3, .int (nI c))] [] I D J Z := by
          intro m21
          induction m21 with
          | zero => intro p Z hm; exact absurd hm (Nat.not_lt_zero _)
          | succ m21 ih21 =>
            intro p Z hm21 hpi hZ1 hZ2 hL
            refine fo_iload C dX4_medianOf_21 0 rfl 23 rfl ?_
            refine fo_nif_le C (by omega) dX4_medianOf_23 62 (by decide) 26 rfl (fun c4 => ?_) (fun c4 => ?_)
            · have hE : ∀ o, o < p → g o ≤ v (a + i) := by first | exact fun o ho => by omega | exact fun o ho => Nat.le_trans (hA o (p - 1) (by omega) (by omega)) (by omega)
              refine fo_aload_n C dX4_medianOf_62 3 rfl rfl 63 rfl ?_
              refine fo_get C dX4_medianOf_63 fK6 hk (by decide) 2 (by decide) fl_X4_15 (v := .ref (Λ.2.2.1 (s + 2))) rfl 66 rfl ?_
              refine fo_iload C dX4_medianOf_66 0 rfl 68 rfl ?_
              refine fo_iload C dX4_medianOf_68 1 rfl 70 rfl ?_
              refine fo_xast C dX4_medianOf_70 (fo_S2k hk) (by rw [fo_S2n hk]; omega) 71 rfl ?_
              refine fo_iinc C dX4_medianOf_71 2 rfl (nI (i + 1)) (nI_inc1 _) [(4, .int (nI (i + 1))), (6, .int (nI p)), (5, .int (nI (v (a + i)))), (0, .ref (Λ.2.2.1 s)), (1, .ref (Λ.2.2.1 (s + 1))), (2, .int (nI a)), (3, .int (nI c))] rfl (by decide) 74 rfl ?_
              refine fo_goto C dX4_medianOf_74 3 (by decide) ?_
              refine fo_sub C [0, 3, 4, 5, 6] (lv' := [(4, .int (nI (i + 1))), (0, .ref (Λ.2.2.1 s)), (1, .ref (Λ.2.2.1 (s + 1))), (2, .int (nI a)), (3, .int (nI c))]) rfl ?_
              exact ih3 (i + 1) (fo_r Z (s + 2) (upd (Z (s + 2)) (p) (nI (v (a + i))))) (fp_ins g p (v (a + i))) (by omega) (by omega) (fp_ins_asc hpi hA hE hL) (fun m => by rw [fp_ins_cnt g p _ m i hpi, hC m, fp_cnt]; simp only [decide_eq_true_eq]) (fun o ho => by rw [fo_rs]; by_cases e1 : o = p; (rw [e1, pk_us]; unfold fp_ins; rw [if_neg (Nat.lt_irrefl p), if_pos rfl]); (rw [pk_un e1]; unfold fp_ins; by_cases e2 : o < p; (rw [if_pos e2]; exact hZ1 o e2); (rw [if_neg e2, if_neg e1]; exact hZ2 o (by omega) (by omega)))) (fun o ho => by unfold fp_ins; split; (exact hB o (by omega)); split; (exact (hb _ (by omega))); exact hB (o - 1) (by omega))
            · refine fo_aload_n C dX4_medianOf_26 3 rfl rfl 27 rfl ?_
              refine fo_get C dX4_medianOf_27 fK6 hk (by decide) 2 (by decide) fl_X4_15 (v := .ref (Λ.2.2.1 (s + 2))) rfl 30 rfl ?_
              refine fo_iload C dX4_medianOf_30 0 rfl 32 rfl ?_
              refine fo_iconst C dX4_medianOf_32 (nI 1) ki_1 33 rfl ?_
              refine fo_isub C dX4_medianOf_33 (nI (p - 1)) (pk_sub (by omega)) 34 rfl ?_
              have q5 := hB (p - 1) (by omega)
              refine fo_xald C dX4_medianOf_34 (fo_S2k hk) (by rw [fo_S2n hk]; omega) (nI (g (p - 1))) (hZ1 _ (by omega)) 35 rfl ?_
              refine fo_iload C dX4_medianOf_35 1 rfl 37 rfl ?_
              refine fo_ncmp_le C (by omega) (by omega) dX4_medianOf_37 62 (by decide) 40 rfl (fun c6 => ?_) (fun c6 => ?_)
              · have hE : ∀ o, o < p → g o ≤ v (a + i) := by first | exact fun o ho => by omega | exact fun o ho => Nat.le_trans (hA o (p - 1) (by omega) (by omega)) (by omega)
                refine fo_aload_n C dX4_medianOf_62 3 rfl rfl 63 rfl ?_
                refine fo_get C dX4_medianOf_63 fK6 hk (by decide) 2 (by decide) fl_X4_15 (v := .ref (Λ.2.2.1 (s + 2))) rfl 66 rfl ?_
                refine fo_iload C dX4_medianOf_66 0 rfl 68 rfl ?_
                refine fo_iload C dX4_medianOf_68 1 rfl 70 rfl ?_
                refine fo_xast C dX4_medianOf_70 (fo_S2k hk) (by rw [fo_S2n hk]; omega) 71 rfl ?_
                refine fo_iinc C dX4_medianOf_71 2 rfl (nI (i + 1)) (nI_inc1 _) [(4, .int (nI (i + 1))), (6, .int (nI p)), (5, .int (nI (v (a + i)))), (0, .ref (Λ.2.2.1 s)), (1, .ref (Λ.2.2.1 (s + 1))), (2, .int (nI a)), (3, .int (nI c))] rfl (by decide) 74 rfl ?_
                refine fo_goto C dX4_medianOf_74 3 (by decide) ?_
                refine fo_sub C [0, 3, 4, 5, 6] (lv' := [(4, .int (nI (i + 1))), (0, .ref (Λ.2.2.1 s)), (1, .ref (Λ.2.2.1 (s + 1))), (2, .int (nI a)), (3, .int (nI c))]) rfl ?_
                exact ih3 (i + 1) (fo_r Z (s + 2) (upd (Z (s + 2)) (p) (nI (v (a + i))))) (fp_ins g p (v (a + i))) (by omega) (by omega) (fp_ins_asc hpi hA hE hL) (fun m => by rw [fp_ins_cnt g p _ m i hpi, hC m, fp_cnt]; simp only [decide_eq_true_eq]) (fun o ho => by rw [fo_rs]; by_cases e1 : o = p; (rw [e1, pk_us]; unfold fp_ins; rw [if_neg (Nat.lt_irrefl p), if_pos rfl]); (rw [pk_un e1]; unfold fp_ins; by_cases e2 : o < p; (rw [if_pos e2]; exact hZ1 o e2); (rw [if_neg e2, if_neg e1]; exact hZ2 o (by omega) (by omega)))) (fun o ho => by unfold fp_ins; split; (exact hB o (by omega)); split; (exact (hb _ (by omega))); exact hB (o - 1) (by omega))
              · refine fo_aload_n C dX4_medianOf_40 3 rfl rfl 41 rfl ?_
                refine fo_get C dX4_medianOf_41 fK6 hk (by decide) 2 (by decide) fl_X4_15 (v := .ref (Λ.2.2.1 (s + 2))) rfl 44 rfl ?_
                refine fo_iload C dX4_medianOf_44 0 rfl 46 rfl ?_
                refine fo_aload_n C dX4_medianOf_46 3 rfl rfl 47 rfl ?_
                refine fo_get C dX4_medianOf_47 fK6 hk (by decide) 2 (by decide) fl_X4_15 (v := .ref (Λ.2.2.1 (s + 2))) rfl 50 rfl ?_
                refine fo_iload C dX4_medianOf_50 0 rfl 52 rfl ?_
                refine fo_iconst C dX4_medianOf_52 (nI 1) ki_1 53 rfl ?_
                refine fo_isub C dX4_medianOf_53 (nI (p - 1)) (pk_sub (by omega)) 54 rfl ?_
                have q7 := hB (p - 1) (by omega)
                refine fo_xald C dX4_medianOf_54 (fo_S2k hk) (by rw [fo_S2n hk]; omega) (nI (g (p - 1))) (hZ1 _ (by omega)) 55 rfl ?_
                refine fo_xast C dX4_medianOf_55 (fo_S2k hk) (by rw [fo_S2n hk]; omega) 56 rfl ?_
                refine fo_iinc C dX4_medianOf_56 0 rfl (nI (p - 1)) (nI_dec1 (by omega)) [(6, .int (nI (p - 1))), (5, .int (nI (v (a + i)))), (4, .int (nI i)), (0, .ref (Λ.2.2.1 s)), (1, .ref (Λ.2.2.1 (s + 1))), (2, .int (nI a)), (3, .int (nI c))] rfl (by decide) 59 rfl ?_
                refine fo_goto C dX4_medianOf_59 21 (by decide) ?_
                exact ih21 (p - 1) (fo_r Z (s + 2) (upd (Z (s + 2)) (p) (nI (g (p - 1))))) (by omega) (by omega) (fun o ho => by rw [fo_rs, pk_un (by omega)]; exact hZ1 o (by omega)) (fun o h3 h4 => by rw [fo_rs]; by_cases e1 : o = p; (rw [e1, pk_us]); (rw [pk_un e1]; exact hZ2 o (by omega) h4)) (fun o h3 h4 => by by_cases e1 : o = p - 1; (rw [e1]; omega); exact hL o (by omega) h4)
        exact hL21 (i + 1 + 1) i (Y) (by omega) (Nat.le_refl i) hG (fun o h1 h2 => by omega) (fun o h1 h2 => by omega)
  exact hL3 (c + 1 + 1) 0 (X) (fun _ => 0) (by omega) (by omega) (fun p q _ h => absurd h (Nat.not_lt_zero _)) (fun _ => rfl) (fun o h => absurd h (Nat.not_lt_zero _)) (fun o h => absurd h (Nat.not_lt_zero _))
set_option maxRecDepth 10000 in
set_option maxHeartbeats 4000000 in
theorem mX4_medianOf_x {l : Launch} {Λ : fo_Lt} {I : fo_Mi} {D : fo_Md} {J : fo_Mj} {X : fo_Mi} {s : Nat} {f : Nat → Nat} {c : Nat} (h1 : 1 ≤ c) (h2 : c ≤ 5) (hk : fo_k s = 6) (hf : ∀ o, o < c → X (s + 3) o = nI (f o)) (hfb : ∀ o, o < c → f o ≤ 999) : fk_i l yX4_medianOf cX4_medianOf 7 .int 0 0 Λ [.ref (Λ.2.2.1 s), .ref (Λ.2.2.1 (s + 3)), .int (nI 0), .int (nI c)] I D J X (fo_ps (nI (fp_med f c)) I D J) := by
  refine fo_si (by decide) [(0, .ref (Λ.2.2.1 s)), (1, .ref (Λ.2.2.1 (s + 3))), (2, .int (nI 0)), (3, .int (nI c))] rfl (Nat.le_of_ble_eq_true rfl) (fun K C fin => ?_)
  refine fo_iconst C dX4_medianOf_0 (nI 0) ki_0 1 rfl ?_
  refine fo_istore C dX4_medianOf_1 [(4, .int (nI 0)), (0, .ref (Λ.2.2.1 s)), (1, .ref (Λ.2.2.1 (s + 3))), (2, .int (nI 0)), (3, .int (nI c))] rfl (by decide) 3 rfl ?_
  have hL3 : ∀ (m3 : Nat) (i : Nat) (Y : fo_Mi) (g : Nat → Nat), c + 1 - i < m3 → i ≤ c → (∀ p q, p ≤ q → q < i → g p ≤ g q) → (∀ m, fp_cnt (fun o => decide (g o < m)) i = fp_cnt (fun o => decide (f o < m)) i) → (∀ o, o < i → Y (s + 2) o = nI (g o)) → (∀ o, o < i → g o ≤ 999) → (∀ o, o < c → Y (s + 3) o = nI (f o)) → fo_G l Λ { frames := 0, cells := 0, slots := 0, locals := 0 } K 0 0 3 [(4, .int (nI i)), (0, .ref (Λ.2.2.1 s)), (1, .ref (Λ.2.2.1 (s + 3))), (2, .int (nI 0)), (3, .int (nI c))] [] I D J Y := by
    intro m3
    induction m3 with
    | zero => intro i Y g hm; exact absurd hm (Nat.not_lt_zero _)
    | succ m3 ih3 =>
      intro i Y g hm3 hi hA hC hG hB hF
      refine fo_iload C dX4_medianOf_3 0 rfl 5 rfl ?_
      refine fo_iload_n C dX4_medianOf_5 4 rfl rfl 6 rfl ?_
      refine fo_ncmp_ge C (by omega) (by omega) dX4_medianOf_6 77 (by decide) 9 rfl (fun c1 => ?_) (fun c1 => ?_)
      · refine fo_aload_n C dX4_medianOf_77 1 rfl rfl 78 rfl ?_
        refine fo_get C dX4_medianOf_78 fK6 hk (by decide) 2 (by decide) fl_X4_15 (v := .ref (Λ.2.2.1 (s + 2))) rfl 81 rfl ?_
        refine fo_iload_n C dX4_medianOf_81 4 rfl rfl 82 rfl ?_
        refine fo_iconst C dX4_medianOf_82 (nI 1) ki_1 83 rfl ?_
        refine fo_isub C dX4_medianOf_83 (nI (c - 1)) (pk_sub (by omega)) 84 rfl ?_
        refine fo_iconst C dX4_medianOf_84 (nI 2) ki_2 85 rfl ?_
        refine fo_idiv C dX4_medianOf_85 (nI_ne0 (by omega) (by omega)) (nI ((c - 1) / 2)) (pk_div (by omega) (by omega) (by omega)) 86 rfl ?_
        have q2 := hB ((c - 1) / 2) (by omega)
        refine fo_xald C dX4_medianOf_86 (fo_S2k hk) (by rw [fo_S2n hk]; omega) (nI (g ((c - 1) / 2))) (hG _ (by omega)) 87 rfl ?_
        exact fin dX4_medianOf_87 rfl (⟨congrArg nI (by rw [show c = i by omega] at h1 ⊢; exact (fp_med_sorted (f := f) (by omega) hA hC).symm), rfl, rfl, rfl⟩)
      · refine fo_aload_n C dX4_medianOf_9 2 rfl rfl 10 rfl ?_
        refine fo_iload_n C dX4_medianOf_10 3 rfl rfl 11 rfl ?_
        refine fo_iload C dX4_medianOf_11 0 rfl 13 rfl ?_
        refine fo_iadd C dX4_medianOf_13 (nI (0 + i)) (nI_add _ _) 14 rfl ?_
        have q9 := hfb i (by omega)
        refine fo_xald C dX4_medianOf_14 (fo_S3k hk) (by rw [fo_S3n hk]; omega) (nI (f i)) (by rw [Nat.zero_add]; exact hF i (by omega)) 15 rfl ?_
        refine fo_istore C dX4_medianOf_15 [(5, .int (nI (f i))), (4, .int (nI i)), (0, .ref (Λ.2.2.1 s)), (1, .ref (Λ.2.2.1 (s + 3))), (2, .int (nI 0)), (3, .int (nI c))] rfl (by decide) 17 rfl ?_
        refine fo_iload C dX4_medianOf_17 1 rfl 19 rfl ?_
        refine fo_istore C dX4_medianOf_19 [(6, .int (nI i)), (5, .int (nI (f i))), (4, .int (nI i)), (0, .ref (Λ.2.2.1 s)), (1, .ref (Λ.2.2.1 (s + 3))), (2, .int (nI 0)), (3, .int (nI c))] rfl (by decide) 21 rfl ?_
        have hL21 : ∀ (m21 : Nat) (p : Nat) (Z : fo_Mi), p < m21 → p ≤ i → (∀ o, o < p → Z (s + 2) o = nI (g o)) → (∀ o, p < o → o ≤ i → Z (s + 2) o = nI (g (o - 1))) → (∀ o, p ≤ o → o < i → f i < g o) → (∀ o, o < c → Z (s + 3) o = nI (f o)) → fo_G l Λ { frames := 0, cells := 0, slots := 0, locals := 0 } K 0 0 21 [(6, .int (nI p)), (5, .int (nI (f i))), (4, .int (nI i)), (0, .ref (Λ.2.2.1 s)), (1, .ref (Λ.2.2.1 (s + 3))), (2, .int (nI 0)), (3, .int (nI c))] [] I D J Z := by
          intro m21
          induction m21 with
          | zero => intro p Z hm; exact absurd hm (Nat.not_lt_zero _)
          | succ m21 ih21 =>
            intro p Z hm21 hpi hZ1 hZ2 hL hZF
            refine fo_iload C dX4_medianOf_21 0 rfl 23 rfl ?_
            refine fo_nif_le C (by omega) dX4_medianOf_23 62 (by decide) 26 rfl (fun c3 => ?_) (fun c3 => ?_)
            · have hE : ∀ o, o < p → g o ≤ f i := by first | exact fun o ho => by omega | exact fun o ho => Nat.le_trans (hA o (p - 1) (by omega) (by omega)) (by omega)
              refine fo_aload_n C dX4_medianOf_62 3 rfl rfl 63 rfl ?_
              refine fo_get C dX4_medianOf_63 fK6 hk (by decide) 2 (by decide) fl_X4_15 (v := .ref (Λ.2.2.1 (s + 2))) rfl 66 rfl ?_
              refine fo_iload C dX4_medianOf_66 0 rfl 68 rfl ?_
              refine fo_iload C dX4_medianOf_68 1 rfl 70 rfl ?_
              refine fo_xast C dX4_medianOf_70 (fo_S2k hk) (by rw [fo_S2n hk]; omega) 71 rfl ?_
              refine fo_iinc C dX4_medianOf_71 2 rfl (nI (i + 1)) (nI_inc1 _) [(4, .int (nI (i + 1))), (6, .int (nI p)), (5, .int (nI (f i))), (0, .ref (Λ.2.2.1 s)), (1, .ref (Λ.2.2.1 (s + 3))), (2, .int (nI 0)), (3, .int (nI c))] rfl (by decide) 74 rfl ?_
              refine fo_goto C dX4_medianOf_74 3 (by decide) ?_
              refine fo_sub C [0, 3, 4, 5, 6] (lv' := [(4, .int (nI (i + 1))), (0, .ref (Λ.2.2.1 s)), (1, .ref (Λ.2.2.1 (s + 3))), (2, .int (nI 0)), (3, .int (nI c))]) rfl ?_
              exact ih3 (i + 1) (fo_r Z (s + 2) (upd (Z (s + 2)) (p) (nI (f i)))) (fp_ins g p (f i)) (by omega) (by omega) (fp_ins_asc hpi hA hE hL) (fun m => by rw [fp_ins_cnt g p _ m i hpi, hC m, fp_cnt]; simp only [decide_eq_true_eq]) (fun o ho => by rw [fo_rs]; by_cases e1 : o = p; (rw [e1, pk_us]; unfold fp_ins; rw [if_neg (Nat.lt_irrefl p), if_pos rfl]); (rw [pk_un e1]; unfold fp_ins; by_cases e2 : o < p; (rw [if_pos e2]; exact hZ1 o e2); (rw [if_neg e2, if_neg e1]; exact hZ2 o (by omega) (by omega)))) (fun o ho => by unfold fp_ins; split; (exact hB o (by omega)); split; (exact (hfb _ (by omega))); exact hB (o - 1) (by omega)) (fun o ho => by rw [fo_rn _ _ (by omega)]; exact hZF o ho)
            · refine fo_aload_n C dX4_medianOf_26 3 rfl rfl 27 rfl ?_
              refine fo_get C dX4_medianOf_27 fK6 hk (by decide) 2 (by decide) fl_X4_15 (v := .ref (Λ.2.2.1 (s + 2))) rfl 30 rfl ?_
              refine fo_iload C dX4_medianOf_30 0 rfl 32 rfl ?_
              refine fo_iconst C dX4_medianOf_32 (nI 1) ki_1 33 rfl ?_
              refine fo_isub C dX4_medianOf_33 (nI (p - 1)) (pk_sub (by omega)) 34 rfl ?_
              have q4 := hB (p - 1) (by omega)
              refine fo_xald C dX4_medianOf_34 (fo_S2k hk) (by rw [fo_S2n hk]; omega) (nI (g (p - 1))) (hZ1 _ (by omega)) 35 rfl ?_
              refine fo_iload C dX4_medianOf_35 1 rfl 37 rfl ?_
              refine fo_ncmp_le C (by omega) (by omega) dX4_medianOf_37 62 (by decide) 40 rfl (fun c5 => ?_) (fun c5 => ?_)
              · have hE : ∀ o, o < p → g o ≤ f i := by first | exact fun o ho => by omega | exact fun o ho => Nat.le_trans (hA o (p - 1) (by omega) (by omega)) (by omega)
                refine fo_aload_n C dX4_medianOf_62 3 rfl rfl 63 rfl ?_
                refine fo_get C dX4_medianOf_63 fK6 hk (by decide) 2 (by decide) fl_X4_15 (v := .ref (Λ.2.2.1 (s + 2))) rfl 66 rfl ?_
                refine fo_iload C dX4_medianOf_66 0 rfl 68 rfl ?_
                refine fo_iload C dX4_medianOf_68 1 rfl 70 rfl ?_
                refine fo_xast C dX4_medianOf_70 (fo_S2k hk) (by rw [fo_S2n hk]; omega) 71 rfl ?_
                refine fo_iinc C dX4_medianOf_71 2 rfl (nI (i + 1)) (nI_inc1 _) [(4, .int (nI (i + 1))), (6, .int (nI p)), (5, .int (nI (f i))), (0, .ref (Λ.2.2.1 s)), (1, .ref (Λ.2.2.1 (s + 3))), (2, .int (nI 0)), (3, .int (nI c))] rfl (by decide) 74 rfl ?_
                refine fo_goto C dX4_medianOf_74 3 (by decide) ?_
                refine fo_sub C [0, 3, 4, 5, 6] (lv' := [(4, .int (nI (i + 1))), (0, .ref (Λ.2.2.1 s)), (1, .ref (Λ.2.2.1 (s + 3))), (2, .int (nI 0)), (3, .int (nI c))]) rfl ?_
                exact ih3 (i + 1) (fo_r Z (s + 2) (upd (Z (s + 2)) (p) (nI (f i)))) (fp_ins g p (f i)) (by omega) (by omega) (fp_ins_asc hpi hA hE hL) (fun m => by rw [fp_ins_cnt g p _ m i hpi, hC m, fp_cnt]; simp only [decide_eq_true_eq]) (fun o ho => by rw [fo_rs]; by_cases e1 : o = p; (rw [e1, pk_us]; unfold fp_ins; rw [if_neg (Nat.lt_irrefl p), if_pos rfl]); (rw [pk_un e1]; unfold fp_ins; by_cases e2 : o < p; (rw [if_pos e2]; exact hZ1 o e2); (rw [if_neg e2, if_neg e1]; exact hZ2 o (by omega) (by omega)))) (fun o ho => by unfold fp_ins; split; (exact hB o (by omega)); split; (exact (hfb _ (by omega))); exact hB (o - 1) (by omega)) (fun o ho => by rw [fo_rn _ _ (by omega)]; exact hZF o ho)
              · refine fo_aload_n C dX4_medianOf_40 3 rfl rfl 41 rfl ?_
                refine fo_get C dX4_medianOf_41 fK6 hk (by decide) 2 (by decide) fl_X4_15 (v := .ref (Λ.2.2.1 (s + 2))) rfl 44 rfl ?_
                refine fo_iload C dX4_medianOf_44 0 rfl 46 rfl ?_
                refine fo_aload_n C dX4_medianOf_46 3 rfl rfl 47 rfl ?_
                refine fo_get C dX4_medianOf_47 fK6 hk (by decide) 2 (by decide) fl_X4_15 (v := .ref (Λ.2.2.1 (s + 2))) rfl 50 rfl ?_
                refine fo_iload C dX4_medianOf_50 0 rfl 52 rfl ?_
                refine fo_iconst C dX4_medianOf_52 (nI 1) ki_1 53 rfl ?_
                refine fo_isub C dX4_medianOf_53 (nI (p - 1)) (pk_sub (by omega)) 54 rfl ?_
                have q6 := hB (p - 1) (by omega)
                refine fo_xald C dX4_medianOf_54 (fo_S2k hk) (by rw [fo_S2n hk]; omega) (nI (g (p - 1))) (hZ1 _ (by omega)) 55 rfl ?_
                refine fo_xast C dX4_medianOf_55 (fo_S2k hk) (by rw [fo_S2n hk]; omega) 56 rfl ?_
                refine fo_iinc C dX4_medianOf_56 0 rfl (nI (p - 1)) (nI_dec1 (by omega)) [(6, .int (nI (p - 1))), (5, .int (nI (f i))), (4, .int (nI i)), (0, .ref (Λ.2.2.1 s)), (1, .ref (Λ.2.2.1 (s + 3))), (2, .int (nI 0)), (3, .int (nI c))] rfl (by decide) 59 rfl ?_
                refine fo_goto C dX4_medianOf_59 21 (by decide) ?_
                exact ih21 (p - 1) (fo_r Z (s + 2) (upd (Z (s + 2)) (p) (nI (g (p - 1))))) (by omega) (by omega) (fun o ho => by rw [fo_rs, pk_un (by omega)]; exact hZ1 o (by omega)) (fun o h3 h4 => by rw [fo_rs]; by_cases e1 : o = p; (rw [e1, pk_us]); (rw [pk_un e1]; exact hZ2 o (by omega) h4)) (fun o h3 h4 => by by_cases e1 : o = p - 1; (rw [e1]; omega); exact hL o (by omega) h4) (fun o ho => by rw [fo_rn _ _ (by omega)]; exact hZF o ho)
        exact hL21 (i + 1 + 1) i (Y) (by omega) (Nat.le_refl i) hG (fun o h1 h2 => by omega) (fun o h1 h2 => by omega) hF
  exact hL3 (c + 1 + 1) 0 (X) (fun _ => 0) (by omega) (by omega) (fun p q _ h => absurd h (Nat.not_lt_zero _)) (fun _ => rfl) (fun o h => absurd h (Nat.not_lt_zero _)) (fun o h => absurd h (Nat.not_lt_zero _)) hf
set_option maxRecDepth 10000 in
set_option maxHeartbeats 4000000 in
theorem mX4_strays {l : Launch} {Λ : fo_Lt} {I : fo_Mi} {D : fo_Md} {J : fo_Mj} {X : fo_Mi} {s n : Nat} {v : Nat → Nat} {day lim : Nat} (hd : day < n) (hlim : lim ≤ 9) (hs : fs_S I s n v) : fk_i l yX4_strays cX4_strays 6 .boolean 1 40 Λ [.ref (Λ.2.2.1 s), .int (nI day), .int (nI lim)] I D J X (fo_ps (fo_b (fp_off v lim day)) I D J) := by
  obtain ⟨hk, hc, hn, hv, hb⟩ := id hs
  refine fo_si (by decide) [(0, .ref (Λ.2.2.1 s)), (1, .int (nI day)), (2, .int (nI lim))] rfl (Nat.le_of_ble_eq_true rfl) (fun K C fin => ?_)
  refine fo_iload_n C dX4_strays_0 1 rfl rfl 1 rfl ?_
  refine fo_iconst C dX4_strays_1 (nI 5) ki_5 2 rfl ?_
  refine fo_ncmp_ge C (by omega) (by omega) dX4_strays_2 7 (by decide) 5 rfl (fun c1 => ?_) (fun c1 => ?_)
  · refine fo_iload_n C dX4_strays_7 1 rfl rfl 8 rfl ?_
    refine fo_iconst C dX4_strays_8 (nI 5) ki_5 9 rfl ?_
    refine fo_isub C dX4_strays_9 (nI (day - 5)) (pk_sub (by omega)) 10 rfl ?_
    refine fo_istore_n C dX4_strays_10 rfl [(3, .int (nI (day - 5))), (0, .ref (Λ.2.2.1 s)), (1, .int (nI day)), (2, .int (nI lim))] rfl (by decide) 11 rfl ?_
    refine fo_aload_n C dX4_strays_11 1 rfl rfl 12 rfl ?_
    refine fo_aload_n C dX4_strays_12 1 rfl rfl 13 rfl ?_
    refine fo_get C dX4_strays_13 fK6 hk (by decide) 0 (by decide) fl_X4_9 (v := .ref (Λ.2.2.1 (s + 1))) rfl 16 rfl ?_
    refine fo_iload_n C dX4_strays_16 0 rfl rfl 17 rfl ?_
    refine fo_iconst C dX4_strays_17 (nI 5) ki_5 18 rfl ?_
    refine fo_qvi C dX4_strays_18 (mX4_medianOf_v (a := day - 5) (c := 5) (by omega) (by omega) hs) lv_X4_48 hk rfl (by decide) rfl ⟨Nat.le_of_ble_eq_true rfl, Nat.le_of_ble_eq_true rfl⟩ ⟨Nat.le_of_ble_eq_true rfl, Nat.le_of_ble_eq_true rfl⟩ [] rfl (Nat.le_of_ble_eq_true rfl) 21 rfl (fo_es (fun X6 => ?_))
    have qm : fp_med (fun k => v (day - 5 + k)) 5 ≤ 999 := fp_med_le (fun k hk => hb _ (by omega))
    refine fo_istore C dX4_strays_21 [(4, .int (nI (fp_med (fun k => v (day - 5 + k)) 5))), (3, .int (nI (day - 5))), (0, .ref (Λ.2.2.1 s)), (1, .int (nI day)), (2, .int (nI lim))] rfl (by decide) 23 rfl ?_
    refine fo_iconst C dX4_strays_23 (nI 0) ki_0 24 rfl ?_
    refine fo_istore C dX4_strays_24 [(5, .int (nI 0)), (4, .int (nI (fp_med (fun k => v (day - 5 + k)) 5))), (3, .int (nI (day - 5))), (0, .ref (Λ.2.2.1 s)), (1, .int (nI day)), (2, .int (nI lim))] rfl (by decide) 26 rfl ?_
    have hL26 : ∀ (m26 : Nat) (i : Nat) (Y : fo_Mi), 6 - i < m26 → i ≤ 5 → (∀ o, o < i → Y (s + 3) o = nI (fo_ds2 (v (day - 5 + o)) (fp_med (fun k => v (day - 5 + k)) 5))) → fo_G l Λ { frames := 1, cells := 0, slots := 0, locals := 40 } K 0 0 26 [(5, .int (nI i)), (4, .int (nI (fp_med (fun k => v (day - 5 + k)) 5))), (3, .int (nI (day - 5))), (0, .ref (Λ.2.2.1 s)), (1, .int (nI day)), (2, .int (nI lim))] [] I D J Y := by
      intro m26
      induction m26 with
      | zero => intro i Y hm; exact absurd hm (Nat.not_lt_zero _)
      | succ m26 ih26 =>
        intro i Y hm26 hi hY
        refine fo_iload C dX4_strays_26 0 rfl 28 rfl ?_
        refine fo_iconst C dX4_strays_28 (nI 5) ki_5 29 rfl ?_
        refine fo_ncmp_ge C (by omega) (by omega) dX4_strays_29 60 (by decide) 32 rfl (fun c8 => ?_) (fun c8 => ?_)
        · refine fo_iconst C dX4_strays_60 (nI 1) ki_1 61 rfl ?_
          refine fo_aload_n C dX4_strays_61 3 rfl rfl 62 rfl ?_
          refine fo_aload_n C dX4_strays_62 3 rfl rfl 63 rfl ?_
          refine fo_get C dX4_strays_63 fK6 hk (by decide) 3 (by decide) fl_X4_18 (v := .ref (Λ.2.2.1 (s + 3))) rfl 66 rfl ?_
          refine fo_iconst C dX4_strays_66 (nI 0) ki_0 67 rfl ?_
          refine fo_iconst C dX4_strays_67 (nI 5) ki_5 68 rfl ?_
          refine fo_qvi C dX4_strays_68 (mX4_medianOf_x (f := fun k => fo_ds2 (v (day - 5 + k)) (fp_med (fun k => v (day - 5 + k)) 5)) (c := 5) (by omega) (by omega) hk (fun o ho => hY o (by omega)) (fun o ho => fo_ds2_le (hb _ (by omega)) qm)) lv_X4_48 hk rfl (by decide) rfl ⟨Nat.le_of_ble_eq_true rfl, Nat.le_of_ble_eq_true rfl⟩ ⟨Nat.le_of_ble_eq_true rfl, Nat.le_of_ble_eq_true rfl⟩ [.int (nI 1)] rfl (Nat.le_of_ble_eq_true rfl) 71 rfl (fo_es (fun X13 => ?_))
          have qd : fp_med (fun k => fo_ds2 (v (day - 5 + k)) (fp_med (fun k => v (day - 5 + k)) 5)) 5 ≤ 999 := fp_med_le (fun k hk => fo_ds2_le (hb _ (by omega)) qm)
          refine fo_max C dX4_strays_71 lm_X4_40 ⟨Nat.le_of_ble_eq_true rfl, Nat.le_of_ble_eq_true rfl⟩ ⟨Nat.zero_le _, Nat.zero_le _⟩ (nI (max 1 (fp_med (fun k => fo_ds2 (v (day - 5 + k)) (fp_med (fun k => v (day - 5 + k)) 5)) 5))) (fo_nmax (by omega) (by omega)) 74 rfl ?_
          refine fo_istore C dX4_strays_74 [(5, .int (nI (max 1 (fp_med (fun k => fo_ds2 (v (day - 5 + k)) (fp_med (fun k => v (day - 5 + k)) 5)) 5)))), (4, .int (nI (fp_med (fun k => v (day - 5 + k)) 5))), (3, .int (nI (day - 5))), (0, .ref (Λ.2.2.1 s)), (1, .int (nI day)), (2, .int (nI lim))] rfl (by decide) 76 rfl ?_
          refine fo_aload_n C dX4_strays_76 3 rfl rfl 77 rfl ?_
          refine fo_get C dX4_strays_77 fK6 hk (by decide) 0 (by decide) fl_X4_9 (v := .ref (Λ.2.2.1 (s + 1))) rfl 80 rfl ?_
          refine fo_iload_n C dX4_strays_80 4 rfl rfl 81 rfl ?_
          have q15 := hb (day) (by omega)
          refine fo_iald C dX4_strays_81 (fo_S1k hk) (by rw [fo_S1n hk]; omega) (nI (v day)) (hv _ (by omega)) 82 rfl ?_
          refine fo_iload C dX4_strays_82 1 rfl 84 rfl ?_
          refine fo_isub C dX4_strays_84 _ rfl 85 rfl ?_
          refine fo_abs C dX4_strays_85 lm_X4_52 ⟨Nat.le_of_ble_eq_true rfl, Nat.le_of_ble_eq_true rfl⟩ ⟨Nat.zero_le _, Nat.zero_le _⟩ (nI (fo_ds2 (v day) (fp_med (fun k => v (day - 5 + k)) 5))) (fo_nabs (by omega) (by omega)) 88 rfl ?_
          refine fo_iload_n C dX4_strays_88 5 rfl rfl 89 rfl ?_
          refine fo_iload C dX4_strays_89 0 rfl 91 rfl ?_
          refine fo_imul C dX4_strays_91 (nI (lim * (max 1 (fp_med (fun k => fo_ds2 (v (day - 5 + k)) (fp_med (fun k => v (day - 5 + k)) 5)) 5)))) (pk_mul _ _) 92 rfl ?_
          have q8 : lim * (max 1 (fp_med (fun k => fo_ds2 (v (day - 5 + k)) (fp_med (fun k => v (day - 5 + k)) 5)) 5)) ≤ 9 * 999 := Nat.mul_le_mul (by omega) (by omega)
          have q9 := fo_ds2_le (hb day (by omega)) qm
          refine fo_ncmp_le C (by omega) (by omega) dX4_strays_92 99 (by decide) 95 rfl (fun c16 => ?_) (fun c16 => ?_)
          · refine fo_iconst C dX4_strays_99 (nI 0) ki_0 100 rfl ?_
            exact fin dX4_strays_100 (by first | rfl | exact fo_nb _) (⟨fo_b0 (by unfold fp_off; rw [if_neg (by omega)]; exact decide_eq_false (Nat.not_lt.mpr (by assumption))), rfl, rfl, rfl⟩)
          · refine fo_iconst C dX4_strays_95 (nI 1) ki_1 96 rfl ?_
            refine fo_goto C dX4_strays_96 100 (by decide) ?_
            exact fin dX4_strays_100 (by first | rfl | exact fo_nb _) (⟨fo_b1 (by unfold fp_off; rw [if_neg (by omega)]; exact decide_eq_true (by assumption)), rfl, rfl, rfl⟩)
        · refine fo_aload_n C dX4_strays_32 3 rfl rfl 33 rfl ?_
          refine fo_get C dX4_strays_33 fK6 hk (by decide) 3 (by decide) fl_X4_18 (v := .ref (Λ.2.2.1 (s + 3))) rfl 36 rfl ?_
          refine fo_iload C dX4_strays_36 0 rfl 38 rfl ?_
          refine fo_aload_n C dX4_strays_38 3 rfl rfl 39 rfl ?_
          refine fo_get C dX4_strays_39 fK6 hk (by decide) 0 (by decide) fl_X4_9 (v := .ref (Λ.2.2.1 (s + 1))) rfl 42 rfl ?_
          refine fo_iload_n C dX4_strays_42 2 rfl rfl 43 rfl ?_
          refine fo_iload C dX4_strays_43 0 rfl 45 rfl ?_
          refine fo_iadd C dX4_strays_45 (nI ((day - 5) + i)) (nI_add _ _) 46 rfl ?_
          have q17 := hb ((day - 5) + i) (by omega)
          refine fo_iald C dX4_strays_46 (fo_S1k hk) (by rw [fo_S1n hk]; omega) (nI (v ((day - 5) + i))) (hv _ (by omega)) 47 rfl ?_
          refine fo_iload C dX4_strays_47 1 rfl 49 rfl ?_
          refine fo_isub C dX4_strays_49 _ rfl 50 rfl ?_
          refine fo_abs C dX4_strays_50 lm_X4_52 ⟨Nat.le_of_ble_eq_true rfl, Nat.le_of_ble_eq_true rfl⟩ ⟨Nat.zero_le _, Nat.zero_le _⟩ (nI (fo_ds2 (v ((day - 5) + i)) (fp_med (fun k => v (day - 5 + k)) 5))) (fo_nabs (by omega) (by omega)) 53 rfl ?_
          refine fo_xast C dX4_strays_53 (fo_S3k hk) (by rw [fo_S3n hk]; omega) 54 rfl ?_
          refine fo_iinc C dX4_strays_54 0 rfl (nI (i + 1)) (nI_inc1 _) [(5, .int (nI (i + 1))), (4, .int (nI (fp_med (fun k => v (day - 5 + k)) 5))), (3, .int (nI (day - 5))), (0, .ref (Λ.2.2.1 s)), (1, .int (nI day)), (2, .int (nI lim))] rfl (by decide) 57 rfl ?_
          refine fo_goto C dX4_strays_57 26 (by decide) ?_
          exact ih26 (i + 1) (fo_r Y (s + 3) (upd (Y (s + 3)) (i) (nI (fo_ds2 (v ((day - 5) + i)) (fp_med (fun k => v (day - 5 + k)) 5))))) (by omega) (by omega) (fun o ho => by rw [fo_rs]; by_cases e1 : o = i; (rw [e1, pk_us]); (rw [pk_un e1]; exact hY o (by omega)))
    exact hL26 (6 + 1) 0 (X6) (by omega) (by omega) (fun o h => absurd h (Nat.not_lt_zero _))
  · refine fo_iconst C dX4_strays_5 (nI 0) ki_0 6 rfl ?_
    exact fin dX4_strays_6 (by first | rfl | exact fo_nb _) (⟨fo_b0 (by unfold fp_off; rw [if_pos (by omega)]), rfl, rfl, rfl⟩)
set_option maxRecDepth 10000 in
set_option maxHeartbeats 4000000 in
theorem mX4_countStrays {l : Launch} {Λ : fo_Lt} {I : fo_Mi} {D : fo_Md} {J : fo_Mj} {X : fo_Mi} {s n : Nat} {v : Nat → Nat} {lim : Nat} (hlim : lim ≤ 9) (hs : fs_S I s n v) : fk_i l yX4_countStrays cX4_countStrays 4 .int 2 65 Λ [.ref (Λ.2.2.1 s), .int (nI lim)] I D J X (fo_ps (nI (fp_cnt (fp_off v lim) n)) I D J) := by
  obtain ⟨hk, hc, hn, hv, hb⟩ := id hs
  refine fo_si (by decide) [(0, .ref (Λ.2.2.1 s)), (1, .int (nI lim))] rfl (Nat.le_of_ble_eq_true rfl) (fun K C fin => ?_)
  refine fo_iconst C dX4_countStrays_0 (nI 0) ki_0 1 rfl ?_
  refine fo_istore_n C dX4_countStrays_1 rfl [(2, .int (nI 0)), (0, .ref (Λ.2.2.1 s)), (1, .int (nI lim))] rfl (by decide) 2 rfl ?_
  refine fo_iconst C dX4_countStrays_2 (nI 0) ki_0 3 rfl ?_
  refine fo_istore_n C dX4_countStrays_3 rfl [(3, .int (nI 0)), (2, .int (nI 0)), (0, .ref (Λ.2.2.1 s)), (1, .int (nI lim))] rfl (by decide) 4 rfl ?_
  have hL4 : ∀ (m4 : Nat) (j : Nat) (Y : fo_Mi), n + 1 - j < m4 → j ≤ n → fo_G l Λ { frames := 2, cells := 0, slots := 0, locals := 65 } K 0 0 4 [(3, .int (nI j)), (2, .int (nI (fp_cnt (fp_off v lim) j))), (0, .ref (Λ.2.2.1 s)), (1, .int (nI lim))] [] I D J Y := by
    intro m4
    induction m4 with
    | zero => intro j Y hm; exact absurd hm (Nat.not_lt_zero _)
    | succ m4 ih4 =>
      intro j Y hm4 hj
      have qa := fp_cnt_le (fp_off v lim) j
      refine fo_iload_n C dX4_countStrays_4 0 rfl rfl 5 rfl ?_
      refine fo_aload_n C dX4_countStrays_5 2 rfl rfl 6 rfl ?_
      refine fo_get C dX4_countStrays_6 fK6 hk (by decide) 1 (by decide) fl_X4_30 (v := .int (nI n)) (congrArg (fun x => some (Value.int x)) (hc)) 9 rfl ?_
      refine fo_ncmp_ge C (by omega) (by omega) dX4_countStrays_9 30 (by decide) 12 rfl (fun c1 => ?_) (fun c1 => ?_)
      · refine fo_iload_n C dX4_countStrays_30 1 rfl rfl 31 rfl ?_
        exact fin dX4_countStrays_31 rfl (⟨by rw [show n = j by omega], rfl, rfl, rfl⟩)
      · refine fo_aload_n C dX4_countStrays_12 2 rfl rfl 13 rfl ?_
        refine fo_iload_n C dX4_countStrays_13 0 rfl rfl 14 rfl ?_
        refine fo_iload_n C dX4_countStrays_14 3 rfl rfl 15 rfl ?_
        refine fo_qvi C dX4_countStrays_15 (mX4_strays (day := j) (lim := lim) (by omega) (by omega) hs) lv_X4_56 hk rfl (by decide) rfl ⟨Nat.le_of_ble_eq_true rfl, Nat.le_of_ble_eq_true rfl⟩ ⟨Nat.le_of_ble_eq_true rfl, Nat.le_of_ble_eq_true rfl⟩ [] rfl (Nat.le_of_ble_eq_true rfl) 18 rfl (fo_es (fun X6 => ?_))
        refine fo_bif_eq C dX4_countStrays_18 24 (by decide) 21 rfl (fun c8 => ?_) (fun c8 => ?_)
        · have e9 : fp_cnt (fp_off v lim) j = fp_cnt (fp_off v lim) (j + 1) := by simp [fp_cnt, *]
          rw [e9]
          refine fo_iinc C dX4_countStrays_24 0 rfl (nI (j + 1)) (nI_inc1 _) [(3, .int (nI (j + 1))), (2, .int (nI (fp_cnt (fp_off v lim) (j + 1)))), (0, .ref (Λ.2.2.1 s)), (1, .int (nI lim))] rfl (by decide) 27 rfl ?_
          refine fo_goto C dX4_countStrays_27 4 (by decide) ?_
          exact ih4 (j + 1) (X6) (by omega) (by omega)
        · refine fo_iinc C dX4_countStrays_21 1 rfl (nI (fp_cnt (fp_off v lim) j + 1)) (nI_inc1 _) [(2, .int (nI (fp_cnt (fp_off v lim) j + 1))), (3, .int (nI j)), (0, .ref (Λ.2.2.1 s)), (1, .int (nI lim))] rfl (by decide) 24 rfl ?_
          have e9 : fp_cnt (fp_off v lim) j + 1 = fp_cnt (fp_off v lim) (j + 1) := by simp [fp_cnt, *]
          rw [e9]
          refine fo_iinc C dX4_countStrays_24 1 rfl (nI (j + 1)) (nI_inc1 _) [(3, .int (nI (j + 1))), (2, .int (nI (fp_cnt (fp_off v lim) (j + 1)))), (0, .ref (Λ.2.2.1 s)), (1, .int (nI lim))] rfl (by decide) 27 rfl ?_
          refine fo_goto C dX4_countStrays_27 4 (by decide) ?_
          exact ih4 (j + 1) (X6) (by omega) (by omega)
  exact hL4 (n + 1 + 1) 0 (X) (by omega) (by omega)
set_option maxRecDepth 10000 in
set_option maxHeartbeats 4000000 in
theorem mX4_longestClimb {l : Launch} {Λ : fo_Lt} {I : fo_Mi} {D : fo_Md} {J : fo_Mj} {X : fo_Mi} {s n : Nat} {v : Nat → Nat} (hs : fs_S I s n v) : fk_i l yX4_longestClimb cX4_longestClimb 4 .int 1 40 Λ [.ref (Λ.2.2.1 s)] I D J X (fo_pr (nI (fp_best v n)) I D J X) := by
  obtain ⟨hk, hc, hn, hv, hb⟩ := hs
  refine fo_si (by decide) [(0, .ref (Λ.2.2.1 s))] rfl (Nat.le_of_ble_eq_true rfl) (fun K C fin => ?_)
  refine fo_iconst C dX4_longestClimb_0 (nI 0) ki_0 1 rfl ?_
  refine fo_istore_n C dX4_longestClimb_1 rfl [(1, .int (nI 0)), (0, .ref (Λ.2.2.1 s))] rfl (by decide) 2 rfl ?_
  refine fo_iconst C dX4_longestClimb_2 (nI 0) ki_0 3 rfl ?_
  refine fo_istore_n C dX4_longestClimb_3 rfl [(2, .int (nI 0)), (1, .int (nI 0)), (0, .ref (Λ.2.2.1 s))] rfl (by decide) 4 rfl ?_
  refine fo_iconst C dX4_longestClimb_4 (nI 0) ki_0 5 rfl ?_
  refine fo_istore_n C dX4_longestClimb_5 rfl [(3, .int (nI 0)), (2, .int (nI 0)), (1, .int (nI 0)), (0, .ref (Λ.2.2.1 s))] rfl (by decide) 6 rfl ?_
  have hL6 : ∀ (m6 : Nat) (j : Nat), n + 1 - j < m6 → j ≤ n → fo_G l Λ { frames := 1, cells := 0, slots := 0, locals := 40 } K 0 0 6 [(3, .int (nI j)), (2, .int (nI (fp_run v j))), (1, .int (nI (fp_best v j))), (0, .ref (Λ.2.2.1 s))] [] I D J X := by
    intro m6
    induction m6 with
    | zero => intro j hm; exact absurd hm (Nat.not_lt_zero _)
    | succ m6 ih6 =>
      intro j hm6 hj
      have qa := fp_run_le v j
      have qb := fp_best_le v j
      refine fo_iload_n C dX4_longestClimb_6 0 rfl rfl 7 rfl ?_
      refine fo_aload_n C dX4_longestClimb_7 3 rfl rfl 8 rfl ?_
      refine fo_get C dX4_longestClimb_8 fK6 hk (by decide) 1 (by decide) fl_X4_30 (v := .int (nI n)) (congrArg (fun x => some (Value.int x)) (hc)) 11 rfl ?_
      refine fo_ncmp_ge C (by omega) (by omega) dX4_longestClimb_11 55 (by decide) 14 rfl (fun c1 => ?_) (fun c1 => ?_)
      · refine fo_iload_n C dX4_longestClimb_55 2 rfl rfl 56 rfl ?_
        exact fin dX4_longestClimb_56 rfl (⟨by rw [show n = j by omega], rfl, rfl, rfl, rfl⟩)
      · refine fo_iload_n C dX4_longestClimb_14 0 rfl rfl 15 rfl ?_
        refine fo_nif_le C (by omega) dX4_longestClimb_15 41 (by decide) 18 rfl (fun c2 => ?_) (fun c2 => ?_)
        · refine fo_iconst C dX4_longestClimb_41 (nI 1) ki_1 42 rfl ?_
          refine fo_ti (b := nI (fp_run v (j + 1))) (congrArg nI (by rw [fp_run]; first | rw [if_pos (by omega)] | rw [if_neg (by omega)])) ?_
          have qc := fp_run_le v (j + 1)
          refine fo_istore_n C dX4_longestClimb_42 rfl [(2, .int (nI (fp_run v (j + 1)))), (3, .int (nI j)), (1, .int (nI (fp_best v j))), (0, .ref (Λ.2.2.1 s))] rfl (by decide) 43 rfl ?_
          refine fo_iload_n C dX4_longestClimb_43 2 rfl rfl 44 rfl ?_
          refine fo_iload_n C dX4_longestClimb_44 0 rfl rfl 45 rfl ?_
          refine fo_max C dX4_longestClimb_45 lm_X4_40 ⟨Nat.le_of_ble_eq_true rfl, Nat.le_of_ble_eq_true rfl⟩ ⟨Nat.zero_le _, Nat.zero_le _⟩ (nI (max (fp_best v j) (fp_run v (j + 1)))) (fo_nmax (by omega) (by omega)) 48 rfl ?_
          refine fo_istore_n C dX4_longestClimb_48 rfl [(1, .int (nI (max (fp_best v j) (fp_run v (j + 1))))), (2, .int (nI (fp_run v (j + 1)))), (3, .int (nI j)), (0, .ref (Λ.2.2.1 s))] rfl (by decide) 49 rfl ?_
          refine fo_iinc C dX4_longestClimb_49 2 rfl (nI (j + 1)) (nI_inc1 _) [(3, .int (nI (j + 1))), (1, .int (nI (max (fp_best v j) (fp_run v (j + 1))))), (2, .int (nI (fp_run v (j + 1)))), (0, .ref (Λ.2.2.1 s))] rfl (by decide) 52 rfl ?_
          refine fo_goto C dX4_longestClimb_52 6 (by decide) ?_
          refine fo_sub C [0, 2, 1, 3] (lv' := [(3, .int (nI (j + 1))), (2, .int (nI (fp_run v (j + 1)))), (1, .int (nI (max (fp_best v j) (fp_run v (j + 1))))), (0, .ref (Λ.2.2.1 s))]) rfl ?_
          exact ih6 (j + 1) (by omega) (by omega)
        · refine fo_aload_n C dX4_longestClimb_18 3 rfl rfl 19 rfl ?_
          refine fo_get C dX4_longestClimb_19 fK6 hk (by decide) 0 (by decide) fl_X4_9 (v := .ref (Λ.2.2.1 (s + 1))) rfl 22 rfl ?_
          refine fo_iload_n C dX4_longestClimb_22 0 rfl rfl 23 rfl ?_
          have q3 := hb (j) (by omega)
          refine fo_iald C dX4_longestClimb_23 (fo_S1k hk) (by rw [fo_S1n hk]; omega) (nI (v j)) (hv _ (by omega)) 24 rfl ?_
          refine fo_aload_n C dX4_longestClimb_24 3 rfl rfl 25 rfl ?_
          refine fo_get C dX4_longestClimb_25 fK6 hk (by decide) 0 (by decide) fl_X4_9 (v := .ref (Λ.2.2.1 (s + 1))) rfl 28 rfl ?_
          refine fo_iload_n C dX4_longestClimb_28 0 rfl rfl 29 rfl ?_
          refine fo_iconst C dX4_longestClimb_29 (nI 1) ki_1 30 rfl ?_
          refine fo_isub C dX4_longestClimb_30 (nI (j - 1)) (pk_sub (by omega)) 31 rfl ?_
          have q4 := hb (j - 1) (by omega)
          refine fo_iald C dX4_longestClimb_31 (fo_S1k hk) (by rw [fo_S1n hk]; omega) (nI (v (j - 1))) (hv _ (by omega)) 32 rfl ?_
          refine fo_ncmp_le C (by omega) (by omega) dX4_longestClimb_32 41 (by decide) 35 rfl (fun c5 => ?_) (fun c5 => ?_)
          · refine fo_iconst C dX4_longestClimb_41 (nI 1) ki_1 42 rfl ?_
            refine fo_ti (b := nI (fp_run v (j + 1))) (congrArg nI (by rw [fp_run]; first | rw [if_pos (by omega)] | rw [if_neg (by omega)])) ?_
            have qc := fp_run_le v (j + 1)
            refine fo_istore_n C dX4_longestClimb_42 rfl [(2, .int (nI (fp_run v (j + 1)))), (3, .int (nI j)), (1, .int (nI (fp_best v j))), (0, .ref (Λ.2.2.1 s))] rfl (by decide) 43 rfl ?_
            refine fo_iload_n C dX4_longestClimb_43 2 rfl rfl 44 rfl ?_
            refine fo_iload_n C dX4_longestClimb_44 0 rfl rfl 45 rfl ?_
            refine fo_max C dX4_longestClimb_45 lm_X4_40 ⟨Nat.le_of_ble_eq_true rfl, Nat.le_of_ble_eq_true rfl⟩ ⟨Nat.zero_le _, Nat.zero_le _⟩ (nI (max (fp_best v j) (fp_run v (j + 1)))) (fo_nmax (by omega) (by omega)) 48 rfl ?_
            refine fo_istore_n C dX4_longestClimb_48 rfl [(1, .int (nI (max (fp_best v j) (fp_run v (j + 1))))), (2, .int (nI (fp_run v (j + 1)))), (3, .int (nI j)), (0, .ref (Λ.2.2.1 s))] rfl (by decide) 49 rfl ?_
            refine fo_iinc C dX4_longestClimb_49 2 rfl (nI (j + 1)) (nI_inc1 _) [(3, .int (nI (j + 1))), (1, .int (nI (max (fp_best v j) (fp_run v (j + 1))))), (2, .int (nI (fp_run v (j + 1)))), (0, .ref (Λ.2.2.1 s))] rfl (by decide) 52 rfl ?_
            refine fo_goto C dX4_longestClimb_52 6 (by decide) ?_
            refine fo_sub C [0, 2, 1, 3] (lv' := [(3, .int (nI (j + 1))), (2, .int (nI (fp_run v (j + 1)))), (1, .int (nI (max (fp_best v j) (fp_run v (j + 1))))), (0, .ref (Λ.2.2.1 s))]) rfl ?_
            exact ih6 (j + 1) (by omega) (by omega)
          · refine fo_iload_n C dX4_longestClimb_35 1 rfl rfl 36 rfl ?_
            refine fo_iconst C dX4_longestClimb_36 (nI 1) ki_1 37 rfl ?_
            refine fo_iadd C dX4_longestClimb_37 (nI ((fp_run v j) + 1)) (nI_add _ _) 38 rfl ?_
            refine fo_goto C dX4_longestClimb_38 42 (by decide) ?_
            refine fo_ti (b := nI (fp_run v (j + 1))) (congrArg nI (by rw [fp_run]; first | rw [if_pos (by omega)] | rw [if_neg (by omega)])) ?_
            have qc := fp_run_le v (j + 1)
            refine fo_istore_n C dX4_longestClimb_42 rfl [(2, .int (nI (fp_run v (j + 1)))), (3, .int (nI j)), (1, .int (nI (fp_best v j))), (0, .ref (Λ.2.2.1 s))] rfl (by decide) 43 rfl ?_
            refine fo_iload_n C dX4_longestClimb_43 2 rfl rfl 44 rfl ?_
            refine fo_iload_n C dX4_longestClimb_44 0 rfl rfl 45 rfl ?_
            refine fo_max C dX4_longestClimb_45 lm_X4_40 ⟨Nat.le_of_ble_eq_true rfl, Nat.le_of_ble_eq_true rfl⟩ ⟨Nat.zero_le _, Nat.zero_le _⟩ (nI (max (fp_best v j) (fp_run v (j + 1)))) (fo_nmax (by omega) (by omega)) 48 rfl ?_
            refine fo_istore_n C dX4_longestClimb_48 rfl [(1, .int (nI (max (fp_best v j) (fp_run v (j + 1))))), (2, .int (nI (fp_run v (j + 1)))), (3, .int (nI j)), (0, .ref (Λ.2.2.1 s))] rfl (by decide) 49 rfl ?_
            refine fo_iinc C dX4_longestClimb_49 2 rfl (nI (j + 1)) (nI_inc1 _) [(3, .int (nI (j + 1))), (1, .int (nI (max (fp_best v j) (fp_run v (j + 1))))), (2, .int (nI (fp_run v (j + 1)))), (0, .ref (Λ.2.2.1 s))] rfl (by decide) 52 rfl ?_
            refine fo_goto C dX4_longestClimb_52 6 (by decide) ?_
            refine fo_sub C [0, 2, 1, 3] (lv' := [(3, .int (nI (j + 1))), (2, .int (nI (fp_run v (j + 1)))), (1, .int (nI (max (fp_best v j) (fp_run v (j + 1))))), (0, .ref (Λ.2.2.1 s))]) rfl ?_
            exact ih6 (j + 1) (by omega) (by omega)
  exact hL6 (n + 1 + 1) 0 (by omega) (by omega)
set_option maxRecDepth 10000 in
set_option maxHeartbeats 4000000 in
theorem mX4_countBetween {l : Launch} {Λ : fo_Lt} {I : fo_Mi} {D : fo_Md} {J : fo_Mj} {X : fo_Mi} {s n : Nat} {v : Nat → Nat} {x z : Int32} (hs : fs_S I s n v) : fk_i l yX4_countBetween cX4_countBetween 5 .int 0 0 Λ [.ref (Λ.2.2.1 s), .int (x), .int (z)] I D J X (fo_pr (nI (fp_cnt (fun o => decide (¬ nI (v o) < x ∧ ¬ z < nI (v o))) n)) I D J X) := by
  obtain ⟨hk, hc, hn, hv, hb⟩ := hs
  refine fo_si (by decide) [(0, .ref (Λ.2.2.1 s)), (1, .int (x)), (2, .int (z))] rfl (Nat.le_of_ble_eq_true rfl) (fun K C fin => ?_)
  refine fo_iconst C dX4_countBetween_0 (nI 0) ki_0 1 rfl ?_
  refine fo_istore_n C dX4_countBetween_1 rfl [(3, .int (nI 0)), (0, .ref (Λ.2.2.1 s)), (1, .int (x)), (2, .int (z))] rfl (by decide) 2 rfl ?_
  refine fo_iconst C dX4_countBetween_2 (nI 0) ki_0 3 rfl ?_
  refine fo_istore C dX4_countBetween_3 [(4, .int (nI 0)), (3, .int (nI 0)), (0, .ref (Λ.2.2.1 s)), (1, .int (x)), (2, .int (z))] rfl (by decide) 5 rfl ?_
  have hL5 : ∀ (m5 : Nat) (j : Nat), n + 1 - j < m5 → j ≤ n → fo_G l Λ { frames := 0, cells := 0, slots := 0, locals := 0 } K 0 0 5 [(4, .int (nI j)), (3, .int (nI (fp_cnt (fun o => decide (¬ nI (v o) < x ∧ ¬ z < nI (v o))) j))), (0, .ref (Λ.2.2.1 s)), (1, .int (x)), (2, .int (z))] [] I D J X := by
    intro m5
    induction m5 with
    | zero => intro j hm; exact absurd hm (Nat.not_lt_zero _)
    | succ m5 ih5 =>
      intro j hm5 hj
      have qa := fp_cnt_le (fun o => decide (¬ nI (v o) < x ∧ ¬ z < nI (v o))) j
      refine fo_iload C dX4_countBetween_5 0 rfl 7 rfl ?_
      refine fo_aload_n C dX4_countBetween_7 2 rfl rfl 8 rfl ?_
      refine fo_get C dX4_countBetween_8 fK6 hk (by decide) 1 (by decide) fl_X4_30 (v := .int (nI n)) (congrArg (fun x => some (Value.int x)) (hc)) 11 rfl ?_
      refine fo_ncmp_ge C (by omega) (by omega) dX4_countBetween_11 45 (by decide) 14 rfl (fun c1 => ?_) (fun c1 => ?_)
      · refine fo_iload_n C dX4_countBetween_45 1 rfl rfl 46 rfl ?_
        exact fin dX4_countBetween_46 rfl (⟨by rw [show n = j by omega], rfl, rfl, rfl, rfl⟩)
      · refine fo_aload_n C dX4_countBetween_14 2 rfl rfl 15 rfl ?_
        refine fo_get C dX4_countBetween_15 fK6 hk (by decide) 0 (by decide) fl_X4_9 (v := .ref (Λ.2.2.1 (s + 1))) rfl 18 rfl ?_
        refine fo_iload C dX4_countBetween_18 0 rfl 20 rfl ?_
        have q2 := hb (j) (by omega)
        refine fo_iald C dX4_countBetween_20 (fo_S1k hk) (by rw [fo_S1n hk]; omega) (nI (v j)) (hv _ (by omega)) 21 rfl ?_
        refine fo_iload_n C dX4_countBetween_21 3 rfl rfl 22 rfl ?_
        refine fo_icmp_lt C dX4_countBetween_22 39 (by decide) 25 rfl (fun c3 => ?_) (fun c3 => ?_)
        · have e9 : fp_cnt (fun o => decide (¬ nI (v o) < x ∧ ¬ z < nI (v o))) j = fp_cnt (fun o => decide (¬ nI (v o) < x ∧ ¬ z < nI (v o))) (j + 1) := by simp [fp_cnt, *]
          rw [e9]
          refine fo_iinc C dX4_countBetween_39 0 rfl (nI (j + 1)) (nI_inc1 _) [(4, .int (nI (j + 1))), (3, .int (nI (fp_cnt (fun o => decide (¬ nI (v o) < x ∧ ¬ z < nI (v o))) (j + 1)))), (0, .ref (Λ.2.2.1 s)), (1, .int (x)), (2, .int (z))] rfl (by decide) 42 rfl ?_
          refine fo_goto C dX4_countBetween_42 5 (by decide) ?_
          exact ih5 (j + 1) (by omega) (by omega)
        · refine fo_aload_n C dX4_countBetween_25 2 rfl rfl 26 rfl ?_
          refine fo_get C dX4_countBetween_26 fK6 hk (by decide) 0 (by decide) fl_X4_9 (v := .ref (Λ.2.2.1 (s + 1))) rfl 29 rfl ?_
          refine fo_iload C dX4_countBetween_29 0 rfl 31 rfl ?_
          have q4 := hb (j) (by omega)
          refine fo_iald C dX4_countBetween_31 (fo_S1k hk) (by rw [fo_S1n hk]; omega) (nI (v j)) (hv _ (by omega)) 32 rfl ?_
          refine fo_iload_n C dX4_countBetween_32 4 rfl rfl 33 rfl ?_
          refine fo_icmp_gt C dX4_countBetween_33 39 (by decide) 36 rfl (fun c5 => ?_) (fun c5 => ?_)
          · have e9 : fp_cnt (fun o => decide (¬ nI (v o) < x ∧ ¬ z < nI (v o))) j = fp_cnt (fun o => decide (¬ nI (v o) < x ∧ ¬ z < nI (v o))) (j + 1) := by simp [fp_cnt, *]
            rw [e9]
            refine fo_iinc C dX4_countBetween_39 0 rfl (nI (j + 1)) (nI_inc1 _) [(4, .int (nI (j + 1))), (3, .int (nI (fp_cnt (fun o => decide (¬ nI (v o) < x ∧ ¬ z < nI (v o))) (j + 1)))), (0, .ref (Λ.2.2.1 s)), (1, .int (x)), (2, .int (z))] rfl (by decide) 42 rfl ?_
            refine fo_goto C dX4_countBetween_42 5 (by decide) ?_
            exact ih5 (j + 1) (by omega) (by omega)
          · refine fo_iinc C dX4_countBetween_36 1 rfl (nI (fp_cnt (fun o => decide (¬ nI (v o) < x ∧ ¬ z < nI (v o))) j + 1)) (nI_inc1 _) [(3, .int (nI (fp_cnt (fun o => decide (¬ nI (v o) < x ∧ ¬ z < nI (v o))) j + 1))), (4, .int (nI j)), (0, .ref (Λ.2.2.1 s)), (1, .int (x)), (2, .int (z))] rfl (by decide) 39 rfl ?_
            have e9 : fp_cnt (fun o => decide (¬ nI (v o) < x ∧ ¬ z < nI (v o))) j + 1 = fp_cnt (fun o => decide (¬ nI (v o) < x ∧ ¬ z < nI (v o))) (j + 1) := by simp [fp_cnt, *]
            rw [e9]
            refine fo_iinc C dX4_countBetween_39 1 rfl (nI (j + 1)) (nI_inc1 _) [(4, .int (nI (j + 1))), (3, .int (nI (fp_cnt (fun o => decide (¬ nI (v o) < x ∧ ¬ z < nI (v o))) (j + 1)))), (0, .ref (Λ.2.2.1 s)), (1, .int (x)), (2, .int (z))] rfl (by decide) 42 rfl ?_
            refine fo_goto C dX4_countBetween_42 5 (by decide) ?_
            exact ih5 (j + 1) (by omega) (by omega)
  exact hL5 (n + 1 + 1) 0 (by omega) (by omega)
set_option maxRecDepth 10000 in
set_option maxHeartbeats 4000000 in
theorem mX4_isSound {l : Launch} {Λ : fo_Lt} {I : fo_Mi} {D : fo_Md} {J : fo_Mj} {X : fo_Mi} {s n : Nat} {v : Nat → Nat} (hs : fs_S I s n v) : fk_i l yX4_isSound cX4_isSound 1 .boolean 1 24 Λ [.ref (Λ.2.2.1 s)] I D J X (fo_pr (fo_b true) I D J X) := by
  obtain ⟨hk, hc, hn, hv, hb⟩ := id hs
  refine fo_si (by decide) [(0, .ref (Λ.2.2.1 s))] rfl (Nat.le_of_ble_eq_true rfl) (fun K C fin => ?_)
  refine fo_aload_n C dX4_isSound_0 0 rfl rfl 1 rfl ?_
  refine fo_get C dX4_isSound_1 fK6 hk (by decide) 1 (by decide) fl_X4_30 (v := .int (nI n)) (congrArg (fun x => some (Value.int x)) (hc)) 4 rfl ?_
  refine fo_nif_lt C (by omega) dX4_isSound_4 7 rfl 16 (by decide) ?_
  refine fo_aload_n C dX4_isSound_7 0 rfl rfl 8 rfl ?_
  refine fo_get C dX4_isSound_8 fK6 hk (by decide) 1 (by decide) fl_X4_30 (v := .int (nI n)) (congrArg (fun x => some (Value.int x)) (hc)) 11 rfl ?_
  refine fo_bipush C dX4_isSound_11 (nI 30) kb_30 13 rfl ?_
  refine fo_ncmp_le C (by omega) (by omega) dX4_isSound_13 18 (by decide) 16 rfl (fun c1 => ?_) (fun c1 => ?_)
  · refine fo_aload_n C dX4_isSound_18 0 rfl rfl 19 rfl ?_
    refine fo_iconst C dX4_isSound_19 (nI 0) ki_0 20 rfl ?_
    refine fo_sipush C dX4_isSound_20 (nI 999) ks_999 23 rfl ?_
    refine fo_qvi C dX4_isSound_23 (mX4_countBetween (x := nI (0)) (z := nI (999)) hs) lv_X4_60 hk rfl (by decide) rfl ⟨Nat.le_of_ble_eq_true rfl, Nat.le_of_ble_eq_true rfl⟩ ⟨Nat.le_of_ble_eq_true rfl, Nat.le_of_ble_eq_true rfl⟩ [] rfl (Nat.le_of_ble_eq_true rfl) 26 rfl (fo_er ?_)
    rw [fp_cnt_all (n := n) (fun o ho => decide_eq_true (by have := hb o ho; exact ⟨nI_nlt (Nat.zero_le _) (by omega), nI_nlt (by omega) (by omega)⟩))]
    refine fo_aload_n C dX4_isSound_26 0 rfl rfl 27 rfl ?_
    refine fo_get C dX4_isSound_27 fK6 hk (by decide) 1 (by decide) fl_X4_30 (v := .int (nI n)) (congrArg (fun x => some (Value.int x)) (hc)) 30 rfl ?_
    refine fo_ncmp_ne C (by omega) (by omega) dX4_isSound_30 37 (by decide) 33 rfl (fun c8 => ?_) (fun c8 => ?_)
    · exact absurd rfl c8
    · refine fo_iconst C dX4_isSound_33 (nI 1) ki_1 34 rfl ?_
      refine fo_goto C dX4_isSound_34 38 (by decide) ?_
      exact fin dX4_isSound_38 (by first | rfl | exact fo_nb _) (⟨rfl, rfl, rfl, rfl, rfl⟩)
  · omega
set_option maxRecDepth 10000 in
set_option maxHeartbeats 4000000 in
theorem mX4_countedMedian {l : Launch} {Λ : fo_Lt} {I : fo_Mi} {D : fo_Md} {J : fo_Mj} {X : fo_Mi} {s n : Nat} {v : Nat → Nat} {c : Nat} (h1 : 1 ≤ c) (h2 : c ≤ n) (hs : fs_S I s n v) : fk_i l yX4_countedMedian cX4_countedMedian 7 .int 1 24 Λ [.ref (Λ.2.2.1 s), .int (nI c)] I D J X (fo_pr (nI (fp_med (fun o => v (n - c + o)) c)) I D J X) := by
  obtain ⟨hk, hc, hn, hv, hb⟩ := id hs
  refine fo_si (by decide) [(0, .ref (Λ.2.2.1 s)), (1, .int (nI c))] rfl (Nat.le_of_ble_eq_true rfl) (fun K C fin => ?_)
  refine fo_aload_n C dX4_countedMedian_0 0 rfl rfl 1 rfl ?_
  refine fo_get C dX4_countedMedian_1 fK6 hk (by decide) 1 (by decide) fl_X4_30 (v := .int (nI n)) (congrArg (fun x => some (Value.int x)) (hc)) 4 rfl ?_
  refine fo_iload_n C dX4_countedMedian_4 1 rfl rfl 5 rfl ?_
  refine fo_isub C dX4_countedMedian_5 (nI (n - c)) (pk_sub (by omega)) 6 rfl ?_
  refine fo_istore_n C dX4_countedMedian_6 rfl [(2, .int (nI (n - c))), (0, .ref (Λ.2.2.1 s)), (1, .int (nI c))] rfl (by decide) 7 rfl ?_
  refine fo_iload_n C dX4_countedMedian_7 2 rfl rfl 8 rfl ?_
  refine fo_iconst C dX4_countedMedian_8 (nI 1) ki_1 9 rfl ?_
  refine fo_isub C dX4_countedMedian_9 (nI (c - 1)) (pk_sub (by omega)) 10 rfl ?_
  refine fo_iconst C dX4_countedMedian_10 (nI 2) ki_2 11 rfl ?_
  refine fo_idiv C dX4_countedMedian_11 (nI_ne0 (by omega) (by omega)) (nI ((c - 1) / 2)) (pk_div (by omega) (by omega) (by omega)) 12 rfl ?_
  refine fo_istore_n C dX4_countedMedian_12 rfl [(3, .int (nI ((c - 1) / 2))), (2, .int (nI (n - c))), (0, .ref (Λ.2.2.1 s)), (1, .int (nI c))] rfl (by decide) 13 rfl ?_
  refine fo_iload_n C dX4_countedMedian_13 1 rfl rfl 14 rfl ?_
  refine fo_istore C dX4_countedMedian_14 [(4, .int (nI (n - c))), (3, .int (nI ((c - 1) / 2))), (2, .int (nI (n - c))), (0, .ref (Λ.2.2.1 s)), (1, .int (nI c))] rfl (by decide) 16 rfl ?_
  have hL16 : ∀ (m16 : Nat) (k : Nat), c + 1 - k < m16 → k ≤ c → fp_mg (fun o => v (n - c + o)) c ((c - 1) / 2) k (c - k) = fp_med (fun o => v (n - c + o)) c → (∀ o, o < k → fp_hit (fun o => v (n - c + o)) c ((c - 1) / 2) o = false) → fo_G l Λ { frames := 1, cells := 0, slots := 0, locals := 24 } K 0 0 16 [(4, .int (nI (n - c + k))), (3, .int (nI ((c - 1) / 2))), (2, .int (nI (n - c))), (0, .ref (Λ.2.2.1 s)), (1, .int (nI c))] [] I D J X := by
    intro m16
    induction m16 with
    | zero => intro k hm; exact absurd hm (Nat.not_lt_zero _)
    | succ m16 ih16 =>
      intro k hm16 hk1 hM hN
      refine fo_iload C dX4_countedMedian_16 0 rfl 18 rfl ?_
      refine fo_aload_n C dX4_countedMedian_18 3 rfl rfl 19 rfl ?_
      refine fo_get C dX4_countedMedian_19 fK6 hk (by decide) 1 (by decide) fl_X4_30 (v := .int (nI n)) (congrArg (fun x => some (Value.int x)) (hc)) 22 rfl ?_
      refine fo_ncmp_ge C (by omega) (by omega) dX4_countedMedian_22 87 (by decide) 25 rfl (fun c1 => ?_) (fun c1 => ?_)
      · obtain ⟨o, ho, h⟩ := fp_hit_ex (f := (fun o => v (n - c + o))) (B := 999) h1 (fun o ho => hb _ (by omega))
        rw [hN o (by omega)] at h
        cases h
      · refine fo_aload_n C dX4_countedMedian_25 3 rfl rfl 26 rfl ?_
        refine fo_iload_n C dX4_countedMedian_26 2 rfl rfl 27 rfl ?_
        refine fo_aload_n C dX4_countedMedian_27 3 rfl rfl 28 rfl ?_
        refine fo_get C dX4_countedMedian_28 fK6 hk (by decide) 0 (by decide) fl_X4_9 (v := .ref (Λ.2.2.1 (s + 1))) rfl 31 rfl ?_
        refine fo_iload C dX4_countedMedian_31 0 rfl 33 rfl ?_
        have q2 := hb (n - c + k) (by omega)
        refine fo_iald C dX4_countedMedian_33 (fo_S1k hk) (by rw [fo_S1n hk]; omega) (nI (v (n - c + k))) (hv _ (by omega)) 34 rfl ?_
        refine fo_qvi C dX4_countedMedian_34 (mX4_countBelow (a := n - c) (b := v (n - c + k)) (by omega) (by omega) hs) lv_X4_43 hk rfl (by decide) rfl ⟨Nat.le_of_ble_eq_true rfl, Nat.le_of_ble_eq_true rfl⟩ ⟨Nat.le_of_ble_eq_true rfl, Nat.le_of_ble_eq_true rfl⟩ [] rfl (Nat.le_of_ble_eq_true rfl) 37 rfl (fo_er ?_)
        rw [show n - (n - c) = c by omega]
        refine fo_istore C dX4_countedMedian_37 [(5, .int (nI (fp_cnt (fun o => decide (v (n - c + o) < v (n - c + k))) c))), (4, .int (nI (n - c + k))), (3, .int (nI ((c - 1) / 2))), (2, .int (nI (n - c))), (0, .ref (Λ.2.2.1 s)), (1, .int (nI c))] rfl (by decide) 39 rfl ?_
        refine fo_aload_n C dX4_countedMedian_39 4 rfl rfl 40 rfl ?_
        refine fo_iload_n C dX4_countedMedian_40 3 rfl rfl 41 rfl ?_
        refine fo_aload_n C dX4_countedMedian_41 4 rfl rfl 42 rfl ?_
        refine fo_get C dX4_countedMedian_42 fK6 hk (by decide) 0 (by decide) fl_X4_9 (v := .ref (Λ.2.2.1 (s + 1))) rfl 45 rfl ?_
        refine fo_iload C dX4_countedMedian_45 1 rfl 47 rfl ?_
        have q9 := hb (n - c + k) (by omega)
        refine fo_iald C dX4_countedMedian_47 (fo_S1k hk) (by rw [fo_S1n hk]; omega) (nI (v (n - c + k))) (hv _ (by omega)) 48 rfl ?_
        refine fo_iconst C dX4_countedMedian_48 (nI 1) ki_1 49 rfl ?_
        refine fo_iadd C dX4_countedMedian_49 (nI ((v (n - c + k)) + 1)) (nI_add _ _) 50 rfl ?_
        refine fo_qvi C dX4_countedMedian_50 (mX4_countBelow (a := n - c) (b := (v (n - c + k)) + 1) (by omega) (by omega) hs) lv_X4_43 hk rfl (by decide) rfl ⟨Nat.le_of_ble_eq_true rfl, Nat.le_of_ble_eq_true rfl⟩ ⟨Nat.le_of_ble_eq_true rfl, Nat.le_of_ble_eq_true rfl⟩ [] rfl (Nat.le_of_ble_eq_true rfl) 53 rfl (fo_er ?_)
        rw [show n - (n - c) = c by omega]
        refine fo_iload C dX4_countedMedian_53 0 rfl 55 rfl ?_
        have q7 := fp_cnt_mono (p := fun o => decide (v (n - c + o) < v (n - c + k))) (q := fun o => decide (v (n - c + o) < v (n - c + k) + 1)) (n := c) (fun o _ h => by simp at h ⊢; omega)
        have q6 := fp_cnt_le (fun o => decide (v (n - c + o) < v (n - c + k) + 1)) c
        refine fo_isub C dX4_countedMedian_55 (nI ((fp_cnt (fun o => decide (v (n - c + o) < (v (n - c + k)) + 1)) c) - (fp_cnt (fun o => decide (v (n - c + o) < v (n - c + k))) c))) (pk_sub (by omega)) 56 rfl ?_
        refine fo_istore C dX4_countedMedian_56 [(6, .int (nI ((fp_cnt (fun o => decide (v (n - c + o) < (v (n - c + k)) + 1)) c) - (fp_cnt (fun o => decide (v (n - c + o) < v (n - c + k))) c)))), (5, .int (nI (fp_cnt (fun o => decide (v (n - c + o) < v (n - c + k))) c))), (4, .int (nI (n - c + k))), (3, .int (nI ((c - 1) / 2))), (2, .int (nI (n - c))), (0, .ref (Λ.2.2.1 s)), (1, .int (nI c))] rfl (by decide) 58 rfl ?_
        refine fo_iload C dX4_countedMedian_58 1 rfl 60 rfl ?_
        refine fo_iload_n C dX4_countedMedian_60 3 rfl rfl 61 rfl ?_
        refine fo_ncmp_gt C (by omega) (by omega) dX4_countedMedian_61 81 (by decide) 64 rfl (fun c16 => ?_) (fun c16 => ?_)
        · have hH : fp_hit (fun o => v (n - c + o)) c ((c - 1) / 2) k = false := by cases hz : fp_hit (fun o => v (n - c + o)) c ((c - 1) / 2) k with | false => rfl | true => have z := fp_hit_iff.mp hz; omega
          refine fo_iinc C dX4_countedMedian_81 2 rfl (nI (n - c + k + 1)) (nI_inc1 _) [(4, .int (nI (n - c + k + 1))), (6, .int (nI ((fp_cnt (fun o => decide (v (n - c + o) < (v (n - c + k)) + 1)) c) - (fp_cnt (fun o => decide (v (n - c + o) < v (n - c + k))) c)))), (5, .int (nI (fp_cnt (fun o => decide (v (n - c + o) < v (n - c + k))) c))), (3, .int (nI ((c - 1) / 2))), (2, .int (nI (n - c))), (0, .ref (Λ.2.2.1 s)), (1, .int (nI c))] rfl (by decide) 84 rfl ?_
          refine fo_goto C dX4_countedMedian_84 16 (by decide) ?_
          refine fo_sub C [0, 3, 4, 5, 6] (lv' := [(4, .int (nI (n - c + k + 1))), (3, .int (nI ((c - 1) / 2))), (2, .int (nI (n - c))), (0, .ref (Λ.2.2.1 s)), (1, .int (nI c))]) rfl ?_
          exact ih16 (k + 1) (by omega) (by omega) (by rw [← hM, show c - k = (c - (k + 1)) + 1 by omega, fp_mg, if_neg]; rw [hH]; decide) (fun o ho => by by_cases e1 : o = k; (rw [e1]; exact hH); exact hN o (by omega))
        · refine fo_iload_n C dX4_countedMedian_64 3 rfl rfl 65 rfl ?_
          refine fo_iload C dX4_countedMedian_65 1 rfl 67 rfl ?_
          refine fo_iload C dX4_countedMedian_67 0 rfl 69 rfl ?_
          refine fo_iadd C dX4_countedMedian_69 (nI ((fp_cnt (fun o => decide (v (n - c + o) < v (n - c + k))) c) + ((fp_cnt (fun o => decide (v (n - c + o) < (v (n - c + k)) + 1)) c) - (fp_cnt (fun o => decide (v (n - c + o) < v (n - c + k))) c)))) (nI_add _ _) 70 rfl ?_
          refine fo_ncmp_ge C (by omega) (by omega) dX4_countedMedian_70 81 (by decide) 73 rfl (fun c17 => ?_) (fun c17 => ?_)
          · have hH : fp_hit (fun o => v (n - c + o)) c ((c - 1) / 2) k = false := by cases hz : fp_hit (fun o => v (n - c + o)) c ((c - 1) / 2) k with | false => rfl | true => have z := fp_hit_iff.mp hz; omega
            refine fo_iinc C dX4_countedMedian_81 2 rfl (nI (n - c + k + 1)) (nI_inc1 _) [(4, .int (nI (n - c + k + 1))), (6, .int (nI ((fp_cnt (fun o => decide (v (n - c + o) < (v (n - c + k)) + 1)) c) - (fp_cnt (fun o => decide (v (n - c + o) < v (n - c + k))) c)))), (5, .int (nI (fp_cnt (fun o => decide (v (n - c + o) < v (n - c + k))) c))), (3, .int (nI ((c - 1) / 2))), (2, .int (nI (n - c))), (0, .ref (Λ.2.2.1 s)), (1, .int (nI c))] rfl (by decide) 84 rfl ?_
            refine fo_goto C dX4_countedMedian_84 16 (by decide) ?_
            refine fo_sub C [0, 3, 4, 5, 6] (lv' := [(4, .int (nI (n - c + k + 1))), (3, .int (nI ((c - 1) / 2))), (2, .int (nI (n - c))), (0, .ref (Λ.2.2.1 s)), (1, .int (nI c))]) rfl ?_
            exact ih16 (k + 1) (by omega) (by omega) (by rw [← hM, show c - k = (c - (k + 1)) + 1 by omega, fp_mg, if_neg]; rw [hH]; decide) (fun o ho => by by_cases e1 : o = k; (rw [e1]; exact hH); exact hN o (by omega))
          · refine fo_aload_n C dX4_countedMedian_73 5 rfl rfl 74 rfl ?_
            refine fo_get C dX4_countedMedian_74 fK6 hk (by decide) 0 (by decide) fl_X4_9 (v := .ref (Λ.2.2.1 (s + 1))) rfl 77 rfl ?_
            refine fo_iload C dX4_countedMedian_77 2 rfl 79 rfl ?_
            have q18 := hb (n - c + k) (by omega)
            refine fo_iald C dX4_countedMedian_79 (fo_S1k hk) (by rw [fo_S1n hk]; omega) (nI (v (n - c + k))) (hv _ (by omega)) 80 rfl ?_
            exact fin dX4_countedMedian_80 rfl (⟨congrArg nI (by rw [← hM, show c - k = (c - (k + 1)) + 1 by omega, fp_mg, if_pos]; exact fp_hit_iff.mpr ⟨by assumption, by omega⟩), rfl, rfl, rfl, rfl⟩)
  exact hL16 (c + 1 + 1) 0 (by omega) (by omega) rfl (fun o h => absurd h (Nat.not_lt_zero _))
set_option maxRecDepth 10000 in
set_option maxHeartbeats 4000000 in
theorem mX4_copyFrom {l : Launch} {Λ : fo_Lt} {I : fo_Mi} {D : fo_Md} {J : fo_Mj} {X : fo_Mi} {s o : Nat} (hk : fo_k s = 6) (ho : fo_k o = 6) (hne : o ≠ s + 1)  : fk_v l yX4_copyFrom cX4_copyFrom 2 1 80 Λ [.ref (Λ.2.2.1 s), .ref (Λ.2.2.1 o)] I D J X (fo_prv (fo_r (fo_r I (s + 1) (va_cpy (I (o + 1)) (I (s + 1)) 0 0 30)) s (upd (I s) 1 (I o 1))) D J X) := by
  refine fo_sv (by decide) [(0, .ref (Λ.2.2.1 s)), (1, .ref (Λ.2.2.1 o))] rfl (Nat.le_of_ble_eq_true rfl) (fun K C fin => ?_)
  refine fo_aload_n C dX4_copyFrom_0 1 rfl rfl 1 rfl ?_
  refine fo_get C dX4_copyFrom_1 fK6 ho (by decide) 0 (by decide) fl_X4_9 (v := .ref (Λ.2.2.1 (o + 1))) rfl 4 rfl ?_
  refine fo_iconst C dX4_copyFrom_4 (nI 0) ki_0 5 rfl ?_
  refine fo_aload_n C dX4_copyFrom_5 0 rfl rfl 6 rfl ?_
  refine fo_get C dX4_copyFrom_6 fK6 hk (by decide) 0 (by decide) fl_X4_9 (v := .ref (Λ.2.2.1 (s + 1))) rfl 9 rfl ?_
  refine fo_iconst C dX4_copyFrom_9 (nI 0) ki_0 10 rfl ?_
  refine fo_bipush C dX4_copyFrom_10 (nI 30) kb_30 12 rfl ?_
  refine fo_copi C dX4_copyFrom_12 la_X4_24 (fo_S1k ho) (fo_S1k hk) (by rw [fo_S1n ho]; omega) (by rw [fo_S1n hk]; omega) ⟨Nat.le_of_ble_eq_true rfl, Nat.le_of_ble_eq_true rfl⟩ 15 rfl ?_
  refine fo_aload_n C dX4_copyFrom_15 0 rfl rfl 16 rfl ?_
  refine fo_aload_n C dX4_copyFrom_16 1 rfl rfl 17 rfl ?_
  refine fo_get C dX4_copyFrom_17 fK6 ho (by decide) 1 (by decide) fl_X4_30 (v := .int (I o 1)) (congrArg (fun x => some (Value.int x)) ((by rw [fo_rn _ _ (by omega)]))) 20 rfl ?_
  refine fo_put C dX4_copyFrom_20 fK6 hk (by decide) 1 (by decide) fl_X4_30 rfl rfl rfl rfl (Nat.le_of_ble_eq_true rfl) 23 rfl ?_
  exact fin dX4_copyFrom_23 (⟨by rw [fo_rn I _ (by omega : s ≠ s + 1)], rfl, rfl, rfl⟩)
