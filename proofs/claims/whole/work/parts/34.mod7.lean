/-! THE MODEL: the median of some values -/
set_option maxRecDepth 10000 in
set_option maxHeartbeats 4000000 in
theorem mX7_medianAhead {l : Launch} {Λ : fo_Lt} {I : fo_Mi} {D : fo_Md} {J : fo_Mj} {X : fo_Mi} {np lim : Nat} {kd par n : Nat → Nat} {v : Nat → Nat → Nat} {k e c : Nat} (hk : k < 4) (h1 : 1 ≤ c) (h2 : c ≤ e) (h3 : e ≤ n k) (ht : fm_T I 617 np lim kd par n v) : fk_i l yX7_medianAhead cX7_medianAhead 5 .int 1 26 Λ [.ref (Λ.2.2.1 616), .int (nI k), .int (nI e), .int (nI c)] I D J X (fo_ps (nI (fp_med (fun o => v k (e - c + o)) c)) I D J) := by
  obtain ⟨⟨ho1, ⟨ho2, ho3⟩, ho4, ho5, ho6⟩, hnp, hlim, hP, hS⟩ := id ht
  have hnk := ho5 k hk
  refine fo_si (by decide) [(0, .ref (Λ.2.2.1 616)), (1, .int (nI k)), (2, .int (nI e)), (3, .int (nI c))] rfl (Nat.le_of_ble_eq_true rfl) (fun K C fin => ?_)
  refine fo_iconst C dX7_medianAhead_0 (nI 0) ki_0 1 rfl ?_
  refine fo_istore C dX7_medianAhead_1 [(4, .int (nI 0)), (0, .ref (Λ.2.2.1 616)), (1, .int (nI k)), (2, .int (nI e)), (3, .int (nI c))] rfl (by decide) 3 rfl ?_
  have hL3 : ∀ (m3 : Nat) (j : Nat) (Y : fo_Mi), c + 1 - j < m3 → j ≤ c → (∀ o, o < j → Y 621 o = nI (v k (e - c + o))) → fo_G l Λ { frames := 1, cells := 0, slots := 0, locals := 26 } K 0 0 3 [(4, .int (nI j)), (0, .ref (Λ.2.2.1 616)), (1, .int (nI k)), (2, .int (nI e)), (3, .int (nI c))] [] I D J Y := by
    intro m3
    induction m3 with
    | zero => intro j Y hm; exact absurd hm (Nat.not_lt_zero _)
    | succ m3 ih3 =>
      intro j Y hm3 hj hY
      refine fo_iload C dX7_medianAhead_3 0 rfl 5 rfl ?_
      refine fo_iload_n C dX7_medianAhead_5 4 rfl rfl 6 rfl ?_
      refine fo_ncmp_ge C (by omega) (by omega) dX7_medianAhead_6 33 (by decide) 9 rfl (fun c1 => ?_) (fun c1 => ?_)
      · refine fo_aload_n C dX7_medianAhead_33 1 rfl rfl 34 rfl ?_
        refine fo_iload_n C dX7_medianAhead_34 4 rfl rfl 35 rfl ?_
        refine fo_qvi C dX7_medianAhead_35 (mX7_rowMedian (f := (fun o => v k (e - c + o))) (c := c) h1 (by omega) (fun o ho => hY o (by omega)) (fun o ho => ho6 k hk _ (by omega))) lv_X7_156 (by decide : fo_k 616 = 9) rfl (by decide) rfl ⟨Nat.le_of_ble_eq_true rfl, Nat.le_of_ble_eq_true rfl⟩ ⟨Nat.le_of_ble_eq_true rfl, Nat.le_of_ble_eq_true rfl⟩ [] rfl (Nat.le_of_ble_eq_true rfl) 38 rfl (fo_er ?_)
        exact fin dX7_medianAhead_38 rfl (⟨rfl, rfl, rfl, rfl⟩)
      · refine fo_aload_n C dX7_medianAhead_9 1 rfl rfl 10 rfl ?_
        refine fo_get C dX7_medianAhead_10 fK9 (by decide : fo_k 616 = 9) (by decide) 4 (by decide) fl_X7_22 (v := .ref (Λ.2.2.1 621)) rfl 13 rfl ?_
        refine fo_iload C dX7_medianAhead_13 0 rfl 15 rfl ?_
        refine fo_aload_n C dX7_medianAhead_15 1 rfl rfl 16 rfl ?_
        refine fo_iload_n C dX7_medianAhead_16 2 rfl rfl 17 rfl ?_
        refine fo_iload_n C dX7_medianAhead_17 3 rfl rfl 18 rfl ?_
        refine fo_iload_n C dX7_medianAhead_18 4 rfl rfl 19 rfl ?_
        refine fo_isub C dX7_medianAhead_19 (nI (e - c)) (pk_sub (by omega)) 20 rfl ?_
        refine fo_iload C dX7_medianAhead_20 0 rfl 22 rfl ?_
        refine fo_iadd C dX7_medianAhead_22 (nI ((e - c) + j)) (nI_add _ _) 23 rfl ?_
        refine fo_qvi C dX7_medianAhead_23 (mX7_v (k := k) (d := (e - c) + j) (by omega) (by omega) ht) lv_X7_142 (by decide : fo_k 616 = 9) rfl (by decide) rfl ⟨Nat.le_of_ble_eq_true rfl, Nat.le_of_ble_eq_true rfl⟩ ⟨Nat.le_of_ble_eq_true rfl, Nat.le_of_ble_eq_true rfl⟩ [.int (nI j), .ref (Λ.2.2.1 621)] rfl (Nat.le_of_ble_eq_true rfl) 26 rfl (fo_er ?_)
        have q14 := ho6 k (by omega) ((e - c) + j) (by omega)
        refine fo_xast C dX7_medianAhead_26 (by decide : fo_k 621 = 21) (by rw [(show fo_n 621 = 30 from rfl)]; omega) 27 rfl ?_
        refine fo_iinc C dX7_medianAhead_27 0 rfl (nI (j + 1)) (nI_inc1 _) [(4, .int (nI (j + 1))), (0, .ref (Λ.2.2.1 616)), (1, .int (nI k)), (2, .int (nI e)), (3, .int (nI c))] rfl (by decide) 30 rfl ?_
        refine fo_goto C dX7_medianAhead_30 3 (by decide) ?_
        exact ih3 (j + 1) (fo_r Y 621 (upd (Y 621) (j) (nI (v k ((e - c) + j))))) (by omega) (by omega) (fun o ho => by rw [fo_rs]; by_cases e1 : o = j; (rw [e1, pk_us]); (rw [pk_un e1]; exact hY o (by omega)))
  exact hL3 (c + 1 + 1) 0 X (by omega) (by omega) (fun o h => absurd h (Nat.not_lt_zero _))
