
/-! THE LABORATORY: more changes -/
theorem fs_F.lim {I : fo_Mi} {D : fo_Md} {b np lim q : Nat} {kd par n : Nat → Nat} {v : Nat → Nat → Nat} (h : fs_F I D b np lim kd par n v) (h1 : 1 ≤ q) (h2 : q ≤ 9) : fs_F (fo_r I b (upd (I b) 3 (nI q))) D b np q kd par n v := by
  obtain ⟨⟨hk, ⟨ho1, ho2, ho4, ho5, ho6⟩, hnp, hlim, hP, hS⟩, hC, hH⟩ := h
  refine ⟨⟨hk, ⟨ho1, ⟨h1, h2⟩, ho4, ho5, ho6⟩, ?_, ?_, ?_, ?_⟩, ?_, ?_⟩
  · rw [fo_rs, pk_un (by decide)]; exact hnp
  · rw [fo_rs, pk_us]
  · intro p hp
    rw [fo_rn _ _ (by omega)]; exact hP p hp
  · intro k h4
    rw [fo_rn _ _ (by omega), fo_rn _ _ (by omega)]; exact hS k h4
  · intro p hp k h4
    rw [fo_rn _ _ (by omega), fo_rn _ _ (by omega)]; exact hC p hp k h4
  · intro p hp
    rw [fo_rn _ _ (by omega)]; exact hH p hp
/-- the kept state -/
def fl_K (I : fo_Mi) (D : fo_Md) (k : Option fa_S) : Prop := I 605 5 = nI (if k.isSome then 1 else 0) ∧ ∀ s, k = some s → fs_FS I D 55 s
theorem fl_H.pop {I I1 I2 : fo_Mi} {D D2 : fo_Md} {s : fa_S} {t : List fa_S} {x : Nat} (hx : x < 9) (h4 : (s :: t).length ≤ 8) (h5 : ∀ j q, (s :: t)[j]? = some q → fs_FS I D (110 + 55 * ((x + 8 - j) % 9)) q) (e1 : I1 606 1 = nI (if 0 < x then x - 1 else 8)) (e2 : I1 606 2 = nI ((s :: t).length - 1)) (e3 : ∀ b, b ≠ 606 → I1 b = I b) (f : fs_fr 0 I1 D I2 D2) : fl_H I2 D2 t := by
  rw [List.length_cons] at h4 e2
  refine ⟨if 0 < x then x - 1 else 8, by split <;> omega, by rw [(f 606 (by omega)).1]; exact e1, by rw [(f 606 (by omega)).1, e2]; rfl, by omega, fun j q hq => ?_⟩
  have hj : j < t.length := (List.getElem?_eq_some_iff.mp hq).1
  have ep : ((if 0 < x then x - 1 else 8) + 8 - j) % 9 = (x + 8 - (j + 1)) % 9 := by split <;> omega
  rw [ep]
  refine (h5 (j + 1) q hq).mono (fun c c1 c2 => ?_)
  rw [(f c (by omega)).1, (f c (by omega)).2, e3 c (by omega)]
  exact ⟨rfl, rfl⟩

set_option maxRecDepth 10000 in
set_option maxHeartbeats 4000000 in
theorem mX6_setLimit {l : Launch} {Λ : fo_Lt} {I : fo_Mi} {D : fo_Md} {J : fo_Mj} {X : fo_Mi} (hfl : l.stackTraces = false) {np lim : Nat} {kd par n : Nat → Nat} {v : Nat → Nat → Nat} {hs : List fa_S} {z : Int32} (hf : fs_F I D 0 np lim kd par n v) (hh : fl_H I D hs) : fx_i l yX6_setLimit cX6_setLimit 3 .int 6 164 1 6 Λ [.ref (Λ.2.2.1 605), .int (z)] I D J X ((fun r I' D' J' X' => ∃ q, 1 ≤ q ∧ q ≤ 9 ∧ z = nI q ∧ r = nI lim ∧ fs_F I' D' 0 np q kd par n v ∧ fl_H I' D' (((np, lim, kd, par, n, v) :: hs).take 8) ∧ fl_f I D I' D' ∧ J' = J)) ((fun E I' D' J' X' => fo_el [("java/lang/IllegalArgumentException", fo_19 z = false)] E ∧ I' = I ∧ D' = D ∧ J' = J)) := by
  obtain ⟨hS, hP, hC, hnp, hlim, h8, hl1, hl9, hn30⟩ := hf.now
  refine fo_sxi hfl (by decide) [(0, .ref (Λ.2.2.1 605)), (1, .int (z))] rfl (Nat.le_of_ble_eq_true rfl) (fun K C fin out thr => ?_)
  refine fo_iload_n C dX6_setLimit_0 1 rfl rfl 1 rfl ?_
  refine fo_qsi C dX6_setLimit_1 (mX6_isOneToNine (x := z)) ls_X6_51 rfl ⟨Nat.le_of_ble_eq_true rfl, Nat.le_of_ble_eq_true rfl⟩ ⟨Nat.le_of_ble_eq_true rfl, Nat.le_of_ble_eq_true rfl⟩ [] rfl (Nat.le_of_ble_eq_true rfl) 4 rfl (fo_er ?_)
  refine fo_bif_ne C dX6_setLimit_4 15 (by decide) 7 rfl (fun c7 => ?_) (fun c7 => ?_)
  · obtain ⟨q, hq1, hq2, rfl⟩ := fo_19_at c7
    refine fo_aload_n C dX6_setLimit_15 0 rfl rfl 16 rfl ?_
    refine fo_qvv C dX6_setLimit_16 (mX6_noteChange hf hh) lv_X6_65 (by decide : fo_k 605 = 8) rfl (by decide) rfl ⟨Nat.le_of_ble_eq_true rfl, Nat.le_of_ble_eq_true rfl⟩ ⟨Nat.le_of_ble_eq_true rfl, Nat.le_of_ble_eq_true rfl⟩ [] rfl (Nat.le_of_ble_eq_true rfl) 19 rfl (fun I9 D10 J11 X12 p13 => ?_)
    obtain ⟨hh1, hc1, z9⟩ := p13
    obtain ⟨rfl, rfl⟩ : J = J11 ∧ X = X12 := ⟨z9.1.symm, z9.2.symm⟩
    have hf1 : fs_F I9 D10 0 np lim kd par n v := hf.mono (fun c _ c2 => hc1 c (by omega))
    refine fo_aload_n C dX6_setLimit_19 0 rfl rfl 20 rfl ?_
    refine fo_get C dX6_setLimit_20 fK8 (by decide : fo_k 605 = 8) (by decide) 0 (by decide) fl_X6_12 (v := .ref (Λ.2.2.1 0)) rfl 23 rfl ?_
    refine fo_get C dX6_setLimit_23 fK7 (by decide : fo_k 0 = 7) (by decide) 3 (by decide) fl_X6_85 (v := .int (nI lim)) (congrArg (fun x => some (Value.int x)) (hf1.1.2.2.2.1)) 26 rfl ?_
    refine fo_istore_n C dX6_setLimit_26 rfl [(2, .int (nI lim)), (0, .ref (Λ.2.2.1 605)), (1, .int (nI q))] rfl (by decide) 27 rfl ?_
    refine fo_aload_n C dX6_setLimit_27 1 rfl rfl 28 rfl ?_
    refine fo_get C dX6_setLimit_28 fK8 (by decide : fo_k 605 = 8) (by decide) 0 (by decide) fl_X6_12 (v := .ref (Λ.2.2.1 0)) rfl 31 rfl ?_
    refine fo_iload_n C dX6_setLimit_31 2 rfl rfl 32 rfl ?_
    refine fo_put C dX6_setLimit_32 fK7 (by decide : fo_k 0 = 7) (by decide) 3 (by decide) fl_X6_85 rfl rfl rfl rfl (Nat.le_of_ble_eq_true rfl) 35 rfl ?_
    have f2 : fs_fr 0 I9 D10 (fo_r I9 0 (upd (I9 0) 3 (nI (q)))) D10 := fun c c9 => ⟨fo_rn _ _ (by omega), rfl⟩
    refine fo_iload_n C dX6_setLimit_35 0 rfl rfl 36 rfl ?_
    exact fin dX6_setLimit_36 rfl (Nat.le_of_ble_eq_true rfl) (Nat.le_of_ble_eq_true rfl) (⟨q, hq1, hq2, rfl, rfl, hf1.lim hq1 hq2, hh1.mono (fun c c1 c2 => (f2 c (by omega))), fun c c9 => ⟨(f2 c (by omega)).1.trans (hc1 c (by omega)).1, (f2 c (by omega)).2.trans (hc1 c (by omega)).2⟩, rfl⟩)
  · exact thr tf_IllegalArgument dX6_setLimit_7 dX6_setLimit_10 dX6_setLimit_11 dX6_setLimit_14 (by decide) (Nat.le_of_ble_eq_true rfl) (Nat.le_of_ble_eq_true rfl) (Nat.le_of_ble_eq_true rfl) (⟨Or.inl ⟨rfl, by simp_all⟩, rfl, rfl, rfl⟩)
set_option maxRecDepth 10000 in
set_option maxHeartbeats 4000000 in
theorem mX6_forget {l : Launch} {Λ : fo_Lt} {I : fo_Mi} {D : fo_Md} {J : fo_Mj} {X : fo_Mi} (hfl : l.stackTraces = false) {np lim : Nat} {kd par n : Nat → Nat} {v : Nat → Nat → Nat} {hs : List fa_S} {x : Int32} (hf : fs_F I D 0 np lim kd par n v) (hh : fl_H I D hs) : fx_i l yX6_forget cX6_forget 3 .int 8 164 1 6 Λ [.ref (Λ.2.2.1 605), .int (x)] I D J X ((fun r I' D' J' X' => ∃ k, k < 4 ∧ x = nI k ∧ r = nI (n k) ∧ fs_F I' D' 0 np lim kd par (va_up n k 0) v ∧ fl_H I' D' (((np, lim, kd, par, n, v) :: hs).take 8) ∧ fl_f I D I' D' ∧ J' = J)) ((fun E I' D' J' X' => fo_el [("java/lang/IndexOutOfBoundsException", fo_inr x 4 = false)] E ∧ I' = I ∧ D' = D ∧ J' = J)) := by
  obtain ⟨hS, hP, hC, hnp, hlim, h8, hl1, hl9, hn30⟩ := hf.now
  refine fo_sxi hfl (by decide) [(0, .ref (Λ.2.2.1 605)), (1, .int (x))] rfl (Nat.le_of_ble_eq_true rfl) (fun K C fin out thr => ?_)
  refine fo_aload_n C dX6_forget_0 0 rfl rfl 1 rfl ?_
  refine fo_iload_n C dX6_forget_1 1 rfl rfl 2 rfl ?_
  refine fo_yvq C dX6_forget_2 (mX6_seriesAt hfl (x := x)) lv_X6_72 (by decide : fo_k 605 = 8) rfl (by decide) rfl ⟨Nat.le_of_ble_eq_true rfl, Nat.le_of_ble_eq_true rfl⟩ ⟨Nat.le_of_ble_eq_true rfl, Nat.le_of_ble_eq_true rfl⟩ [] rfl (Nat.le_of_ble_eq_true rfl) 5 rfl (fun E I9 D9 J9 X9 h9 => ?_) (fun r1 I2 D3 J4 X5 p6 => ?_)
  · exact out (Nat.le_of_ble_eq_true rfl) (Nat.le_of_ble_eq_true rfl) ⟨fo_el_app h9.1, h9.2⟩
  obtain ⟨k, hk, rfl, rfl, z9⟩ := p6
  obtain ⟨rfl, rfl, rfl, rfl⟩ := fo_sym4 z9
  have q7 := hn30 k (by omega)
  refine fo_get C dX6_forget_5 fK6 ((hS k (by omega)).1) (by decide) 1 (by decide) fl_X6_88 (v := .int (nI (n k))) (congrArg (fun x => some (Value.int x)) ((hS k (by omega)).2.1)) 8 rfl ?_
  refine fo_istore_n C dX6_forget_8 rfl [(2, .int (nI (n k))), (0, .ref (Λ.2.2.1 605)), (1, .int (nI k))] rfl (by decide) 9 rfl ?_
  refine fo_aload_n C dX6_forget_9 1 rfl rfl 10 rfl ?_
  refine fo_qvv C dX6_forget_10 (mX6_noteChange hf hh) lv_X6_65 (by decide : fo_k 605 = 8) rfl (by decide) rfl ⟨Nat.le_of_ble_eq_true rfl, Nat.le_of_ble_eq_true rfl⟩ ⟨Nat.le_of_ble_eq_true rfl, Nat.le_of_ble_eq_true rfl⟩ [] rfl (Nat.le_of_ble_eq_true rfl) 13 rfl (fun I9 D10 J11 X12 p13 => ?_)
  obtain ⟨hh1, hc1, z9⟩ := p13
  obtain ⟨rfl, rfl⟩ : J = J11 ∧ X = X12 := ⟨z9.1.symm, z9.2.symm⟩
  have hf1 : fs_F I9 D10 0 np lim kd par n v := hf.mono (fun c _ c2 => hc1 c (by omega))
  refine fo_aload_n C dX6_forget_13 1 rfl rfl 14 rfl ?_
  refine fo_get C dX6_forget_14 fK8 (by decide : fo_k 605 = 8) (by decide) 0 (by decide) fl_X6_12 (v := .ref (Λ.2.2.1 0)) rfl 17 rfl ?_
  refine fo_iload_n C dX6_forget_17 2 rfl rfl 18 rfl ?_
  refine fo_qvv C dX6_forget_18 (mX5_wipe hk hf1) lv_X6_91 (by decide : fo_k 0 = 7) rfl (by decide) rfl ⟨Nat.le_of_ble_eq_true rfl, Nat.le_of_ble_eq_true rfl⟩ ⟨Nat.le_of_ble_eq_true rfl, Nat.le_of_ble_eq_true rfl⟩ [] rfl (Nat.le_of_ble_eq_true rfl) 21 rfl (fun I15 D16 J17 X18 p19 => ?_)
  obtain ⟨g2, f2, rfl⟩ := p19
  refine fo_iload_n C dX6_forget_21 0 rfl rfl 22 rfl ?_
  exact fin dX6_forget_22 rfl (Nat.le_of_ble_eq_true rfl) (Nat.le_of_ble_eq_true rfl) (⟨k, hk, rfl, rfl, g2, hh1.mono (fun c c1 c2 => (f2 c (by omega))), fun c c9 => ⟨(f2 c (by omega)).1.trans (hc1 c (by omega)).1, (f2 c (by omega)).2.trans (hc1 c (by omega)).2⟩, rfl⟩)
set_option maxRecDepth 10000 in
set_option maxHeartbeats 4000000 in
theorem mX6_save {l : Launch} {Λ : fo_Lt} {I : fo_Mi} {D : fo_Md} {J : fo_Mj} {X : fo_Mi} {np lim : Nat} {kd par n : Nat → Nat} {v : Nat → Nat → Nat} (hf : fs_F I D 0 np lim kd par n v) : fk_i l yX6_save cX6_save 1 .int 3 123 Λ [.ref (Λ.2.2.1 605)] I D J X ((fun r I' D' J' X' => r = nI np ∧ fl_K I' D' (some (np, lim, kd, par, n, v)) ∧ (∀ c, (c < 55 ∨ 110 ≤ c) → c ≠ 605 → I' c = I c ∧ D' c = D c) ∧ (∀ j, j ≠ 5 → I' 605 j = I 605 j) ∧ J' = J)) := by
  obtain ⟨hS, hP, hC, hnp, hlim, h8, hl1, hl9, hn30⟩ := hf.now
  refine fo_si (by decide) [(0, .ref (Λ.2.2.1 605))] rfl (Nat.le_of_ble_eq_true rfl) (fun K C fin => ?_)
  refine fo_aload_n C dX6_save_0 0 rfl rfl 1 rfl ?_
  refine fo_get C dX6_save_1 fK8 (by decide : fo_k 605 = 8) (by decide) 1 (by decide) fl_X6_16 (v := .ref (Λ.2.2.1 55)) rfl 4 rfl ?_
  refine fo_aload_n C dX6_save_4 0 rfl rfl 5 rfl ?_
  refine fo_get C dX6_save_5 fK8 (by decide : fo_k 605 = 8) (by decide) 0 (by decide) fl_X6_12 (v := .ref (Λ.2.2.1 0)) rfl 8 rfl ?_
  refine fo_qvv C dX6_save_8 (mX5_copyFrom (b := 55) hf (by decide) (by decide)) lv_X6_276 (by decide : fo_k 55 = 7) rfl (by decide) rfl ⟨Nat.le_of_ble_eq_true rfl, Nat.le_of_ble_eq_true rfl⟩ ⟨Nat.le_of_ble_eq_true rfl, Nat.le_of_ble_eq_true rfl⟩ [] rfl (Nat.le_of_ble_eq_true rfl) 11 rfl (fun I2 D3 J4 X5 p6 => ?_)
  obtain ⟨g2, f2, z9⟩ := p6
  obtain ⟨rfl, rfl⟩ : J = J4 ∧ X = X5 := ⟨z9.1.symm, z9.2.symm⟩
  refine fo_aload_n C dX6_save_11 0 rfl rfl 12 rfl ?_
  refine fo_iconst C dX6_save_12 (nI 1) ki_1 13 rfl ?_
  refine fo_put C dX6_save_13 fK8 (by decide : fo_k 605 = 8) (by decide) 5 (by decide) fl_X6_279 rfl rfl rfl rfl (Nat.le_of_ble_eq_true rfl) 16 rfl ?_
  refine fo_aload_n C dX6_save_16 0 rfl rfl 17 rfl ?_
  refine fo_get C dX6_save_17 fK8 (by decide : fo_k 605 = 8) (by decide) 0 (by decide) fl_X6_12 (v := .ref (Λ.2.2.1 0)) rfl 20 rfl ?_
  refine fo_get C dX6_save_20 fK7 (by decide : fo_k 0 = 7) (by decide) 2 (by decide) fl_X6_145 (v := .int (nI np)) (congrArg (fun x => some (Value.int x)) ((by rw [fo_rn _ _ (by decide), (f2 0 (by omega)).1]; exact hnp))) 23 rfl ?_
  exact fin dX6_save_23 rfl (⟨rfl, ⟨by rw [fo_rs, pk_us]; rfl, fun s hs9 => by cases hs9; exact fs_FS.mono (s := (np, lim, kd, par, n, v)) g2 (fun c c1 c2 => ⟨fo_rn _ _ (by omega), rfl⟩)⟩, fun c c1 c2 => ⟨(fo_rn _ _ c2).trans (f2 c (by omega)).1, (f2 c (by omega)).2⟩, fun j hj => by rw [fo_rs, pk_un hj, (f2 605 (by omega)).1], rfl⟩)
set_option maxRecDepth 10000 in
set_option maxHeartbeats 4000000 in
theorem mX6_restore {l : Launch} {Λ : fo_Lt} {I : fo_Mi} {D : fo_Md} {J : fo_Mj} {X : fo_Mi} (hfl : l.stackTraces = false) {ks : Option fa_S} {hs : List fa_S} (hK : fl_K I D ks) (hh : fl_H I D hs) : fx_i l yX6_restore cX6_restore 1 .int 6 123 1 6 Λ [.ref (Λ.2.2.1 605)] I D J X ((fun r I' D' J' X' => ∃ s, ks = some s ∧ r = nI s.1 ∧ fs_FS I' D' 0 s ∧ fl_H I' D' [] ∧ fl_f I D I' D' ∧ J' = J)) ((fun E I' D' J' X' => fo_el [("java/lang/IllegalStateException", ks = none)] E ∧ I' = I ∧ D' = D ∧ J' = J)) := by
  obtain ⟨x, hx, hn, hc, h4, h5⟩ := hh
  have hkb : (if ks.isSome = true then 1 else 0) ≤ 1 := by split <;> decide
  refine fo_sxi hfl (by decide) [(0, .ref (Λ.2.2.1 605))] rfl (Nat.le_of_ble_eq_true rfl) (fun K C fin out thr => ?_)
  refine fo_aload_n C dX6_restore_0 0 rfl rfl 1 rfl ?_
  refine fo_get C dX6_restore_1 fK8 (by decide : fo_k 605 = 8) (by decide) 5 (by decide) fl_X6_279 (v := .int (nI ((if ks.isSome then 1 else 0)))) (congrArg (fun x => some (Value.int x)) (hK.1)) 4 rfl ?_
  refine fo_nif_ne C (by omega) dX6_restore_4 15 (by decide) 7 rfl (fun c1 => ?_) (fun c1 => ?_)
  · obtain ⟨⟨np2, lim2, kd2, par2, n2, v2⟩, rfl⟩ : ∃ s, ks = some s := by cases ks with | none => exact absurd (show 0 < 0 from c1) (Nat.lt_irrefl 0) | some s => exact ⟨s, rfl⟩
    have hk2 : fs_F I D 55 np2 lim2 kd2 par2 n2 v2 := hK.2 _ rfl
    have hnp2 := hk2.1.2.1.1
    refine fo_aload_n C dX6_restore_15 0 rfl rfl 16 rfl ?_
    refine fo_get C dX6_restore_16 fK8 (by decide : fo_k 605 = 8) (by decide) 0 (by decide) fl_X6_12 (v := .ref (Λ.2.2.1 0)) rfl 19 rfl ?_
    refine fo_aload_n C dX6_restore_19 0 rfl rfl 20 rfl ?_
    refine fo_get C dX6_restore_20 fK8 (by decide : fo_k 605 = 8) (by decide) 1 (by decide) fl_X6_16 (v := .ref (Λ.2.2.1 55)) rfl 23 rfl ?_
    refine fo_qvv C dX6_restore_23 (mX5_copyFrom (b := 0) hk2 (by decide) (by decide)) lv_X6_276 (by decide : fo_k 0 = 7) rfl (by decide) rfl ⟨Nat.le_of_ble_eq_true rfl, Nat.le_of_ble_eq_true rfl⟩ ⟨Nat.le_of_ble_eq_true rfl, Nat.le_of_ble_eq_true rfl⟩ [] rfl (Nat.le_of_ble_eq_true rfl) 26 rfl (fun I3 D4 J5 X6 p7 => ?_)
    obtain ⟨g2, f2, z9⟩ := p7
    obtain ⟨rfl, rfl⟩ : J = J5 ∧ X = X6 := ⟨z9.1.symm, z9.2.symm⟩
    refine fo_aload_n C dX6_restore_26 0 rfl rfl 27 rfl ?_
    refine fo_get C dX6_restore_27 fK8 (by decide : fo_k 605 = 8) (by decide) 2 (by decide) fl_X6_22 (v := .ref (Λ.2.2.1 606)) rfl 30 rfl ?_
    refine fo_iconst C dX6_restore_30 (nI 0) ki_0 31 rfl ?_
    refine fo_put C dX6_restore_31 fK3 (by decide : fo_k 606 = 3) (by decide) 2 (by decide) fl_X6_272 rfl rfl rfl rfl (Nat.le_of_ble_eq_true rfl) 34 rfl ?_
    refine fo_aload_n C dX6_restore_34 0 rfl rfl 35 rfl ?_
    refine fo_get C dX6_restore_35 fK8 (by decide : fo_k 605 = 8) (by decide) 0 (by decide) fl_X6_12 (v := .ref (Λ.2.2.1 0)) rfl 38 rfl ?_
    refine fo_get C dX6_restore_38 fK7 (by decide : fo_k 0 = 7) (by decide) 2 (by decide) fl_X6_145 (v := .int (nI np2)) (congrArg (fun x => some (Value.int x)) ((by rw [fo_rn _ _ (by decide)]; exact g2.1.2.2.1))) 41 rfl ?_
    exact fin dX6_restore_41 rfl (Nat.le_of_ble_eq_true rfl) (Nat.le_of_ble_eq_true rfl) (⟨_, rfl, rfl, fs_FS.mono (s := (np2, lim2, kd2, par2, n2, v2)) g2 (fun c c1 c2 => ⟨fo_rn _ _ (by omega), rfl⟩), ⟨x, hx, by rw [fo_rs, pk_un (by decide), (f2 606 (by omega)).1]; exact hn, by rw [fo_rs, pk_us]; rfl, Nat.zero_le _, fun j s hj => by cases hj⟩, fun c c9 => ⟨(fo_rn _ _ (by omega)).trans (f2 c (by omega)).1, (f2 c (by omega)).2⟩, rfl⟩)
  · exact thr tf_IllegalState dX6_restore_7 dX6_restore_10 dX6_restore_11 dX6_restore_14 (by decide) (Nat.le_of_ble_eq_true rfl) (Nat.le_of_ble_eq_true rfl) (Nat.le_of_ble_eq_true rfl) (⟨Or.inl ⟨rfl, by cases ks with | none => rfl | some s => simp_all⟩, rfl, rfl, rfl⟩)
set_option maxRecDepth 10000 in
set_option maxHeartbeats 4000000 in
theorem mX6_undo {l : Launch} {Λ : fo_Lt} {I : fo_Mi} {D : fo_Md} {J : fo_Mj} {X : fo_Mi} (hfl : l.stackTraces = false) {hs : List fa_S} (hh : fl_H I D hs) : fx_i l yX6_undo cX6_undo 1 .int 6 144 1 6 Λ [.ref (Λ.2.2.1 605)] I D J X ((fun r I' D' J' X' => ∃ s t, hs = s :: t ∧ r = nI t.length ∧ fs_FS I' D' 0 s ∧ fl_H I' D' t ∧ fl_f I D I' D' ∧ J' = J)) ((fun E I' D' J' X' => fo_el [("java/lang/IllegalStateException", hs = [])] E ∧ I' = I ∧ D' = D ∧ J' = J)) := by
  obtain ⟨x, hx, hn, hc, h4, h5⟩ := hh
  refine fo_sxi hfl (by decide) [(0, .ref (Λ.2.2.1 605))] rfl (Nat.le_of_ble_eq_true rfl) (fun K C fin out thr => ?_)
  refine fo_aload_n C dX6_undo_0 0 rfl rfl 1 rfl ?_
  refine fo_get C dX6_undo_1 fK8 (by decide : fo_k 605 = 8) (by decide) 2 (by decide) fl_X6_22 (v := .ref (Λ.2.2.1 606)) rfl 4 rfl ?_
  refine fo_get C dX6_undo_4 fK3 (by decide : fo_k 606 = 3) (by decide) 2 (by decide) fl_X6_272 (v := .int (nI (hs.length))) (congrArg (fun x => some (Value.int x)) (hc)) 7 rfl ?_
  refine fo_nif_ne C (by omega) dX6_undo_7 18 (by decide) 10 rfl (fun c1 => ?_) (fun c1 => ?_)
  · obtain ⟨⟨np2, lim2, kd2, par2, n2, v2⟩, t, rfl⟩ : ∃ s t, hs = s :: t := by cases hs with | nil => exact absurd (show 0 < 0 from c1) (Nat.lt_irrefl 0) | cons s t => exact ⟨s, t, rfl⟩
    have h48 : t.length + 1 ≤ 8 := h4
    refine fo_aload_n C dX6_undo_18 0 rfl rfl 19 rfl ?_
    refine fo_get C dX6_undo_19 fK8 (by decide : fo_k 605 = 8) (by decide) 2 (by decide) fl_X6_22 (v := .ref (Λ.2.2.1 606)) rfl 22 rfl ?_
    refine fo_qvv C dX6_undo_22 (mX1_stepBack (x := x) hx h4 (by rw [List.length_cons]; omega) hn hc) lv_X6_273 (by decide : fo_k 606 = 3) rfl (by decide) rfl ⟨Nat.le_of_ble_eq_true rfl, Nat.le_of_ble_eq_true rfl⟩ ⟨Nat.le_of_ble_eq_true rfl, Nat.le_of_ble_eq_true rfl⟩ [] rfl (Nat.le_of_ble_eq_true rfl) 25 rfl (fun I3 D4 J5 X6 p7 => ?_)
    obtain ⟨a1, a2, a3, z9⟩ := p7
    obtain ⟨rfl, rfl, rfl⟩ := fo_sym3 z9
    have hxp : (if 0 < x then x - 1 else 8) = (x + 8 - 0) % 9 := by split <;> omega
    have hk2 : fs_F I3 D (110 + 55 * (if 0 < x then x - 1 else 8)) np2 lim2 kd2 par2 n2 v2 := by rw [hxp]; exact fs_F.mono (h5 0 _ rfl) (fun c c1 c2 => ⟨a3 c (by omega), rfl⟩)
    refine fo_aload_n C dX6_undo_25 0 rfl rfl 26 rfl ?_
    refine fo_get C dX6_undo_26 fK8 (by decide : fo_k 605 = 8) (by decide) 2 (by decide) fl_X6_22 (v := .ref (Λ.2.2.1 606)) rfl 29 rfl ?_
    refine fo_aload_n C dX6_undo_29 0 rfl rfl 30 rfl ?_
    refine fo_get C dX6_undo_30 fK8 (by decide : fo_k 605 = 8) (by decide) 0 (by decide) fl_X6_12 (v := .ref (Λ.2.2.1 0)) rfl 33 rfl ?_
    refine fo_qvv C dX6_undo_33 (mX1_read (b := 0) (x := (if 0 < x then x - 1 else 8)) hk2 (by split <;> omega) a1 (by decide) (by omega)) lv_X6_260 (by decide : fo_k 606 = 3) rfl (by decide) rfl ⟨Nat.le_of_ble_eq_true rfl, Nat.le_of_ble_eq_true rfl⟩ ⟨Nat.le_of_ble_eq_true rfl, Nat.le_of_ble_eq_true rfl⟩ [] rfl (Nat.le_of_ble_eq_true rfl) 36 rfl (fun I9 D10 J11 X12 p13 => ?_)
    obtain ⟨g2, f2, z9⟩ := p13
    obtain ⟨rfl, rfl⟩ : J = J11 ∧ X = X12 := ⟨z9.1.symm, z9.2.symm⟩
    refine fo_aload_n C dX6_undo_36 0 rfl rfl 37 rfl ?_
    refine fo_get C dX6_undo_37 fK8 (by decide : fo_k 605 = 8) (by decide) 2 (by decide) fl_X6_22 (v := .ref (Λ.2.2.1 606)) rfl 40 rfl ?_
    refine fo_get C dX6_undo_40 fK3 (by decide : fo_k 606 = 3) (by decide) 2 (by decide) fl_X6_272 (v := .int (nI (t.length))) (congrArg (fun x => some (Value.int x)) ((by rw [(f2 606 (by omega)).1, a2]; rfl))) 43 rfl ?_
    exact fin dX6_undo_43 rfl (Nat.le_of_ble_eq_true rfl) (Nat.le_of_ble_eq_true rfl) (⟨_, t, rfl, rfl, g2, fl_H.pop hx h4 h5 a1 a2 a3 f2, fun c c9 => ⟨(f2 c (by omega)).1.trans (a3 c (by omega)), (f2 c (by omega)).2⟩, rfl⟩)
  · exact thr tf_IllegalState dX6_undo_10 dX6_undo_13 dX6_undo_14 dX6_undo_17 (by decide) (Nat.le_of_ble_eq_true rfl) (Nat.le_of_ble_eq_true rfl) (Nat.le_of_ble_eq_true rfl) (⟨Or.inl ⟨rfl, by cases hs with | nil => rfl | cons s t => simp_all⟩, rfl, rfl, rfl⟩)
set_option maxRecDepth 10000 in
set_option maxHeartbeats 4000000 in
theorem mX6_type {l : Launch} {Λ : fo_Lt} {I : fo_Mi} {D : fo_Md} {J : fo_Mj} {X : fo_Mi} (hfl : l.stackTraces = false) {m w : Nat} {t : Nat → Nat} (hq : fs_Q I m t) (hw : w < 65536) : fx_i l yX6_type cX6_type 2 .int 6 90 1 6 Λ [.ref (Λ.2.2.1 605), .int (nI w)] I D J X ((fun r I' D' J' X' => m < 60 ∧ r = nI (m + 1) ∧ fs_Q I' (m + 1) (va_up t m w) ∧ (∀ b, b ≠ 608 → b ≠ 609 → I' b = I b) ∧ D' = D ∧ J' = J)) ((fun E I' D' J' X' => fo_el [("java/lang/IllegalStateException", ¬ m < 60)] E ∧ I' = I ∧ D' = D ∧ J' = J)) := by
  have hm60 := hq.1
  refine fo_sxi hfl (by decide) [(0, .ref (Λ.2.2.1 605)), (1, .int (nI w))] rfl (Nat.le_of_ble_eq_true rfl) (fun K C fin out thr => ?_)
  refine fo_aload_n C dX6_type_0 0 rfl rfl 1 rfl ?_
  refine fo_get C dX6_type_1 fK8 (by decide : fo_k 605 = 8) (by decide) 3 (by decide) fl_X6_29 (v := .ref (Λ.2.2.1 608)) rfl 4 rfl ?_
  refine fo_get C dX6_type_4 fK4 (by decide : fo_k 608 = 4) (by decide) 1 (by decide) fl_X6_243 (v := .int (nI m)) (congrArg (fun x => some (Value.int x)) (hq.2.1)) 7 rfl ?_
  refine fo_bipush C dX6_type_7 (nI 60) kb_60 9 rfl ?_
  refine fo_ncmp_lt C (by omega) (by omega) dX6_type_9 20 (by decide) 12 rfl (fun c1 => ?_) (fun c1 => ?_)
  · refine fo_aload_n C dX6_type_20 0 rfl rfl 21 rfl ?_
    refine fo_get C dX6_type_21 fK8 (by decide : fo_k 605 = 8) (by decide) 3 (by decide) fl_X6_29 (v := .ref (Λ.2.2.1 608)) rfl 24 rfl ?_
    refine fo_iload_n C dX6_type_24 1 rfl rfl 25 rfl ?_
    refine fo_qvi C dX6_type_25 (mX2_append hq (by omega) hw) lv_X6_244 (by decide : fo_k 608 = 4) rfl (by decide) rfl ⟨Nat.le_of_ble_eq_true rfl, Nat.le_of_ble_eq_true rfl⟩ ⟨Nat.le_of_ble_eq_true rfl, Nat.le_of_ble_eq_true rfl⟩ [] rfl (Nat.le_of_ble_eq_true rfl) 28 rfl (fun r2 I3 D4 J5 X6 p7 => ?_)
    obtain ⟨rfl, g2, f2, z9⟩ := p7
    obtain ⟨rfl, rfl, rfl⟩ := fo_sym3 z9
    exact fin dX6_type_28 rfl (Nat.le_of_ble_eq_true rfl) (Nat.le_of_ble_eq_true rfl) (⟨by omega, rfl, g2, f2, rfl, rfl⟩)
  · exact thr tf_IllegalState dX6_type_12 dX6_type_15 dX6_type_16 dX6_type_19 (by decide) (Nat.le_of_ble_eq_true rfl) (Nat.le_of_ble_eq_true rfl) (Nat.le_of_ble_eq_true rfl) (⟨Or.inl ⟨rfl, by omega⟩, rfl, rfl, rfl⟩)
set_option maxRecDepth 10000 in
set_option maxHeartbeats 4000000 in
theorem mX6_charAt {l : Launch} {Λ : fo_Lt} {I : fo_Mi} {D : fo_Md} {J : fo_Mj} {X : fo_Mi} (hfl : l.stackTraces = false) {L : List Nat} {z : Int32} (hL : fs_L I L) : fx_i l yX6_charAt cX6_charAt 2 .char 6 90 1 6 Λ [.ref (Λ.2.2.1 605), .int (z)] I D J X ((fun r I' D' J' X' => ∃ j c, z = nI j ∧ L[j]? = some c ∧ r = nI c ∧ I' = I ∧ D' = D ∧ J' = J)) ((fun E I' D' J' X' => fo_el [("java/lang/IndexOutOfBoundsException", fo_inr z L.length = false)] E ∧ I' = I ∧ D' = D ∧ J' = J)) := by
  have hl152 := hL.1
  refine fo_sxi hfl (by decide) [(0, .ref (Λ.2.2.1 605)), (1, .int (z))] rfl (Nat.le_of_ble_eq_true rfl) (fun K C fin out thr => ?_)
  refine fo_iload_n C dX6_charAt_0 1 rfl rfl 1 rfl ?_
  refine fo_if_lt C dX6_charAt_1 15 (by decide) 4 rfl (fun c1 => ?_) (fun c1 => ?_)
  · exact thr tf_IndexOutOfBounds dX6_charAt_15 dX6_charAt_18 dX6_charAt_19 dX6_charAt_22 (by decide) (Nat.le_of_ble_eq_true rfl) (Nat.le_of_ble_eq_true rfl) (Nat.le_of_ble_eq_true rfl) (⟨Or.inl ⟨rfl, by first | exact fo_inr_neg (by assumption) | exact fo_inr_ge (by omega) (Int32.not_lt.mp (by assumption))⟩, rfl, rfl, rfl⟩)
  · refine fo_iload_n C dX6_charAt_4 1 rfl rfl 5 rfl ?_
    refine fo_aload_n C dX6_charAt_5 0 rfl rfl 6 rfl ?_
    refine fo_get C dX6_charAt_6 fK8 (by decide : fo_k 605 = 8) (by decide) 4 (by decide) fl_X6_36 (v := .ref (Λ.2.2.1 614)) rfl 9 rfl ?_
    refine fo_get C dX6_charAt_9 fK2 (by decide : fo_k 614 = 2) (by decide) 1 (by decide) fl_X6_223 (v := .int (nI (L.length))) (congrArg (fun x => some (Value.int x)) (hL.2.1)) 12 rfl ?_
    refine fo_icmp_lt C dX6_charAt_12 23 (by decide) 15 rfl (fun c2 => ?_) (fun c2 => ?_)
    · obtain ⟨j, hj, hj31, rfl⟩ := fo_inr_at (fo_inr_in (n := L.length) (by omega) (by assumption) (Int32.not_le.mpr c2))
      obtain ⟨c, hjc⟩ : ∃ c, L[j]? = some c := ⟨_, List.getElem?_eq_getElem hj⟩
      have hc65 := (hL.2.2 _ _ hjc).2
      refine fo_aload_n C dX6_charAt_23 0 rfl rfl 24 rfl ?_
      refine fo_get C dX6_charAt_24 fK8 (by decide : fo_k 605 = 8) (by decide) 4 (by decide) fl_X6_36 (v := .ref (Λ.2.2.1 614)) rfl 27 rfl ?_
      refine fo_get C dX6_charAt_27 fK2 (by decide : fo_k 614 = 2) (by decide) 0 (by decide) fl_X6_239 (v := .ref (Λ.2.2.1 615)) rfl 30 rfl ?_
      refine fo_iload_n C dX6_charAt_30 1 rfl rfl 31 rfl ?_
      refine fo_cald C dX6_charAt_31 (by decide : fo_k 615 = 23) (by rw [(show fo_n 615 = 152 from rfl)]; omega) (nI (c)) ((hL.2.2 _ _ hjc).1) 32 rfl ?_
      exact fin dX6_charAt_32 (pk_charN hc65).1 (Nat.le_of_ble_eq_true rfl) (Nat.le_of_ble_eq_true rfl) (⟨j, c, rfl, hjc, rfl, rfl, rfl, rfl⟩)
    · exact thr tf_IndexOutOfBounds dX6_charAt_15 dX6_charAt_18 dX6_charAt_19 dX6_charAt_22 (by decide) (Nat.le_of_ble_eq_true rfl) (Nat.le_of_ble_eq_true rfl) (Nat.le_of_ble_eq_true rfl) (⟨Or.inl ⟨rfl, by first | exact fo_inr_neg (by assumption) | exact fo_inr_ge (by omega) (Int32.not_lt.mp (by assumption))⟩, rfl, rfl, rfl⟩)
set_option maxRecDepth 10000 in
set_option maxHeartbeats 4000000 in
theorem mX6_errorPosition {l : Launch} {Λ : fo_Lt} {I : fo_Mi} {D : fo_Md} {J : fo_Mj} {X : fo_Mi} (hfl : l.stackTraces = false) {e : Int32} (he : I 605 6 = e) : fx_i l yX6_errorPosition cX6_errorPosition 1 .int 6 90 1 6 Λ [.ref (Λ.2.2.1 605)] I D J X ((fun r I' D' J' X' => ¬ e = -1 ∧ r = e ∧ I' = I ∧ D' = D ∧ J' = J)) ((fun E I' D' J' X' => fo_el [("java/util/NoSuchElementException", e = -1)] E ∧ I' = I ∧ D' = D ∧ J' = J)) := by
  refine fo_sxi hfl (by decide) [(0, .ref (Λ.2.2.1 605))] rfl (Nat.le_of_ble_eq_true rfl) (fun K C fin out thr => ?_)
  refine fo_aload_n C dX6_errorPosition_0 0 rfl rfl 1 rfl ?_
  refine fo_get C dX6_errorPosition_1 fK8 (by decide : fo_k 605 = 8) (by decide) 6 (by decide) fl_X6_40 (v := .int (e)) (congrArg (fun x => some (Value.int x)) (he)) 4 rfl ?_
  refine fo_iconst C dX6_errorPosition_4 (-1) (by decide) 5 rfl ?_
  refine fo_icmp_ne C dX6_errorPosition_5 16 (by decide) 8 rfl (fun c1 => ?_) (fun c1 => ?_)
  · refine fo_aload_n C dX6_errorPosition_16 0 rfl rfl 17 rfl ?_
    refine fo_get C dX6_errorPosition_17 fK8 (by decide : fo_k 605 = 8) (by decide) 6 (by decide) fl_X6_40 (v := .int (e)) (congrArg (fun x => some (Value.int x)) (he)) 20 rfl ?_
    exact fin dX6_errorPosition_20 rfl (Nat.le_of_ble_eq_true rfl) (Nat.le_of_ble_eq_true rfl) (⟨by assumption, rfl, rfl, rfl, rfl⟩)
  · exact thr tf_NoSuchElement dX6_errorPosition_8 dX6_errorPosition_11 dX6_errorPosition_12 dX6_errorPosition_15 (by decide) (Nat.le_of_ble_eq_true rfl) (Nat.le_of_ble_eq_true rfl) (Nat.le_of_ble_eq_true rfl) (⟨Or.inl ⟨rfl, by first | assumption | (rename_i h; exact Decidable.not_not.mp h)⟩, rfl, rfl, rfl⟩)
set_option maxRecDepth 10000 in
set_option maxHeartbeats 4000000 in
theorem mX6_failedCommand {l : Launch} {Λ : fo_Lt} {I : fo_Mi} {D : fo_Md} {J : fo_Mj} {X : fo_Mi} (hfl : l.stackTraces = false) {e : Int32} (he : I 605 7 = e) : fx_i l yX6_failedCommand cX6_failedCommand 1 .int 6 90 1 6 Λ [.ref (Λ.2.2.1 605)] I D J X ((fun r I' D' J' X' => ¬ e = -1 ∧ r = e ∧ I' = I ∧ D' = D ∧ J' = J)) ((fun E I' D' J' X' => fo_el [("java/util/NoSuchElementException", e = -1)] E ∧ I' = I ∧ D' = D ∧ J' = J)) := by
  refine fo_sxi hfl (by decide) [(0, .ref (Λ.2.2.1 605))] rfl (Nat.le_of_ble_eq_true rfl) (fun K C fin out thr => ?_)
  refine fo_aload_n C dX6_failedCommand_0 0 rfl rfl 1 rfl ?_
  refine fo_get C dX6_failedCommand_1 fK8 (by decide : fo_k 605 = 8) (by decide) 7 (by decide) fl_X6_44 (v := .int (e)) (congrArg (fun x => some (Value.int x)) (he)) 4 rfl ?_
  refine fo_iconst C dX6_failedCommand_4 (-1) (by decide) 5 rfl ?_
  refine fo_icmp_ne C dX6_failedCommand_5 16 (by decide) 8 rfl (fun c1 => ?_) (fun c1 => ?_)
  · refine fo_aload_n C dX6_failedCommand_16 0 rfl rfl 17 rfl ?_
    refine fo_get C dX6_failedCommand_17 fK8 (by decide : fo_k 605 = 8) (by decide) 7 (by decide) fl_X6_44 (v := .int (e)) (congrArg (fun x => some (Value.int x)) (he)) 20 rfl ?_
    exact fin dX6_failedCommand_20 rfl (Nat.le_of_ble_eq_true rfl) (Nat.le_of_ble_eq_true rfl) (⟨by assumption, rfl, rfl, rfl, rfl⟩)
  · exact thr tf_NoSuchElement dX6_failedCommand_8 dX6_failedCommand_11 dX6_failedCommand_12 dX6_failedCommand_15 (by decide) (Nat.le_of_ble_eq_true rfl) (Nat.le_of_ble_eq_true rfl) (Nat.le_of_ble_eq_true rfl) (⟨Or.inl ⟨rfl, by first | assumption | (rename_i h; exact Decidable.not_not.mp h)⟩, rfl, rfl, rfl⟩)
