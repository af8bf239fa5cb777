
/-! THE MODEL: a program's run -/
theorem fa_run_app : ∀ (l1 l2 : List fq_s) (s : fa_S), fa_run s (l1 ++ l2) = (match fa_run s l1 with
  | .inl o => .inl o
  | .inr s2 => fa_run s2 l2)
  | [], l2, s => rfl
  | q :: l1, l2, s => by
    rw [List.cons_append, fa_run, fa_run]
    cases h : fa_step s q.1 q.2.1 q.2.2.1 with
    | none => rfl
    | some s2 => exact fa_run_app l1 l2 s2
theorem fm_fv_cons (c : fm_c) (l : List fm_c) : fm_fv (c :: l) = c.2.2.2 ++ fm_fv l := by
  unfold fm_fv
  rw [List.flatMap_cons]
theorem fm_fv_at : ∀ {Cs : List fm_c} {k j x : Nat} {c : fm_c}, Cs[k]? = some c → c.2.2.2[j]? = some x → (fm_fv Cs)[(fm_fv (Cs.take k)).length + j]? = some x
  | [], k, j, x, c, h, _ => by cases h
  | d :: l, 0, j, x, c, h, h2 => by
    cases h
    rw [List.take_zero, fm_fv_cons]
    show (d.2.2.2 ++ fm_fv l)[0 + j]? = some x
    rw [Nat.zero_add, List.getElem?_append_left (List.getElem?_eq_some_iff.mp h2).1]
    exact h2
  | d :: l, k + 1, j, x, c, h, h2 => by
    rw [List.take_succ_cons, fm_fv_cons, fm_fv_cons, List.length_append, Nat.add_assoc, List.getElem?_append_right (Nat.le_add_right _ _), Nat.add_sub_cancel_left]
    exact fm_fv_at (Cs := l) (k := k) h h2
theorem fm_fv_end : ∀ {Cs : List fm_c} {k : Nat} {c : fm_c}, Cs[k]? = some c → (fm_fv (Cs.take (k + 1))).length = (fm_fv (Cs.take k)).length + c.2.2.2.length
  | [], k, c, h => by cases h
  | d :: l, 0, c, h => by
    cases h
    rw [List.take_succ_cons, List.take_zero, List.take_zero, fm_fv_cons, List.length_append]
    show d.2.2.2.length + 0 = 0 + d.2.2.2.length
    omega
  | d :: l, k + 1, c, h => by
    rw [List.take_succ_cons, List.take_succ_cons, fm_fv_cons, fm_fv_cons, List.length_append, List.length_append, fm_fv_end (Cs := l) (k := k) h]
    omega
theorem fm_all_drop {Cs : List fm_c} {k : Nat} {c : fm_c} (h : Cs[k]? = some c) : fm_all k (Cs.drop k) = fm_sc k c ++ fm_all (k + 1) (Cs.drop (k + 1)) := by
  obtain ⟨hk, e⟩ := List.getElem?_eq_some_iff.mp h
  rw [List.drop_eq_getElem_cons hk, e]
  rfl
theorem fm_R.ok {g : Nat → Int32} {s : fa_S} (h : fm_R g s) : s.1 ≤ 8 ∧ s.2.1 ≤ 9 ∧ ∀ k, k < 4 → s.2.2.2.2.1 k ≤ 30 := ⟨h.1.1, h.1.2.1.2, h.1.2.2.2.1⟩
theorem fa_step_p {s : fa_S} {a b : Nat} : fa_step s 112 a b = if (1 ≤ b ∧ b ≤ 9) ∧ (s.1 < 8 ∧ fp_sum s.2.2.2.2.1 0 4 = 0) then some (s.1 + 1, s.2.1, va_up s.2.2.1 s.1 a, va_up s.2.2.2.1 s.1 b, s.2.2.2.2.1, s.2.2.2.2.2) else none := rfl
theorem fa_step_s {s : fa_S} {a x : Nat} : fa_step s 115 a x = if a < 4 ∧ s.2.2.2.2.1 a < 30 then some (s.1, s.2.1, s.2.2.1, s.2.2.2.1, va_up s.2.2.2.2.1 a (s.2.2.2.2.1 a + 1), va_up s.2.2.2.2.2 a (va_up (s.2.2.2.2.2 a) (s.2.2.2.2.1 a) x)) else none := rfl
theorem fa_step_l {s : fa_S} {a x : Nat} : fa_step s 108 a x = if 1 ≤ a ∧ a ≤ 9 then some (s.1, a, s.2.2.1, s.2.2.2.1, s.2.2.2.2.1, s.2.2.2.2.2) else none := rfl
theorem fa_step_f {s : fa_S} {a x : Nat} : fa_step s 102 a x = if a < 4 then some (s.1, s.2.1, s.2.2.1, s.2.2.2.1, va_up s.2.2.2.2.1 a 0, s.2.2.2.2.2) else none := rfl
theorem fa_run_1n {s : fa_S} {w a x o : Nat} (h : fa_step s w a x = none) : fa_run s [(w, a, x, o)] = .inl o := by rw [fa_run, h]
theorem fa_run_1s {s s2 : fa_S} {w a x o : Nat} (h : fa_step s w a x = some s2) : fa_run s [(w, a, x, o)] = .inr s2 := by rw [fa_run, h]; rfl

set_option maxRecDepth 10000 in
set_option maxHeartbeats 4000000 in
theorem mX7_cannot {l : Launch} {Λ : fo_Lt} {I : fo_Mi} {D : fo_Md} {J : fo_Mj} {X : fo_Mi}  {k : Nat} {s : fa_S} {Cs : List fm_c} {c : fm_c} (hR : fm_R (I 617) s) (hC : fm_C I Cs) (hU : fm_U I (fm_fv Cs)) (hc : Cs[k]? = some c) (hck : fm_ck c) (h30 : Cs.length ≤ 30) (h60 : (fm_fv Cs).length ≤ 60) : fk_i l yX7_cannot cX7_cannot 5 .boolean 3 64 Λ [.ref (Λ.2.2.1 616), .int (nI k)] I D J X ((fun r I' D' J' X' => (∀ o, fa_run s (fm_sc k c) = .inl o → r = fo_b true ∧ o = k) ∧ (∀ s2, fa_run s (fm_sc k c) = .inr s2 → r = fo_b false ∧ fm_R (I' 617) s2) ∧ (∀ b, b ≠ 617 → I' b = I b) ∧ D' = D ∧ J' = J ∧ X' = X)) := by
  obtain ⟨k0, a, b, vs⟩ := c
  have hrow := hC.2 k _ hc
  obtain ⟨hk0, ha65, hb9, hvs9, hkc9⟩ := hck
  replace hk0 : k0 < 4 := hk0
  replace ha65 : a < 65536 := ha65
  replace hb9 : b ≤ 9 := hb9
  replace hvs9 : ∀ x, x ∈ vs → x ≤ 999 := hvs9
  have hkl : k < Cs.length := (List.getElem?_eq_some_iff.mp hc).1
  have hok9 := hR.ok
  have ho1 := hok9.1
  have ho3 := hok9.2.1
  have ho5 := hok9.2.2
  obtain ⟨w0, hw0⟩ : ∃ w0, (fm_fv (Cs.take k)).length = w0 := ⟨_, rfl⟩
  have hend := fm_fv_end hc
  rw [hw0] at hend
  replace hend : (fm_fv (Cs.take (k + 1))).length = w0 + vs.length := hend
  have hwl : w0 + vs.length ≤ 60 := by
    rw [← hend]
    exact Nat.le_trans (by conv => { rhs; rw [← List.take_append_drop (k + 1) Cs] }; unfold fm_fv; rw [List.flatMap_append, List.length_append]; exact Nat.le_add_right _ _) h60
  have hprev : 0 < k → I 627 (k - 1) = nI w0 := fun h => by
    have h2 := (hC.2 (k - 1) _ (List.getElem?_eq_getElem (show k - 1 < Cs.length by omega))).2.2.2
    rw [show k - 1 + 1 = k by omega, hw0] at h2
    exact h2
  have hT : fm_T I 617 s.1 s.2.1 s.2.2.1 s.2.2.2.1 s.2.2.2.2.1 s.2.2.2.2.2 := hR
  refine fo_si (by decide) [(0, .ref (Λ.2.2.1 616)), (1, .int (nI k))] rfl (Nat.le_of_ble_eq_true rfl) (fun K C fin => ?_)
  refine fo_aload_n C dX7_cannot_0 0 rfl rfl 1 rfl ?_
  refine fo_get C dX7_cannot_1 fK9 (by decide : fo_k 616 = 9) (by decide) 14 (by decide) fl_X7_54 (v := .ref (Λ.2.2.1 625)) rfl 4 rfl ?_
  refine fo_iload_n C dX7_cannot_4 1 rfl rfl 5 rfl ?_
  refine fo_iald C dX7_cannot_5 (by decide : fo_k 625 = 20) (by rw [(show fo_n 625 = 32 from rfl)]; omega) (nI (a)) (hrow.2.1) 6 rfl ?_
  refine fo_istore_n C dX7_cannot_6 rfl [(2, .int (nI a)), (0, .ref (Λ.2.2.1 616)), (1, .int (nI k))] rfl (by decide) 7 rfl ?_
  refine fo_iconst C dX7_cannot_7 (nI 0) ki_0 8 rfl ?_
  refine fo_istore_n C dX7_cannot_8 rfl [(3, .int (nI 0)), (2, .int (nI a)), (0, .ref (Λ.2.2.1 616)), (1, .int (nI k))] rfl (by decide) 9 rfl ?_
  refine fo_aload_n C dX7_cannot_9 2 rfl rfl 10 rfl ?_
  refine fo_get C dX7_cannot_10 fK9 (by decide : fo_k 616 = 9) (by decide) 13 (by decide) fl_X7_51 (v := .ref (Λ.2.2.1 624)) rfl 13 rfl ?_
  refine fo_iload_n C dX7_cannot_13 3 rfl rfl 14 rfl ?_
  refine fo_iald C dX7_cannot_14 (by decide : fo_k 624 = 20) (by rw [(show fo_n 624 = 32 from rfl)]; omega) (nI (k0)) (hrow.1) 15 rfl ?_
  obtain rfl | rfl | rfl | rfl : k0 = 0 ∨ k0 = 1 ∨ k0 = 2 ∨ k0 = 3 := by omega
  · skip
    refine fo_tabIn C dX7_cannot_15 (by decide) (by decide) (off := 25) (by decide) 40 (by decide) ?_
    refine fo_aload_n C dX7_cannot_40 2 rfl rfl 41 rfl ?_
    refine fo_iload_n C dX7_cannot_41 1 rfl rfl 42 rfl ?_
    refine fo_aload_n C dX7_cannot_42 2 rfl rfl 43 rfl ?_
    refine fo_get C dX7_cannot_43 fK9 (by decide : fo_k 616 = 9) (by decide) 15 (by decide) fl_X7_57 (v := .ref (Λ.2.2.1 626)) rfl 46 rfl ?_
    refine fo_iload_n C dX7_cannot_46 3 rfl rfl 47 rfl ?_
    have hkc : fo_kc a = true := hkc9 rfl
    by_cases hb19 : 1 ≤ b ∧ b ≤ 9
    · skip
      by_cases hok : s.1 < 8 ∧ fp_sum s.2.2.2.2.1 0 4 = 0
      · have hkz : (fo_kc a && fo_19 (nI b)) = true := by rw [hkc, fo_19_nI hb19.1 hb19.2]; rfl
        have hrun : fa_run s (fm_sc k (0, a, b, vs)) = .inr (s.1 + 1, s.2.1, va_up s.2.2.1 s.1 a, va_up s.2.2.2.1 s.1 b, s.2.2.2.2.1, s.2.2.2.2.2) := by exact fa_run_1s (by rw [fa_step_p]; exact if_pos ⟨hb19, hok⟩)
        refine fo_iald C dX7_cannot_47 (by decide : fo_k 626 = 20) (by rw [(show fo_n 626 = 32 from rfl)]; omega) (nI (b)) (hrow.2.2.1) 48 rfl ?_
        refine fo_qvi C dX7_cannot_48 (mX7_cannotAdd (w := a) (z := nI b) ha65 hT) lv_X7_107 (by decide : fo_k 616 = 9) rfl (by decide) rfl ⟨Nat.le_of_ble_eq_true rfl, Nat.le_of_ble_eq_true rfl⟩ ⟨Nat.le_of_ble_eq_true rfl, Nat.le_of_ble_eq_true rfl⟩ [] rfl (Nat.le_of_ble_eq_true rfl) 51 rfl (fo_er ?_)
        rw [fg_ca_t hkz hok]
        refine fo_nif_le C (by omega) dX7_cannot_51 56 (by decide) 54 rfl (fun c7 => ?_) (fun c7 => ?_)
        · refine fo_aload_n C dX7_cannot_56 2 rfl rfl 57 rfl ?_
          refine fo_iload_n C dX7_cannot_57 1 rfl rfl 58 rfl ?_
          refine fo_aload_n C dX7_cannot_58 2 rfl rfl 59 rfl ?_
          refine fo_get C dX7_cannot_59 fK9 (by decide : fo_k 616 = 9) (by decide) 15 (by decide) fl_X7_57 (v := .ref (Λ.2.2.1 626)) rfl 62 rfl ?_
          refine fo_iload_n C dX7_cannot_62 3 rfl rfl 63 rfl ?_
          refine fo_iald C dX7_cannot_63 (by decide : fo_k 626 = 20) (by rw [(show fo_n 626 = 32 from rfl)]; omega) (nI (b)) (hrow.2.2.1) 64 rfl ?_
          refine fo_qvi C dX7_cannot_64 (mX7_adds (w := a) (q := b) hok.1 (of_decide_eq_true hkc) hb19.1 hb19.2 hT) lv_X7_114 (by decide : fo_k 616 = 9) rfl (by decide) rfl ⟨Nat.le_of_ble_eq_true rfl, Nat.le_of_ble_eq_true rfl⟩ ⟨Nat.le_of_ble_eq_true rfl, Nat.le_of_ble_eq_true rfl⟩ [] rfl (Nat.le_of_ble_eq_true rfl) 67 rfl (fun r8 I9 D10 J11 X12 p13 => ?_)
          obtain ⟨rfl, ht2, a4, z3, z4, z5⟩ := p13
          obtain rfl := z3.symm
          obtain rfl := z4.symm
          obtain rfl := z5.symm
          refine fo_istore_n C dX7_cannot_67 rfl [(3, .int (nI (s.1))), (2, .int (nI a)), (0, .ref (Λ.2.2.1 616)), (1, .int (nI k))] rfl (by decide) 68 rfl ?_
          refine fo_iconst C dX7_cannot_68 (nI 0) ki_0 69 rfl ?_
          exact fin dX7_cannot_69 (by first | rfl | exact fo_nb _) (⟨fun o h => (by rw [hrun] at h; cases h), fun s3 h => (by rw [hrun] at h; cases h; exact ⟨rfl, ht2⟩), fun b hb => a4 b hb, rfl, rfl, rfl⟩)
        · omega
      · have hkz : (fo_kc a && fo_19 (nI b)) = true := by rw [hkc, fo_19_nI hb19.1 hb19.2]; rfl
        have hrun : fa_run s (fm_sc k (0, a, b, vs)) = .inl k := by exact fa_run_1n (by rw [fa_step_p]; exact if_neg (fun q => hok q.2))
        refine fo_iald C dX7_cannot_47 (by decide : fo_k 626 = 20) (by rw [(show fo_n 626 = 32 from rfl)]; omega) (nI (b)) (hrow.2.2.1) 48 rfl ?_
        refine fo_qvi C dX7_cannot_48 (mX7_cannotAdd (w := a) (z := nI b) ha65 hT) lv_X7_107 (by decide : fo_k 616 = 9) rfl (by decide) rfl ⟨Nat.le_of_ble_eq_true rfl, Nat.le_of_ble_eq_true rfl⟩ ⟨Nat.le_of_ble_eq_true rfl, Nat.le_of_ble_eq_true rfl⟩ [] rfl (Nat.le_of_ble_eq_true rfl) 51 rfl (fo_er ?_)
        rw [fg_ca_2 hkz hok]
        refine fo_nif_le C (by omega) dX7_cannot_51 56 (by decide) 54 rfl (fun c20 => ?_) (fun c20 => ?_)
        · omega
        · refine fo_iconst C dX7_cannot_54 (nI 1) ki_1 55 rfl ?_
          exact fin dX7_cannot_55 (by first | rfl | exact fo_nb _) (⟨fun o h => (by rw [hrun] at h; cases h; exact ⟨rfl, rfl⟩), fun s3 h => (by rw [hrun] at h; cases h), fun _ _ => rfl, rfl, rfl, rfl⟩)
    · have hkz : (fo_kc a && fo_19 (nI b)) = false := by rw [hkc, fo_19_nat (by omega), decide_eq_false hb19]; rfl
      have hrun : fa_run s (fm_sc k (0, a, b, vs)) = .inl k := by exact fa_run_1n (by rw [fa_step_p]; exact if_neg (fun q => hb19 q.1))
      refine fo_iald C dX7_cannot_47 (by decide : fo_k 626 = 20) (by rw [(show fo_n 626 = 32 from rfl)]; omega) (nI (b)) (hrow.2.2.1) 48 rfl ?_
      refine fo_qvi C dX7_cannot_48 (mX7_cannotAdd (w := a) (z := nI b) ha65 hT) lv_X7_107 (by decide : fo_k 616 = 9) rfl (by decide) rfl ⟨Nat.le_of_ble_eq_true rfl, Nat.le_of_ble_eq_true rfl⟩ ⟨Nat.le_of_ble_eq_true rfl, Nat.le_of_ble_eq_true rfl⟩ [] rfl (Nat.le_of_ble_eq_true rfl) 51 rfl (fo_er ?_)
      rw [fg_ca_1 hkz]
      refine fo_nif_le C (by omega) dX7_cannot_51 56 (by decide) 54 rfl (fun c27 => ?_) (fun c27 => ?_)
      · omega
      · refine fo_iconst C dX7_cannot_54 (nI 1) ki_1 55 rfl ?_
        exact fin dX7_cannot_55 (by first | rfl | exact fo_nb _) (⟨fun o h => (by rw [hrun] at h; cases h; exact ⟨rfl, rfl⟩), fun s3 h => (by rw [hrun] at h; cases h), fun _ _ => rfl, rfl, rfl, rfl⟩)
  · skip
    refine fo_tabIn C dX7_cannot_15 (by decide) (by decide) (off := 55) (by decide) 70 (by decide) ?_
    refine fo_iload_n C dX7_cannot_70 3 rfl rfl 71 rfl ?_
    refine fo_nif_ne C (by omega) dX7_cannot_71 78 (by decide) 74 rfl (fun c28 => ?_) (fun c28 => ?_)
    · refine fo_aload_n C dX7_cannot_78 2 rfl rfl 79 rfl ?_
      refine fo_get C dX7_cannot_79 fK9 (by decide : fo_k 616 = 9) (by decide) 16 (by decide) fl_X7_60 (v := .ref (Λ.2.2.1 627)) rfl 82 rfl ?_
      refine fo_iload_n C dX7_cannot_82 3 rfl rfl 83 rfl ?_
      refine fo_iconst C dX7_cannot_83 (nI 1) ki_1 84 rfl ?_
      refine fo_isub C dX7_cannot_84 (nI (k - 1)) (pk_sub (by omega)) 85 rfl ?_
      refine fo_iald C dX7_cannot_85 (by decide : fo_k 627 = 20) (by rw [(show fo_n 627 = 32 from rfl)]; omega) (nI (w0)) (hprev (by omega)) 86 rfl ?_
      refine fo_istore C dX7_cannot_86 [(4, .int (nI w0)), (3, .int (nI 0)), (2, .int (nI a)), (0, .ref (Λ.2.2.1 616)), (1, .int (nI k))] rfl (by decide) 88 rfl ?_
      have hL88 : ∀ (m88 : Nat) (j : Nat) (s2 : fa_S) (Y : fo_Mi) (u : Int32), vs.length + 1 - j < m88 → j ≤ vs.length → fm_R (Y 617) s2 → (∀ b, b ≠ 617 → Y b = I b) → fa_run s (fm_sc k (1, a, b, vs)) = fa_run s2 ((vs.drop j).map (fun x => (115, a, x, k))) → fo_G l Λ { frames := 3, cells := 0, slots := 0, locals := 64 } K 0 0 88 [(4, .int (nI (w0 + j))), (2, .int (nI a)), (3, .int (u)), (0, .ref (Λ.2.2.1 616)), (1, .int (nI k))] [] Y D J X := by
        intro m88
        induction m88 with
        | zero => intro j s2 Y u hm; exact absurd hm (Nat.not_lt_zero _)
        | succ m88 ih88 =>
          intro j s2 Y u hm88 hjl hR2 hYf hinv
          have hok8 := hR2.ok
          have ho8 := hok8.1
          have ho58 := hok8.2.2
          refine fo_iload C dX7_cannot_88 0 rfl 90 rfl ?_
          refine fo_aload_n C dX7_cannot_90 3 rfl rfl 91 rfl ?_
          refine fo_get C dX7_cannot_91 fK9 (by decide : fo_k 616 = 9) (by decide) 16 (by decide) fl_X7_60 (v := .ref (Λ.2.2.1 627)) rfl 94 rfl ?_
          refine fo_iload_n C dX7_cannot_94 4 rfl rfl 95 rfl ?_
          refine fo_iald C dX7_cannot_95 (by decide : fo_k 627 = 20) (by rw [(show fo_n 627 = 32 from rfl)]; omega) (nI (w0 + vs.length)) ((by rw [hYf 627 (by decide)]; exact (hrow.2.2.2.trans (congrArg nI hend)))) 96 rfl ?_
          refine fo_ncmp_ge C (by omega) (by omega) dX7_cannot_96 135 (by decide) 99 rfl (fun c29 => ?_) (fun c29 => ?_)
          · have hrun : fa_run s (fm_sc k (1, a, b, vs)) = .inr s2 := by rw [hinv, List.drop_eq_nil_iff.mpr (show vs.length ≤ j by omega)]; rfl
            refine fo_iconst C dX7_cannot_135 (nI 0) ki_0 136 rfl ?_
            exact fin dX7_cannot_136 (by first | rfl | exact fo_nb _) (⟨fun o h => (by rw [hrun] at h; cases h), fun s3 h => (by rw [hrun] at h; cases h; exact ⟨rfl, hR2⟩), hYf, rfl, rfl, rfl⟩)
          · obtain ⟨x, hjx⟩ : ∃ x, vs[j]? = some x := ⟨_, List.getElem?_eq_getElem (show j < vs.length by omega)⟩
            have hx9 : x ≤ 999 := hvs9 x (List.mem_of_getElem? hjx)
            have hvx : (fm_fv Cs)[w0 + j]? = some x := by rw [← hw0]; exact fm_fv_at hc hjx
            have hdrop : vs.drop j = x :: vs.drop (j + 1) := by obtain ⟨hj9, e9⟩ := List.getElem?_eq_some_iff.mp hjx; rw [List.drop_eq_getElem_cons hj9, e9]
            have h999 := fo_999_nI hx9
            by_cases ha4 : a < 4
            · skip
              by_cases hok : s2.2.2.2.2.1 a < 30
              · have hs3 : fa_step s2 115 a x = some (s2.1, s2.2.1, s2.2.2.1, s2.2.2.2.1, va_up s2.2.2.2.2.1 a (s2.2.2.2.2.1 a + 1), va_up s2.2.2.2.2.2 a (va_up (s2.2.2.2.2.2 a) (s2.2.2.2.2.1 a) x)) := by rw [fa_step_s]; exact if_pos ⟨ha4, hok⟩
                have hx4 : fg_cs s2.2.2.2.2.1 (nI a) (nI x) = 0 := fg_cs_t ha4 h999 hok
                refine fo_aload_n C dX7_cannot_99 3 rfl rfl 100 rfl ?_
                refine fo_iload_n C dX7_cannot_100 1 rfl rfl 101 rfl ?_
                refine fo_aload_n C dX7_cannot_101 3 rfl rfl 102 rfl ?_
                refine fo_get C dX7_cannot_102 fK9 (by decide : fo_k 616 = 9) (by decide) 17 (by decide) fl_X7_63 (v := .ref (Λ.2.2.1 628)) rfl 105 rfl ?_
                refine fo_iload C dX7_cannot_105 0 rfl 107 rfl ?_
                refine fo_iald C dX7_cannot_107 (by decide : fo_k 628 = 20) (by rw [(show fo_n 628 = 60 from rfl)]; omega) (nI (x)) ((by rw [hYf 628 (by decide)]; exact (hU.2 _ _ hvx))) 108 rfl ?_
                refine fo_qvi C dX7_cannot_108 (mX7_cannotSee (x := nI a) (z := nI x) (show fm_T Y 617 s2.1 s2.2.1 s2.2.2.1 s2.2.2.2.1 s2.2.2.2.2.1 s2.2.2.2.2.2 from hR2)) lv_X7_123 (by decide : fo_k 616 = 9) rfl (by decide) rfl ⟨Nat.le_of_ble_eq_true rfl, Nat.le_of_ble_eq_true rfl⟩ ⟨Nat.le_of_ble_eq_true rfl, Nat.le_of_ble_eq_true rfl⟩ [] rfl (Nat.le_of_ble_eq_true rfl) 111 rfl (fo_er ?_)
                rw [hx4]
                refine fo_nif_le C (by omega) dX7_cannot_111 116 (by decide) 114 rfl (fun c36 => ?_) (fun c36 => ?_)
                · refine fo_aload_n C dX7_cannot_116 3 rfl rfl 117 rfl ?_
                  refine fo_iload_n C dX7_cannot_117 1 rfl rfl 118 rfl ?_
                  refine fo_aload_n C dX7_cannot_118 3 rfl rfl 119 rfl ?_
                  refine fo_get C dX7_cannot_119 fK9 (by decide : fo_k 616 = 9) (by decide) 17 (by decide) fl_X7_63 (v := .ref (Λ.2.2.1 628)) rfl 122 rfl ?_
                  refine fo_iload C dX7_cannot_122 0 rfl 124 rfl ?_
                  refine fo_iald C dX7_cannot_124 (by decide : fo_k 628 = 20) (by rw [(show fo_n 628 = 60 from rfl)]; omega) (nI (x)) ((by rw [hYf 628 (by decide)]; exact (hU.2 _ _ hvx))) 125 rfl ?_
                  refine fo_qvi C dX7_cannot_125 (mX7_sees (k := a) (u := x) ha4 hok hx9 (show fm_T Y 617 s2.1 s2.2.1 s2.2.2.1 s2.2.2.2.1 s2.2.2.2.2.1 s2.2.2.2.2.2 from hR2)) lv_X7_126 (by decide : fo_k 616 = 9) rfl (by decide) rfl ⟨Nat.le_of_ble_eq_true rfl, Nat.le_of_ble_eq_true rfl⟩ ⟨Nat.le_of_ble_eq_true rfl, Nat.le_of_ble_eq_true rfl⟩ [] rfl (Nat.le_of_ble_eq_true rfl) 128 rfl (fun r37 I38 D39 J40 X41 p42 => ?_)
                  obtain ⟨rfl, ht2, a4, z3, z4, z5⟩ := p42
                  obtain rfl := z3.symm
                  obtain rfl := z4.symm
                  obtain rfl := z5.symm
                  refine fo_istore_n C dX7_cannot_128 rfl [(3, .int (nI (s2.2.2.2.2.1 a))), (4, .int (nI (w0 + j))), (2, .int (nI a)), (0, .ref (Λ.2.2.1 616)), (1, .int (nI k))] rfl (by decide) 129 rfl ?_
                  refine fo_iinc C dX7_cannot_129 1 rfl (nI (w0 + j + 1)) (nI_inc1 _) [(4, .int (nI (w0 + j + 1))), (3, .int (nI (s2.2.2.2.2.1 a))), (2, .int (nI a)), (0, .ref (Λ.2.2.1 616)), (1, .int (nI k))] rfl (by decide) 132 rfl ?_
                  refine fo_goto C dX7_cannot_132 88 (by decide) ?_
                  refine fo_sub C [0, 2, 1, 3, 4] (lv' := [(4, .int (nI (w0 + j + 1))), (2, .int (nI a)), (3, .int (nI (s2.2.2.2.2.1 a))), (0, .ref (Λ.2.2.1 616)), (1, .int (nI k))]) rfl ?_
                  exact ih88 (j + 1) (s2.1, s2.2.1, s2.2.2.1, s2.2.2.2.1, va_up s2.2.2.2.2.1 a (s2.2.2.2.2.1 a + 1), va_up s2.2.2.2.2.2 a (va_up (s2.2.2.2.2.2 a) (s2.2.2.2.2.1 a) x)) I38 _ (by omega) (by omega) ht2 (fun b hb => (a4 b hb).trans (hYf b hb)) (by rw [hinv, hdrop, List.map_cons, fa_run, hs3])
                · omega
              · have hs3 : fa_step s2 115 a x = none := by rw [fa_step_s]; exact if_neg (fun q => hok q.2)
                have hx4 : fg_cs s2.2.2.2.2.1 (nI a) (nI x) = 3 := fg_cs_3 ha4 h999 hok
                have hrun : fa_run s (fm_sc k (1, a, b, vs)) = .inl k := by rw [hinv, hdrop, List.map_cons, fa_run, hs3]
                refine fo_aload_n C dX7_cannot_99 3 rfl rfl 100 rfl ?_
                refine fo_iload_n C dX7_cannot_100 1 rfl rfl 101 rfl ?_
                refine fo_aload_n C dX7_cannot_101 3 rfl rfl 102 rfl ?_
                refine fo_get C dX7_cannot_102 fK9 (by decide : fo_k 616 = 9) (by decide) 17 (by decide) fl_X7_63 (v := .ref (Λ.2.2.1 628)) rfl 105 rfl ?_
                refine fo_iload C dX7_cannot_105 0 rfl 107 rfl ?_
                refine fo_iald C dX7_cannot_107 (by decide : fo_k 628 = 20) (by rw [(show fo_n 628 = 60 from rfl)]; omega) (nI (x)) ((by rw [hYf 628 (by decide)]; exact (hU.2 _ _ hvx))) 108 rfl ?_
                refine fo_qvi C dX7_cannot_108 (mX7_cannotSee (x := nI a) (z := nI x) (show fm_T Y 617 s2.1 s2.2.1 s2.2.2.1 s2.2.2.2.1 s2.2.2.2.2.1 s2.2.2.2.2.2 from hR2)) lv_X7_123 (by decide : fo_k 616 = 9) rfl (by decide) rfl ⟨Nat.le_of_ble_eq_true rfl, Nat.le_of_ble_eq_true rfl⟩ ⟨Nat.le_of_ble_eq_true rfl, Nat.le_of_ble_eq_true rfl⟩ [] rfl (Nat.le_of_ble_eq_true rfl) 111 rfl (fo_er ?_)
                rw [hx4]
                refine fo_nif_le C (by omega) dX7_cannot_111 116 (by decide) 114 rfl (fun c49 => ?_) (fun c49 => ?_)
                · omega
                · refine fo_iconst C dX7_cannot_114 (nI 1) ki_1 115 rfl ?_
                  exact fin dX7_cannot_115 (by first | rfl | exact fo_nb _) (⟨fun o h => (by rw [hrun] at h; cases h; exact ⟨rfl, rfl⟩), fun s3 h => (by rw [hrun] at h; cases h), hYf, rfl, rfl, rfl⟩)
            · have hs3 : fa_step s2 115 a x = none := by rw [fa_step_s]; exact if_neg (fun q => ha4 q.1)
              have hx4 : fg_cs s2.2.2.2.2.1 (nI a) (nI x) = 1 := fg_cs_1 (by rw [fo_inr_nat (by omega), decide_eq_false ha4])
              have hrun : fa_run s (fm_sc k (1, a, b, vs)) = .inl k := by rw [hinv, hdrop, List.map_cons, fa_run, hs3]
              refine fo_aload_n C dX7_cannot_99 3 rfl rfl 100 rfl ?_
              refine fo_iload_n C dX7_cannot_100 1 rfl rfl 101 rfl ?_
              refine fo_aload_n C dX7_cannot_101 3 rfl rfl 102 rfl ?_
              refine fo_get C dX7_cannot_102 fK9 (by decide : fo_k 616 = 9) (by decide) 17 (by decide) fl_X7_63 (v := .ref (Λ.2.2.1 628)) rfl 105 rfl ?_
              refine fo_iload C dX7_cannot_105 0 rfl 107 rfl ?_
              refine fo_iald C dX7_cannot_107 (by decide : fo_k 628 = 20) (by rw [(show fo_n 628 = 60 from rfl)]; omega) (nI (x)) ((by rw [hYf 628 (by decide)]; exact (hU.2 _ _ hvx))) 108 rfl ?_
              refine fo_qvi C dX7_cannot_108 (mX7_cannotSee (x := nI a) (z := nI x) (show fm_T Y 617 s2.1 s2.2.1 s2.2.2.1 s2.2.2.2.1 s2.2.2.2.2.1 s2.2.2.2.2.2 from hR2)) lv_X7_123 (by decide : fo_k 616 = 9) rfl (by decide) rfl ⟨Nat.le_of_ble_eq_true rfl, Nat.le_of_ble_eq_true rfl⟩ ⟨Nat.le_of_ble_eq_true rfl, Nat.le_of_ble_eq_true rfl⟩ [] rfl (Nat.le_of_ble_eq_true rfl) 111 rfl (fo_er ?_)
              rw [hx4]
              refine fo_nif_le C (by omega) dX7_cannot_111 116 (by decide) 114 rfl (fun c56 => ?_) (fun c56 => ?_)
              · omega
              · refine fo_iconst C dX7_cannot_114 (nI 1) ki_1 115 rfl ?_
                exact fin dX7_cannot_115 (by first | rfl | exact fo_nb _) (⟨fun o h => (by rw [hrun] at h; cases h; exact ⟨rfl, rfl⟩), fun s3 h => (by rw [hrun] at h; cases h), hYf, rfl, rfl, rfl⟩)
      refine fo_sub C [0, 2, 1, 3, 4] (lv' := [(4, .int (nI w0)), (2, .int (nI a)), (3, .int (nI 0)), (0, .ref (Λ.2.2.1 616)), (1, .int (nI k))]) rfl ?_
      exact hL88 (vs.length + 1 + 1) 0 s I (nI 0) (by omega) (Nat.zero_le _) hR (fun _ _ => rfl) rfl
    · refine fo_iconst C dX7_cannot_74 (nI 0) ki_0 75 rfl ?_
      refine fo_goto C dX7_cannot_75 86 (by decide) ?_
      have hw00 : w0 = 0 := by rw [← hw0, show k = 0 by omega]; rfl
      refine fo_ti (b := nI w0) (congrArg nI hw00.symm) ?_
      refine fo_istore C dX7_cannot_86 [(4, .int (nI w0)), (3, .int (nI 0)), (2, .int (nI a)), (0, .ref (Λ.2.2.1 616)), (1, .int (nI k))] rfl (by decide) 88 rfl ?_
      have hL88 : ∀ (m88 : Nat) (j : Nat) (s2 : fa_S) (Y : fo_Mi) (u : Int32), vs.length + 1 - j < m88 → j ≤ vs.length → fm_R (Y 617) s2 → (∀ b, b ≠ 617 → Y b = I b) → fa_run s (fm_sc k (1, a, b, vs)) = fa_run s2 ((vs.drop j).map (fun x => (115, a, x, k))) → fo_G l Λ { frames := 3, cells := 0, slots := 0, locals := 64 } K 0 0 88 [(4, .int (nI (w0 + j))), (2, .int (nI a)), (3, .int (u)), (0, .ref (Λ.2.2.1 616)), (1, .int (nI k))] [] Y D J X := by
        intro m88
        induction m88 with
        | zero => intro j s2 Y u hm; exact absurd hm (Nat.not_lt_zero _)
        | succ m88 ih88 =>
          intro j s2 Y u hm88 hjl hR2 hYf hinv
          have hok8 := hR2.ok
          have ho8 := hok8.1
          have ho58 := hok8.2.2
          refine fo_iload C dX7_cannot_88 0 rfl 90 rfl ?_
          refine fo_aload_n C dX7_cannot_90 3 rfl rfl 91 rfl ?_
          refine fo_get C dX7_cannot_91 fK9 (by decide : fo_k 616 = 9) (by decide) 16 (by decide) fl_X7_60 (v := .ref (Λ.2.2.1 627)) rfl 94 rfl ?_
          refine fo_iload_n C dX7_cannot_94 4 rfl rfl 95 rfl ?_
          refine fo_iald C dX7_cannot_95 (by decide : fo_k 627 = 20) (by rw [(show fo_n 627 = 32 from rfl)]; omega) (nI (w0 + vs.length)) ((by rw [hYf 627 (by decide)]; exact (hrow.2.2.2.trans (congrArg nI hend)))) 96 rfl ?_
          refine fo_ncmp_ge C (by omega) (by omega) dX7_cannot_96 135 (by decide) 99 rfl (fun c57 => ?_) (fun c57 => ?_)
          · have hrun : fa_run s (fm_sc k (1, a, b, vs)) = .inr s2 := by rw [hinv, List.drop_eq_nil_iff.mpr (show vs.length ≤ j by omega)]; rfl
            refine fo_iconst C dX7_cannot_135 (nI 0) ki_0 136 rfl ?_
            exact fin dX7_cannot_136 (by first | rfl | exact fo_nb _) (⟨fun o h => (by rw [hrun] at h; cases h), fun s3 h => (by rw [hrun] at h; cases h; exact ⟨rfl, hR2⟩), hYf, rfl, rfl, rfl⟩)
          · obtain ⟨x, hjx⟩ : ∃ x, vs[j]? = some x := ⟨_, List.getElem?_eq_getElem (show j < vs.length by omega)⟩
            have hx9 : x ≤ 999 := hvs9 x (List.mem_of_getElem? hjx)
            have hvx : (fm_fv Cs)[w0 + j]? = some x := by rw [← hw0]; exact fm_fv_at hc hjx
            have hdrop : vs.drop j = x :: vs.drop (j + 1) := by obtain ⟨hj9, e9⟩ := List.getElem?_eq_some_iff.mp hjx; rw [List.drop_eq_getElem_cons hj9, e9]
            have h999 := fo_999_nI hx9
            by_cases ha4 : a < 4
            · skip
              by_cases hok : s2.2.2.2.2.1 a < 30
              · have hs3 : fa_step s2 115 a x = some (s2.1, s2.2.1, s2.2.2.1, s2.2.2.2.1, va_up s2.2.2.2.2.1 a (s2.2.2.2.2.1 a + 1), va_up s2.2.2.2.2.2 a (va_up (s2.2.2.2.2.2 a) (s2.2.2.2.2.1 a) x)) := by rw [fa_step_s]; exact if_pos ⟨ha4, hok⟩
                have hx4 : fg_cs s2.2.2.2.2.1 (nI a) (nI x) = 0 := fg_cs_t ha4 h999 hok
                refine fo_aload_n C dX7_cannot_99 3 rfl rfl 100 rfl ?_
                refine fo_iload_n C dX7_cannot_100 1 rfl rfl 101 rfl ?_
                refine fo_aload_n C dX7_cannot_101 3 rfl rfl 102 rfl ?_
                refine fo_get C dX7_cannot_102 fK9 (by decide : fo_k 616 = 9) (by decide) 17 (by decide) fl_X7_63 (v := .ref (Λ.2.2.1 628)) rfl 105 rfl ?_
                refine fo_iload C dX7_cannot_105 0 rfl 107 rfl ?_
                refine fo_iald C dX7_cannot_107 (by decide : fo_k 628 = 20) (by rw [(show fo_n 628 = 60 from rfl)]; omega) (nI (x)) ((by rw [hYf 628 (by decide)]; exact (hU.2 _ _ hvx))) 108 rfl ?_
                refine fo_qvi C dX7_cannot_108 (mX7_cannotSee (x := nI a) (z := nI x) (show fm_T Y 617 s2.1 s2.2.1 s2.2.2.1 s2.2.2.2.1 s2.2.2.2.2.1 s2.2.2.2.2.2 from hR2)) lv_X7_123 (by decide : fo_k 616 = 9) rfl (by decide) rfl ⟨Nat.le_of_ble_eq_true rfl, Nat.le_of_ble_eq_true rfl⟩ ⟨Nat.le_of_ble_eq_true rfl, Nat.le_of_ble_eq_true rfl⟩ [] rfl (Nat.le_of_ble_eq_true rfl) 111 rfl (fo_er ?_)
                rw [hx4]
                refine fo_nif_le C (by omega) dX7_cannot_111 116 (by decide) 114 rfl (fun c64 => ?_) (fun c64 => ?_)
                · refine fo_aload_n C dX7_cannot_116 3 rfl rfl 117 rfl ?_
                  refine fo_iload_n C dX7_cannot_117 1 rfl rfl 118 rfl ?_
                  refine fo_aload_n C dX7_cannot_118 3 rfl rfl 119 rfl ?_
                  refine fo_get C dX7_cannot_119 fK9 (by decide : fo_k 616 = 9) (by decide) 17 (by decide) fl_X7_63 (v := .ref (Λ.2.2.1 628)) rfl 122 rfl ?_
                  refine fo_iload C dX7_cannot_122 0 rfl 124 rfl ?_
                  refine fo_iald C dX7_cannot_124 (by decide : fo_k 628 = 20) (by rw [(show fo_n 628 = 60 from rfl)]; omega) (nI (x)) ((by rw [hYf 628 (by decide)]; exact (hU.2 _ _ hvx))) 125 rfl ?_
                  refine fo_qvi C dX7_cannot_125 (mX7_sees (k := a) (u := x) ha4 hok hx9 (show fm_T Y 617 s2.1 s2.2.1 s2.2.2.1 s2.2.2.2.1 s2.2.2.2.2.1 s2.2.2.2.2.2 from hR2)) lv_X7_126 (by decide : fo_k 616 = 9) rfl (by decide) rfl ⟨Nat.le_of_ble_eq_true rfl, Nat.le_of_ble_eq_true rfl⟩ ⟨Nat.le_of_ble_eq_true rfl, Nat.le_of_ble_eq_true rfl⟩ [] rfl (Nat.le_of_ble_eq_true rfl) 128 rfl (fun r65 I66 D67 J68 X69 p70 => ?_)
                  obtain ⟨rfl, ht2, a4, z3, z4, z5⟩ := p70
                  obtain rfl := z3.symm
                  obtain rfl := z4.symm
                  obtain rfl := z5.symm
                  refine fo_istore_n C dX7_cannot_128 rfl [(3, .int (nI (s2.2.2.2.2.1 a))), (4, .int (nI (w0 + j))), (2, .int (nI a)), (0, .ref (Λ.2.2.1 616)), (1, .int (nI k))] rfl (by decide) 129 rfl ?_
                  refine fo_iinc C dX7_cannot_129 1 rfl (nI (w0 + j + 1)) (nI_inc1 _) [(4, .int (nI (w0 + j + 1))), (3, .int (nI (s2.2.2.2.2.1 a))), (2, .int (nI a)), (0, .ref (Λ.2.2.1 616)), (1, .int (nI k))] rfl (by decide) 132 rfl ?_
                  refine fo_goto C dX7_cannot_132 88 (by decide) ?_
                  refine fo_sub C [0, 2, 1, 3, 4] (lv' := [(4, .int (nI (w0 + j + 1))), (2, .int (nI a)), (3, .int (nI (s2.2.2.2.2.1 a))), (0, .ref (Λ.2.2.1 616)), (1, .int (nI k))]) rfl ?_
                  exact ih88 (j + 1) (s2.1, s2.2.1, s2.2.2.1, s2.2.2.2.1, va_up s2.2.2.2.2.1 a (s2.2.2.2.2.1 a + 1), va_up s2.2.2.2.2.2 a (va_up (s2.2.2.2.2.2 a) (s2.2.2.2.2.1 a) x)) I66 _ (by omega) (by omega) ht2 (fun b hb => (a4 b hb).trans (hYf b hb)) (by rw [hinv, hdrop, List.map_cons, fa_run, hs3])
                · omega
              · have hs3 : fa_step s2 115 a x = none := by rw [fa_step_s]; exact if_neg (fun q => hok q.2)
                have hx4 : fg_cs s2.2.2.2.2.1 (nI a) (nI x) = 3 := fg_cs_3 ha4 h999 hok
                have hrun : fa_run s (fm_sc k (1, a, b, vs)) = .inl k := by rw [hinv, hdrop, List.map_cons, fa_run, hs3]
                refine fo_aload_n C dX7_cannot_99 3 rfl rfl 100 rfl ?_
                refine fo_iload_n C dX7_cannot_100 1 rfl rfl 101 rfl ?_
                refine fo_aload_n C dX7_cannot_101 3 rfl rfl 102 rfl ?_
                refine fo_get C dX7_cannot_102 fK9 (by decide : fo_k 616 = 9) (by decide) 17 (by decide) fl_X7_63 (v := .ref (Λ.2.2.1 628)) rfl 105 rfl ?_
                refine fo_iload C dX7_cannot_105 0 rfl 107 rfl ?_
                refine fo_iald C dX7_cannot_107 (by decide : fo_k 628 = 20) (by rw [(show fo_n 628 = 60 from rfl)]; omega) (nI (x)) ((by rw [hYf 628 (by decide)]; exact (hU.2 _ _ hvx))) 108 rfl ?_
                refine fo_qvi C dX7_cannot_108 (mX7_cannotSee (x := nI a) (z := nI x) (show fm_T Y 617 s2.1 s2.2.1 s2.2.2.1 s2.2.2.2.1 s2.2.2.2.2.1 s2.2.2.2.2.2 from hR2)) lv_X7_123 (by decide : fo_k 616 = 9) rfl (by decide) rfl ⟨Nat.le_of_ble_eq_true rfl, Nat.le_of_ble_eq_true rfl⟩ ⟨Nat.le_of_ble_eq_true rfl, Nat.le_of_ble_eq_true rfl⟩ [] rfl (Nat.le_of_ble_eq_true rfl) 111 rfl (fo_er ?_)
                rw [hx4]
                refine fo_nif_le C (by omega) dX7_cannot_111 116 (by decide) 114 rfl (fun c77 => ?_) (fun c77 => ?_)
                · omega
                · refine fo_iconst C dX7_cannot_114 (nI 1) ki_1 115 rfl ?_
                  exact fin dX7_cannot_115 (by first | rfl | exact fo_nb _) (⟨fun o h => (by rw [hrun] at h; cases h; exact ⟨rfl, rfl⟩), fun s3 h => (by rw [hrun] at h; cases h), hYf, rfl, rfl, rfl⟩)
            · have hs3 : fa_step s2 115 a x = none := by rw [fa_step_s]; exact if_neg (fun q => ha4 q.1)
              have hx4 : fg_cs s2.2.2.2.2.1 (nI a) (nI x) = 1 := fg_cs_1 (by rw [fo_inr_nat (by omega), decide_eq_false ha4])
              have hrun : fa_run s (fm_sc k (1, a, b, vs)) = .inl k := by rw [hinv, hdrop, List.map_cons, fa_run, hs3]
              refine fo_aload_n C dX7_cannot_99 3 rfl rfl 100 rfl ?_
              refine fo_iload_n C dX7_cannot_100 1 rfl rfl 101 rfl ?_
              refine fo_aload_n C dX7_cannot_101 3 rfl rfl 102 rfl ?_
              refine fo_get C dX7_cannot_102 fK9 (by decide : fo_k 616 = 9) (by decide) 17 (by decide) fl_X7_63 (v := .ref (Λ.2.2.1 628)) rfl 105 rfl ?_
              refine fo_iload C dX7_cannot_105 0 rfl 107 rfl ?_
              refine fo_iald C dX7_cannot_107 (by decide : fo_k 628 = 20) (by rw [(show fo_n 628 = 60 from rfl)]; omega) (nI (x)) ((by rw [hYf 628 (by decide)]; exact (hU.2 _ _ hvx))) 108 rfl ?_
              refine fo_qvi C dX7_cannot_108 (mX7_cannotSee (x := nI a) (z := nI x) (show fm_T Y 617 s2.1 s2.2.1 s2.2.2.1 s2.2.2.2.1 s2.2.2.2.2.1 s2.2.2.2.2.2 from hR2)) lv_X7_123 (by decide : fo_k 616 = 9) rfl (by decide) rfl ⟨Nat.le_of_ble_eq_true rfl, Nat.le_of_ble_eq_true rfl⟩ ⟨Nat.le_of_ble_eq_true rfl, Nat.le_of_ble_eq_true rfl⟩ [] rfl (Nat.le_of_ble_eq_true rfl) 111 rfl (fo_er ?_)
              rw [hx4]
              refine fo_nif_le C (by omega) dX7_cannot_111 116 (by decide) 114 rfl (fun c84 => ?_) (fun c84 => ?_)
              · omega
              · refine fo_iconst C dX7_cannot_114 (nI 1) ki_1 115 rfl ?_
                exact fin dX7_cannot_115 (by first | rfl | exact fo_nb _) (⟨fun o h => (by rw [hrun] at h; cases h; exact ⟨rfl, rfl⟩), fun s3 h => (by rw [hrun] at h; cases h), hYf, rfl, rfl, rfl⟩)
      refine fo_sub C [0, 2, 1, 3, 4] (lv' := [(4, .int (nI w0)), (2, .int (nI a)), (3, .int (nI 0)), (0, .ref (Λ.2.2.1 616)), (1, .int (nI k))]) rfl ?_
      exact hL88 (vs.length + 1 + 1) 0 s I (nI 0) (by omega) (Nat.zero_le _) hR (fun _ _ => rfl) rfl
  · skip
    refine fo_tabIn C dX7_cannot_15 (by decide) (by decide) (off := 122) (by decide) 137 (by decide) ?_
    refine fo_iload_n C dX7_cannot_137 1 rfl rfl 138 rfl ?_
    refine fo_iconst C dX7_cannot_138 (nI 1) ki_1 139 rfl ?_
    refine fo_bipush C dX7_cannot_139 (nI 9) kb_9 141 rfl ?_
    by_cases ha19 : 1 ≤ a ∧ a ≤ 9
    · have hrun : fa_run s (fm_sc k (2, a, b, vs)) = .inr (s.1, a, s.2.2.1, s.2.2.2.1, s.2.2.2.2.1, s.2.2.2.2.2) := by exact fa_run_1s (by rw [fa_step_l]; exact if_pos ha19)
      refine fo_qsi C dX7_cannot_141 (mX7_in (x := (nI (a))) (y := (nI (1))) (z := (nI (9)))) ls_X7_88 rfl ⟨Nat.le_of_ble_eq_true rfl, Nat.le_of_ble_eq_true rfl⟩ ⟨Nat.le_of_ble_eq_true rfl, Nat.le_of_ble_eq_true rfl⟩ [] rfl (Nat.le_of_ble_eq_true rfl) 144 rfl (fo_er ?_)
      rw [fm_in_9, fo_19_nat (by omega), decide_eq_true ha19]
      refine fo_bif_ne C dX7_cannot_144 149 (by decide) 147 rfl (fun c91 => ?_) (fun c91 => ?_)
      · refine fo_aload_n C dX7_cannot_149 2 rfl rfl 150 rfl ?_
        refine fo_iload_n C dX7_cannot_150 1 rfl rfl 151 rfl ?_
        refine fo_qvi C dX7_cannot_151 (mX7_limits (q := a) ha19.1 ha19.2 hT) lv_X7_129 (by decide : fo_k 616 = 9) rfl (by decide) rfl ⟨Nat.le_of_ble_eq_true rfl, Nat.le_of_ble_eq_true rfl⟩ ⟨Nat.le_of_ble_eq_true rfl, Nat.le_of_ble_eq_true rfl⟩ [] rfl (Nat.le_of_ble_eq_true rfl) 154 rfl (fun r92 I93 D94 J95 X96 p97 => ?_)
        obtain ⟨rfl, ht2, a4, z3, z4, z5⟩ := p97
        obtain rfl := z3.symm
        obtain rfl := z4.symm
        obtain rfl := z5.symm
        refine fo_istore_n C dX7_cannot_154 rfl [(3, .int (nI (s.2.1))), (2, .int (nI a)), (0, .ref (Λ.2.2.1 616)), (1, .int (nI k))] rfl (by decide) 155 rfl ?_
        refine fo_iconst C dX7_cannot_155 (nI 0) ki_0 156 rfl ?_
        exact fin dX7_cannot_156 (by first | rfl | exact fo_nb _) (⟨fun o h => (by rw [hrun] at h; cases h), fun s3 h => (by rw [hrun] at h; cases h; exact ⟨rfl, ht2⟩), fun b hb => a4 b hb, rfl, rfl, rfl⟩)
      · exact absurd c91 (by decide)
    · have hrun : fa_run s (fm_sc k (2, a, b, vs)) = .inl k := by exact fa_run_1n (by rw [fa_step_l]; exact if_neg ha19)
      refine fo_qsi C dX7_cannot_141 (mX7_in (x := (nI (a))) (y := (nI (1))) (z := (nI (9)))) ls_X7_88 rfl ⟨Nat.le_of_ble_eq_true rfl, Nat.le_of_ble_eq_true rfl⟩ ⟨Nat.le_of_ble_eq_true rfl, Nat.le_of_ble_eq_true rfl⟩ [] rfl (Nat.le_of_ble_eq_true rfl) 144 rfl (fo_er ?_)
      rw [fm_in_9, fo_19_nat (by omega), decide_eq_false ha19]
      refine fo_bif_ne C dX7_cannot_144 149 (by decide) 147 rfl (fun c104 => ?_) (fun c104 => ?_)
      · exact absurd c104 (by decide)
      · refine fo_iconst C dX7_cannot_147 (nI 1) ki_1 148 rfl ?_
        exact fin dX7_cannot_148 (by first | rfl | exact fo_nb _) (⟨fun o h => (by rw [hrun] at h; cases h; exact ⟨rfl, rfl⟩), fun s3 h => (by rw [hrun] at h; cases h), fun _ _ => rfl, rfl, rfl, rfl⟩)
  · skip
    refine fo_tabOut C dX7_cannot_15 (by decide) 157 (by decide) ?_
    refine fo_iload_n C dX7_cannot_157 1 rfl rfl 158 rfl ?_
    by_cases ha4 : a < 4
    · have hrun : fa_run s (fm_sc k (3, a, b, vs)) = .inr (s.1, s.2.1, s.2.2.1, s.2.2.2.1, va_up s.2.2.2.2.1 a 0, s.2.2.2.2.2) := by exact fa_run_1s (by rw [fa_step_f]; exact if_pos ha4)
      refine fo_qsi C dX7_cannot_158 (mX7_isSeries (x := nI a)) ls_X7_120 rfl ⟨Nat.le_of_ble_eq_true rfl, Nat.le_of_ble_eq_true rfl⟩ ⟨Nat.le_of_ble_eq_true rfl, Nat.le_of_ble_eq_true rfl⟩ [] rfl (Nat.le_of_ble_eq_true rfl) 161 rfl (fo_er ?_)
      rw [fo_inr_nat (by omega), decide_eq_true ha4]
      refine fo_bif_ne C dX7_cannot_161 166 (by decide) 164 rfl (fun c111 => ?_) (fun c111 => ?_)
      · refine fo_aload_n C dX7_cannot_166 2 rfl rfl 167 rfl ?_
        refine fo_iload_n C dX7_cannot_167 1 rfl rfl 168 rfl ?_
        refine fo_qvi C dX7_cannot_168 (mX7_forgets (k := a) ha4 hT) lv_X7_132 (by decide : fo_k 616 = 9) rfl (by decide) rfl ⟨Nat.le_of_ble_eq_true rfl, Nat.le_of_ble_eq_true rfl⟩ ⟨Nat.le_of_ble_eq_true rfl, Nat.le_of_ble_eq_true rfl⟩ [] rfl (Nat.le_of_ble_eq_true rfl) 171 rfl (fun r112 I113 D114 J115 X116 p117 => ?_)
        obtain ⟨rfl, ht2, a4, z3, z4, z5⟩ := p117
        obtain rfl := z3.symm
        obtain rfl := z4.symm
        obtain rfl := z5.symm
        refine fo_istore_n C dX7_cannot_171 rfl [(3, .int (nI (s.2.2.2.2.1 a))), (2, .int (nI a)), (0, .ref (Λ.2.2.1 616)), (1, .int (nI k))] rfl (by decide) 172 rfl ?_
        refine fo_iconst C dX7_cannot_172 (nI 0) ki_0 173 rfl ?_
        exact fin dX7_cannot_173 (by first | rfl | exact fo_nb _) (⟨fun o h => (by rw [hrun] at h; cases h), fun s3 h => (by rw [hrun] at h; cases h; exact ⟨rfl, ht2⟩), fun b hb => a4 b hb, rfl, rfl, rfl⟩)
      · exact absurd c111 (by decide)
    · have hrun : fa_run s (fm_sc k (3, a, b, vs)) = .inl k := by exact fa_run_1n (by rw [fa_step_f]; exact if_neg ha4)
      refine fo_qsi C dX7_cannot_158 (mX7_isSeries (x := nI a)) ls_X7_120 rfl ⟨Nat.le_of_ble_eq_true rfl, Nat.le_of_ble_eq_true rfl⟩ ⟨Nat.le_of_ble_eq_true rfl, Nat.le_of_ble_eq_true rfl⟩ [] rfl (Nat.le_of_ble_eq_true rfl) 161 rfl (fo_er ?_)
      rw [fo_inr_nat (by omega), decide_eq_false ha4]
      refine fo_bif_ne C dX7_cannot_161 166 (by decide) 164 rfl (fun c124 => ?_) (fun c124 => ?_)
      · exact absurd c124 (by decide)
      · refine fo_iconst C dX7_cannot_164 (nI 1) ki_1 165 rfl ?_
        exact fin dX7_cannot_165 (by first | rfl | exact fo_nb _) (⟨fun o h => (by rw [hrun] at h; cases h; exact ⟨rfl, rfl⟩), fun s3 h => (by rw [hrun] at h; cases h), fun _ _ => rfl, rfl, rfl, rfl⟩)
