
/-! THE MODEL: back, kept, the text, characters -/
def fg_c1 (z : Int32) (L : List Nat) : Nat × Int32 := if fo_inr z L.length then (0, nI (L.getD (fN z) 0)) else (1, nI 32)
theorem fg_c1_1 {z : Int32} {L : List Nat} (h : fo_inr z L.length = false) : fg_c1 z L = (1, nI 32) := by unfold fg_c1; rw [h]; rfl
theorem fg_c1_t {j c : Nat} {L : List Nat} (h2 : L.length ≤ 160) (h : L[j]? = some c) : fg_c1 (nI j) L = (0, nI c) := by
  have hj := (List.getElem?_eq_some_iff.mp h).1
  unfold fg_c1
  rw [fo_inr_nI hj (by omega), fN_nI (by omega), List.getD_eq_getElem?_getD, h]
  rfl
def fg_ps (e : Int32) : Nat × Int32 := if e < 0 then (1, nI 0) else (0, e)

set_option maxRecDepth 10000 in
set_option maxHeartbeats 4000000 in
theorem mX7_charAt {l : Launch} {Λ : fo_Lt} {I : fo_Mi} {D : fo_Md} {J : fo_Mj} {X : fo_Mi}  {L : List Nat} {z : Int32} (hL : fm_L I L) : fk_i l yX7_charAt cX7_charAt 2 .char 1 22 Λ [.ref (Λ.2.2.1 616), .int (z)] I D J X ((fun r I' D' J' X' => r = (fg_c1 z L).2 ∧ I' = fo_r I 616 (upd (I 616) 5 (nI (fg_c1 z L).1)) ∧ D' = D ∧ J' = J)) := by
  have hl160 := hL.1
  refine fo_si (by decide) [(0, .ref (Λ.2.2.1 616)), (1, .int (z))] rfl (Nat.le_of_ble_eq_true rfl) (fun K C fin => ?_)
  rcases hz : fo_inr z L.length with _ | _
  · skip
    refine fo_aload_n C dX7_charAt_0 0 rfl rfl 1 rfl ?_
    refine fo_iload_n C dX7_charAt_1 1 rfl rfl 2 rfl ?_
    refine fo_iconst C dX7_charAt_2 (nI 0) ki_0 3 rfl ?_
    refine fo_aload_n C dX7_charAt_3 0 rfl rfl 4 rfl ?_
    refine fo_get C dX7_charAt_4 fK9 (by decide : fo_k 616 = 9) (by decide) 11 (by decide) fl_X7_45 (v := .int (nI (L.length))) (congrArg (fun x => some (Value.int x)) (hL.2.1)) 7 rfl ?_
    refine fo_iconst C dX7_charAt_7 (nI 1) ki_1 8 rfl ?_
    refine fo_isub C dX7_charAt_8 _ rfl 9 rfl ?_
    refine fo_qsi C dX7_charAt_9 (mX7_in (x := z) (y := (nI (0))) (z := (nI (L.length) - nI (1)))) ls_X7_88 rfl ⟨Nat.le_of_ble_eq_true rfl, Nat.le_of_ble_eq_true rfl⟩ ⟨Nat.le_of_ble_eq_true rfl, Nat.le_of_ble_eq_true rfl⟩ [.ref (Λ.2.2.1 616)] rfl (Nat.le_of_ble_eq_true rfl) 12 rfl (fo_er ?_)
    rw [fm_in_p (by omega), hz]
    refine fo_qvi C dX7_charAt_12 mX7_checked_f lv_X7_135 (by decide : fo_k 616 = 9) rfl (by decide) rfl ⟨Nat.le_of_ble_eq_true rfl, Nat.le_of_ble_eq_true rfl⟩ ⟨Nat.le_of_ble_eq_true rfl, Nat.le_of_ble_eq_true rfl⟩ [] rfl (Nat.le_of_ble_eq_true rfl) 15 rfl (fo_er ?_)
    refine fo_nif_le C (by omega) dX7_charAt_15 23 (by decide) 18 rfl (fun c13 => ?_) (fun c13 => ?_)
    · omega
    · refine fo_bipush C dX7_charAt_18 (nI 32) kb_32 20 rfl ?_
      refine fo_goto C dX7_charAt_20 30 (by decide) ?_
      exact fin dX7_charAt_30 rfl (⟨(by rw [fg_c1_1 hz] <;> rfl), (by rw [fg_c1_1 hz] <;> exact rfl), rfl, rfl⟩)
  · obtain ⟨j, hj, hj31, rfl⟩ := fo_inr_at hz
    obtain ⟨c, hjc⟩ : ∃ c, L[j]? = some c := ⟨_, List.getElem?_eq_getElem hj⟩
    have hc65 := (hL.2.2 _ _ hjc).2
    refine fo_aload_n C dX7_charAt_0 0 rfl rfl 1 rfl ?_
    refine fo_iload_n C dX7_charAt_1 1 rfl rfl 2 rfl ?_
    refine fo_iconst C dX7_charAt_2 (nI 0) ki_0 3 rfl ?_
    refine fo_aload_n C dX7_charAt_3 0 rfl rfl 4 rfl ?_
    refine fo_get C dX7_charAt_4 fK9 (by decide : fo_k 616 = 9) (by decide) 11 (by decide) fl_X7_45 (v := .int (nI (L.length))) (congrArg (fun x => some (Value.int x)) (hL.2.1)) 7 rfl ?_
    refine fo_iconst C dX7_charAt_7 (nI 1) ki_1 8 rfl ?_
    refine fo_isub C dX7_charAt_8 _ rfl 9 rfl ?_
    refine fo_qsi C dX7_charAt_9 (mX7_in (x := (nI (j))) (y := (nI (0))) (z := (nI (L.length) - nI (1)))) ls_X7_88 rfl ⟨Nat.le_of_ble_eq_true rfl, Nat.le_of_ble_eq_true rfl⟩ ⟨Nat.le_of_ble_eq_true rfl, Nat.le_of_ble_eq_true rfl⟩ [.ref (Λ.2.2.1 616)] rfl (Nat.le_of_ble_eq_true rfl) 12 rfl (fo_er ?_)
    rw [fm_in_p (by omega), fo_inr_nI hj hj31]
    refine fo_qvi C dX7_charAt_12 mX7_checked_t lv_X7_135 (by decide : fo_k 616 = 9) rfl (by decide) rfl ⟨Nat.le_of_ble_eq_true rfl, Nat.le_of_ble_eq_true rfl⟩ ⟨Nat.le_of_ble_eq_true rfl, Nat.le_of_ble_eq_true rfl⟩ [] rfl (Nat.le_of_ble_eq_true rfl) 15 rfl (fo_er ?_)
    refine fo_nif_le C (by omega) dX7_charAt_15 23 (by decide) 18 rfl (fun c26 => ?_) (fun c26 => ?_)
    · refine fo_aload_n C dX7_charAt_23 0 rfl rfl 24 rfl ?_
      refine fo_get C dX7_charAt_24 fK9 (by decide : fo_k 616 = 9) (by decide) 10 (by decide) fl_X7_42 (v := .ref (Λ.2.2.1 622)) rfl 27 rfl ?_
      refine fo_iload_n C dX7_charAt_27 1 rfl rfl 28 rfl ?_
      refine fo_iald C dX7_charAt_28 (by decide : fo_k 622 = 20) (by rw [(show fo_n 622 = 160 from rfl)]; omega) (nI (c)) ((hL.2.2 _ _ hjc).1) 29 rfl ?_
      refine fo_i2c C dX7_charAt_29 (nI (c)) (fo_chr (by omega)) 30 rfl ?_
      exact fin dX7_charAt_30 (pk_charN hc65).1 (⟨(by rw [fg_c1_t hL.1 hjc] <;> rfl), (by rw [fg_c1_t hL.1 hjc] <;> exact rfl), rfl, rfl⟩)
    · omega
set_option maxRecDepth 10000 in
set_option maxHeartbeats 4000000 in
theorem mX7_present {l : Launch} {Λ : fo_Lt} {I : fo_Mi} {D : fo_Md} {J : fo_Mj} {X : fo_Mi}  {z : Int32}  : fk_i l yX7_present cX7_present 2 .int 1 21 Λ [.ref (Λ.2.2.1 616), .int (z)] I D J X ((fun r I' D' J' X' => r = (fg_ps z).2 ∧ I' = fo_r I 616 (upd (I 616) 5 (nI (fg_ps z).1)) ∧ D' = D ∧ J' = J)) := by
  refine fo_si (by decide) [(0, .ref (Λ.2.2.1 616)), (1, .int (z))] rfl (Nat.le_of_ble_eq_true rfl) (fun K C fin => ?_)
  by_cases hz : z < 0
  · skip
    refine fo_aload_n C dX7_present_0 0 rfl rfl 1 rfl ?_
    refine fo_iload_n C dX7_present_1 1 rfl rfl 2 rfl ?_
    refine fo_if_lt C dX7_present_2 9 (by decide) 5 rfl (fun c1 => ?_) (fun c1 => ?_)
    · refine fo_iconst C dX7_present_9 (nI 0) ki_0 10 rfl ?_
      refine fo_qvi C dX7_present_10 mX7_checked_f lv_X7_135 (by decide : fo_k 616 = 9) rfl (by decide) rfl ⟨Nat.le_of_ble_eq_true rfl, Nat.le_of_ble_eq_true rfl⟩ ⟨Nat.le_of_ble_eq_true rfl, Nat.le_of_ble_eq_true rfl⟩ [] rfl (Nat.le_of_ble_eq_true rfl) 13 rfl (fo_er ?_)
      refine fo_nif_le C (by omega) dX7_present_13 20 (by decide) 16 rfl (fun c8 => ?_) (fun c8 => ?_)
      · omega
      · refine fo_iconst C dX7_present_16 (nI 0) ki_0 17 rfl ?_
        refine fo_goto C dX7_present_17 21 (by decide) ?_
        exact fin dX7_present_21 rfl (⟨(by rw [fg_ps, if_pos hz] <;> rfl), (by rw [fg_ps, if_pos hz] <;> exact rfl), rfl, rfl⟩)
    · exact absurd hz c1
  · skip
    refine fo_aload_n C dX7_present_0 0 rfl rfl 1 rfl ?_
    refine fo_iload_n C dX7_present_1 1 rfl rfl 2 rfl ?_
    refine fo_if_lt C dX7_present_2 9 (by decide) 5 rfl (fun c9 => ?_) (fun c9 => ?_)
    · exact absurd c9 hz
    · refine fo_iconst C dX7_present_5 (nI 1) ki_1 6 rfl ?_
      refine fo_goto C dX7_present_6 10 (by decide) ?_
      refine fo_qvi C dX7_present_10 mX7_checked_t lv_X7_135 (by decide : fo_k 616 = 9) rfl (by decide) rfl ⟨Nat.le_of_ble_eq_true rfl, Nat.le_of_ble_eq_true rfl⟩ ⟨Nat.le_of_ble_eq_true rfl, Nat.le_of_ble_eq_true rfl⟩ [] rfl (Nat.le_of_ble_eq_true rfl) 13 rfl (fo_er ?_)
      refine fo_nif_le C (by omega) dX7_present_13 20 (by decide) 16 rfl (fun c16 => ?_) (fun c16 => ?_)
      · refine fo_iload_n C dX7_present_20 1 rfl rfl 21 rfl ?_
        exact fin dX7_present_21 rfl (⟨(by rw [fg_ps, if_neg hz] <;> rfl), (by rw [fg_ps, if_neg hz] <;> exact rfl), rfl, rfl⟩)
      · omega
set_option maxRecDepth 10000 in
set_option maxHeartbeats 4000000 in
theorem mX7_errorPosition {l : Launch} {Λ : fo_Lt} {I : fo_Mi} {D : fo_Md} {J : fo_Mj} {X : fo_Mi}  {e : Int32} (he : I 616 7 = e) : fk_i l yX7_errorPosition cX7_errorPosition 1 .int 2 42 Λ [.ref (Λ.2.2.1 616)] I D J X ((fun r I' D' J' X' => r = (fg_ps e).2 ∧ I' = fo_r I 616 (upd (I 616) 5 (nI (fg_ps e).1)) ∧ D' = D ∧ J' = J)) := by
  refine fo_si (by decide) [(0, .ref (Λ.2.2.1 616))] rfl (Nat.le_of_ble_eq_true rfl) (fun K C fin => ?_)
  refine fo_aload_n C dX7_errorPosition_0 0 rfl rfl 1 rfl ?_
  refine fo_aload_n C dX7_errorPosition_1 0 rfl rfl 2 rfl ?_
  refine fo_get C dX7_errorPosition_2 fK9 (by decide : fo_k 616 = 9) (by decide) 7 (by decide) fl_X7_32 (v := .int (e)) (congrArg (fun x => some (Value.int x)) (he)) 5 rfl ?_
  refine fo_qvi C dX7_errorPosition_5 (mX7_present (z := e)) lv_X7_271 (by decide : fo_k 616 = 9) rfl (by decide) rfl ⟨Nat.le_of_ble_eq_true rfl, Nat.le_of_ble_eq_true rfl⟩ ⟨Nat.le_of_ble_eq_true rfl, Nat.le_of_ble_eq_true rfl⟩ [] rfl (Nat.le_of_ble_eq_true rfl) 8 rfl (fun r1 I2 D3 J4 X5 p6 => ?_)
  obtain ⟨rfl, rfl, z3, z4⟩ := p6
  obtain rfl := z3.symm
  obtain rfl := z4.symm
  exact fin dX7_errorPosition_8 rfl (⟨rfl, rfl, rfl, rfl⟩)
set_option maxRecDepth 10000 in
set_option maxHeartbeats 4000000 in
theorem mX7_failedCommand {l : Launch} {Λ : fo_Lt} {I : fo_Mi} {D : fo_Md} {J : fo_Mj} {X : fo_Mi}  {e : Int32} (he : I 616 8 = e) : fk_i l yX7_failedCommand cX7_failedCommand 1 .int 2 42 Λ [.ref (Λ.2.2.1 616)] I D J X ((fun r I' D' J' X' => r = (fg_ps e).2 ∧ I' = fo_r I 616 (upd (I 616) 5 (nI (fg_ps e).1)) ∧ D' = D ∧ J' = J)) := by
  refine fo_si (by decide) [(0, .ref (Λ.2.2.1 616))] rfl (Nat.le_of_ble_eq_true rfl) (fun K C fin => ?_)
  refine fo_aload_n C dX7_failedCommand_0 0 rfl rfl 1 rfl ?_
  refine fo_aload_n C dX7_failedCommand_1 0 rfl rfl 2 rfl ?_
  refine fo_get C dX7_failedCommand_2 fK9 (by decide : fo_k 616 = 9) (by decide) 8 (by decide) fl_X7_35 (v := .int (e)) (congrArg (fun x => some (Value.int x)) (he)) 5 rfl ?_
  refine fo_qvi C dX7_failedCommand_5 (mX7_present (z := e)) lv_X7_271 (by decide : fo_k 616 = 9) rfl (by decide) rfl ⟨Nat.le_of_ble_eq_true rfl, Nat.le_of_ble_eq_true rfl⟩ ⟨Nat.le_of_ble_eq_true rfl, Nat.le_of_ble_eq_true rfl⟩ [] rfl (Nat.le_of_ble_eq_true rfl) 8 rfl (fun r1 I2 D3 J4 X5 p6 => ?_)
  obtain ⟨rfl, rfl, z3, z4⟩ := p6
  obtain rfl := z3.symm
  obtain rfl := z4.symm
  exact fin dX7_failedCommand_8 rfl (⟨rfl, rfl, rfl, rfl⟩)

theorem fm_M.H {I : fo_Mi} {s : fa_S} {hs : List fa_S} {ks : Option fa_S} {L : List Nat} {m : Nat} {t : Nat → Nat} {e f : Int32} (h : fm_M I s hs ks L m t e f) : I 616 6 = nI hs.length ∧ hs.length ≤ 8 := ⟨h.2.1.1, h.2.1.2.1⟩
def fg_ud (hs : List fa_S) : fg_t := match hs with
  | [] => (1, nI 0, none)
  | s :: t => (0, nI t.length, some s)
theorem fm_H.pop {I I' : fo_Mi} {s : fa_S} {t : List fa_S} (h : fm_H I (s :: t)) (e1 : I' 616 6 = nI t.length) (e2 : I' 620 = I 620) : fm_H I' t := by
  obtain ⟨h1, h2, h3⟩ := h
  rw [List.length_cons] at h2
  refine ⟨e1, by omega, fun j q hj => ?_⟩
  have := h3 (j + 1) q hj
  rw [e2]
  rw [List.length_cons, show t.length + 1 - 1 - (j + 1) = t.length - 1 - j by omega] at this
  exact this

set_option maxRecDepth 10000 in
set_option maxHeartbeats 4000000 in
theorem mX7_undo {l : Launch} {Λ : fo_Lt} {I : fo_Mi} {D : fo_Md} {J : fo_Mj} {X : fo_Mi}  {s : fa_S} {hs : List fa_S} {ks : Option fa_S} {L : List Nat} {m : Nat} {t : Nat → Nat} {e f : Int32} (hM : fm_M I s hs ks L m t e f) : fk_i l yX7_undo cX7_undo 1 .int 1 24 Λ [.ref (Λ.2.2.1 616)] I D J X ((fun r I' D' J' X' => r = (fg_ud hs).2.1 ∧ I' 616 5 = nI ((fg_ud hs).1) ∧ fm_M I' (fg_ns (fg_ud hs).2.2 s) hs.tail ks L m t e f ∧ fm_f I I' ∧ D' = D ∧ J' = J)) := by
  refine fo_si (by decide) [(0, .ref (Λ.2.2.1 616))] rfl (Nat.le_of_ble_eq_true rfl) (fun K C fin => ?_)
  rcases hs with _ | ⟨s2, u⟩
  · have hd6 : I 616 6 = nI 0 := hM.H.1
    refine fo_aload_n C dX7_undo_0 0 rfl rfl 1 rfl ?_
    refine fo_aload_n C dX7_undo_1 0 rfl rfl 2 rfl ?_
    refine fo_get C dX7_undo_2 fK9 (by decide : fo_k 616 = 9) (by decide) 6 (by decide) fl_X7_29 (v := .int (nI 0)) (congrArg (fun x => some (Value.int x)) (hd6)) 5 rfl ?_
    refine fo_nif_le C (by omega) dX7_undo_5 12 (by decide) 8 rfl (fun c1 => ?_) (fun c1 => ?_)
    · refine fo_iconst C dX7_undo_12 (nI 0) ki_0 13 rfl ?_
      refine fo_qvi C dX7_undo_13 mX7_checked_f lv_X7_135 (by decide : fo_k 616 = 9) rfl (by decide) rfl ⟨Nat.le_of_ble_eq_true rfl, Nat.le_of_ble_eq_true rfl⟩ ⟨Nat.le_of_ble_eq_true rfl, Nat.le_of_ble_eq_true rfl⟩ [] rfl (Nat.le_of_ble_eq_true rfl) 16 rfl (fo_er ?_)
      refine fo_nif_le C (by omega) dX7_undo_16 21 (by decide) 19 rfl (fun c8 => ?_) (fun c8 => ?_)
      · omega
      · refine fo_iconst C dX7_undo_19 (nI 0) ki_0 20 rfl ?_
        exact fin dX7_undo_20 rfl (⟨rfl, by rw [fo_rs, pk_us]; rfl, hM.mv (fun j hj => by rw [fo_rs, pk_un hj]) (fun b c1 c2 c3 => by rw [fo_rn _ _ (by omega)]), fun b hb => by rw [fo_rn _ _ (by omega)], rfl, rfl⟩)
    · omega
  · have hd6 : I 616 6 = nI (u.length + 1) := hM.H.1
    have hu8 : u.length + 1 ≤ 8 := hM.H.2
    refine fo_aload_n C dX7_undo_0 0 rfl rfl 1 rfl ?_
    refine fo_aload_n C dX7_undo_1 0 rfl rfl 2 rfl ?_
    refine fo_get C dX7_undo_2 fK9 (by decide : fo_k 616 = 9) (by decide) 6 (by decide) fl_X7_29 (v := .int (nI (u.length + 1))) (congrArg (fun x => some (Value.int x)) (hd6)) 5 rfl ?_
    refine fo_nif_le C (by omega) dX7_undo_5 12 (by decide) 8 rfl (fun c9 => ?_) (fun c9 => ?_)
    · omega
    · refine fo_iconst C dX7_undo_8 (nI 1) ki_1 9 rfl ?_
      refine fo_goto C dX7_undo_9 13 (by decide) ?_
      refine fo_qvi C dX7_undo_13 mX7_checked_t lv_X7_135 (by decide : fo_k 616 = 9) rfl (by decide) rfl ⟨Nat.le_of_ble_eq_true rfl, Nat.le_of_ble_eq_true rfl⟩ ⟨Nat.le_of_ble_eq_true rfl, Nat.le_of_ble_eq_true rfl⟩ [] rfl (Nat.le_of_ble_eq_true rfl) 16 rfl (fo_er ?_)
      refine fo_nif_le C (by omega) dX7_undo_16 21 (by decide) 19 rfl (fun c16 => ?_) (fun c16 => ?_)
      · refine fo_aload_n C dX7_undo_21 0 rfl rfl 22 rfl ?_
        refine fo_dup C dX7_undo_22 rfl 23 rfl ?_
        refine fo_get C dX7_undo_23 fK9 (by decide : fo_k 616 = 9) (by decide) 6 (by decide) fl_X7_29 (v := .int (nI (u.length + 1))) (congrArg (fun x => some (Value.int x)) ((by rw [fo_rs, pk_un (by decide)]; exact hd6))) 26 rfl ?_
        refine fo_iconst C dX7_undo_26 (nI 1) ki_1 27 rfl ?_
        refine fo_isub C dX7_undo_27 (nI ((u.length + 1) - 1)) (pk_sub (by omega)) 28 rfl ?_
        refine fo_put C dX7_undo_28 fK9 (by decide : fo_k 616 = 9) (by decide) 6 (by decide) fl_X7_29 rfl rfl rfl rfl (Nat.le_of_ble_eq_true rfl) 31 rfl ?_
        refine fo_aload_n C dX7_undo_31 0 rfl rfl 32 rfl ?_
        refine fo_get C dX7_undo_32 fK9 (by decide : fo_k 616 = 9) (by decide) 3 (by decide) fl_X7_19 (v := .ref (Λ.2.2.1 620)) rfl 35 rfl ?_
        refine fo_sipush C dX7_undo_35 (nI 150) ks_150 38 rfl ?_
        refine fo_aload_n C dX7_undo_38 0 rfl rfl 39 rfl ?_
        refine fo_get C dX7_undo_39 fK9 (by decide : fo_k 616 = 9) (by decide) 6 (by decide) fl_X7_29 (v := .int (nI (u.length + 1 - 1))) (congrArg (fun x => some (Value.int x)) ((by rw [fo_rs, pk_us]))) 42 rfl ?_
        refine fo_imul C dX7_undo_42 (nI (150 * (u.length + 1 - 1))) (pk_mul _ _) 43 rfl ?_
        refine fo_aload_n C dX7_undo_43 0 rfl rfl 44 rfl ?_
        refine fo_get C dX7_undo_44 fK9 (by decide : fo_k 616 = 9) (by decide) 0 (by decide) fl_X7_7 (v := .ref (Λ.2.2.1 617)) rfl 47 rfl ?_
        refine fo_iconst C dX7_undo_47 (nI 0) ki_0 48 rfl ?_
        refine fo_qsv C dX7_undo_48 (mX7_copy (x := 620) (y := 617) (a := 150 * (u.length + 1 - 1)) (b := 0) (nx := 1200) (ny := 150) (by decide) (by decide) rfl rfl (by omega) (by omega) (by decide) (by decide) (by omega)) ls_X7_84 rfl ⟨Nat.le_of_ble_eq_true rfl, Nat.le_of_ble_eq_true rfl⟩ ⟨Nat.le_of_ble_eq_true rfl, Nat.le_of_ble_eq_true rfl⟩ [] rfl (Nat.le_of_ble_eq_true rfl) 51 rfl (fo_erv ?_)
        refine fo_aload_n C dX7_undo_51 0 rfl rfl 52 rfl ?_
        refine fo_get C dX7_undo_52 fK9 (by decide : fo_k 616 = 9) (by decide) 6 (by decide) fl_X7_29 (v := .int (nI (u.length + 1 - 1))) (congrArg (fun x => some (Value.int x)) ((by rw [fo_rn _ _ (by decide), fo_rs, pk_us]))) 55 rfl ?_
        exact fin dX7_undo_55 rfl (⟨rfl, by rw [fo_rn _ _ (by decide), fo_rs, pk_un (by decide), fo_rs, pk_us]; rfl, hM.go (by
              have h := hM.2.1.2.2 0 s2 rfl
              rw [fo_rs]
              exact h.cong (fun j hj => by rw [fm_cp_in (by omega) (by omega), fo_rn _ _ (by decide), fo_rn _ _ (by decide)]; exact congrArg (I 620) (by rw [List.length_cons]; omega))) (fm_H.pop hM.2.1 (by rw [fo_rn _ _ (by decide), fo_rs, pk_us]; rfl) (by rw [fo_rn _ _ (by decide), fo_rn _ _ (by decide), fo_rn _ _ (by decide)])) (fun j h5 h6 => by rw [fo_rn _ _ (by decide), fo_rs, pk_un h6, fo_rs, pk_un h5]) (fun b c1 c2 c3 => by rw [fo_rn _ _ (by omega), fo_rn _ _ (by omega), fo_rn _ _ (by omega)]), fun b hb => by rw [fo_rn _ _ (by omega), fo_rn _ _ (by omega), fo_rn _ _ (by omega)], rfl, rfl⟩)
      · omega
set_option maxRecDepth 10000 in
set_option maxHeartbeats 4000000 in
theorem mX7_save {l : Launch} {Λ : fo_Lt} {I : fo_Mi} {D : fo_Md} {J : fo_Mj} {X : fo_Mi}  {s : fa_S} {hs : List fa_S} {ks : Option fa_S} {L : List Nat} {m : Nat} {t : Nat → Nat} {e f : Int32} (hM : fm_M I s hs ks L m t e f) : fk_i l yX7_save cX7_save 1 .int 1 24 Λ [.ref (Λ.2.2.1 616)] I D J X ((fun r I' D' J' X' => r = nI s.1 ∧ I' 616 5 = nI (0) ∧ fm_M I' s hs (some s) L m t e f ∧ fm_f I I' ∧ D' = D ∧ J' = J)) := by
  refine fo_si (by decide) [(0, .ref (Λ.2.2.1 616))] rfl (Nat.le_of_ble_eq_true rfl) (fun K C fin => ?_)
  refine fo_aload_n C dX7_save_0 0 rfl rfl 1 rfl ?_
  refine fo_iconst C dX7_save_1 (nI 0) ki_0 2 rfl ?_
  refine fo_put C dX7_save_2 fK9 (by decide : fo_k 616 = 9) (by decide) 5 (by decide) fl_X7_25 rfl rfl rfl rfl (Nat.le_of_ble_eq_true rfl) 5 rfl ?_
  refine fo_aload_n C dX7_save_5 0 rfl rfl 6 rfl ?_
  refine fo_get C dX7_save_6 fK9 (by decide : fo_k 616 = 9) (by decide) 0 (by decide) fl_X7_7 (v := .ref (Λ.2.2.1 617)) rfl 9 rfl ?_
  refine fo_iconst C dX7_save_9 (nI 0) ki_0 10 rfl ?_
  refine fo_aload_n C dX7_save_10 0 rfl rfl 11 rfl ?_
  refine fo_get C dX7_save_11 fK9 (by decide : fo_k 616 = 9) (by decide) 2 (by decide) fl_X7_16 (v := .ref (Λ.2.2.1 619)) rfl 14 rfl ?_
  refine fo_iconst C dX7_save_14 (nI 0) ki_0 15 rfl ?_
  refine fo_qsv C dX7_save_15 (mX7_copy (x := 617) (y := 619) (a := 0) (b := 0) (nx := 150) (ny := 150) (by decide) (by decide) rfl rfl (by omega) (by omega) (by decide) (by decide) (by omega)) ls_X7_84 rfl ⟨Nat.le_of_ble_eq_true rfl, Nat.le_of_ble_eq_true rfl⟩ ⟨Nat.le_of_ble_eq_true rfl, Nat.le_of_ble_eq_true rfl⟩ [] rfl (Nat.le_of_ble_eq_true rfl) 18 rfl (fo_erv ?_)
  refine fo_aload_n C dX7_save_18 0 rfl rfl 19 rfl ?_
  refine fo_iconst C dX7_save_19 (nI 1) ki_1 20 rfl ?_
  refine fo_put C dX7_save_20 fK9 (by decide : fo_k 616 = 9) (by decide) 9 (by decide) fl_X7_38 rfl rfl rfl rfl (Nat.le_of_ble_eq_true rfl) 23 rfl ?_
  refine fo_aload_n C dX7_save_23 0 rfl rfl 24 rfl ?_
  refine fo_get C dX7_save_24 fK9 (by decide : fo_k 616 = 9) (by decide) 0 (by decide) fl_X7_7 (v := .ref (Λ.2.2.1 617)) rfl 27 rfl ?_
  refine fo_iconst C dX7_save_27 (nI 0) ki_0 28 rfl ?_
  refine fo_iald C dX7_save_28 (by decide : fo_k 617 = 20) (by rw [(show fo_n 617 = 150 from rfl)]; omega) (nI (s.1)) ((hM.1.2.1)) 29 rfl ?_
  exact fin dX7_save_29 rfl (⟨rfl, by rw [fo_rs, pk_un (by decide), fo_rn _ _ (by decide), fo_rs, pk_us], ⟨hM.1, hM.2.1.mv (by rw [fo_rs, pk_un (by decide), fo_rn _ _ (by decide), fo_rs, pk_un (by decide)]) (by rw [fo_rn _ _ (by decide), fo_rn _ _ (by decide), fo_rn _ _ (by decide)]), ⟨by rw [fo_rs, pk_us]; rfl, fun q hq => by
        cases hq
        rw [fo_rn _ _ (by decide), fo_rs]
        exact hM.1.cong (fun j hj => by rw [fm_cp_in (by omega) (by omega), fo_rn _ _ (by decide)]; exact congrArg (I 617) (by omega))⟩, ⟨hM.2.2.2.1.1, by rw [fo_rs, pk_un (by decide), fo_rn _ _ (by decide), fo_rs, pk_un (by decide)]; exact hM.2.2.2.1.2.1, hM.2.2.2.1.2.2⟩, ⟨hM.2.2.2.2.1.1, by rw [fo_rs, pk_un (by decide), fo_rn _ _ (by decide), fo_rs, pk_un (by decide)]; exact hM.2.2.2.2.1.2.1, hM.2.2.2.2.1.2.2⟩, by rw [fo_rs, pk_un (by decide), fo_rn _ _ (by decide), fo_rs, pk_un (by decide)]; exact hM.2.2.2.2.2.1, by rw [fo_rs, pk_un (by decide), fo_rn _ _ (by decide), fo_rs, pk_un (by decide)]; exact hM.2.2.2.2.2.2⟩, fun b hb => by rw [fo_rn _ _ (by omega), fo_rn _ _ (by omega), fo_rn _ _ (by omega)], rfl, rfl⟩)

def fg_rs (ks : Option fa_S) : fg_t := match ks with
  | none => (1, nI 0, none)
  | some s => (0, nI s.1, some s)

set_option maxRecDepth 10000 in
set_option maxHeartbeats 4000000 in
theorem mX7_restore {l : Launch} {Λ : fo_Lt} {I : fo_Mi} {D : fo_Md} {J : fo_Mj} {X : fo_Mi}  {s : fa_S} {hs : List fa_S} {ks : Option fa_S} {L : List Nat} {m : Nat} {t : Nat → Nat} {e f : Int32} (hM : fm_M I s hs ks L m t e f) : fk_i l yX7_restore cX7_restore 1 .int 1 24 Λ [.ref (Λ.2.2.1 616)] I D J X ((fun r I' D' J' X' => r = (fg_rs ks).2.1 ∧ I' 616 5 = nI ((fg_rs ks).1) ∧ fm_M I' (fg_ns (fg_rs ks).2.2 s) (if ks.isSome then [] else hs) ks L m t e f ∧ fm_f I I' ∧ D' = D ∧ J' = J)) := by
  refine fo_si (by decide) [(0, .ref (Λ.2.2.1 616))] rfl (Nat.le_of_ble_eq_true rfl) (fun K C fin => ?_)
  rcases ks with _ | s2
  · skip
    refine fo_aload_n C dX7_restore_0 0 rfl rfl 1 rfl ?_
    refine fo_aload_n C dX7_restore_1 0 rfl rfl 2 rfl ?_
    refine fo_get C dX7_restore_2 fK9 (by decide : fo_k 616 = 9) (by decide) 9 (by decide) fl_X7_38 (v := .int (fo_b (false))) (congrArg (fun x => some (Value.int x)) (hM.2.2.1.1)) 5 rfl ?_
    refine fo_qvi C dX7_restore_5 mX7_checked_f lv_X7_135 (by decide : fo_k 616 = 9) rfl (by decide) rfl ⟨Nat.le_of_ble_eq_true rfl, Nat.le_of_ble_eq_true rfl⟩ ⟨Nat.le_of_ble_eq_true rfl, Nat.le_of_ble_eq_true rfl⟩ [] rfl (Nat.le_of_ble_eq_true rfl) 8 rfl (fo_er ?_)
    refine fo_nif_le C (by omega) dX7_restore_8 13 (by decide) 11 rfl (fun c7 => ?_) (fun c7 => ?_)
    · omega
    · refine fo_iconst C dX7_restore_11 (nI 0) ki_0 12 rfl ?_
      exact fin dX7_restore_12 rfl (⟨rfl, by rw [fo_rs, pk_us]; rfl, hM.mv (fun j hj => by rw [fo_rs, pk_un hj]) (fun b c1 c2 c3 => by rw [fo_rn _ _ (by omega)]), fun b hb => by rw [fo_rn _ _ (by omega)], rfl, rfl⟩)
  · skip
    refine fo_aload_n C dX7_restore_0 0 rfl rfl 1 rfl ?_
    refine fo_aload_n C dX7_restore_1 0 rfl rfl 2 rfl ?_
    refine fo_get C dX7_restore_2 fK9 (by decide : fo_k 616 = 9) (by decide) 9 (by decide) fl_X7_38 (v := .int (fo_b (true))) (congrArg (fun x => some (Value.int x)) (hM.2.2.1.1)) 5 rfl ?_
    refine fo_qvi C dX7_restore_5 mX7_checked_t lv_X7_135 (by decide : fo_k 616 = 9) rfl (by decide) rfl ⟨Nat.le_of_ble_eq_true rfl, Nat.le_of_ble_eq_true rfl⟩ ⟨Nat.le_of_ble_eq_true rfl, Nat.le_of_ble_eq_true rfl⟩ [] rfl (Nat.le_of_ble_eq_true rfl) 8 rfl (fo_er ?_)
    refine fo_nif_le C (by omega) dX7_restore_8 13 (by decide) 11 rfl (fun c14 => ?_) (fun c14 => ?_)
    · refine fo_aload_n C dX7_restore_13 0 rfl rfl 14 rfl ?_
      refine fo_get C dX7_restore_14 fK9 (by decide : fo_k 616 = 9) (by decide) 2 (by decide) fl_X7_16 (v := .ref (Λ.2.2.1 619)) rfl 17 rfl ?_
      refine fo_iconst C dX7_restore_17 (nI 0) ki_0 18 rfl ?_
      refine fo_aload_n C dX7_restore_18 0 rfl rfl 19 rfl ?_
      refine fo_get C dX7_restore_19 fK9 (by decide : fo_k 616 = 9) (by decide) 0 (by decide) fl_X7_7 (v := .ref (Λ.2.2.1 617)) rfl 22 rfl ?_
      refine fo_iconst C dX7_restore_22 (nI 0) ki_0 23 rfl ?_
      refine fo_qsv C dX7_restore_23 (mX7_copy (x := 619) (y := 617) (a := 0) (b := 0) (nx := 150) (ny := 150) (by decide) (by decide) rfl rfl (by omega) (by omega) (by decide) (by decide) (by omega)) ls_X7_84 rfl ⟨Nat.le_of_ble_eq_true rfl, Nat.le_of_ble_eq_true rfl⟩ ⟨Nat.le_of_ble_eq_true rfl, Nat.le_of_ble_eq_true rfl⟩ [] rfl (Nat.le_of_ble_eq_true rfl) 26 rfl (fo_erv ?_)
      refine fo_aload_n C dX7_restore_26 0 rfl rfl 27 rfl ?_
      refine fo_iconst C dX7_restore_27 (nI 0) ki_0 28 rfl ?_
      refine fo_put C dX7_restore_28 fK9 (by decide : fo_k 616 = 9) (by decide) 6 (by decide) fl_X7_29 rfl rfl rfl rfl (Nat.le_of_ble_eq_true rfl) 31 rfl ?_
      refine fo_aload_n C dX7_restore_31 0 rfl rfl 32 rfl ?_
      refine fo_get C dX7_restore_32 fK9 (by decide : fo_k 616 = 9) (by decide) 0 (by decide) fl_X7_7 (v := .ref (Λ.2.2.1 617)) rfl 35 rfl ?_
      refine fo_iconst C dX7_restore_35 (nI 0) ki_0 36 rfl ?_
      refine fo_iald C dX7_restore_36 (by decide : fo_k 617 = 20) (by rw [(show fo_n 617 = 150 from rfl)]; omega) (nI (s2.1)) ((by rw [fo_rn _ _ (by decide), fo_rs, fm_cp_in (by omega) (by omega)]; exact (hM.2.2.1.2 s2 rfl).2.1)) 37 rfl ?_
      exact fin dX7_restore_37 rfl (⟨rfl, by rw [fo_rs, pk_un (by decide), fo_rn _ _ (by decide), fo_rs, pk_us]; rfl, hM.go (by
            rw [fo_rn _ _ (by decide), fo_rs]
            exact (hM.2.2.1.2 s2 rfl).cong (fun j hj => by rw [fm_cp_in (by omega) (by omega), fo_rn _ _ (by decide)]; exact congrArg (I 619) (by omega))) ⟨by rw [fo_rs, pk_us]; rfl, Nat.zero_le _, fun j q hj => by cases hj⟩ (fun j h5 h6 => by rw [fo_rs, pk_un h6, fo_rn _ _ (by decide), fo_rs, pk_un h5]) (fun b c1 c2 c3 => by rw [fo_rn _ _ (by omega), fo_rn _ _ (by omega), fo_rn _ _ (by omega)]), fun b hb => by rw [fo_rn _ _ (by omega), fo_rn _ _ (by omega), fo_rn _ _ (by omega)], rfl, rfl⟩)
    · omega

def fg_ty (m : Nat) : Nat × Int32 := if m < 60 then (0, nI (m + 1)) else (1, nI 0)
theorem fm_Q.add {I I' : fo_Mi} {m w : Nat} {t : Nat → Nat} (h : fm_Q I m t) (hm : m < 60) (hw : w < 65536) (e1 : I' 616 18 = nI (m + 1)) (e2 : I' 623 m = nI w) (e3 : ∀ j, j ≠ m → I' 623 j = I 623 j) : fm_Q I' (m + 1) (va_up t m w) := by
  refine ⟨by omega, e1, fun j hj => ?_⟩
  unfold va_up
  by_cases e : j = m
  · rw [if_pos e, e]; exact ⟨e2, hw⟩
  · rw [if_neg e, e3 j e]; exact h.2.2 j (by omega)

set_option maxRecDepth 10000 in
set_option maxHeartbeats 4000000 in
theorem mX7_type {l : Launch} {Λ : fo_Lt} {I : fo_Mi} {D : fo_Md} {J : fo_Mj} {X : fo_Mi}  {s : fa_S} {hs : List fa_S} {ks : Option fa_S} {L : List Nat} {m : Nat} {t : Nat → Nat} {e f : Int32} {w : Nat} (hw : w < 65536) (hM : fm_M I s hs ks L m t e f) : fk_i l yX7_type cX7_type 2 .int 1 21 Λ [.ref (Λ.2.2.1 616), .int (nI w)] I D J X ((fun r I' D' J' X' => r = (fg_ty m).2 ∧ I' 616 5 = nI ((fg_ty m).1) ∧ fm_M I' s hs ks L (if m < 60 then m + 1 else m) (if m < 60 then va_up t m w else t) e f ∧ fm_f I I' ∧ D' = D ∧ J' = J)) := by
  have hQ := hM.2.2.2.2.1
  have hm60 := hQ.1
  refine fo_si (by decide) [(0, .ref (Λ.2.2.1 616)), (1, .int (nI w))] rfl (Nat.le_of_ble_eq_true rfl) (fun K C fin => ?_)
  by_cases hm : m < 60
  · skip
    refine fo_aload_n C dX7_type_0 0 rfl rfl 1 rfl ?_
    refine fo_aload_n C dX7_type_1 0 rfl rfl 2 rfl ?_
    refine fo_get C dX7_type_2 fK9 (by decide : fo_k 616 = 9) (by decide) 18 (by decide) fl_X7_66 (v := .int (nI m)) (congrArg (fun x => some (Value.int x)) (hQ.2.1)) 5 rfl ?_
    refine fo_bipush C dX7_type_5 (nI 60) kb_60 7 rfl ?_
    refine fo_ncmp_ge C (by omega) (by omega) dX7_type_7 14 (by decide) 10 rfl (fun c1 => ?_) (fun c1 => ?_)
    · omega
    · refine fo_iconst C dX7_type_10 (nI 1) ki_1 11 rfl ?_
      refine fo_goto C dX7_type_11 15 (by decide) ?_
      refine fo_qvi C dX7_type_15 mX7_checked_t lv_X7_135 (by decide : fo_k 616 = 9) rfl (by decide) rfl ⟨Nat.le_of_ble_eq_true rfl, Nat.le_of_ble_eq_true rfl⟩ ⟨Nat.le_of_ble_eq_true rfl, Nat.le_of_ble_eq_true rfl⟩ [] rfl (Nat.le_of_ble_eq_true rfl) 18 rfl (fo_er ?_)
      refine fo_nif_le C (by omega) dX7_type_18 23 (by decide) 21 rfl (fun c8 => ?_) (fun c8 => ?_)
      · refine fo_aload_n C dX7_type_23 0 rfl rfl 24 rfl ?_
        refine fo_get C dX7_type_24 fK9 (by decide : fo_k 616 = 9) (by decide) 12 (by decide) fl_X7_48 (v := .ref (Λ.2.2.1 623)) rfl 27 rfl ?_
        refine fo_aload_n C dX7_type_27 0 rfl rfl 28 rfl ?_
        refine fo_get C dX7_type_28 fK9 (by decide : fo_k 616 = 9) (by decide) 18 (by decide) fl_X7_66 (v := .int (nI m)) (congrArg (fun x => some (Value.int x)) ((by rw [fo_rs, pk_un (by decide)]; exact hQ.2.1))) 31 rfl ?_
        refine fo_iload_n C dX7_type_31 1 rfl rfl 32 rfl ?_
        refine fo_iast C dX7_type_32 (by decide : fo_k 623 = 20) (by rw [(show fo_n 623 = 60 from rfl)]; omega) 33 rfl ?_
        refine fo_aload_n C dX7_type_33 0 rfl rfl 34 rfl ?_
        refine fo_dup C dX7_type_34 rfl 35 rfl ?_
        refine fo_get C dX7_type_35 fK9 (by decide : fo_k 616 = 9) (by decide) 18 (by decide) fl_X7_66 (v := .int (nI m)) (congrArg (fun x => some (Value.int x)) ((by rw [fo_rn _ _ (by decide), fo_rs, pk_un (by decide)]; exact hQ.2.1))) 38 rfl ?_
        refine fo_iconst C dX7_type_38 (nI 1) ki_1 39 rfl ?_
        refine fo_iadd C dX7_type_39 (nI (m + 1)) (nI_add _ _) 40 rfl ?_
        refine fo_put C dX7_type_40 fK9 (by decide : fo_k 616 = 9) (by decide) 18 (by decide) fl_X7_66 rfl rfl rfl rfl (Nat.le_of_ble_eq_true rfl) 43 rfl ?_
        refine fo_aload_n C dX7_type_43 0 rfl rfl 44 rfl ?_
        refine fo_get C dX7_type_44 fK9 (by decide : fo_k 616 = 9) (by decide) 18 (by decide) fl_X7_66 (v := .int (nI (m + 1))) (congrArg (fun x => some (Value.int x)) ((by rw [fo_rs, pk_us]))) 47 rfl ?_
        exact fin dX7_type_47 rfl (⟨by unfold fg_ty; rw [if_pos hm], by unfold fg_ty; rw [fo_rs, pk_un (by decide), fo_rn _ _ (by decide), fo_rs, pk_us, if_pos hm], by
              rw [if_pos hm, if_pos hm]
              obtain ⟨g1, g2, g3, g4, g5, g6, g7⟩ := hM
              exact ⟨g1, g2.mv (by rw [fo_rs, pk_un (by decide), fo_rn _ _ (by decide), fo_rs, pk_un (by decide)]) rfl, ⟨by rw [fo_rs, pk_un (by decide), fo_rn _ _ (by decide), fo_rs, pk_un (by decide)]; exact g3.1, g3.2⟩, ⟨g4.1, by rw [fo_rs, pk_un (by decide), fo_rn _ _ (by decide), fo_rs, pk_un (by decide)]; exact g4.2.1, g4.2.2⟩, g5.add hm hw (by rw [fo_rs, pk_us]) (by rw [fo_rn _ _ (by decide), fo_rs, pk_us]) (fun j hj => by rw [fo_rn _ _ (by decide), fo_rs, pk_un hj, fo_rn _ _ (by decide)]), by rw [fo_rs, pk_un (by decide), fo_rn _ _ (by decide), fo_rs, pk_un (by decide)]; exact g6, by rw [fo_rs, pk_un (by decide), fo_rn _ _ (by decide), fo_rs, pk_un (by decide)]; exact g7⟩, fun b hb => by rw [fo_rn _ _ (by omega), fo_rn _ _ (by omega), fo_rn _ _ (by omega)], rfl, rfl⟩)
      · omega
  · skip
    refine fo_aload_n C dX7_type_0 0 rfl rfl 1 rfl ?_
    refine fo_aload_n C dX7_type_1 0 rfl rfl 2 rfl ?_
    refine fo_get C dX7_type_2 fK9 (by decide : fo_k 616 = 9) (by decide) 18 (by decide) fl_X7_66 (v := .int (nI m)) (congrArg (fun x => some (Value.int x)) (hQ.2.1)) 5 rfl ?_
    refine fo_bipush C dX7_type_5 (nI 60) kb_60 7 rfl ?_
    refine fo_ncmp_ge C (by omega) (by omega) dX7_type_7 14 (by decide) 10 rfl (fun c9 => ?_) (fun c9 => ?_)
    · refine fo_iconst C dX7_type_14 (nI 0) ki_0 15 rfl ?_
      refine fo_qvi C dX7_type_15 mX7_checked_f lv_X7_135 (by decide : fo_k 616 = 9) rfl (by decide) rfl ⟨Nat.le_of_ble_eq_true rfl, Nat.le_of_ble_eq_true rfl⟩ ⟨Nat.le_of_ble_eq_true rfl, Nat.le_of_ble_eq_true rfl⟩ [] rfl (Nat.le_of_ble_eq_true rfl) 18 rfl (fo_er ?_)
      refine fo_nif_le C (by omega) dX7_type_18 23 (by decide) 21 rfl (fun c16 => ?_) (fun c16 => ?_)
      · omega
      · refine fo_iconst C dX7_type_21 (nI 0) ki_0 22 rfl ?_
        exact fin dX7_type_22 rfl (⟨by unfold fg_ty; rw [if_neg hm], by unfold fg_ty; rw [fo_rs, pk_us, if_neg hm], by rw [if_neg hm, if_neg hm]; exact hM.mv (fun j hj => by rw [fo_rs, pk_un hj]) (fun b c1 c2 c3 => by rw [fo_rn _ _ (by omega)]), fun b hb => by rw [fo_rn _ _ (by omega)], rfl, rfl⟩)
    · omega
