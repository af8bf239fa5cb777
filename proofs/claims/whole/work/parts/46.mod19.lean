
/-! THE MODEL: what it writes -/
def fm_lf (I I' : fo_Mi) : Prop := (∀ b, b ≠ 616 → b ≠ 622 → I' b = I b) ∧ ∀ j, j ≠ 11 → I' 616 j = I 616 j
theorem fm_lf.trans {I I1 I2 : fo_Mi} (h : fm_lf I I1) (h2 : fm_lf I1 I2) : fm_lf I I2 := ⟨fun b a c => (h2.1 b a c).trans (h.1 b a c), fun j a => (h2.2 j a).trans (h.2 j a)⟩
/-- a text is being written, nothing was thrown -/
def fm_wf (I M : fo_Mi) : Prop := (∀ b, b ≠ 616 → b ≠ 622 → M b = I b) ∧ (∀ j, j ≠ 11 → j ≠ 5 → M 616 j = I 616 j) ∧ M 616 5 = nI 0
theorem fm_wf.lf {I M N : fo_Mi} (h : fm_wf I M) (g : fm_lf M N) : fm_wf I N := ⟨fun b a c => (g.1 b a c).trans (h.1 b a c), fun j a c => (g.2 j a).trans (h.2.1 j a c), (g.2 5 (by decide)).trans h.2.2⟩
theorem fm_T.row {I I' : fo_Mi} {np lim : Nat} {kd par n : Nat → Nat} {v : Nat → Nat → Nat} (h : fm_T I 617 np lim kd par n v) (e : I' 617 = I 617) : fm_T I' 617 np lim kd par n v := by
  have h2 : fm_R (I 617) (np, lim, kd, par, n, v) := h
  rw [← e] at h2
  exact h2
theorem fm_wf.T {I M : fo_Mi} {np lim : Nat} {kd par n : Nat → Nat} {v : Nat → Nat → Nat} (h : fm_wf I M) (ht : fm_T I 617 np lim kd par n v) : fm_T M 617 np lim kd par n v := ht.row (h.1 617 (by decide) (by decide))
theorem fm_M.wr {I I' : fo_Mi} {s : fa_S} {hs : List fa_S} {ks : Option fa_S} {L L2 : List Nat} {m : Nat} {t : Nat → Nat} {e f : Int32} (h : fm_M I s hs ks L m t e f) (w : fm_wf I I') (hl : fm_L I' L2) : fm_M I' s hs ks L2 m t e f := by
  obtain ⟨g1, g2, g3, g4, g5, g6, g7⟩ := h
  refine ⟨by rw [w.1 617 (by decide) (by decide)]; exact g1, g2.mv (w.2.1 6 (by decide) (by decide)) (w.1 620 (by decide) (by decide)), ⟨(w.2.1 9 (by decide) (by decide)).trans g3.1, fun q hq => by rw [w.1 619 (by decide) (by decide)]; exact g3.2 q hq⟩, hl, ⟨g5.1, (w.2.1 18 (by decide) (by decide)).trans g5.2.1, fun j hj => by rw [w.1 623 (by decide) (by decide)]; exact g5.2.2 j hj⟩, (w.2.1 7 (by decide) (by decide)).trans g6, (w.2.1 8 (by decide) (by decide)).trans g7⟩
theorem fm_wf.f {I M : fo_Mi} (h : fm_wf I M) : fm_f I M := fun b hb => h.1 b (by omega) (by omega)
abbrev fg_w : Type := Nat × Int32 × List Nat
def fg_ws (s : fa_S) (x : Int32) (L : List Nat) : fg_w := if fo_inr x 4 then (0, nI (fo_ser s.2.1 (s.2.2.2.2.2 (fN x)) (fN x) (s.2.2.2.2.1 (fN x))).length, fo_ser s.2.1 (s.2.2.2.2.2 (fN x)) (fN x) (s.2.2.2.2.1 (fN x))) else (1, nI 0, L)
theorem fg_ws_1 {s : fa_S} {x : Int32} {L : List Nat} (h : fo_inr x 4 = false) : fg_ws s x L = (1, nI 0, L) := by unfold fg_ws; rw [h]; rfl
theorem fg_ws_t {s : fa_S} {k : Nat} {L : List Nat} (hk : k < 4) : fg_ws s (nI k) L = (0, nI (fo_ser s.2.1 (s.2.2.2.2.2 k) k (s.2.2.2.2.1 k)).length, fo_ser s.2.1 (s.2.2.2.2.2 k) k (s.2.2.2.2.1 k)) := by unfold fg_ws; rw [fo_inr_nI hk (by omega), fN_nI (by omega)]; rfl
theorem fm_L.cat {I I' : fo_Mi} {L : List Nat} {c : Nat} (h : fm_L I L) (h1 : L.length < 160) (hc : c < 65536) (e1 : I' 616 11 = nI (L.length + 1)) (e2 : I' 622 L.length = nI c) (e3 : ∀ j, j ≠ L.length → I' 622 j = I 622 j) : fm_L I' (L ++ [c]) := by
  refine ⟨by rw [List.length_append]; exact h1, by rw [List.length_append]; exact e1, fun j d hj => ?_⟩
  by_cases e : j = L.length
  · subst e
    rw [List.getElem?_append_right (Nat.le_refl _), Nat.sub_self] at hj
    cases hj
    exact ⟨e2, hc⟩
  · have hlt : j < L.length := by
      have := (List.getElem?_eq_some_iff.mp hj).1
      rw [List.length_append] at this
      have h9 : [c].length = 1 := rfl
      omega
    rw [List.getElem?_append_left hlt] at hj
    rw [e3 j e]
    exact h.2.2 j d hj

set_option maxRecDepth 10000 in
set_option maxHeartbeats 4000000 in
theorem mX7_write {l : Launch} {Λ : fo_Lt} {I : fo_Mi} {D : fo_Md} {J : fo_Mj} {X : fo_Mi}  {L : List Nat} {c : Nat} (hL : fm_L I L) (h1 : L.length < 160) (hc : c < 65536) : fk_v l yX7_write cX7_write 2 0 0 Λ [.ref (Λ.2.2.1 616), .int (nI c)] I D J X ((fun I' D' J' X' => fm_L I' (L ++ [c]) ∧ fm_lf I I' ∧ D' = D ∧ J' = J ∧ X' = X)) := by
  refine fo_sv (by decide) [(0, .ref (Λ.2.2.1 616)), (1, .int (nI c))] rfl (Nat.le_of_ble_eq_true rfl) (fun K C fin => ?_)
  refine fo_aload_n C dX7_write_0 0 rfl rfl 1 rfl ?_
  refine fo_get C dX7_write_1 fK9 (by decide : fo_k 616 = 9) (by decide) 10 (by decide) fl_X7_42 (v := .ref (Λ.2.2.1 622)) rfl 4 rfl ?_
  refine fo_aload_n C dX7_write_4 0 rfl rfl 5 rfl ?_
  refine fo_get C dX7_write_5 fK9 (by decide : fo_k 616 = 9) (by decide) 11 (by decide) fl_X7_45 (v := .int (nI (L.length))) (congrArg (fun x => some (Value.int x)) (hL.2.1)) 8 rfl ?_
  refine fo_iload_n C dX7_write_8 1 rfl rfl 9 rfl ?_
  refine fo_iast C dX7_write_9 (by decide : fo_k 622 = 20) (by rw [(show fo_n 622 = 160 from rfl)]; omega) 10 rfl ?_
  refine fo_aload_n C dX7_write_10 0 rfl rfl 11 rfl ?_
  refine fo_dup C dX7_write_11 rfl 12 rfl ?_
  refine fo_get C dX7_write_12 fK9 (by decide : fo_k 616 = 9) (by decide) 11 (by decide) fl_X7_45 (v := .int (nI (L.length))) (congrArg (fun x => some (Value.int x)) ((by rw [fo_rn _ _ (by decide)]; exact hL.2.1))) 15 rfl ?_
  refine fo_iconst C dX7_write_15 (nI 1) ki_1 16 rfl ?_
  refine fo_iadd C dX7_write_16 (nI (L.length + 1)) (nI_add _ _) 17 rfl ?_
  refine fo_put C dX7_write_17 fK9 (by decide : fo_k 616 = 9) (by decide) 11 (by decide) fl_X7_45 rfl rfl rfl rfl (Nat.le_of_ble_eq_true rfl) 20 rfl ?_
  exact fin dX7_write_20 (⟨hL.cat h1 hc (by rw [fo_rs, pk_us]) (by rw [fo_rn _ _ (by decide), fo_rs, pk_us]) (fun j hj => by rw [fo_rn _ _ (by decide), fo_rs, pk_un hj]), ⟨fun b b1 b2 => by rw [fo_rn _ _ b1, fo_rn _ _ b2], fun j hj => by rw [fo_rs, pk_un hj, fo_rn _ _ (by decide)]⟩, rfl, rfl, rfl⟩)
set_option maxRecDepth 10000 in
set_option maxHeartbeats 4000000 in
theorem mX7_writeNumber {l : Launch} {Λ : fo_Lt} {I : fo_Mi} {D : fo_Md} {J : fo_Mj} {X : fo_Mi}  {L : List Nat} {x : Nat} (hL : fm_L I L) (h1 : L.length + 3 ≤ 160) (hx : x ≤ 999) : fk_v l yX7_writeNumber cX7_writeNumber 3 1 21 Λ [.ref (Λ.2.2.1 616), .int (nI x)] I D J X ((fun I' D' J' X' => fm_L I' (L ++ fp_dig x) ∧ fm_lf I I' ∧ D' = D ∧ J' = J ∧ X' = X)) := by
  refine fo_sv (by decide) [(0, .ref (Λ.2.2.1 616)), (1, .int (nI x))] rfl (Nat.le_of_ble_eq_true rfl) (fun K C fin => ?_)
  rcases Nat.lt_or_ge x 10 with hx1 | hx1
  · skip
    refine fo_iconst C dX7_writeNumber_0 (nI 1) ki_1 1 rfl ?_
    refine fo_istore_n C dX7_writeNumber_1 rfl [(2, .int (nI 1)), (0, .ref (Λ.2.2.1 616)), (1, .int (nI x))] rfl (by decide) 2 rfl ?_
    refine fo_iload_n C dX7_writeNumber_2 2 rfl rfl 3 rfl ?_
    refine fo_iload_n C dX7_writeNumber_3 0 rfl rfl 4 rfl ?_
    refine fo_idiv C dX7_writeNumber_4 (nI_ne0 (by omega) (by omega)) (nI (x / 1)) (pk_div (by omega) (by omega) (by omega)) 5 rfl ?_
    refine fo_bipush C dX7_writeNumber_5 (nI 9) kb_9 7 rfl ?_
    refine fo_ncmp_le C (by omega) (by omega) dX7_writeNumber_7 18 (by decide) 10 rfl (fun c1 => ?_) (fun c1 => ?_)
    · refine fo_iload_n C dX7_writeNumber_18 0 rfl rfl 19 rfl ?_
      refine fo_nif_le C (by omega) dX7_writeNumber_19 43 (by decide) 22 rfl (fun c2 => ?_) (fun c2 => ?_)
      · omega
      · refine fo_aload_n C dX7_writeNumber_22 1 rfl rfl 23 rfl ?_
        refine fo_bipush C dX7_writeNumber_23 (nI 48) kb_48 25 rfl ?_
        refine fo_iload_n C dX7_writeNumber_25 2 rfl rfl 26 rfl ?_
        refine fo_iload_n C dX7_writeNumber_26 0 rfl rfl 27 rfl ?_
        refine fo_idiv C dX7_writeNumber_27 (nI_ne0 (by omega) (by omega)) (nI (x / 1)) (pk_div (by omega) (by omega) (by omega)) 28 rfl ?_
        refine fo_bipush C dX7_writeNumber_28 (nI 10) kb_10 30 rfl ?_
        refine fo_irem C dX7_writeNumber_30 (nI_ne0 (by omega) (by omega)) (nI ((x / 1) % 10)) (pk_rem (by omega) (by omega) (by omega)) 31 rfl ?_
        refine fo_iadd C dX7_writeNumber_31 (nI (48 + ((x / 1) % 10))) (nI_add _ _) 32 rfl ?_
        refine fo_qvv C dX7_writeNumber_32 (mX7_write (L := L) (c := 48 + ((x / 1) % 10)) hL (by first | omega | (simp only [List.length_append, List.length_cons, List.length_nil]; omega)) (by omega)) lv_X7_230 (by decide : fo_k 616 = 9) rfl (by decide) rfl ⟨Nat.le_of_ble_eq_true rfl, Nat.le_of_ble_eq_true rfl⟩ ⟨Nat.le_of_ble_eq_true rfl, Nat.le_of_ble_eq_true rfl⟩ [] rfl (Nat.le_of_ble_eq_true rfl) 35 rfl (fun I4 D5 J6 X7 p8 => ?_)
        obtain ⟨g9, l10, z3, z4, z5⟩ := p8
        obtain rfl := z3.symm
        obtain rfl := z4.symm
        obtain rfl := z5.symm
        have w11 := l10
        refine fo_iload_n C dX7_writeNumber_35 0 rfl rfl 36 rfl ?_
        refine fo_bipush C dX7_writeNumber_36 (nI 10) kb_10 38 rfl ?_
        refine fo_idiv C dX7_writeNumber_38 (nI_ne0 (by omega) (by omega)) (nI (1 / 10)) (pk_div (by omega) (by omega) (by omega)) 39 rfl ?_
        refine fo_ti (b := nI 0) rfl ?_
        refine fo_istore_n C dX7_writeNumber_39 rfl [(2, .int (nI 0)), (0, .ref (Λ.2.2.1 616)), (1, .int (nI x))] rfl (by decide) 40 rfl ?_
        refine fo_goto C dX7_writeNumber_40 18 (by decide) ?_
        refine fo_iload_n C dX7_writeNumber_18 0 rfl rfl 19 rfl ?_
        refine fo_nif_le C (by omega) dX7_writeNumber_19 43 (by decide) 22 rfl (fun c13 => ?_) (fun c13 => ?_)
        · exact fin dX7_writeNumber_43 (⟨(by have g9 := g9; rw [Nat.div_one] at g9; rw [show L ++ fp_dig x = _ from congrArg (L ++ ·) (show fp_dig x = _ from (by unfold fp_dig; rw [if_neg (by omega), if_neg (by omega)]))]; simp only [List.append_assoc, List.nil_append, List.cons_append] at g9 ⊢; exact g9), w11, rfl, rfl, rfl⟩)
        · omega
    · omega
  · rcases Nat.lt_or_ge x 100 with hx2 | hx2
    · skip
      refine fo_iconst C dX7_writeNumber_0 (nI 1) ki_1 1 rfl ?_
      refine fo_istore_n C dX7_writeNumber_1 rfl [(2, .int (nI 1)), (0, .ref (Λ.2.2.1 616)), (1, .int (nI x))] rfl (by decide) 2 rfl ?_
      refine fo_iload_n C dX7_writeNumber_2 2 rfl rfl 3 rfl ?_
      refine fo_iload_n C dX7_writeNumber_3 0 rfl rfl 4 rfl ?_
      refine fo_idiv C dX7_writeNumber_4 (nI_ne0 (by omega) (by omega)) (nI (x / 1)) (pk_div (by omega) (by omega) (by omega)) 5 rfl ?_
      refine fo_bipush C dX7_writeNumber_5 (nI 9) kb_9 7 rfl ?_
      refine fo_ncmp_le C (by omega) (by omega) dX7_writeNumber_7 18 (by decide) 10 rfl (fun c14 => ?_) (fun c14 => ?_)
      · omega
      · refine fo_iload_n C dX7_writeNumber_10 0 rfl rfl 11 rfl ?_
        refine fo_bipush C dX7_writeNumber_11 (nI 10) kb_10 13 rfl ?_
        refine fo_imul C dX7_writeNumber_13 (nI (1 * 10)) (pk_mul _ _) 14 rfl ?_
        refine fo_ti (b := nI 10) rfl ?_
        refine fo_istore_n C dX7_writeNumber_14 rfl [(2, .int (nI 10)), (0, .ref (Λ.2.2.1 616)), (1, .int (nI x))] rfl (by decide) 15 rfl ?_
        refine fo_goto C dX7_writeNumber_15 2 (by decide) ?_
        refine fo_iload_n C dX7_writeNumber_2 2 rfl rfl 3 rfl ?_
        refine fo_iload_n C dX7_writeNumber_3 0 rfl rfl 4 rfl ?_
        refine fo_idiv C dX7_writeNumber_4 (nI_ne0 (by omega) (by omega)) (nI (x / 10)) (pk_div (by omega) (by omega) (by omega)) 5 rfl ?_
        refine fo_bipush C dX7_writeNumber_5 (nI 9) kb_9 7 rfl ?_
        refine fo_ncmp_le C (by omega) (by omega) dX7_writeNumber_7 18 (by decide) 10 rfl (fun c15 => ?_) (fun c15 => ?_)
        · refine fo_iload_n C dX7_writeNumber_18 0 rfl rfl 19 rfl ?_
          refine fo_nif_le C (by omega) dX7_writeNumber_19 43 (by decide) 22 rfl (fun c16 => ?_) (fun c16 => ?_)
          · omega
          · refine fo_aload_n C dX7_writeNumber_22 1 rfl rfl 23 rfl ?_
            refine fo_bipush C dX7_writeNumber_23 (nI 48) kb_48 25 rfl ?_
            refine fo_iload_n C dX7_writeNumber_25 2 rfl rfl 26 rfl ?_
            refine fo_iload_n C dX7_writeNumber_26 0 rfl rfl 27 rfl ?_
            refine fo_idiv C dX7_writeNumber_27 (nI_ne0 (by omega) (by omega)) (nI (x / 10)) (pk_div (by omega) (by omega) (by omega)) 28 rfl ?_
            refine fo_bipush C dX7_writeNumber_28 (nI 10) kb_10 30 rfl ?_
            refine fo_irem C dX7_writeNumber_30 (nI_ne0 (by omega) (by omega)) (nI ((x / 10) % 10)) (pk_rem (by omega) (by omega) (by omega)) 31 rfl ?_
            refine fo_iadd C dX7_writeNumber_31 (nI (48 + ((x / 10) % 10))) (nI_add _ _) 32 rfl ?_
            refine fo_qvv C dX7_writeNumber_32 (mX7_write (L := L) (c := 48 + ((x / 10) % 10)) hL (by first | omega | (simp only [List.length_append, List.length_cons, List.length_nil]; omega)) (by omega)) lv_X7_230 (by decide : fo_k 616 = 9) rfl (by decide) rfl ⟨Nat.le_of_ble_eq_true rfl, Nat.le_of_ble_eq_true rfl⟩ ⟨Nat.le_of_ble_eq_true rfl, Nat.le_of_ble_eq_true rfl⟩ [] rfl (Nat.le_of_ble_eq_true rfl) 35 rfl (fun I18 D19 J20 X21 p22 => ?_)
            obtain ⟨g23, l24, z3, z4, z5⟩ := p22
            obtain rfl := z3.symm
            obtain rfl := z4.symm
            obtain rfl := z5.symm
            have w25 := l24
            refine fo_iload_n C dX7_writeNumber_35 0 rfl rfl 36 rfl ?_
            refine fo_bipush C dX7_writeNumber_36 (nI 10) kb_10 38 rfl ?_
            refine fo_idiv C dX7_writeNumber_38 (nI_ne0 (by omega) (by omega)) (nI (10 / 10)) (pk_div (by omega) (by omega) (by omega)) 39 rfl ?_
            refine fo_ti (b := nI 1) rfl ?_
            refine fo_istore_n C dX7_writeNumber_39 rfl [(2, .int (nI 1)), (0, .ref (Λ.2.2.1 616)), (1, .int (nI x))] rfl (by decide) 40 rfl ?_
            refine fo_goto C dX7_writeNumber_40 18 (by decide) ?_
            refine fo_iload_n C dX7_writeNumber_18 0 rfl rfl 19 rfl ?_
            refine fo_nif_le C (by omega) dX7_writeNumber_19 43 (by decide) 22 rfl (fun c27 => ?_) (fun c27 => ?_)
            · omega
            · refine fo_aload_n C dX7_writeNumber_22 1 rfl rfl 23 rfl ?_
              refine fo_bipush C dX7_writeNumber_23 (nI 48) kb_48 25 rfl ?_
              refine fo_iload_n C dX7_writeNumber_25 2 rfl rfl 26 rfl ?_
              refine fo_iload_n C dX7_writeNumber_26 0 rfl rfl 27 rfl ?_
              refine fo_idiv C dX7_writeNumber_27 (nI_ne0 (by omega) (by omega)) (nI (x / 1)) (pk_div (by omega) (by omega) (by omega)) 28 rfl ?_
              refine fo_bipush C dX7_writeNumber_28 (nI 10) kb_10 30 rfl ?_
              refine fo_irem C dX7_writeNumber_30 (nI_ne0 (by omega) (by omega)) (nI ((x / 1) % 10)) (pk_rem (by omega) (by omega) (by omega)) 31 rfl ?_
              refine fo_iadd C dX7_writeNumber_31 (nI (48 + ((x / 1) % 10))) (nI_add _ _) 32 rfl ?_
              refine fo_qvv C dX7_writeNumber_32 (mX7_write (L := (L) ++ [48 + ((x / 10) % 10)]) (c := 48 + ((x / 1) % 10)) g23 (by first | omega | (simp only [List.length_append, List.length_cons, List.length_nil]; omega)) (by omega)) lv_X7_230 (by decide : fo_k 616 = 9) rfl (by decide) rfl ⟨Nat.le_of_ble_eq_true rfl, Nat.le_of_ble_eq_true rfl⟩ ⟨Nat.le_of_ble_eq_true rfl, Nat.le_of_ble_eq_true rfl⟩ [] rfl (Nat.le_of_ble_eq_true rfl) 35 rfl (fun I29 D30 J31 X32 p33 => ?_)
              obtain ⟨g34, l35, z3, z4, z5⟩ := p33
              obtain rfl := z3.symm
              obtain rfl := z4.symm
              obtain rfl := z5.symm
              have w36 := fm_lf.trans w25 l35
              refine fo_iload_n C dX7_writeNumber_35 0 rfl rfl 36 rfl ?_
              refine fo_bipush C dX7_writeNumber_36 (nI 10) kb_10 38 rfl ?_
              refine fo_idiv C dX7_writeNumber_38 (nI_ne0 (by omega) (by omega)) (nI (1 / 10)) (pk_div (by omega) (by omega) (by omega)) 39 rfl ?_
              refine fo_ti (b := nI 0) rfl ?_
              refine fo_istore_n C dX7_writeNumber_39 rfl [(2, .int (nI 0)), (0, .ref (Λ.2.2.1 616)), (1, .int (nI x))] rfl (by decide) 40 rfl ?_
              refine fo_goto C dX7_writeNumber_40 18 (by decide) ?_
              refine fo_iload_n C dX7_writeNumber_18 0 rfl rfl 19 rfl ?_
              refine fo_nif_le C (by omega) dX7_writeNumber_19 43 (by decide) 22 rfl (fun c38 => ?_) (fun c38 => ?_)
              · exact fin dX7_writeNumber_43 (⟨(by have g9 := g34; rw [Nat.div_one] at g9; rw [show L ++ fp_dig x = _ from congrArg (L ++ ·) (show fp_dig x = _ from (by unfold fp_dig; rw [if_neg (by omega), if_pos (by omega)]))]; simp only [List.append_assoc, List.nil_append, List.cons_append] at g9 ⊢; exact g9), w36, rfl, rfl, rfl⟩)
              · omega
        · omega
    · skip
      refine fo_iconst C dX7_writeNumber_0 (nI 1) ki_1 1 rfl ?_
      refine fo_istore_n C dX7_writeNumber_1 rfl [(2, .int (nI 1)), (0, .ref (Λ.2.2.1 616)), (1, .int (nI x))] rfl (by decide) 2 rfl ?_
      refine fo_iload_n C dX7_writeNumber_2 2 rfl rfl 3 rfl ?_
      refine fo_iload_n C dX7_writeNumber_3 0 rfl rfl 4 rfl ?_
      refine fo_idiv C dX7_writeNumber_4 (nI_ne0 (by omega) (by omega)) (nI (x / 1)) (pk_div (by omega) (by omega) (by omega)) 5 rfl ?_
      refine fo_bipush C dX7_writeNumber_5 (nI 9) kb_9 7 rfl ?_
      refine fo_ncmp_le C (by omega) (by omega) dX7_writeNumber_7 18 (by decide) 10 rfl (fun c39 => ?_) (fun c39 => ?_)
      · omega
      · refine fo_iload_n C dX7_writeNumber_10 0 rfl rfl 11 rfl ?_
        refine fo_bipush C dX7_writeNumber_11 (nI 10) kb_10 13 rfl ?_
        refine fo_imul C dX7_writeNumber_13 (nI (1 * 10)) (pk_mul _ _) 14 rfl ?_
        refine fo_ti (b := nI 10) rfl ?_
        refine fo_istore_n C dX7_writeNumber_14 rfl [(2, .int (nI 10)), (0, .ref (Λ.2.2.1 616)), (1, .int (nI x))] rfl (by decide) 15 rfl ?_
        refine fo_goto C dX7_writeNumber_15 2 (by decide) ?_
        refine fo_iload_n C dX7_writeNumber_2 2 rfl rfl 3 rfl ?_
        refine fo_iload_n C dX7_writeNumber_3 0 rfl rfl 4 rfl ?_
        refine fo_idiv C dX7_writeNumber_4 (nI_ne0 (by omega) (by omega)) (nI (x / 10)) (pk_div (by omega) (by omega) (by omega)) 5 rfl ?_
        refine fo_bipush C dX7_writeNumber_5 (nI 9) kb_9 7 rfl ?_
        refine fo_ncmp_le C (by omega) (by omega) dX7_writeNumber_7 18 (by decide) 10 rfl (fun c40 => ?_) (fun c40 => ?_)
        · omega
        · refine fo_iload_n C dX7_writeNumber_10 0 rfl rfl 11 rfl ?_
          refine fo_bipush C dX7_writeNumber_11 (nI 10) kb_10 13 rfl ?_
          refine fo_imul C dX7_writeNumber_13 (nI (10 * 10)) (pk_mul _ _) 14 rfl ?_
          refine fo_ti (b := nI 100) rfl ?_
          refine fo_istore_n C dX7_writeNumber_14 rfl [(2, .int (nI 100)), (0, .ref (Λ.2.2.1 616)), (1, .int (nI x))] rfl (by decide) 15 rfl ?_
          refine fo_goto C dX7_writeNumber_15 2 (by decide) ?_
          refine fo_iload_n C dX7_writeNumber_2 2 rfl rfl 3 rfl ?_
          refine fo_iload_n C dX7_writeNumber_3 0 rfl rfl 4 rfl ?_
          refine fo_idiv C dX7_writeNumber_4 (nI_ne0 (by omega) (by omega)) (nI (x / 100)) (pk_div (by omega) (by omega) (by omega)) 5 rfl ?_
          refine fo_bipush C dX7_writeNumber_5 (nI 9) kb_9 7 rfl ?_
          refine fo_ncmp_le C (by omega) (by omega) dX7_writeNumber_7 18 (by decide) 10 rfl (fun c41 => ?_) (fun c41 => ?_)
          · refine fo_iload_n C dX7_writeNumber_18 0 rfl rfl 19 rfl ?_
            refine fo_nif_le C (by omega) dX7_writeNumber_19 43 (by decide) 22 rfl (fun c42 => ?_) (fun c42 => ?_)
            · omega
            · refine fo_aload_n C dX7_writeNumber_22 1 rfl rfl 23 rfl ?_
              refine fo_bipush C dX7_writeNumber_23 (nI 48) kb_48 25 rfl ?_
              refine fo_iload_n C dX7_writeNumber_25 2 rfl rfl 26 rfl ?_
              refine fo_iload_n C dX7_writeNumber_26 0 rfl rfl 27 rfl ?_
              refine fo_idiv C dX7_writeNumber_27 (nI_ne0 (by omega) (by omega)) (nI (x / 100)) (pk_div (by omega) (by omega) (by omega)) 28 rfl ?_
              refine fo_bipush C dX7_writeNumber_28 (nI 10) kb_10 30 rfl ?_
              refine fo_irem C dX7_writeNumber_30 (nI_ne0 (by omega) (by omega)) (nI ((x / 100) % 10)) (pk_rem (by omega) (by omega) (by omega)) 31 rfl ?_
              refine fo_iadd C dX7_writeNumber_31 (nI (48 + ((x / 100) % 10))) (nI_add _ _) 32 rfl ?_
              refine fo_qvv C dX7_writeNumber_32 (mX7_write (L := L) (c := 48 + ((x / 100) % 10)) hL (by first | omega | (simp only [List.length_append, List.length_cons, List.length_nil]; omega)) (by omega)) lv_X7_230 (by decide : fo_k 616 = 9) rfl (by decide) rfl ⟨Nat.le_of_ble_eq_true rfl, Nat.le_of_ble_eq_true rfl⟩ ⟨Nat.le_of_ble_eq_true rfl, Nat.le_of_ble_eq_true rfl⟩ [] rfl (Nat.le_of_ble_eq_true rfl) 35 rfl (fun I44 D45 J46 X47 p48 => ?_)
              obtain ⟨g49, l50, z3, z4, z5⟩ := p48
              obtain rfl := z3.symm
              obtain rfl := z4.symm
              obtain rfl := z5.symm
              have w51 := l50
              refine fo_iload_n C dX7_writeNumber_35 0 rfl rfl 36 rfl ?_
              refine fo_bipush C dX7_writeNumber_36 (nI 10) kb_10 38 rfl ?_
              refine fo_idiv C dX7_writeNumber_38 (nI_ne0 (by omega) (by omega)) (nI (100 / 10)) (pk_div (by omega) (by omega) (by omega)) 39 rfl ?_
              refine fo_ti (b := nI 10) rfl ?_
              refine fo_istore_n C dX7_writeNumber_39 rfl [(2, .int (nI 10)), (0, .ref (Λ.2.2.1 616)), (1, .int (nI x))] rfl (by decide) 40 rfl ?_
              refine fo_goto C dX7_writeNumber_40 18 (by decide) ?_
              refine fo_iload_n C dX7_writeNumber_18 0 rfl rfl 19 rfl ?_
              refine fo_nif_le C (by omega) dX7_writeNumber_19 43 (by decide) 22 rfl (fun c53 => ?_) (fun c53 => ?_)
              · omega
              · refine fo_aload_n C dX7_writeNumber_22 1 rfl rfl 23 rfl ?_
                refine fo_bipush C dX7_writeNumber_23 (nI 48) kb_48 25 rfl ?_
                refine fo_iload_n C dX7_writeNumber_25 2 rfl rfl 26 rfl ?_
                refine fo_iload_n C dX7_writeNumber_26 0 rfl rfl 27 rfl ?_
                refine fo_idiv C dX7_writeNumber_27 (nI_ne0 (by omega) (by omega)) (nI (x / 10)) (pk_div (by omega) (by omega) (by omega)) 28 rfl ?_
                refine fo_bipush C dX7_writeNumber_28 (nI 10) kb_10 30 rfl ?_
                refine fo_irem C dX7_writeNumber_30 (nI_ne0 (by omega) (by omega)) (nI ((x / 10) % 10)) (pk_rem (by omega) (by omega) (by omega)) 31 rfl ?_
                refine fo_iadd C dX7_writeNumber_31 (nI (48 + ((x / 10) % 10))) (nI_add _ _) 32 rfl ?_
                refine fo_qvv C dX7_writeNumber_32 (mX7_write (L := (L) ++ [48 + ((x / 100) % 10)]) (c := 48 + ((x / 10) % 10)) g49 (by first | omega | (simp only [List.length_append, List.length_cons, List.length_nil]; omega)) (by omega)) lv_X7_230 (by decide : fo_k 616 = 9) rfl (by decide) rfl ⟨Nat.le_of_ble_eq_true rfl, Nat.le_of_ble_eq_true rfl⟩ ⟨Nat.le_of_ble_eq_true rfl, Nat.le_of_ble_eq_true rfl⟩ [] rfl (Nat.le_of_ble_eq_true rfl) 35 rfl (fun I55 D56 J57 X58 p59 => ?_)
                obtain ⟨g60, l61, z3, z4, z5⟩ := p59
                obtain rfl := z3.symm
                obtain rfl := z4.symm
                obtain rfl := z5.symm
                have w62 := fm_lf.trans w51 l61
                refine fo_iload_n C dX7_writeNumber_35 0 rfl rfl 36 rfl ?_
                refine fo_bipush C dX7_writeNumber_36 (nI 10) kb_10 38 rfl ?_
                refine fo_idiv C dX7_writeNumber_38 (nI_ne0 (by omega) (by omega)) (nI (10 / 10)) (pk_div (by omega) (by omega) (by omega)) 39 rfl ?_
                refine fo_ti (b := nI 1) rfl ?_
                refine fo_istore_n C dX7_writeNumber_39 rfl [(2, .int (nI 1)), (0, .ref (Λ.2.2.1 616)), (1, .int (nI x))] rfl (by decide) 40 rfl ?_
                refine fo_goto C dX7_writeNumber_40 18 (by decide) ?_
                refine fo_iload_n C dX7_writeNumber_18 0 rfl rfl 19 rfl ?_
                refine fo_nif_le C (by omega) dX7_writeNumber_19 43 (by decide) 22 rfl (fun c64 => ?_) (fun c64 => ?_)
                · omega
                · refine fo_aload_n C dX7_writeNumber_22 1 rfl rfl 23 rfl ?_
                  refine fo_bipush C dX7_writeNumber_23 (nI 48) kb_48 25 rfl ?_
                  refine fo_iload_n C dX7_writeNumber_25 2 rfl rfl 26 rfl ?_
                  refine fo_iload_n C dX7_writeNumber_26 0 rfl rfl 27 rfl ?_
                  refine fo_idiv C dX7_writeNumber_27 (nI_ne0 (by omega) (by omega)) (nI (x / 1)) (pk_div (by omega) (by omega) (by omega)) 28 rfl ?_
                  refine fo_bipush C dX7_writeNumber_28 (nI 10) kb_10 30 rfl ?_
                  refine fo_irem C dX7_writeNumber_30 (nI_ne0 (by omega) (by omega)) (nI ((x / 1) % 10)) (pk_rem (by omega) (by omega) (by omega)) 31 rfl ?_
                  refine fo_iadd C dX7_writeNumber_31 (nI (48 + ((x / 1) % 10))) (nI_add _ _) 32 rfl ?_
                  refine fo_qvv C dX7_writeNumber_32 (mX7_write (L := ((L) ++ [48 + ((x / 100) % 10)]) ++ [48 + ((x / 10) % 10)]) (c := 48 + ((x / 1) % 10)) g60 (by first | omega | (simp only [List.length_append, List.length_cons, List.length_nil]; omega)) (by omega)) lv_X7_230 (by decide : fo_k 616 = 9) rfl (by decide) rfl ⟨Nat.le_of_ble_eq_true rfl, Nat.le_of_ble_eq_true rfl⟩ ⟨Nat.le_of_ble_eq_true rfl, Nat.le_of_ble_eq_true rfl⟩ [] rfl (Nat.le_of_ble_eq_true rfl) 35 rfl (fun I66 D67 J68 X69 p70 => ?_)
                  obtain ⟨g71, l72, z3, z4, z5⟩ := p70
                  obtain rfl := z3.symm
                  obtain rfl := z4.symm
                  obtain rfl := z5.symm
                  have w73 := fm_lf.trans w62 l72
                  refine fo_iload_n C dX7_writeNumber_35 0 rfl rfl 36 rfl ?_
                  refine fo_bipush C dX7_writeNumber_36 (nI 10) kb_10 38 rfl ?_
                  refine fo_idiv C dX7_writeNumber_38 (nI_ne0 (by omega) (by omega)) (nI (1 / 10)) (pk_div (by omega) (by omega) (by omega)) 39 rfl ?_
                  refine fo_ti (b := nI 0) rfl ?_
                  refine fo_istore_n C dX7_writeNumber_39 rfl [(2, .int (nI 0)), (0, .ref (Λ.2.2.1 616)), (1, .int (nI x))] rfl (by decide) 40 rfl ?_
                  refine fo_goto C dX7_writeNumber_40 18 (by decide) ?_
                  refine fo_iload_n C dX7_writeNumber_18 0 rfl rfl 19 rfl ?_
                  refine fo_nif_le C (by omega) dX7_writeNumber_19 43 (by decide) 22 rfl (fun c75 => ?_) (fun c75 => ?_)
                  · exact fin dX7_writeNumber_43 (⟨(by have g9 := g71; rw [Nat.div_one] at g9; rw [show L ++ fp_dig x = _ from congrArg (L ++ ·) (show fp_dig x = _ from (by unfold fp_dig; rw [if_pos (by omega), if_pos (by omega)]))]; simp only [List.append_assoc, List.nil_append, List.cons_append] at g9 ⊢; exact g9), w73, rfl, rfl, rfl⟩)
                  · omega
          · omega
set_option maxRecDepth 10000 in
set_option maxHeartbeats 4000000 in
theorem mX7_writeSeries {l : Launch} {Λ : fo_Lt} {I : fo_Mi} {D : fo_Md} {J : fo_Mj} {X : fo_Mi} {np lim : Nat} {kd par n : Nat → Nat} {v : Nat → Nat → Nat} {hs : List fa_S} {ks : Option fa_S} {L : List Nat} {m : Nat} {t : Nat → Nat} {e f : Int32} {x : Int32} (hM : fm_M I (np, lim, kd, par, n, v) hs ks L m t e f) : fk_i l yX7_writeSeries cX7_writeSeries 3 .int 3 74 Λ [.ref (Λ.2.2.1 616), .int (x)] I D J X ((fun r I' D' J' X' => r = (fg_ws (np, lim, kd, par, n, v) x L).2.1 ∧ I' 616 5 = nI (fg_ws (np, lim, kd, par, n, v) x L).1 ∧ fm_M I' (np, lim, kd, par, n, v) hs ks (fg_ws (np, lim, kd, par, n, v) x L).2.2 m t e f ∧ fm_f I I' ∧ D' = D ∧ J' = J)) := by
  have ht : fm_T I 617 np lim kd par n v := hM.1
  obtain ⟨⟨ho1, ⟨ho2, ho3⟩, ho4, ho5, ho6⟩, hnp, hlim, hP, hS⟩ := id ht
  refine fo_si (by decide) [(0, .ref (Λ.2.2.1 616)), (1, .int (x))] rfl (Nat.le_of_ble_eq_true rfl) (fun K C fin => ?_)
  rcases hx : fo_inr x 4 with _ | _
  · skip
    refine fo_aload_n C dX7_writeSeries_0 0 rfl rfl 1 rfl ?_
    refine fo_iload_n C dX7_writeSeries_1 1 rfl rfl 2 rfl ?_
    refine fo_qsi C dX7_writeSeries_2 (mX7_isSeries (x := x)) ls_X7_120 rfl ⟨Nat.le_of_ble_eq_true rfl, Nat.le_of_ble_eq_true rfl⟩ ⟨Nat.le_of_ble_eq_true rfl, Nat.le_of_ble_eq_true rfl⟩ [.ref (Λ.2.2.1 616)] rfl (Nat.le_of_ble_eq_true rfl) 5 rfl (fo_er ?_)
    first | rw [hsx] | rw [hx]
    refine fo_qvi C dX7_writeSeries_5 mX7_checked_f lv_X7_135 (by decide : fo_k 616 = 9) rfl (by decide) rfl ⟨Nat.le_of_ble_eq_true rfl, Nat.le_of_ble_eq_true rfl⟩ ⟨Nat.le_of_ble_eq_true rfl, Nat.le_of_ble_eq_true rfl⟩ [] rfl (Nat.le_of_ble_eq_true rfl) 8 rfl (fo_er ?_)
    refine fo_nif_le C (by omega) dX7_writeSeries_8 13 (by decide) 11 rfl (fun c13 => ?_) (fun c13 => ?_)
    · omega
    · refine fo_iconst C dX7_writeSeries_11 (nI 0) ki_0 12 rfl ?_
      exact fin dX7_writeSeries_12 rfl (⟨by rw [fg_ws_1 hx], by rw [fg_ws_1 hx, fo_rs, pk_us], by rw [fg_ws_1 hx]; exact hM.mv (fun j hj => by rw [fo_rs, pk_un hj]) (fun b c1 c2 c3 => by rw [fo_rn _ _ (by omega)]), fun b hb => by rw [fo_rn _ _ (by omega)], rfl, rfl⟩)
  · obtain ⟨k, hk, hk31, rfl⟩ := fo_inr_at hx
    have hnk := ho5 k hk
    have hsx : fo_inr (nI k) 4 = true := fo_inr_nI hk (by omega)
    refine fo_aload_n C dX7_writeSeries_0 0 rfl rfl 1 rfl ?_
    refine fo_iload_n C dX7_writeSeries_1 1 rfl rfl 2 rfl ?_
    refine fo_qsi C dX7_writeSeries_2 (mX7_isSeries (x := (nI (k)))) ls_X7_120 rfl ⟨Nat.le_of_ble_eq_true rfl, Nat.le_of_ble_eq_true rfl⟩ ⟨Nat.le_of_ble_eq_true rfl, Nat.le_of_ble_eq_true rfl⟩ [.ref (Λ.2.2.1 616)] rfl (Nat.le_of_ble_eq_true rfl) 5 rfl (fo_er ?_)
    first | rw [hsx] | rw [hx]
    refine fo_qvi C dX7_writeSeries_5 mX7_checked_t lv_X7_135 (by decide : fo_k 616 = 9) rfl (by decide) rfl ⟨Nat.le_of_ble_eq_true rfl, Nat.le_of_ble_eq_true rfl⟩ ⟨Nat.le_of_ble_eq_true rfl, Nat.le_of_ble_eq_true rfl⟩ [] rfl (Nat.le_of_ble_eq_true rfl) 8 rfl (fo_er ?_)
    refine fo_nif_le C (by omega) dX7_writeSeries_8 13 (by decide) 11 rfl (fun c26 => ?_) (fun c26 => ?_)
    · refine fo_aload_n C dX7_writeSeries_13 0 rfl rfl 14 rfl ?_
      refine fo_iconst C dX7_writeSeries_14 (nI 0) ki_0 15 rfl ?_
      refine fo_put C dX7_writeSeries_15 fK9 (by decide : fo_k 616 = 9) (by decide) 11 (by decide) fl_X7_45 rfl rfl rfl rfl (Nat.le_of_ble_eq_true rfl) 18 rfl ?_
      have hL0 : fm_L (fo_r (fo_r I 616 (upd (I 616) 5 (nI 0))) 616 (upd ((fo_r I 616 (upd (I 616) 5 (nI 0))) 616) 11 (nI (0)))) [] := ⟨by decide, by rw [fo_rs, pk_us]; rfl, fun j c h => by cases h⟩
      have hw0 : fm_wf I (fo_r (fo_r I 616 (upd (I 616) 5 (nI 0))) 616 (upd ((fo_r I 616 (upd (I 616) 5 (nI 0))) 616) 11 (nI (0)))) := ⟨fun b b1 b2 => by rw [fo_rn _ _ b1, fo_rn _ _ b1], fun j j1 j2 => by rw [fo_rs, pk_un j1, fo_rs, pk_un j2], by rw [fo_rs, pk_un (by decide), fo_rs, pk_us]⟩
      refine fo_aload_n C dX7_writeSeries_18 0 rfl rfl 19 rfl ?_
      refine fo_iload_n C dX7_writeSeries_19 1 rfl rfl 20 rfl ?_
      refine fo_qvv C dX7_writeSeries_20 (mX7_writeNumber (L := ([] : List Nat)) (x := k) hL0 (by have q1 := (fp_dig_len k).1; first | omega | (simp only [List.length_append, List.length_cons, List.length_nil]; omega)) (by omega)) lv_X7_234 (by decide : fo_k 616 = 9) rfl (by decide) rfl ⟨Nat.le_of_ble_eq_true rfl, Nat.le_of_ble_eq_true rfl⟩ ⟨Nat.le_of_ble_eq_true rfl, Nat.le_of_ble_eq_true rfl⟩ [] rfl (Nat.le_of_ble_eq_true rfl) 23 rfl (fun I28 D29 J30 X31 p32 => ?_)
      obtain ⟨g33, l34, z3, z4, z5⟩ := p32
      obtain rfl := z3.symm
      obtain rfl := z4.symm
      obtain rfl := z5.symm
      have w35 := (hw0).lf l34
      have t36 := w35.T ht
      refine fo_aload_n C dX7_writeSeries_23 0 rfl rfl 24 rfl ?_
      refine fo_bipush C dX7_writeSeries_24 (nI 58) kb_58 26 rfl ?_
      refine fo_qvv C dX7_writeSeries_26 (mX7_write (L := (([] : List Nat)) ++ fp_dig (k)) (c := 58) g33 (by have q1 := (fp_dig_len k).1; first | omega | (simp only [List.length_append, List.length_cons, List.length_nil]; omega)) (by omega)) lv_X7_230 (by decide : fo_k 616 = 9) rfl (by decide) rfl ⟨Nat.le_of_ble_eq_true rfl, Nat.le_of_ble_eq_true rfl⟩ ⟨Nat.le_of_ble_eq_true rfl, Nat.le_of_ble_eq_true rfl⟩ [] rfl (Nat.le_of_ble_eq_true rfl) 29 rfl (fun I38 D39 J40 X41 p42 => ?_)
      obtain ⟨g43, l44, z3, z4, z5⟩ := p42
      obtain rfl := z3.symm
      obtain rfl := z4.symm
      obtain rfl := z5.symm
      have w45 := (w35).lf l44
      have t46 := w45.T ht
      refine fo_iconst C dX7_writeSeries_29 (nI 0) ki_0 30 rfl ?_
      refine fo_istore_n C dX7_writeSeries_30 rfl [(2, .int (nI 0)), (0, .ref (Λ.2.2.1 616)), (1, .int (nI k))] rfl (by decide) 31 rfl ?_
      have hL31 : ∀ (m31 : Nat) (d : Nat) (Y Z : fo_Mi), n k + 1 - d < m31 → d ≤ n k → fm_L Y (fo_ser lim (v k) k d) → fm_wf I Y → fo_G l Λ { frames := 3, cells := 0, slots := 0, locals := 74 } K 0 0 31 [(2, .int (nI d)), (0, .ref (Λ.2.2.1 616)), (1, .int (nI k))] [] Y D J Z := by
        intro m31
        induction m31 with
        | zero => intro d Y Z hm; exact absurd hm (Nat.not_lt_zero _)
        | succ m31 ih31 =>
          intro d Y Z hm31 hd hL hw
          have htY := hw.T ht
          have ql := fo_ser_len (lim := lim) (v := v k) hk d
          refine fo_iload_n C dX7_writeSeries_31 0 rfl rfl 32 rfl ?_
          refine fo_aload_n C dX7_writeSeries_32 1 rfl rfl 33 rfl ?_
          refine fo_iload_n C dX7_writeSeries_33 2 rfl rfl 34 rfl ?_
          refine fo_qvi C dX7_writeSeries_34 (mX7_daysOf (k := k) hk htY) lv_X7_92 (by decide : fo_k 616 = 9) rfl (by decide) rfl ⟨Nat.le_of_ble_eq_true rfl, Nat.le_of_ble_eq_true rfl⟩ ⟨Nat.le_of_ble_eq_true rfl, Nat.le_of_ble_eq_true rfl⟩ [.int (nI d)] rfl (Nat.le_of_ble_eq_true rfl) 37 rfl (fo_er ?_)
          refine fo_ncmp_ge C (by omega) (by omega) dX7_writeSeries_37 77 (by decide) 40 rfl (fun c53 => ?_) (fun c53 => ?_)
          · obtain e9 : d = n k := by omega
            rw [e9] at hL
            refine fo_aload_n C dX7_writeSeries_77 1 rfl rfl 78 rfl ?_
            refine fo_get C dX7_writeSeries_78 fK9 (by decide : fo_k 616 = 9) (by decide) 11 (by decide) fl_X7_45 (v := .int (nI ((fo_ser lim (v k) k (n k)).length))) (congrArg (fun x => some (Value.int x)) (hL.2.1)) 81 rfl ?_
            exact fin dX7_writeSeries_81 rfl (⟨by rw [fg_ws_t (s := (np, lim, kd, par, n, v)) hk], by rw [fg_ws_t (s := (np, lim, kd, par, n, v)) hk]; exact hw.2.2, by rw [fg_ws_t (s := (np, lim, kd, par, n, v)) hk]; exact hM.wr hw hL, hw.f, rfl, rfl⟩)
          · refine fo_aload_n C dX7_writeSeries_40 1 rfl rfl 41 rfl ?_
            refine fo_bipush C dX7_writeSeries_41 (nI 32) kb_32 43 rfl ?_
            refine fo_qvv C dX7_writeSeries_43 (mX7_write (L := fo_ser lim (v k) k d) (c := 32) hL (by have q1 := (fp_dig_len (v k d)).1; first | omega | (simp only [List.length_append, List.length_cons, List.length_nil]; omega)) (by omega)) lv_X7_230 (by decide : fo_k 616 = 9) rfl (by decide) rfl ⟨Nat.le_of_ble_eq_true rfl, Nat.le_of_ble_eq_true rfl⟩ ⟨Nat.le_of_ble_eq_true rfl, Nat.le_of_ble_eq_true rfl⟩ [] rfl (Nat.le_of_ble_eq_true rfl) 46 rfl (fun I55 D56 J57 X58 p59 => ?_)
            obtain ⟨g60, l61, z3, z4, z5⟩ := p59
            obtain rfl := z3.symm
            obtain rfl := z4.symm
            obtain rfl := z5.symm
            have w62 := (hw).lf l61
            have t63 := w62.T ht
            refine fo_aload_n C dX7_writeSeries_46 1 rfl rfl 47 rfl ?_
            refine fo_aload_n C dX7_writeSeries_47 1 rfl rfl 48 rfl ?_
            refine fo_iload_n C dX7_writeSeries_48 2 rfl rfl 49 rfl ?_
            refine fo_iload_n C dX7_writeSeries_49 0 rfl rfl 50 rfl ?_
            refine fo_qvi C dX7_writeSeries_50 (mX7_v (k := k) (d := d) hk (by omega) t63) lv_X7_142 (by decide : fo_k 616 = 9) rfl (by decide) rfl ⟨Nat.le_of_ble_eq_true rfl, Nat.le_of_ble_eq_true rfl⟩ ⟨Nat.le_of_ble_eq_true rfl, Nat.le_of_ble_eq_true rfl⟩ [.ref (Λ.2.2.1 616)] rfl (Nat.le_of_ble_eq_true rfl) 53 rfl (fo_er ?_)
            have qv := ho6 k hk d (by omega)
            refine fo_qvv C dX7_writeSeries_53 (mX7_writeNumber (L := (fo_ser lim (v k) k d) ++ [32]) (x := v k d) g60 (by have q1 := (fp_dig_len (v k d)).1; first | omega | (simp only [List.length_append, List.length_cons, List.length_nil]; omega)) (by omega)) lv_X7_234 (by decide : fo_k 616 = 9) rfl (by decide) rfl ⟨Nat.le_of_ble_eq_true rfl, Nat.le_of_ble_eq_true rfl⟩ ⟨Nat.le_of_ble_eq_true rfl, Nat.le_of_ble_eq_true rfl⟩ [] rfl (Nat.le_of_ble_eq_true rfl) 56 rfl (fun I71 D72 J73 X74 p75 => ?_)
            obtain ⟨g76, l77, z3, z4, z5⟩ := p75
            obtain rfl := z3.symm
            obtain rfl := z4.symm
            obtain rfl := z5.symm
            have w78 := (w62).lf l77
            have t79 := w78.T ht
            refine fo_aload_n C dX7_writeSeries_56 1 rfl rfl 57 rfl ?_
            refine fo_iload_n C dX7_writeSeries_57 2 rfl rfl 58 rfl ?_
            refine fo_iload_n C dX7_writeSeries_58 0 rfl rfl 59 rfl ?_
            refine fo_qvi C dX7_writeSeries_59 (mX7_isOff (k := k) (d := d) hk (by omega) t79) lv_X7_174 (by decide : fo_k 616 = 9) rfl (by decide) rfl ⟨Nat.le_of_ble_eq_true rfl, Nat.le_of_ble_eq_true rfl⟩ ⟨Nat.le_of_ble_eq_true rfl, Nat.le_of_ble_eq_true rfl⟩ [] rfl (Nat.le_of_ble_eq_true rfl) 62 rfl (fo_es (fun X84 => ?_))
            refine fo_bif_eq C dX7_writeSeries_62 71 (by decide) 65 rfl (fun c86 => ?_) (fun c86 => ?_)
            · refine fo_iinc C dX7_writeSeries_71 0 rfl (nI (d + 1)) (nI_inc1 _) [(2, .int (nI (d + 1))), (0, .ref (Λ.2.2.1 616)), (1, .int (nI k))] rfl (by decide) 74 rfl ?_
              refine fo_goto C dX7_writeSeries_74 31 (by decide) ?_
              exact ih31 (d + 1) I71 X84 (by omega) (by omega) (by rw [fo_ser, if_neg (fun q => Bool.noConfusion (c86.symm.trans q)), List.append_nil]; exact g76) w78
            · refine fo_aload_n C dX7_writeSeries_65 1 rfl rfl 66 rfl ?_
              refine fo_bipush C dX7_writeSeries_66 (nI 33) kb_33 68 rfl ?_
              refine fo_qvv C dX7_writeSeries_68 (mX7_write (L := ((fo_ser lim (v k) k d) ++ [32]) ++ fp_dig (v k d)) (c := 33) g76 (by have q1 := (fp_dig_len (v k d)).1; first | omega | (simp only [List.length_append, List.length_cons, List.length_nil]; omega)) (by omega)) lv_X7_230 (by decide : fo_k 616 = 9) rfl (by decide) rfl ⟨Nat.le_of_ble_eq_true rfl, Nat.le_of_ble_eq_true rfl⟩ ⟨Nat.le_of_ble_eq_true rfl, Nat.le_of_ble_eq_true rfl⟩ [] rfl (Nat.le_of_ble_eq_true rfl) 71 rfl (fun I88 D89 J90 X91 p92 => ?_)
              obtain ⟨g93, l94, z3, z4, z5⟩ := p92
              obtain rfl := z3.symm
              obtain rfl := z4.symm
              obtain rfl := z5.symm
              have w95 := (w78).lf l94
              have t96 := w95.T ht
              refine fo_iinc C dX7_writeSeries_71 0 rfl (nI (d + 1)) (nI_inc1 _) [(2, .int (nI (d + 1))), (0, .ref (Λ.2.2.1 616)), (1, .int (nI k))] rfl (by decide) 74 rfl ?_
              refine fo_goto C dX7_writeSeries_74 31 (by decide) ?_
              exact ih31 (d + 1) I88 X84 (by omega) (by omega) (by rw [fo_ser, if_pos c86]; exact g93) w95
      exact hL31 (n k + 1 + 1) 0 I38 X (by omega) (by omega) g43 w45
    · omega
set_option maxRecDepth 10000 in
set_option maxHeartbeats 4000000 in
theorem mX7_writeProphets {l : Launch} {Λ : fo_Lt} {I : fo_Mi} {D : fo_Md} {J : fo_Mj} {X : fo_Mi} {np lim : Nat} {kd par n : Nat → Nat} {v : Nat → Nat → Nat} {hs : List fa_S} {ks : Option fa_S} {L : List Nat} {m : Nat} {t : Nat → Nat} {e f : Int32} (hM : fm_M I (np, lim, kd, par, n, v) hs ks L m t e f) : fk_i l yX7_writeProphets cX7_writeProphets 3 .int 7 169 Λ [.ref (Λ.2.2.1 616)] I D J X ((fun r I' D' J' X' => r = nI (fo_prs kd par (fp_ap np kd par n v) np).length ∧ I' 616 5 = nI 0 ∧ fm_M I' (np, lim, kd, par, n, v) hs ks (fo_prs kd par (fp_ap np kd par n v) np) m t e f ∧ fm_f I I' ∧ D' = D ∧ J' = J)) := by
  have ht : fm_T I 617 np lim kd par n v := hM.1
  obtain ⟨⟨ho1, ⟨ho2, ho3⟩, ho4, ho5, ho6⟩, hnp, hlim, hP, hS⟩ := id ht
  refine fo_si (by decide) [(0, .ref (Λ.2.2.1 616))] rfl (Nat.le_of_ble_eq_true rfl) (fun K C fin => ?_)
  refine fo_aload_n C dX7_writeProphets_0 0 rfl rfl 1 rfl ?_
  refine fo_iconst C dX7_writeProphets_1 (nI 0) ki_0 2 rfl ?_
  refine fo_put C dX7_writeProphets_2 fK9 (by decide : fo_k 616 = 9) (by decide) 5 (by decide) fl_X7_25 rfl rfl rfl rfl (Nat.le_of_ble_eq_true rfl) 5 rfl ?_
  refine fo_aload_n C dX7_writeProphets_5 0 rfl rfl 6 rfl ?_
  refine fo_iconst C dX7_writeProphets_6 (nI 0) ki_0 7 rfl ?_
  refine fo_put C dX7_writeProphets_7 fK9 (by decide : fo_k 616 = 9) (by decide) 11 (by decide) fl_X7_45 rfl rfl rfl rfl (Nat.le_of_ble_eq_true rfl) 10 rfl ?_
  have hL0 : fm_L (fo_r (fo_r I 616 (upd (I 616) 5 (nI (0)))) 616 (upd ((fo_r I 616 (upd (I 616) 5 (nI (0)))) 616) 11 (nI (0)))) (fo_prs kd par (fp_ap np kd par n v) 0) := ⟨by show 0 ≤ 160; decide, by rw [fo_rs, pk_us]; rfl, fun j c h => by cases h⟩
  have hw0 : fm_wf I (fo_r (fo_r I 616 (upd (I 616) 5 (nI (0)))) 616 (upd ((fo_r I 616 (upd (I 616) 5 (nI (0)))) 616) 11 (nI (0)))) := ⟨fun b b1 b2 => by rw [fo_rn _ _ b1, fo_rn _ _ b1], fun j j1 j2 => by rw [fo_rs, pk_un j1, fo_rs, pk_un j2], by rw [fo_rs, pk_un (by decide), fo_rs, pk_us]⟩
  refine fo_iconst C dX7_writeProphets_10 (nI 0) ki_0 11 rfl ?_
  refine fo_istore_n C dX7_writeProphets_11 rfl [(1, .int (nI 0)), (0, .ref (Λ.2.2.1 616))] rfl (by decide) 12 rfl ?_
  have hL12 : ∀ (m12 : Nat) (p : Nat) (Y Z : fo_Mi), np + 1 - p < m12 → p ≤ np → fm_L Y (fo_prs kd par (fp_ap np kd par n v) p) → fm_wf I Y → fo_G l Λ { frames := 7, cells := 0, slots := 0, locals := 169 } K 0 0 12 [(1, .int (nI p)), (0, .ref (Λ.2.2.1 616))] [] Y D J Z := by
    intro m12
    induction m12 with
    | zero => intro p Y Z hm; exact absurd hm (Nat.not_lt_zero _)
    | succ m12 ih12 =>
      intro p Y Z hm12 hp hL hw
      have htY := hw.T ht
      have ql := fo_prs_len (kd := kd) (par := par) (ap := (fp_ap np kd par n v)) p
      refine fo_iload_n C dX7_writeProphets_12 0 rfl rfl 13 rfl ?_
      refine fo_aload_n C dX7_writeProphets_13 1 rfl rfl 14 rfl ?_
      refine fo_get C dX7_writeProphets_14 fK9 (by decide : fo_k 616 = 9) (by decide) 0 (by decide) fl_X7_7 (v := .ref (Λ.2.2.1 617)) rfl 17 rfl ?_
      refine fo_iconst C dX7_writeProphets_17 (nI 0) ki_0 18 rfl ?_
      refine fo_iald C dX7_writeProphets_18 (by decide : fo_k 617 = 20) (by rw [(show fo_n 617 = 150 from rfl)]; omega) (nI (np)) (htY.2.1) 19 rfl ?_
      refine fo_ncmp_ge C (by omega) (by omega) dX7_writeProphets_19 98 (by decide) 22 rfl (fun c1 => ?_) (fun c1 => ?_)
      · obtain e9 : p = np := by omega
        rw [e9] at hL
        refine fo_aload_n C dX7_writeProphets_98 1 rfl rfl 99 rfl ?_
        refine fo_get C dX7_writeProphets_99 fK9 (by decide : fo_k 616 = 9) (by decide) 11 (by decide) fl_X7_45 (v := .int (nI ((fo_prs kd par (fp_ap np kd par n v) np).length))) (congrArg (fun x => some (Value.int x)) (hL.2.1)) 102 rfl ?_
        exact fin dX7_writeProphets_102 rfl (⟨rfl, hw.2.2, hM.wr hw hL, hw.f, rfl, rfl⟩)
      · refine fo_iload_n C dX7_writeProphets_22 0 rfl rfl 23 rfl ?_
        refine fo_nif_le C (by omega) dX7_writeProphets_23 32 (by decide) 26 rfl (fun c2 => ?_) (fun c2 => ?_)
        · have g3 : fm_L Y (fo_prs kd par (fp_ap np kd par n v) p ++ (if 0 < p then [32] else [])) := by rw [if_neg (by omega), List.append_nil]; exact hL
          refine fo_aload_n C dX7_writeProphets_32 1 rfl rfl 33 rfl ?_
          refine fo_get C dX7_writeProphets_33 fK9 (by decide : fo_k 616 = 9) (by decide) 0 (by decide) fl_X7_7 (v := .ref (Λ.2.2.1 617)) rfl 36 rfl ?_
          refine fo_iconst C dX7_writeProphets_36 (nI 2) ki_2 37 rfl ?_
          refine fo_iload_n C dX7_writeProphets_37 0 rfl rfl 38 rfl ?_
          refine fo_iadd C dX7_writeProphets_38 (nI (2 + p)) (nI_add _ _) 39 rfl ?_
          refine fo_iald C dX7_writeProphets_39 (by decide : fo_k 617 = 20) (by rw [(show fo_n 617 = 150 from rfl)]; omega) (nI (kd p)) ((htY.2.2.2.1 p (by omega)).1) 40 rfl ?_
          refine fo_istore_n C dX7_writeProphets_40 rfl [(2, .int (nI (kd p))), (1, .int (nI p)), (0, .ref (Λ.2.2.1 616))] rfl (by decide) 41 rfl ?_
          have hkp := ho4 p (by omega)
          have hkb := hkp.1
          have hkq := hkp.2
          refine fo_aload_n C dX7_writeProphets_41 2 rfl rfl 42 rfl ?_
          refine fo_iload_n C dX7_writeProphets_42 0 rfl rfl 43 rfl ?_
          refine fo_qvv C dX7_writeProphets_43 (mX7_write (L := fo_prs kd par (fp_ap np kd par n v) p ++ (if 0 < p then [32] else [])) (c := kd p) g3 (by have q1 := (fp_dig_len (par p)).1; have q2 := (fp_dig_len (fp_ap np kd par n v p)).1; have q3 : (if 0 < p then [32] else ([] : List Nat)).length ≤ 1 := (by split <;> decide); have q4 : (if fo_us (kd p) then fp_dig (par p) else ([] : List Nat)).length ≤ 3 := (by by_cases h9 : fo_us (kd p) = true; (rw [if_pos h9]; exact q1); (rw [if_neg h9]; exact Nat.zero_le _)); first | omega | (simp only [List.length_append, List.length_cons, List.length_nil]; omega)) (by omega)) lv_X7_230 (by decide : fo_k 616 = 9) rfl (by decide) rfl ⟨Nat.le_of_ble_eq_true rfl, Nat.le_of_ble_eq_true rfl⟩ ⟨Nat.le_of_ble_eq_true rfl, Nat.le_of_ble_eq_true rfl⟩ [] rfl (Nat.le_of_ble_eq_true rfl) 46 rfl (fun I5 D6 J7 X8 p9 => ?_)
          obtain ⟨g10, l11, z3, z4, z5⟩ := p9
          obtain rfl := z3.symm
          obtain rfl := z4.symm
          obtain rfl := z5.symm
          have w12 := (hw).lf l11
          have t13 := w12.T ht
          refine fo_iload_n C dX7_writeProphets_46 0 rfl rfl 47 rfl ?_
          refine fo_bipush C dX7_writeProphets_47 (nI 109) kb_109 49 rfl ?_
          refine fo_ncmp_eq C (by omega) (by omega) dX7_writeProphets_49 64 (by decide) 52 rfl (fun c14 => ?_) (fun c14 => ?_)
          · refine fo_aload_n C dX7_writeProphets_64 2 rfl rfl 65 rfl ?_
            refine fo_aload_n C dX7_writeProphets_65 2 rfl rfl 66 rfl ?_
            refine fo_get C dX7_writeProphets_66 fK9 (by decide : fo_k 616 = 9) (by decide) 0 (by decide) fl_X7_7 (v := .ref (Λ.2.2.1 617)) rfl 69 rfl ?_
            refine fo_bipush C dX7_writeProphets_69 (nI 10) kb_10 71 rfl ?_
            refine fo_iload_n C dX7_writeProphets_71 1 rfl rfl 72 rfl ?_
            refine fo_iadd C dX7_writeProphets_72 (nI (10 + p)) (nI_add _ _) 73 rfl ?_
            refine fo_iald C dX7_writeProphets_73 (by decide : fo_k 617 = 20) (by rw [(show fo_n 617 = 150 from rfl)]; omega) (nI (par p)) ((t13.2.2.2.1 p (by omega)).2) 74 rfl ?_
            refine fo_qvv C dX7_writeProphets_74 (mX7_writeNumber (L := (fo_prs kd par (fp_ap np kd par n v) p ++ (if 0 < p then [32] else [])) ++ [kd p]) (x := par p) g10 (by have q1 := (fp_dig_len (par p)).1; have q2 := (fp_dig_len (fp_ap np kd par n v p)).1; have q3 : (if 0 < p then [32] else ([] : List Nat)).length ≤ 1 := (by split <;> decide); have q4 : (if fo_us (kd p) then fp_dig (par p) else ([] : List Nat)).length ≤ 3 := (by by_cases h9 : fo_us (kd p) = true; (rw [if_pos h9]; exact q1); (rw [if_neg h9]; exact Nat.zero_le _)); first | omega | (simp only [List.length_append, List.length_cons, List.length_nil]; omega)) (by omega)) lv_X7_234 (by decide : fo_k 616 = 9) rfl (by decide) rfl ⟨Nat.le_of_ble_eq_true rfl, Nat.le_of_ble_eq_true rfl⟩ ⟨Nat.le_of_ble_eq_true rfl, Nat.le_of_ble_eq_true rfl⟩ [] rfl (Nat.le_of_ble_eq_true rfl) 77 rfl (fun I16 D17 J18 X19 p20 => ?_)
            obtain ⟨g21, l22, z3, z4, z5⟩ := p20
            obtain rfl := z3.symm
            obtain rfl := z4.symm
            obtain rfl := z5.symm
            have w23 := (w12).lf l22
            have t24 := w23.T ht
            have hus : fo_us (kd p) = true := decide_eq_true (by omega)
            have g25 : fm_L I16 (((fo_prs kd par (fp_ap np kd par n v) p ++ (if 0 < p then [32] else [])) ++ [kd p]) ++ (if fo_us (kd p) then fp_dig (par p) else [])) := by rw [hus]; exact g21
            refine fo_aload_n C dX7_writeProphets_77 2 rfl rfl 78 rfl ?_
            refine fo_bipush C dX7_writeProphets_78 (nI 61) kb_61 80 rfl ?_
            refine fo_qvv C dX7_writeProphets_80 (mX7_write (L := ((fo_prs kd par (fp_ap np kd par n v) p ++ (if 0 < p then [32] else [])) ++ [kd p]) ++ (if fo_us (kd p) then fp_dig (par p) else [])) (c := 61) g25 (by have q1 := (fp_dig_len (par p)).1; have q2 := (fp_dig_len (fp_ap np kd par n v p)).1; have q3 : (if 0 < p then [32] else ([] : List Nat)).length ≤ 1 := (by split <;> decide); have q4 : (if fo_us (kd p) then fp_dig (par p) else ([] : List Nat)).length ≤ 3 := (by by_cases h9 : fo_us (kd p) = true; (rw [if_pos h9]; exact q1); (rw [if_neg h9]; exact Nat.zero_le _)); first | omega | (simp only [List.length_append, List.length_cons, List.length_nil]; omega)) (by omega)) lv_X7_230 (by decide : fo_k 616 = 9) rfl (by decide) rfl ⟨Nat.le_of_ble_eq_true rfl, Nat.le_of_ble_eq_true rfl⟩ ⟨Nat.le_of_ble_eq_true rfl, Nat.le_of_ble_eq_true rfl⟩ [] rfl (Nat.le_of_ble_eq_true rfl) 83 rfl (fun I27 D28 J29 X30 p31 => ?_)
            obtain ⟨g32, l33, z3, z4, z5⟩ := p31
            obtain rfl := z3.symm
            obtain rfl := z4.symm
            obtain rfl := z5.symm
            have w34 := (w23).lf l33
            have t35 := w34.T ht
            refine fo_aload_n C dX7_writeProphets_83 2 rfl rfl 84 rfl ?_
            refine fo_aload_n C dX7_writeProphets_84 2 rfl rfl 85 rfl ?_
            refine fo_iload_n C dX7_writeProphets_85 1 rfl rfl 86 rfl ?_
            refine fo_qvi C dX7_writeProphets_86 (mX7_allPoints (p := p) (by omega) t35) lv_X7_227 (by decide : fo_k 616 = 9) rfl (by decide) rfl ⟨Nat.le_of_ble_eq_true rfl, Nat.le_of_ble_eq_true rfl⟩ ⟨Nat.le_of_ble_eq_true rfl, Nat.le_of_ble_eq_true rfl⟩ [.ref (Λ.2.2.1 616)] rfl (Nat.le_of_ble_eq_true rfl) 89 rfl (fo_es (fun X40 => ?_))
            have qap := fp_ap_le (np := np) (kd := kd) (par := par) (n := n) (v := v) (p := p) ho5
            refine fo_qvv C dX7_writeProphets_89 (mX7_writeNumber (L := (((fo_prs kd par (fp_ap np kd par n v) p ++ (if 0 < p then [32] else [])) ++ [kd p]) ++ (if fo_us (kd p) then fp_dig (par p) else [])) ++ [61]) (x := fp_ap np kd par n v p) g32 (by have q1 := (fp_dig_len (par p)).1; have q2 := (fp_dig_len (fp_ap np kd par n v p)).1; have q3 : (if 0 < p then [32] else ([] : List Nat)).length ≤ 1 := (by split <;> decide); have q4 : (if fo_us (kd p) then fp_dig (par p) else ([] : List Nat)).length ≤ 3 := (by by_cases h9 : fo_us (kd p) = true; (rw [if_pos h9]; exact q1); (rw [if_neg h9]; exact Nat.zero_le _)); first | omega | (simp only [List.length_append, List.length_cons, List.length_nil]; omega)) (by omega)) lv_X7_234 (by decide : fo_k 616 = 9) rfl (by decide) rfl ⟨Nat.le_of_ble_eq_true rfl, Nat.le_of_ble_eq_true rfl⟩ ⟨Nat.le_of_ble_eq_true rfl, Nat.le_of_ble_eq_true rfl⟩ [] rfl (Nat.le_of_ble_eq_true rfl) 92 rfl (fun I43 D44 J45 X46 p47 => ?_)
            obtain ⟨g48, l49, z3, z4, z5⟩ := p47
            obtain rfl := z3.symm
            obtain rfl := z4.symm
            obtain rfl := z5.symm
            have w50 := (w34).lf l49
            have t51 := w50.T ht
            refine fo_iinc C dX7_writeProphets_92 1 rfl (nI (p + 1)) (nI_inc1 _) [(1, .int (nI (p + 1))), (2, .int (nI (kd p))), (0, .ref (Λ.2.2.1 616))] rfl (by decide) 95 rfl ?_
            refine fo_goto C dX7_writeProphets_95 12 (by decide) ?_
            refine fo_sub C [0, 2] (lv' := [(1, .int (nI (p + 1))), (0, .ref (Λ.2.2.1 616))]) rfl ?_
            exact ih12 (p + 1) I43 X40 (by omega) (by omega) g48 w50
          · refine fo_iload_n C dX7_writeProphets_52 0 rfl rfl 53 rfl ?_
            refine fo_bipush C dX7_writeProphets_53 (nI 100) kb_100 55 rfl ?_
            refine fo_ncmp_eq C (by omega) (by omega) dX7_writeProphets_55 64 (by decide) 58 rfl (fun c52 => ?_) (fun c52 => ?_)
            · refine fo_aload_n C dX7_writeProphets_64 2 rfl rfl 65 rfl ?_
              refine fo_aload_n C dX7_writeProphets_65 2 rfl rfl 66 rfl ?_
              refine fo_get C dX7_writeProphets_66 fK9 (by decide : fo_k 616 = 9) (by decide) 0 (by decide) fl_X7_7 (v := .ref (Λ.2.2.1 617)) rfl 69 rfl ?_
              refine fo_bipush C dX7_writeProphets_69 (nI 10) kb_10 71 rfl ?_
              refine fo_iload_n C dX7_writeProphets_71 1 rfl rfl 72 rfl ?_
              refine fo_iadd C dX7_writeProphets_72 (nI (10 + p)) (nI_add _ _) 73 rfl ?_
              refine fo_iald C dX7_writeProphets_73 (by decide : fo_k 617 = 20) (by rw [(show fo_n 617 = 150 from rfl)]; omega) (nI (par p)) ((t13.2.2.2.1 p (by omega)).2) 74 rfl ?_
              refine fo_qvv C dX7_writeProphets_74 (mX7_writeNumber (L := (fo_prs kd par (fp_ap np kd par n v) p ++ (if 0 < p then [32] else [])) ++ [kd p]) (x := par p) g10 (by have q1 := (fp_dig_len (par p)).1; have q2 := (fp_dig_len (fp_ap np kd par n v p)).1; have q3 : (if 0 < p then [32] else ([] : List Nat)).length ≤ 1 := (by split <;> decide); have q4 : (if fo_us (kd p) then fp_dig (par p) else ([] : List Nat)).length ≤ 3 := (by by_cases h9 : fo_us (kd p) = true; (rw [if_pos h9]; exact q1); (rw [if_neg h9]; exact Nat.zero_le _)); first | omega | (simp only [List.length_append, List.length_cons, List.length_nil]; omega)) (by omega)) lv_X7_234 (by decide : fo_k 616 = 9) rfl (by decide) rfl ⟨Nat.le_of_ble_eq_true rfl, Nat.le_of_ble_eq_true rfl⟩ ⟨Nat.le_of_ble_eq_true rfl, Nat.le_of_ble_eq_true rfl⟩ [] rfl (Nat.le_of_ble_eq_true rfl) 77 rfl (fun I54 D55 J56 X57 p58 => ?_)
              obtain ⟨g59, l60, z3, z4, z5⟩ := p58
              obtain rfl := z3.symm
              obtain rfl := z4.symm
              obtain rfl := z5.symm
              have w61 := (w12).lf l60
              have t62 := w61.T ht
              have hus : fo_us (kd p) = true := decide_eq_true (by omega)
              have g63 : fm_L I54 (((fo_prs kd par (fp_ap np kd par n v) p ++ (if 0 < p then [32] else [])) ++ [kd p]) ++ (if fo_us (kd p) then fp_dig (par p) else [])) := by rw [hus]; exact g59
              refine fo_aload_n C dX7_writeProphets_77 2 rfl rfl 78 rfl ?_
              refine fo_bipush C dX7_writeProphets_78 (nI 61) kb_61 80 rfl ?_
              refine fo_qvv C dX7_writeProphets_80 (mX7_write (L := ((fo_prs kd par (fp_ap np kd par n v) p ++ (if 0 < p then [32] else [])) ++ [kd p]) ++ (if fo_us (kd p) then fp_dig (par p) else [])) (c := 61) g63 (by have q1 := (fp_dig_len (par p)).1; have q2 := (fp_dig_len (fp_ap np kd par n v p)).1; have q3 : (if 0 < p then [32] else ([] : List Nat)).length ≤ 1 := (by split <;> decide); have q4 : (if fo_us (kd p) then fp_dig (par p) else ([] : List Nat)).length ≤ 3 := (by by_cases h9 : fo_us (kd p) = true; (rw [if_pos h9]; exact q1); (rw [if_neg h9]; exact Nat.zero_le _)); first | omega | (simp only [List.length_append, List.length_cons, List.length_nil]; omega)) (by omega)) lv_X7_230 (by decide : fo_k 616 = 9) rfl (by decide) rfl ⟨Nat.le_of_ble_eq_true rfl, Nat.le_of_ble_eq_true rfl⟩ ⟨Nat.le_of_ble_eq_true rfl, Nat.le_of_ble_eq_true rfl⟩ [] rfl (Nat.le_of_ble_eq_true rfl) 83 rfl (fun I65 D66 J67 X68 p69 => ?_)
              obtain ⟨g70, l71, z3, z4, z5⟩ := p69
              obtain rfl := z3.symm
              obtain rfl := z4.symm
              obtain rfl := z5.symm
              have w72 := (w61).lf l71
              have t73 := w72.T ht
              refine fo_aload_n C dX7_writeProphets_83 2 rfl rfl 84 rfl ?_
              refine fo_aload_n C dX7_writeProphets_84 2 rfl rfl 85 rfl ?_
              refine fo_iload_n C dX7_writeProphets_85 1 rfl rfl 86 rfl ?_
              refine fo_qvi C dX7_writeProphets_86 (mX7_allPoints (p := p) (by omega) t73) lv_X7_227 (by decide : fo_k 616 = 9) rfl (by decide) rfl ⟨Nat.le_of_ble_eq_true rfl, Nat.le_of_ble_eq_true rfl⟩ ⟨Nat.le_of_ble_eq_true rfl, Nat.le_of_ble_eq_true rfl⟩ [.ref (Λ.2.2.1 616)] rfl (Nat.le_of_ble_eq_true rfl) 89 rfl (fo_es (fun X78 => ?_))
              have qap := fp_ap_le (np := np) (kd := kd) (par := par) (n := n) (v := v) (p := p) ho5
              refine fo_qvv C dX7_writeProphets_89 (mX7_writeNumber (L := (((fo_prs kd par (fp_ap np kd par n v) p ++ (if 0 < p then [32] else [])) ++ [kd p]) ++ (if fo_us (kd p) then fp_dig (par p) else [])) ++ [61]) (x := fp_ap np kd par n v p) g70 (by have q1 := (fp_dig_len (par p)).1; have q2 := (fp_dig_len (fp_ap np kd par n v p)).1; have q3 : (if 0 < p then [32] else ([] : List Nat)).length ≤ 1 := (by split <;> decide); have q4 : (if fo_us (kd p) then fp_dig (par p) else ([] : List Nat)).length ≤ 3 := (by by_cases h9 : fo_us (kd p) = true; (rw [if_pos h9]; exact q1); (rw [if_neg h9]; exact Nat.zero_le _)); first | omega | (simp only [List.length_append, List.length_cons, List.length_nil]; omega)) (by omega)) lv_X7_234 (by decide : fo_k 616 = 9) rfl (by decide) rfl ⟨Nat.le_of_ble_eq_true rfl, Nat.le_of_ble_eq_true rfl⟩ ⟨Nat.le_of_ble_eq_true rfl, Nat.le_of_ble_eq_true rfl⟩ [] rfl (Nat.le_of_ble_eq_true rfl) 92 rfl (fun I81 D82 J83 X84 p85 => ?_)
              obtain ⟨g86, l87, z3, z4, z5⟩ := p85
              obtain rfl := z3.symm
              obtain rfl := z4.symm
              obtain rfl := z5.symm
              have w88 := (w72).lf l87
              have t89 := w88.T ht
              refine fo_iinc C dX7_writeProphets_92 1 rfl (nI (p + 1)) (nI_inc1 _) [(1, .int (nI (p + 1))), (2, .int (nI (kd p))), (0, .ref (Λ.2.2.1 616))] rfl (by decide) 95 rfl ?_
              refine fo_goto C dX7_writeProphets_95 12 (by decide) ?_
              refine fo_sub C [0, 2] (lv' := [(1, .int (nI (p + 1))), (0, .ref (Λ.2.2.1 616))]) rfl ?_
              exact ih12 (p + 1) I81 X78 (by omega) (by omega) g86 w88
            · refine fo_iload_n C dX7_writeProphets_58 0 rfl rfl 59 rfl ?_
              refine fo_bipush C dX7_writeProphets_59 (nI 115) kb_115 61 rfl ?_
              refine fo_ncmp_ne C (by omega) (by omega) dX7_writeProphets_61 77 (by decide) 64 rfl (fun c90 => ?_) (fun c90 => ?_)
              · have hus : fo_us (kd p) = false := decide_eq_false (by omega)
                have g91 : fm_L I5 (((fo_prs kd par (fp_ap np kd par n v) p ++ (if 0 < p then [32] else [])) ++ [kd p]) ++ (if fo_us (kd p) then fp_dig (par p) else [])) := by rw [show (if fo_us (kd p) then fp_dig (par p) else ([] : List Nat)) = [] from if_neg (by rw [hus]; decide), List.append_nil]; exact g10
                refine fo_aload_n C dX7_writeProphets_77 2 rfl rfl 78 rfl ?_
                refine fo_bipush C dX7_writeProphets_78 (nI 61) kb_61 80 rfl ?_
                refine fo_qvv C dX7_writeProphets_80 (mX7_write (L := ((fo_prs kd par (fp_ap np kd par n v) p ++ (if 0 < p then [32] else [])) ++ [kd p]) ++ (if fo_us (kd p) then fp_dig (par p) else [])) (c := 61) g91 (by have q1 := (fp_dig_len (par p)).1; have q2 := (fp_dig_len (fp_ap np kd par n v p)).1; have q3 : (if 0 < p then [32] else ([] : List Nat)).length ≤ 1 := (by split <;> decide); have q4 : (if fo_us (kd p) then fp_dig (par p) else ([] : List Nat)).length ≤ 3 := (by by_cases h9 : fo_us (kd p) = true; (rw [if_pos h9]; exact q1); (rw [if_neg h9]; exact Nat.zero_le _)); first | omega | (simp only [List.length_append, List.length_cons, List.length_nil]; omega)) (by omega)) lv_X7_230 (by decide : fo_k 616 = 9) rfl (by decide) rfl ⟨Nat.le_of_ble_eq_true rfl, Nat.le_of_ble_eq_true rfl⟩ ⟨Nat.le_of_ble_eq_true rfl, Nat.le_of_ble_eq_true rfl⟩ [] rfl (Nat.le_of_ble_eq_true rfl) 83 rfl (fun I93 D94 J95 X96 p97 => ?_)
                obtain ⟨g98, l99, z3, z4, z5⟩ := p97
                obtain rfl := z3.symm
                obtain rfl := z4.symm
                obtain rfl := z5.symm
                have w100 := (w12).lf l99
                have t101 := w100.T ht
                refine fo_aload_n C dX7_writeProphets_83 2 rfl rfl 84 rfl ?_
                refine fo_aload_n C dX7_writeProphets_84 2 rfl rfl 85 rfl ?_
                refine fo_iload_n C dX7_writeProphets_85 1 rfl rfl 86 rfl ?_
                refine fo_qvi C dX7_writeProphets_86 (mX7_allPoints (p := p) (by omega) t101) lv_X7_227 (by decide : fo_k 616 = 9) rfl (by decide) rfl ⟨Nat.le_of_ble_eq_true rfl, Nat.le_of_ble_eq_true rfl⟩ ⟨Nat.le_of_ble_eq_true rfl, Nat.le_of_ble_eq_true rfl⟩ [.ref (Λ.2.2.1 616)] rfl (Nat.le_of_ble_eq_true rfl) 89 rfl (fo_es (fun X106 => ?_))
                have qap := fp_ap_le (np := np) (kd := kd) (par := par) (n := n) (v := v) (p := p) ho5
                refine fo_qvv C dX7_writeProphets_89 (mX7_writeNumber (L := (((fo_prs kd par (fp_ap np kd par n v) p ++ (if 0 < p then [32] else [])) ++ [kd p]) ++ (if fo_us (kd p) then fp_dig (par p) else [])) ++ [61]) (x := fp_ap np kd par n v p) g98 (by have q1 := (fp_dig_len (par p)).1; have q2 := (fp_dig_len (fp_ap np kd par n v p)).1; have q3 : (if 0 < p then [32] else ([] : List Nat)).length ≤ 1 := (by split <;> decide); have q4 : (if fo_us (kd p) then fp_dig (par p) else ([] : List Nat)).length ≤ 3 := (by by_cases h9 : fo_us (kd p) = true; (rw [if_pos h9]; exact q1); (rw [if_neg h9]; exact Nat.zero_le _)); first | omega | (simp only [List.length_append, List.length_cons, List.length_nil]; omega)) (by omega)) lv_X7_234 (by decide : fo_k 616 = 9) rfl (by decide) rfl ⟨Nat.le_of_ble_eq_true rfl, Nat.le_of_ble_eq_true rfl⟩ ⟨Nat.le_of_ble_eq_true rfl, Nat.le_of_ble_eq_true rfl⟩ [] rfl (Nat.le_of_ble_eq_true rfl) 92 rfl (fun I109 D110 J111 X112 p113 => ?_)
                obtain ⟨g114, l115, z3, z4, z5⟩ := p113
                obtain rfl := z3.symm
                obtain rfl := z4.symm
                obtain rfl := z5.symm
                have w116 := (w100).lf l115
                have t117 := w116.T ht
                refine fo_iinc C dX7_writeProphets_92 1 rfl (nI (p + 1)) (nI_inc1 _) [(1, .int (nI (p + 1))), (2, .int (nI (kd p))), (0, .ref (Λ.2.2.1 616))] rfl (by decide) 95 rfl ?_
                refine fo_goto C dX7_writeProphets_95 12 (by decide) ?_
                refine fo_sub C [0, 2] (lv' := [(1, .int (nI (p + 1))), (0, .ref (Λ.2.2.1 616))]) rfl ?_
                exact ih12 (p + 1) I109 X106 (by omega) (by omega) g114 w116
              · refine fo_aload_n C dX7_writeProphets_64 2 rfl rfl 65 rfl ?_
                refine fo_aload_n C dX7_writeProphets_65 2 rfl rfl 66 rfl ?_
                refine fo_get C dX7_writeProphets_66 fK9 (by decide : fo_k 616 = 9) (by decide) 0 (by decide) fl_X7_7 (v := .ref (Λ.2.2.1 617)) rfl 69 rfl ?_
                refine fo_bipush C dX7_writeProphets_69 (nI 10) kb_10 71 rfl ?_
                refine fo_iload_n C dX7_writeProphets_71 1 rfl rfl 72 rfl ?_
                refine fo_iadd C dX7_writeProphets_72 (nI (10 + p)) (nI_add _ _) 73 rfl ?_
                refine fo_iald C dX7_writeProphets_73 (by decide : fo_k 617 = 20) (by rw [(show fo_n 617 = 150 from rfl)]; omega) (nI (par p)) ((t13.2.2.2.1 p (by omega)).2) 74 rfl ?_
                refine fo_qvv C dX7_writeProphets_74 (mX7_writeNumber (L := (fo_prs kd par (fp_ap np kd par n v) p ++ (if 0 < p then [32] else [])) ++ [kd p]) (x := par p) g10 (by have q1 := (fp_dig_len (par p)).1; have q2 := (fp_dig_len (fp_ap np kd par n v p)).1; have q3 : (if 0 < p then [32] else ([] : List Nat)).length ≤ 1 := (by split <;> decide); have q4 : (if fo_us (kd p) then fp_dig (par p) else ([] : List Nat)).length ≤ 3 := (by by_cases h9 : fo_us (kd p) = true; (rw [if_pos h9]; exact q1); (rw [if_neg h9]; exact Nat.zero_le _)); first | omega | (simp only [List.length_append, List.length_cons, List.length_nil]; omega)) (by omega)) lv_X7_234 (by decide : fo_k 616 = 9) rfl (by decide) rfl ⟨Nat.le_of_ble_eq_true rfl, Nat.le_of_ble_eq_true rfl⟩ ⟨Nat.le_of_ble_eq_true rfl, Nat.le_of_ble_eq_true rfl⟩ [] rfl (Nat.le_of_ble_eq_true rfl) 77 rfl (fun I119 D120 J121 X122 p123 => ?_)
                obtain ⟨g124, l125, z3, z4, z5⟩ := p123
                obtain rfl := z3.symm
                obtain rfl := z4.symm
                obtain rfl := z5.symm
                have w126 := (w12).lf l125
                have t127 := w126.T ht
                have hus : fo_us (kd p) = true := decide_eq_true (by omega)
                have g128 : fm_L I119 (((fo_prs kd par (fp_ap np kd par n v) p ++ (if 0 < p then [32] else [])) ++ [kd p]) ++ (if fo_us (kd p) then fp_dig (par p) else [])) := by rw [hus]; exact g124
                refine fo_aload_n C dX7_writeProphets_77 2 rfl rfl 78 rfl ?_
                refine fo_bipush C dX7_writeProphets_78 (nI 61) kb_61 80 rfl ?_
                refine fo_qvv C dX7_writeProphets_80 (mX7_write (L := ((fo_prs kd par (fp_ap np kd par n v) p ++ (if 0 < p then [32] else [])) ++ [kd p]) ++ (if fo_us (kd p) then fp_dig (par p) else [])) (c := 61) g128 (by have q1 := (fp_dig_len (par p)).1; have q2 := (fp_dig_len (fp_ap np kd par n v p)).1; have q3 : (if 0 < p then [32] else ([] : List Nat)).length ≤ 1 := (by split <;> decide); have q4 : (if fo_us (kd p) then fp_dig (par p) else ([] : List Nat)).length ≤ 3 := (by by_cases h9 : fo_us (kd p) = true; (rw [if_pos h9]; exact q1); (rw [if_neg h9]; exact Nat.zero_le _)); first | omega | (simp only [List.length_append, List.length_cons, List.length_nil]; omega)) (by omega)) lv_X7_230 (by decide : fo_k 616 = 9) rfl (by decide) rfl ⟨Nat.le_of_ble_eq_true rfl, Nat.le_of_ble_eq_true rfl⟩ ⟨Nat.le_of_ble_eq_true rfl, Nat.le_of_ble_eq_true rfl⟩ [] rfl (Nat.le_of_ble_eq_true rfl) 83 rfl (fun I130 D131 J132 X133 p134 => ?_)
                obtain ⟨g135, l136, z3, z4, z5⟩ := p134
                obtain rfl := z3.symm
                obtain rfl := z4.symm
                obtain rfl := z5.symm
                have w137 := (w126).lf l136
                have t138 := w137.T ht
                refine fo_aload_n C dX7_writeProphets_83 2 rfl rfl 84 rfl ?_
                refine fo_aload_n C dX7_writeProphets_84 2 rfl rfl 85 rfl ?_
                refine fo_iload_n C dX7_writeProphets_85 1 rfl rfl 86 rfl ?_
                refine fo_qvi C dX7_writeProphets_86 (mX7_allPoints (p := p) (by omega) t138) lv_X7_227 (by decide : fo_k 616 = 9) rfl (by decide) rfl ⟨Nat.le_of_ble_eq_true rfl, Nat.le_of_ble_eq_true rfl⟩ ⟨Nat.le_of_ble_eq_true rfl, Nat.le_of_ble_eq_true rfl⟩ [.ref (Λ.2.2.1 616)] rfl (Nat.le_of_ble_eq_true rfl) 89 rfl (fo_es (fun X143 => ?_))
                have qap := fp_ap_le (np := np) (kd := kd) (par := par) (n := n) (v := v) (p := p) ho5
                refine fo_qvv C dX7_writeProphets_89 (mX7_writeNumber (L := (((fo_prs kd par (fp_ap np kd par n v) p ++ (if 0 < p then [32] else [])) ++ [kd p]) ++ (if fo_us (kd p) then fp_dig (par p) else [])) ++ [61]) (x := fp_ap np kd par n v p) g135 (by have q1 := (fp_dig_len (par p)).1; have q2 := (fp_dig_len (fp_ap np kd par n v p)).1; have q3 : (if 0 < p then [32] else ([] : List Nat)).length ≤ 1 := (by split <;> decide); have q4 : (if fo_us (kd p) then fp_dig (par p) else ([] : List Nat)).length ≤ 3 := (by by_cases h9 : fo_us (kd p) = true; (rw [if_pos h9]; exact q1); (rw [if_neg h9]; exact Nat.zero_le _)); first | omega | (simp only [List.length_append, List.length_cons, List.length_nil]; omega)) (by omega)) lv_X7_234 (by decide : fo_k 616 = 9) rfl (by decide) rfl ⟨Nat.le_of_ble_eq_true rfl, Nat.le_of_ble_eq_true rfl⟩ ⟨Nat.le_of_ble_eq_true rfl, Nat.le_of_ble_eq_true rfl⟩ [] rfl (Nat.le_of_ble_eq_true rfl) 92 rfl (fun I146 D147 J148 X149 p150 => ?_)
                obtain ⟨g151, l152, z3, z4, z5⟩ := p150
                obtain rfl := z3.symm
                obtain rfl := z4.symm
                obtain rfl := z5.symm
                have w153 := (w137).lf l152
                have t154 := w153.T ht
                refine fo_iinc C dX7_writeProphets_92 1 rfl (nI (p + 1)) (nI_inc1 _) [(1, .int (nI (p + 1))), (2, .int (nI (kd p))), (0, .ref (Λ.2.2.1 616))] rfl (by decide) 95 rfl ?_
                refine fo_goto C dX7_writeProphets_95 12 (by decide) ?_
                refine fo_sub C [0, 2] (lv' := [(1, .int (nI (p + 1))), (0, .ref (Λ.2.2.1 616))]) rfl ?_
                exact ih12 (p + 1) I146 X143 (by omega) (by omega) g151 w153
        · refine fo_aload_n C dX7_writeProphets_26 1 rfl rfl 27 rfl ?_
          refine fo_bipush C dX7_writeProphets_27 (nI 32) kb_32 29 rfl ?_
          refine fo_qvv C dX7_writeProphets_29 (mX7_write (L := fo_prs kd par (fp_ap np kd par n v) p) (c := 32) hL (by have q1 := (fp_dig_len (par p)).1; have q2 := (fp_dig_len (fp_ap np kd par n v p)).1; have q3 : (if 0 < p then [32] else ([] : List Nat)).length ≤ 1 := (by split <;> decide); have q4 : (if fo_us (kd p) then fp_dig (par p) else ([] : List Nat)).length ≤ 3 := (by by_cases h9 : fo_us (kd p) = true; (rw [if_pos h9]; exact q1); (rw [if_neg h9]; exact Nat.zero_le _)); first | omega | (simp only [List.length_append, List.length_cons, List.length_nil]; omega)) (by omega)) lv_X7_230 (by decide : fo_k 616 = 9) rfl (by decide) rfl ⟨Nat.le_of_ble_eq_true rfl, Nat.le_of_ble_eq_true rfl⟩ ⟨Nat.le_of_ble_eq_true rfl, Nat.le_of_ble_eq_true rfl⟩ [] rfl (Nat.le_of_ble_eq_true rfl) 32 rfl (fun I156 D157 J158 X159 p160 => ?_)
          obtain ⟨g161, l162, z3, z4, z5⟩ := p160
          obtain rfl := z3.symm
          obtain rfl := z4.symm
          obtain rfl := z5.symm
          have w163 := (hw).lf l162
          have t164 := w163.T ht
          have g165 : fm_L I156 (fo_prs kd par (fp_ap np kd par n v) p ++ (if 0 < p then [32] else [])) := by rw [if_pos (by omega)]; exact g161
          refine fo_aload_n C dX7_writeProphets_32 1 rfl rfl 33 rfl ?_
          refine fo_get C dX7_writeProphets_33 fK9 (by decide : fo_k 616 = 9) (by decide) 0 (by decide) fl_X7_7 (v := .ref (Λ.2.2.1 617)) rfl 36 rfl ?_
          refine fo_iconst C dX7_writeProphets_36 (nI 2) ki_2 37 rfl ?_
          refine fo_iload_n C dX7_writeProphets_37 0 rfl rfl 38 rfl ?_
          refine fo_iadd C dX7_writeProphets_38 (nI (2 + p)) (nI_add _ _) 39 rfl ?_
          refine fo_iald C dX7_writeProphets_39 (by decide : fo_k 617 = 20) (by rw [(show fo_n 617 = 150 from rfl)]; omega) (nI (kd p)) ((t164.2.2.2.1 p (by omega)).1) 40 rfl ?_
          refine fo_istore_n C dX7_writeProphets_40 rfl [(2, .int (nI (kd p))), (1, .int (nI p)), (0, .ref (Λ.2.2.1 616))] rfl (by decide) 41 rfl ?_
          have hkp := ho4 p (by omega)
          have hkb := hkp.1
          have hkq := hkp.2
          refine fo_aload_n C dX7_writeProphets_41 2 rfl rfl 42 rfl ?_
          refine fo_iload_n C dX7_writeProphets_42 0 rfl rfl 43 rfl ?_
          refine fo_qvv C dX7_writeProphets_43 (mX7_write (L := fo_prs kd par (fp_ap np kd par n v) p ++ (if 0 < p then [32] else [])) (c := kd p) g165 (by have q1 := (fp_dig_len (par p)).1; have q2 := (fp_dig_len (fp_ap np kd par n v p)).1; have q3 : (if 0 < p then [32] else ([] : List Nat)).length ≤ 1 := (by split <;> decide); have q4 : (if fo_us (kd p) then fp_dig (par p) else ([] : List Nat)).length ≤ 3 := (by by_cases h9 : fo_us (kd p) = true; (rw [if_pos h9]; exact q1); (rw [if_neg h9]; exact Nat.zero_le _)); first | omega | (simp only [List.length_append, List.length_cons, List.length_nil]; omega)) (by omega)) lv_X7_230 (by decide : fo_k 616 = 9) rfl (by decide) rfl ⟨Nat.le_of_ble_eq_true rfl, Nat.le_of_ble_eq_true rfl⟩ ⟨Nat.le_of_ble_eq_true rfl, Nat.le_of_ble_eq_true rfl⟩ [] rfl (Nat.le_of_ble_eq_true rfl) 46 rfl (fun I167 D168 J169 X170 p171 => ?_)
          obtain ⟨g172, l173, z3, z4, z5⟩ := p171
          obtain rfl := z3.symm
          obtain rfl := z4.symm
          obtain rfl := z5.symm
          have w174 := (w163).lf l173
          have t175 := w174.T ht
          refine fo_iload_n C dX7_writeProphets_46 0 rfl rfl 47 rfl ?_
          refine fo_bipush C dX7_writeProphets_47 (nI 109) kb_109 49 rfl ?_
          refine fo_ncmp_eq C (by omega) (by omega) dX7_writeProphets_49 64 (by decide) 52 rfl (fun c176 => ?_) (fun c176 => ?_)
          · refine fo_aload_n C dX7_writeProphets_64 2 rfl rfl 65 rfl ?_
            refine fo_aload_n C dX7_writeProphets_65 2 rfl rfl 66 rfl ?_
            refine fo_get C dX7_writeProphets_66 fK9 (by decide : fo_k 616 = 9) (by decide) 0 (by decide) fl_X7_7 (v := .ref (Λ.2.2.1 617)) rfl 69 rfl ?_
            refine fo_bipush C dX7_writeProphets_69 (nI 10) kb_10 71 rfl ?_
            refine fo_iload_n C dX7_writeProphets_71 1 rfl rfl 72 rfl ?_
            refine fo_iadd C dX7_writeProphets_72 (nI (10 + p)) (nI_add _ _) 73 rfl ?_
            refine fo_iald C dX7_writeProphets_73 (by decide : fo_k 617 = 20) (by rw [(show fo_n 617 = 150 from rfl)]; omega) (nI (par p)) ((t175.2.2.2.1 p (by omega)).2) 74 rfl ?_
            refine fo_qvv C dX7_writeProphets_74 (mX7_writeNumber (L := (fo_prs kd par (fp_ap np kd par n v) p ++ (if 0 < p then [32] else [])) ++ [kd p]) (x := par p) g172 (by have q1 := (fp_dig_len (par p)).1; have q2 := (fp_dig_len (fp_ap np kd par n v p)).1; have q3 : (if 0 < p then [32] else ([] : List Nat)).length ≤ 1 := (by split <;> decide); have q4 : (if fo_us (kd p) then fp_dig (par p) else ([] : List Nat)).length ≤ 3 := (by by_cases h9 : fo_us (kd p) = true; (rw [if_pos h9]; exact q1); (rw [if_neg h9]; exact Nat.zero_le _)); first | omega | (simp only [List.length_append, List.length_cons, List.length_nil]; omega)) (by omega)) lv_X7_234 (by decide : fo_k 616 = 9) rfl (by decide) rfl ⟨Nat.le_of_ble_eq_true rfl, Nat.le_of_ble_eq_true rfl⟩ ⟨Nat.le_of_ble_eq_true rfl, Nat.le_of_ble_eq_true rfl⟩ [] rfl (Nat.le_of_ble_eq_true rfl) 77 rfl (fun I178 D179 J180 X181 p182 => ?_)
            obtain ⟨g183, l184, z3, z4, z5⟩ := p182
            obtain rfl := z3.symm
            obtain rfl := z4.symm
            obtain rfl := z5.symm
            have w185 := (w174).lf l184
            have t186 := w185.T ht
            have hus : fo_us (kd p) = true := decide_eq_true (by omega)
            have g187 : fm_L I178 (((fo_prs kd par (fp_ap np kd par n v) p ++ (if 0 < p then [32] else [])) ++ [kd p]) ++ (if fo_us (kd p) then fp_dig (par p) else [])) := by rw [hus]; exact g183
            refine fo_aload_n C dX7_writeProphets_77 2 rfl rfl 78 rfl ?_
            refine fo_bipush C dX7_writeProphets_78 (nI 61) kb_61 80 rfl ?_
            refine fo_qvv C dX7_writeProphets_80 (mX7_write (L := ((fo_prs kd par (fp_ap np kd par n v) p ++ (if 0 < p then [32] else [])) ++ [kd p]) ++ (if fo_us (kd p) then fp_dig (par p) else [])) (c := 61) g187 (by have q1 := (fp_dig_len (par p)).1; have q2 := (fp_dig_len (fp_ap np kd par n v p)).1; have q3 : (if 0 < p then [32] else ([] : List Nat)).length ≤ 1 := (by split <;> decide); have q4 : (if fo_us (kd p) then fp_dig (par p) else ([] : List Nat)).length ≤ 3 := (by by_cases h9 : fo_us (kd p) = true; (rw [if_pos h9]; exact q1); (rw [if_neg h9]; exact Nat.zero_le _)); first | omega | (simp only [List.length_append, List.length_cons, List.length_nil]; omega)) (by omega)) lv_X7_230 (by decide : fo_k 616 = 9) rfl (by decide) rfl ⟨Nat.le_of_ble_eq_true rfl, Nat.le_of_ble_eq_true rfl⟩ ⟨Nat.le_of_ble_eq_true rfl, Nat.le_of_ble_eq_true rfl⟩ [] rfl (Nat.le_of_ble_eq_true rfl) 83 rfl (fun I189 D190 J191 X192 p193 => ?_)
            obtain ⟨g194, l195, z3, z4, z5⟩ := p193
            obtain rfl := z3.symm
            obtain rfl := z4.symm
            obtain rfl := z5.symm
            have w196 := (w185).lf l195
            have t197 := w196.T ht
            refine fo_aload_n C dX7_writeProphets_83 2 rfl rfl 84 rfl ?_
            refine fo_aload_n C dX7_writeProphets_84 2 rfl rfl 85 rfl ?_
            refine fo_iload_n C dX7_writeProphets_85 1 rfl rfl 86 rfl ?_
            refine fo_qvi C dX7_writeProphets_86 (mX7_allPoints (p := p) (by omega) t197) lv_X7_227 (by decide : fo_k 616 = 9) rfl (by decide) rfl ⟨Nat.le_of_ble_eq_true rfl, Nat.le_of_ble_eq_true rfl⟩ ⟨Nat.le_of_ble_eq_true rfl, Nat.le_of_ble_eq_true rfl⟩ [.ref (Λ.2.2.1 616)] rfl (Nat.le_of_ble_eq_true rfl) 89 rfl (fo_es (fun X202 => ?_))
            have qap := fp_ap_le (np := np) (kd := kd) (par := par) (n := n) (v := v) (p := p) ho5
            refine fo_qvv C dX7_writeProphets_89 (mX7_writeNumber (L := (((fo_prs kd par (fp_ap np kd par n v) p ++ (if 0 < p then [32] else [])) ++ [kd p]) ++ (if fo_us (kd p) then fp_dig (par p) else [])) ++ [61]) (x := fp_ap np kd par n v p) g194 (by have q1 := (fp_dig_len (par p)).1; have q2 := (fp_dig_len (fp_ap np kd par n v p)).1; have q3 : (if 0 < p then [32] else ([] : List Nat)).length ≤ 1 := (by split <;> decide); have q4 : (if fo_us (kd p) then fp_dig (par p) else ([] : List Nat)).length ≤ 3 := (by by_cases h9 : fo_us (kd p) = true; (rw [if_pos h9]; exact q1); (rw [if_neg h9]; exact Nat.zero_le _)); first | omega | (simp only [List.length_append, List.length_cons, List.length_nil]; omega)) (by omega)) lv_X7_234 (by decide : fo_k 616 = 9) rfl (by decide) rfl ⟨Nat.le_of_ble_eq_true rfl, Nat.le_of_ble_eq_true rfl⟩ ⟨Nat.le_of_ble_eq_true rfl, Nat.le_of_ble_eq_true rfl⟩ [] rfl (Nat.le_of_ble_eq_true rfl) 92 rfl (fun I205 D206 J207 X208 p209 => ?_)
            obtain ⟨g210, l211, z3, z4, z5⟩ := p209
            obtain rfl := z3.symm
            obtain rfl := z4.symm
            obtain rfl := z5.symm
            have w212 := (w196).lf l211
            have t213 := w212.T ht
            refine fo_iinc C dX7_writeProphets_92 1 rfl (nI (p + 1)) (nI_inc1 _) [(1, .int (nI (p + 1))), (2, .int (nI (kd p))), (0, .ref (Λ.2.2.1 616))] rfl (by decide) 95 rfl ?_
            refine fo_goto C dX7_writeProphets_95 12 (by decide) ?_
            refine fo_sub C [0, 2] (lv' := [(1, .int (nI (p + 1))), (0, .ref (Λ.2.2.1 616))]) rfl ?_
            exact ih12 (p + 1) I205 X202 (by omega) (by omega) g210 w212
          · refine fo_iload_n C dX7_writeProphets_52 0 rfl rfl 53 rfl ?_
            refine fo_bipush C dX7_writeProphets_53 (nI 100) kb_100 55 rfl ?_
            refine fo_ncmp_eq C (by omega) (by omega) dX7_writeProphets_55 64 (by decide) 58 rfl (fun c214 => ?_) (fun c214 => ?_)
            · refine fo_aload_n C dX7_writeProphets_64 2 rfl rfl 65 rfl ?_
              refine fo_aload_n C dX7_writeProphets_65 2 rfl rfl 66 rfl ?_
              refine fo_get C dX7_writeProphets_66 fK9 (by decide : fo_k 616 = 9) (by decide) 0 (by decide) fl_X7_7 (v := .ref (Λ.2.2.1 617)) rfl 69 rfl ?_
              refine fo_bipush C dX7_writeProphets_69 (nI 10) kb_10 71 rfl ?_
              refine fo_iload_n C dX7_writeProphets_71 1 rfl rfl 72 rfl ?_
              refine fo_iadd C dX7_writeProphets_72 (nI (10 + p)) (nI_add _ _) 73 rfl ?_
              refine fo_iald C dX7_writeProphets_73 (by decide : fo_k 617 = 20) (by rw [(show fo_n 617 = 150 from rfl)]; omega) (nI (par p)) ((t175.2.2.2.1 p (by omega)).2) 74 rfl ?_
              refine fo_qvv C dX7_writeProphets_74 (mX7_writeNumber (L := (fo_prs kd par (fp_ap np kd par n v) p ++ (if 0 < p then [32] else [])) ++ [kd p]) (x := par p) g172 (by have q1 := (fp_dig_len (par p)).1; have q2 := (fp_dig_len (fp_ap np kd par n v p)).1; have q3 : (if 0 < p then [32] else ([] : List Nat)).length ≤ 1 := (by split <;> decide); have q4 : (if fo_us (kd p) then fp_dig (par p) else ([] : List Nat)).length ≤ 3 := (by by_cases h9 : fo_us (kd p) = true; (rw [if_pos h9]; exact q1); (rw [if_neg h9]; exact Nat.zero_le _)); first | omega | (simp only [List.length_append, List.length_cons, List.length_nil]; omega)) (by omega)) lv_X7_234 (by decide : fo_k 616 = 9) rfl (by decide) rfl ⟨Nat.le_of_ble_eq_true rfl, Nat.le_of_ble_eq_true rfl⟩ ⟨Nat.le_of_ble_eq_true rfl, Nat.le_of_ble_eq_true rfl⟩ [] rfl (Nat.le_of_ble_eq_true rfl) 77 rfl (fun I216 D217 J218 X219 p220 => ?_)
              obtain ⟨g221, l222, z3, z4, z5⟩ := p220
              obtain rfl := z3.symm
              obtain rfl := z4.symm
              obtain rfl := z5.symm
              have w223 := (w174).lf l222
              have t224 := w223.T ht
              have hus : fo_us (kd p) = true := decide_eq_true (by omega)
              have g225 : fm_L I216 (((fo_prs kd par (fp_ap np kd par n v) p ++ (if 0 < p then [32] else [])) ++ [kd p]) ++ (if fo_us (kd p) then fp_dig (par p) else [])) := by rw [hus]; exact g221
              refine fo_aload_n C dX7_writeProphets_77 2 rfl rfl 78 rfl ?_
              refine fo_bipush C dX7_writeProphets_78 (nI 61) kb_61 80 rfl ?_
              refine fo_qvv C dX7_writeProphets_80 (mX7_write (L := ((fo_prs kd par (fp_ap np kd par n v) p ++ (if 0 < p then [32] else [])) ++ [kd p]) ++ (if fo_us (kd p) then fp_dig (par p) else [])) (c := 61) g225 (by have q1 := (fp_dig_len (par p)).1; have q2 := (fp_dig_len (fp_ap np kd par n v p)).1; have q3 : (if 0 < p then [32] else ([] : List Nat)).length ≤ 1 := (by split <;> decide); have q4 : (if fo_us (kd p) then fp_dig (par p) else ([] : List Nat)).length ≤ 3 := (by by_cases h9 : fo_us (kd p) = true; (rw [if_pos h9]; exact q1); (rw [if_neg h9]; exact Nat.zero_le _)); first | omega | (simp only [List.length_append, List.length_cons, List.length_nil]; omega)) (by omega)) lv_X7_230 (by decide : fo_k 616 = 9) rfl (by decide) rfl ⟨Nat.le_of_ble_eq_true rfl, Nat.le_of_ble_eq_true rfl⟩ ⟨Nat.le_of_ble_eq_true rfl, Nat.le_of_ble_eq_true rfl⟩ [] rfl (Nat.le_of_ble_eq_true rfl) 83 rfl (fun I227 D228 J229 X230 p231 => ?_)
              obtain ⟨g232, l233, z3, z4, z5⟩ := p231
              obtain rfl := z3.symm
              obtain rfl := z4.symm
              obtain rfl := z5.symm
              have w234 := (w223).lf l233
              have t235 := w234.T ht
              refine fo_aload_n C dX7_writeProphets_83 2 rfl rfl 84 rfl ?_
              refine fo_aload_n C dX7_writeProphets_84 2 rfl rfl 85 rfl ?_
              refine fo_iload_n C dX7_writeProphets_85 1 rfl rfl 86 rfl ?_
              refine fo_qvi C dX7_writeProphets_86 (mX7_allPoints (p := p) (by omega) t235) lv_X7_227 (by decide : fo_k 616 = 9) rfl (by decide) rfl ⟨Nat.le_of_ble_eq_true rfl, Nat.le_of_ble_eq_true rfl⟩ ⟨Nat.le_of_ble_eq_true rfl, Nat.le_of_ble_eq_true rfl⟩ [.ref (Λ.2.2.1 616)] rfl (Nat.le_of_ble_eq_true rfl) 89 rfl (fo_es (fun X240 => ?_))
              have qap := fp_ap_le (np := np) (kd := kd) (par := par) (n := n) (v := v) (p := p) ho5
              refine fo_qvv C dX7_writeProphets_89 (mX7_writeNumber (L := (((fo_prs kd par (fp_ap np kd par n v) p ++ (if 0 < p then [32] else [])) ++ [kd p]) ++ (if fo_us (kd p) then fp_dig (par p) else [])) ++ [61]) (x := fp_ap np kd par n v p) g232 (by have q1 := (fp_dig_len (par p)).1; have q2 := (fp_dig_len (fp_ap np kd par n v p)).1; have q3 : (if 0 < p then [32] else ([] : List Nat)).length ≤ 1 := (by split <;> decide); have q4 : (if fo_us (kd p) then fp_dig (par p) else ([] : List Nat)).length ≤ 3 := (by by_cases h9 : fo_us (kd p) = true; (rw [if_pos h9]; exact q1); (rw [if_neg h9]; exact Nat.zero_le _)); first | omega | (simp only [List.length_append, List.length_cons, List.length_nil]; omega)) (by omega)) lv_X7_234 (by decide : fo_k 616 = 9) rfl (by decide) rfl ⟨Nat.le_of_ble_eq_true rfl, Nat.le_of_ble_eq_true rfl⟩ ⟨Nat.le_of_ble_eq_true rfl, Nat.le_of_ble_eq_true rfl⟩ [] rfl (Nat.le_of_ble_eq_true rfl) 92 rfl (fun I243 D244 J245 X246 p247 => ?_)
              obtain ⟨g248, l249, z3, z4, z5⟩ := p247
              obtain rfl := z3.symm
              obtain rfl := z4.symm
              obtain rfl := z5.symm
              have w250 := (w234).lf l249
              have t251 := w250.T ht
              refine fo_iinc C dX7_writeProphets_92 1 rfl (nI (p + 1)) (nI_inc1 _) [(1, .int (nI (p + 1))), (2, .int (nI (kd p))), (0, .ref (Λ.2.2.1 616))] rfl (by decide) 95 rfl ?_
              refine fo_goto C dX7_writeProphets_95 12 (by decide) ?_
              refine fo_sub C [0, 2] (lv' := [(1, .int (nI (p + 1))), (0, .ref (Λ.2.2.1 616))]) rfl ?_
              exact ih12 (p + 1) I243 X240 (by omega) (by omega) g248 w250
            · refine fo_iload_n C dX7_writeProphets_58 0 rfl rfl 59 rfl ?_
              refine fo_bipush C dX7_writeProphets_59 (nI 115) kb_115 61 rfl ?_
              refine fo_ncmp_ne C (by omega) (by omega) dX7_writeProphets_61 77 (by decide) 64 rfl (fun c252 => ?_) (fun c252 => ?_)
              · have hus : fo_us (kd p) = false := decide_eq_false (by omega)
                have g253 : fm_L I167 (((fo_prs kd par (fp_ap np kd par n v) p ++ (if 0 < p then [32] else [])) ++ [kd p]) ++ (if fo_us (kd p) then fp_dig (par p) else [])) := by rw [show (if fo_us (kd p) then fp_dig (par p) else ([] : List Nat)) = [] from if_neg (by rw [hus]; decide), List.append_nil]; exact g172
                refine fo_aload_n C dX7_writeProphets_77 2 rfl rfl 78 rfl ?_
                refine fo_bipush C dX7_writeProphets_78 (nI 61) kb_61 80 rfl ?_
                refine fo_qvv C dX7_writeProphets_80 (mX7_write (L := ((fo_prs kd par (fp_ap np kd par n v) p ++ (if 0 < p then [32] else [])) ++ [kd p]) ++ (if fo_us (kd p) then fp_dig (par p) else [])) (c := 61) g253 (by have q1 := (fp_dig_len (par p)).1; have q2 := (fp_dig_len (fp_ap np kd par n v p)).1; have q3 : (if 0 < p then [32] else ([] : List Nat)).length ≤ 1 := (by split <;> decide); have q4 : (if fo_us (kd p) then fp_dig (par p) else ([] : List Nat)).length ≤ 3 := (by by_cases h9 : fo_us (kd p) = true; (rw [if_pos h9]; exact q1); (rw [if_neg h9]; exact Nat.zero_le _)); first | omega | (simp only [List.length_append, List.length_cons, List.length_nil]; omega)) (by omega)) lv_X7_230 (by decide : fo_k 616 = 9) rfl (by decide) rfl ⟨Nat.le_of_ble_eq_true rfl, Nat.le_of_ble_eq_true rfl⟩ ⟨Nat.le_of_ble_eq_true rfl, Nat.le_of_ble_eq_true rfl⟩ [] rfl (Nat.le_of_ble_eq_true rfl) 83 rfl (fun I255 D256 J257 X258 p259 => ?_)
                obtain ⟨g260, l261, z3, z4, z5⟩ := p259
                obtain rfl := z3.symm
                obtain rfl := z4.symm
                obtain rfl := z5.symm
                have w262 := (w174).lf l261
                have t263 := w262.T ht
                refine fo_aload_n C dX7_writeProphets_83 2 rfl rfl 84 rfl ?_
                refine fo_aload_n C dX7_writeProphets_84 2 rfl rfl 85 rfl ?_
                refine fo_iload_n C dX7_writeProphets_85 1 rfl rfl 86 rfl ?_
                refine fo_qvi C dX7_writeProphets_86 (mX7_allPoints (p := p) (by omega) t263) lv_X7_227 (by decide : fo_k 616 = 9) rfl (by decide) rfl ⟨Nat.le_of_ble_eq_true rfl, Nat.le_of_ble_eq_true rfl⟩ ⟨Nat.le_of_ble_eq_true rfl, Nat.le_of_ble_eq_true rfl⟩ [.ref (Λ.2.2.1 616)] rfl (Nat.le_of_ble_eq_true rfl) 89 rfl (fo_es (fun X268 => ?_))
                have qap := fp_ap_le (np := np) (kd := kd) (par := par) (n := n) (v := v) (p := p) ho5
                refine fo_qvv C dX7_writeProphets_89 (mX7_writeNumber (L := (((fo_prs kd par (fp_ap np kd par n v) p ++ (if 0 < p then [32] else [])) ++ [kd p]) ++ (if fo_us (kd p) then fp_dig (par p) else [])) ++ [61]) (x := fp_ap np kd par n v p) g260 (by have q1 := (fp_dig_len (par p)).1; have q2 := (fp_dig_len (fp_ap np kd par n v p)).1; have q3 : (if 0 < p then [32] else ([] : List Nat)).length ≤ 1 := (by split <;> decide); have q4 : (if fo_us (kd p) then fp_dig (par p) else ([] : List Nat)).length ≤ 3 := (by by_cases h9 : fo_us (kd p) = true; (rw [if_pos h9]; exact q1); (rw [if_neg h9]; exact Nat.zero_le _)); first | omega | (simp only [List.length_append, List.length_cons, List.length_nil]; omega)) (by omega)) lv_X7_234 (by decide : fo_k 616 = 9) rfl (by decide) rfl ⟨Nat.le_of_ble_eq_true rfl, Nat.le_of_ble_eq_true rfl⟩ ⟨Nat.le_of_ble_eq_true rfl, Nat.le_of_ble_eq_true rfl⟩ [] rfl (Nat.le_of_ble_eq_true rfl) 92 rfl (fun I271 D272 J273 X274 p275 => ?_)
                obtain ⟨g276, l277, z3, z4, z5⟩ := p275
                obtain rfl := z3.symm
                obtain rfl := z4.symm
                obtain rfl := z5.symm
                have w278 := (w262).lf l277
                have t279 := w278.T ht
                refine fo_iinc C dX7_writeProphets_92 1 rfl (nI (p + 1)) (nI_inc1 _) [(1, .int (nI (p + 1))), (2, .int (nI (kd p))), (0, .ref (Λ.2.2.1 616))] rfl (by decide) 95 rfl ?_
                refine fo_goto C dX7_writeProphets_95 12 (by decide) ?_
                refine fo_sub C [0, 2] (lv' := [(1, .int (nI (p + 1))), (0, .ref (Λ.2.2.1 616))]) rfl ?_
                exact ih12 (p + 1) I271 X268 (by omega) (by omega) g276 w278
              · refine fo_aload_n C dX7_writeProphets_64 2 rfl rfl 65 rfl ?_
                refine fo_aload_n C dX7_writeProphets_65 2 rfl rfl 66 rfl ?_
                refine fo_get C dX7_writeProphets_66 fK9 (by decide : fo_k 616 = 9) (by decide) 0 (by decide) fl_X7_7 (v := .ref (Λ.2.2.1 617)) rfl 69 rfl ?_
                refine fo_bipush C dX7_writeProphets_69 (nI 10) kb_10 71 rfl ?_
                refine fo_iload_n C dX7_writeProphets_71 1 rfl rfl 72 rfl ?_
                refine fo_iadd C dX7_writeProphets_72 (nI (10 + p)) (nI_add _ _) 73 rfl ?_
                refine fo_iald C dX7_writeProphets_73 (by decide : fo_k 617 = 20) (by rw [(show fo_n 617 = 150 from rfl)]; omega) (nI (par p)) ((t175.2.2.2.1 p (by omega)).2) 74 rfl ?_
                refine fo_qvv C dX7_writeProphets_74 (mX7_writeNumber (L := (fo_prs kd par (fp_ap np kd par n v) p ++ (if 0 < p then [32] else [])) ++ [kd p]) (x := par p) g172 (by have q1 := (fp_dig_len (par p)).1; have q2 := (fp_dig_len (fp_ap np kd par n v p)).1; have q3 : (if 0 < p then [32] else ([] : List Nat)).length ≤ 1 := (by split <;> decide); have q4 : (if fo_us (kd p) then fp_dig (par p) else ([] : List Nat)).length ≤ 3 := (by by_cases h9 : fo_us (kd p) = true; (rw [if_pos h9]; exact q1); (rw [if_neg h9]; exact Nat.zero_le _)); first | omega | (simp only [List.length_append, List.length_cons, List.length_nil]; omega)) (by omega)) lv_X7_234 (by decide : fo_k 616 = 9) rfl (by decide) rfl ⟨Nat.le_of_ble_eq_true rfl, Nat.le_of_ble_eq_true rfl⟩ ⟨Nat.le_of_ble_eq_true rfl, Nat.le_of_ble_eq_true rfl⟩ [] rfl (Nat.le_of_ble_eq_true rfl) 77 rfl (fun I281 D282 J283 X284 p285 => ?_)
                obtain ⟨g286, l287, z3, z4, z5⟩ := p285
                obtain rfl := z3.symm
                obtain rfl := z4.symm
                obtain rfl := z5.symm
                have w288 := (w174).lf l287
                have t289 := w288.T ht
                have hus : fo_us (kd p) = true := decide_eq_true (by omega)
                have g290 : fm_L I281 (((fo_prs kd par (fp_ap np kd par n v) p ++ (if 0 < p then [32] else [])) ++ [kd p]) ++ (if fo_us (kd p) then fp_dig (par p) else [])) := by rw [hus]; exact g286
                refine fo_aload_n C dX7_writeProphets_77 2 rfl rfl 78 rfl ?_
                refine fo_bipush C dX7_writeProphets_78 (nI 61) kb_61 80 rfl ?_
                refine fo_qvv C dX7_writeProphets_80 (mX7_write (L := ((fo_prs kd par (fp_ap np kd par n v) p ++ (if 0 < p then [32] else [])) ++ [kd p]) ++ (if fo_us (kd p) then fp_dig (par p) else [])) (c := 61) g290 (by have q1 := (fp_dig_len (par p)).1; have q2 := (fp_dig_len (fp_ap np kd par n v p)).1; have q3 : (if 0 < p then [32] else ([] : List Nat)).length ≤ 1 := (by split <;> decide); have q4 : (if fo_us (kd p) then fp_dig (par p) else ([] : List Nat)).length ≤ 3 := (by by_cases h9 : fo_us (kd p) = true; (rw [if_pos h9]; exact q1); (rw [if_neg h9]; exact Nat.zero_le _)); first | omega | (simp only [List.length_append, List.length_cons, List.length_nil]; omega)) (by omega)) lv_X7_230 (by decide : fo_k 616 = 9) rfl (by decide) rfl ⟨Nat.le_of_ble_eq_true rfl, Nat.le_of_ble_eq_true rfl⟩ ⟨Nat.le_of_ble_eq_true rfl, Nat.le_of_ble_eq_true rfl⟩ [] rfl (Nat.le_of_ble_eq_true rfl) 83 rfl (fun I292 D293 J294 X295 p296 => ?_)
                obtain ⟨g297, l298, z3, z4, z5⟩ := p296
                obtain rfl := z3.symm
                obtain rfl := z4.symm
                obtain rfl := z5.symm
                have w299 := (w288).lf l298
                have t300 := w299.T ht
                refine fo_aload_n C dX7_writeProphets_83 2 rfl rfl 84 rfl ?_
                refine fo_aload_n C dX7_writeProphets_84 2 rfl rfl 85 rfl ?_
                refine fo_iload_n C dX7_writeProphets_85 1 rfl rfl 86 rfl ?_
                refine fo_qvi C dX7_writeProphets_86 (mX7_allPoints (p := p) (by omega) t300) lv_X7_227 (by decide : fo_k 616 = 9) rfl (by decide) rfl ⟨Nat.le_of_ble_eq_true rfl, Nat.le_of_ble_eq_true rfl⟩ ⟨Nat.le_of_ble_eq_true rfl, Nat.le_of_ble_eq_true rfl⟩ [.ref (Λ.2.2.1 616)] rfl (Nat.le_of_ble_eq_true rfl) 89 rfl (fo_es (fun X305 => ?_))
                have qap := fp_ap_le (np := np) (kd := kd) (par := par) (n := n) (v := v) (p := p) ho5
                refine fo_qvv C dX7_writeProphets_89 (mX7_writeNumber (L := (((fo_prs kd par (fp_ap np kd par n v) p ++ (if 0 < p then [32] else [])) ++ [kd p]) ++ (if fo_us (kd p) then fp_dig (par p) else [])) ++ [61]) (x := fp_ap np kd par n v p) g297 (by have q1 := (fp_dig_len (par p)).1; have q2 := (fp_dig_len (fp_ap np kd par n v p)).1; have q3 : (if 0 < p then [32] else ([] : List Nat)).length ≤ 1 := (by split <;> decide); have q4 : (if fo_us (kd p) then fp_dig (par p) else ([] : List Nat)).length ≤ 3 := (by by_cases h9 : fo_us (kd p) = true; (rw [if_pos h9]; exact q1); (rw [if_neg h9]; exact Nat.zero_le _)); first | omega | (simp only [List.length_append, List.length_cons, List.length_nil]; omega)) (by omega)) lv_X7_234 (by decide : fo_k 616 = 9) rfl (by decide) rfl ⟨Nat.le_of_ble_eq_true rfl, Nat.le_of_ble_eq_true rfl⟩ ⟨Nat.le_of_ble_eq_true rfl, Nat.le_of_ble_eq_true rfl⟩ [] rfl (Nat.le_of_ble_eq_true rfl) 92 rfl (fun I308 D309 J310 X311 p312 => ?_)
                obtain ⟨g313, l314, z3, z4, z5⟩ := p312
                obtain rfl := z3.symm
                obtain rfl := z4.symm
                obtain rfl := z5.symm
                have w315 := (w299).lf l314
                have t316 := w315.T ht
                refine fo_iinc C dX7_writeProphets_92 1 rfl (nI (p + 1)) (nI_inc1 _) [(1, .int (nI (p + 1))), (2, .int (nI (kd p))), (0, .ref (Λ.2.2.1 616))] rfl (by decide) 95 rfl ?_
                refine fo_goto C dX7_writeProphets_95 12 (by decide) ?_
                refine fo_sub C [0, 2] (lv' := [(1, .int (nI (p + 1))), (0, .ref (Λ.2.2.1 616))]) rfl ?_
                exact ih12 (p + 1) I308 X305 (by omega) (by omega) g313 w315
  exact hL12 (np + 1 + 1) 0 (fo_r (fo_r I 616 (upd (I 616) 5 (nI (0)))) 616 (upd ((fo_r I 616 (upd (I 616) 5 (nI (0)))) 616) 11 (nI (0)))) X (by omega) (by omega) hL0 hw0
