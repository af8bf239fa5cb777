
/-! THE MODEL: run -/
theorem fm_Q.mv {I I' : fo_Mi} {m : Nat} {t : Nat → Nat} (h : fm_Q I m t) (e1 : I' 616 18 = I 616 18) (e2 : I' 623 = I 623) : fm_Q I' m t := ⟨h.1, e1.trans h.2.1, fun j hj => by rw [e2]; exact h.2.2 j hj⟩
/-- the model behind a run: its text is empty, its error and its failed command are e and f -/
theorem fm_M.run {I I' : fo_Mi} {s s2 : fa_S} {hs hs2 : List fa_S} {ks : Option fa_S} {L : List Nat} {m : Nat} {t : Nat → Nat} {e f e2 f2 : Int32} (h : fm_M I s hs ks L m t e f) (h1 : fm_R (I' 617) s2) (h2 : fm_H I' hs2) (c9 : I' 616 9 = I 616 9) (c11 : I' 616 11 = I 616 11) (c18 : I' 616 18 = nI 0) (c7 : I' 616 7 = e2) (c8 : I' 616 8 = f2) (c619 : I' 619 = I 619) (c622 : I' 622 = I 622) : fm_M I' s2 hs2 ks L 0 t e2 f2 := by
  obtain ⟨_, _, hk, hl, hq, he, hf⟩ := h
  exact ⟨h1, h2, ⟨c9.trans hk.1, fun q hq9 => by rw [c619]; exact hk.2 q hq9⟩, ⟨hl.1, c11.trans hl.2.1, fun j c hj => by rw [c622]; exact hl.2.2 j c hj⟩, ⟨Nat.zero_le _, c18, fun j hj => absurd hj (Nat.not_lt_zero j)⟩, c7, c8⟩


theorem fm_C.of17 {I I' : fo_Mi} {Cs : List fm_c} (h : fm_C I Cs) (g : ∀ b, b ≠ 617 → I' b = I b) : fm_C I' Cs := ⟨by rw [g 616 (by decide)]; exact h.1, fun j c hj => by rw [g 624 (by decide), g 625 (by decide), g 626 (by decide), g 627 (by decide)]; exact h.2 j c hj⟩
theorem fm_U.of17 {I I' : fo_Mi} {V : List Nat} (h : fm_U I V) (g : ∀ b, b ≠ 617 → I' b = I b) : fm_U I' V := ⟨by rw [g 616 (by decide)]; exact h.1, fun j c hj => by rw [g 628 (by decide)]; exact h.2 j c hj⟩

set_option maxRecDepth 10000 in
set_option maxHeartbeats 4000000 in
theorem mX7_run {l : Launch} {Λ : fo_Lt} {I : fo_Mi} {D : fo_Md} {J : fo_Mj} {X : fo_Mi}  {s : fa_S} {hs : List fa_S} {ks : Option fa_S} {L : List Nat} {m : Nat} {t : Nat → Nat} {e f : Int32} (hM : fm_M I s hs ks L m t e f) : fk_i l yX7_run cX7_run 2 .int 5 114 Λ [.ref (Λ.2.2.1 616)] I D J X ((fun r I' D' J' X' => ((fq_all m t 60 0 0).1 = none → I' 616 5 = nI 1 ∧ fm_M I' s hs ks L 0 t (nI (fq_all m t 60 0 0).2) f ∧ (fq_all m t 60 0 0).2 ≤ 60) ∧ (∀ x, (fq_all m t 60 0 0).1 = some x → (∀ o, fa_run s x.1 = .inl o → I' 616 5 = nI 2 ∧ fm_M I' s hs ks L 0 t e (nI o) ∧ o ≤ 60) ∧ ∀ s2, fa_run s x.1 = .inr s2 → r = nI x.2 ∧ I' 616 5 = nI 0 ∧ fm_M I' s2 ((s :: hs).take 8) ks L 0 t e f) ∧ fm_f I I' ∧ D' = D ∧ J' = J ∧ X' = X)) := by
  have hQ := hM.2.2.2.2.1
  refine fo_si (by decide) [(0, .ref (Λ.2.2.1 616))] rfl (Nat.le_of_ble_eq_true rfl) (fun K C fin => ?_)
  refine fo_aload_n C dX7_run_0 0 rfl rfl 1 rfl ?_
  refine fo_qvv C dX7_run_1 (mX7_begin (show fm_T I 617 s.1 s.2.1 s.2.2.1 s.2.2.2.1 s.2.2.2.2.1 s.2.2.2.2.2 from hM.1)) lv_X7_104 (by decide : fo_k 616 = 9) rfl (by decide) rfl ⟨Nat.le_of_ble_eq_true rfl, Nat.le_of_ble_eq_true rfl⟩ ⟨Nat.le_of_ble_eq_true rfl, Nat.le_of_ble_eq_true rfl⟩ [] rfl (Nat.le_of_ble_eq_true rfl) 4 rfl (fun I2 D3 J4 X5 p6 => ?_)
  obtain ⟨ht1, hb1, b3, b4, b5, z3, z4, z5⟩ := p6
  obtain rfl := z3.symm
  obtain rfl := z4.symm
  obtain rfl := z5.symm
  refine fo_aload_n C dX7_run_4 0 rfl rfl 5 rfl ?_
  refine fo_qvv C dX7_run_5 (mX7_parse (hM.2.2.2.2.1.mv (b5 18 (by decide)) (b4 623 (by decide) (by decide)))) lv_X7_265 (by decide : fo_k 616 = 9) rfl (by decide) rfl ⟨Nat.le_of_ble_eq_true rfl, Nat.le_of_ble_eq_true rfl⟩ ⟨Nat.le_of_ble_eq_true rfl, Nat.le_of_ble_eq_true rfl⟩ [] rfl (Nat.le_of_ble_eq_true rfl) 8 rfl (fun I8 D9 J10 X11 p12 => ?_)
  obtain ⟨hpr, hz2, h18, z3, z4, z5⟩ := p12
  obtain rfl := z3.symm
  obtain rfl := z4.symm
  obtain rfl := z5.symm
  have k1 : ∀ j, j ≠ 5 → j < 18 → I8 616 j = I 616 j := fun j h5 h9 => (hz2.2 j (by omega)).trans (b5 j h5)
  have k2 : ∀ b, b ≠ 616 → b ≠ 618 → (b < 624 ∨ 628 < b) → I8 b = I b := fun b h1 h2 h3 => (hz2.1 b h1 h3).trans (b4 b h1 h2)
  have hb2 : fm_R (I8 618) s := by rw [hz2.1 618 (by decide) (by decide)]; exact hb1
  have hR2 : fm_R (I8 617) s := by rw [hz2.1 617 (by decide) (by decide)]; exact ht1
  have k5 : I8 616 5 = nI 0 := (hz2.2 5 (by decide)).trans b3
  rcases hA : fq_all m t 60 0 0 with ⟨_ | x, e9⟩
  · have hV := hpr.1 (by rw [hA])
    rw [hA] at hV
    replace hV : fm_V I8 m t true e9 := hV
    refine fo_aload_n C dX7_run_8 0 rfl rfl 9 rfl ?_
    refine fo_get C dX7_run_9 fK9 (by decide : fo_k 616 = 9) (by decide) 23 (by decide) fl_X7_81 (v := .int (fo_b (true))) (congrArg (fun x => some (Value.int x)) (hV.2.2.2.2.1)) 12 rfl ?_
    refine fo_bif_eq C dX7_run_12 29 (by decide) 15 rfl (fun c13 => ?_) (fun c13 => ?_)
    · exact absurd c13 (by decide)
    · refine fo_aload_n C dX7_run_15 0 rfl rfl 16 rfl ?_
      refine fo_aload_n C dX7_run_16 0 rfl rfl 17 rfl ?_
      refine fo_get C dX7_run_17 fK9 (by decide : fo_k 616 = 9) (by decide) 20 (by decide) fl_X7_72 (v := .int (nI e9)) (congrArg (fun x => some (Value.int x)) (hV.2.2.2.1)) 20 rfl ?_
      refine fo_put C dX7_run_20 fK9 (by decide : fo_k 616 = 9) (by decide) 7 (by decide) fl_X7_32 rfl rfl rfl rfl (Nat.le_of_ble_eq_true rfl) 23 rfl ?_
      refine fo_aload_n C dX7_run_23 0 rfl rfl 24 rfl ?_
      refine fo_iconst C dX7_run_24 (nI 1) ki_1 25 rfl ?_
      refine fo_qvi C dX7_run_25 (mX7_fail (x := (nI (1)))) lv_X7_111 (by decide : fo_k 616 = 9) rfl (by decide) rfl ⟨Nat.le_of_ble_eq_true rfl, Nat.le_of_ble_eq_true rfl⟩ ⟨Nat.le_of_ble_eq_true rfl, Nat.le_of_ble_eq_true rfl⟩ [] rfl (Nat.le_of_ble_eq_true rfl) 28 rfl (fo_er ?_)
      exact fin dX7_run_28 rfl ((by rw [hA]; exact ⟨fun _ => ⟨by rw [fo_rs, pk_us], hM.run (by rw [fo_rn _ _ (by decide), fo_rn _ _ (by decide)]; exact hR2) (hM.2.1.mv (by rw [fo_rs, pk_un (by decide), fo_rs, pk_un (by decide)]; exact k1 6 (by decide) (by decide)) (by rw [fo_rn _ _ (by decide), fo_rn _ _ (by decide)]; exact k2 620 (by decide) (by decide) (by decide))) (by rw [fo_rs, pk_un (by decide), fo_rs, pk_un (by decide)]; exact k1 9 (by decide) (by decide)) (by rw [fo_rs, pk_un (by decide), fo_rs, pk_un (by decide)]; exact k1 11 (by decide) (by decide)) (by rw [fo_rs, pk_un (by decide), fo_rs, pk_un (by decide)]; exact h18) (by rw [fo_rs, pk_un (by decide), fo_rs, pk_us]) (by rw [fo_rs, pk_un (by decide), fo_rs, pk_un (by decide)]; exact (k1 8 (by decide) (by decide)).trans hM.2.2.2.2.2.2) (by rw [fo_rn _ _ (by decide), fo_rn _ _ (by decide)]; exact k2 619 (by decide) (by decide) (by decide)) (by rw [fo_rn _ _ (by decide), fo_rn _ _ (by decide)]; exact k2 622 (by decide) (by decide) (by decide)), Nat.le_trans hV.2.1 hV.1⟩, fun x h => (by cases h), fun b hb => by rw [fo_rn _ _ (by omega), fo_rn _ _ (by omega)]; exact k2 b (by omega) (by omega) (by omega), rfl, rfl, rfl⟩))
  · obtain ⟨Cs, hCs1, hCs2, hcks, h30, h60, hV, hC, hU⟩ := hpr.2 x (by rw [hA])
    refine fo_aload_n C dX7_run_8 0 rfl rfl 9 rfl ?_
    refine fo_get C dX7_run_9 fK9 (by decide : fo_k 616 = 9) (by decide) 23 (by decide) fl_X7_81 (v := .int (fo_b (false))) (congrArg (fun x => some (Value.int x)) (hV.2.2.2.2.1)) 12 rfl ?_
    refine fo_bif_eq C dX7_run_12 29 (by decide) 15 rfl (fun c20 => ?_) (fun c20 => ?_)
    · refine fo_iconst C dX7_run_29 (nI 0) ki_0 30 rfl ?_
      refine fo_istore_n C dX7_run_30 rfl [(1, .int (nI 0)), (0, .ref (Λ.2.2.1 616))] rfl (by decide) 31 rfl ?_
      have hL31 : ∀ (m31 : Nat) (k : Nat) (sk : fa_S) (Y : fo_Mi), Cs.length + 1 - k < m31 → k ≤ Cs.length → fm_R (Y 617) sk → (∀ b, b ≠ 617 → Y b = I8 b) → fa_run s x.1 = fa_run sk (fm_all k (Cs.drop k)) → fo_G l Λ { frames := 5, cells := 0, slots := 0, locals := 114 } K 0 0 31 [(1, .int (nI k)), (0, .ref (Λ.2.2.1 616))] [] Y D J X := by
        intro m31
        induction m31 with
        | zero => intro k sk Y hm; exact absurd hm (Nat.not_lt_zero _)
        | succ m31 ih31 =>
          intro k sk Y hm31 hkl hRk hYf hinv
          refine fo_iload_n C dX7_run_31 0 rfl rfl 32 rfl ?_
          refine fo_aload_n C dX7_run_32 1 rfl rfl 33 rfl ?_
          refine fo_get C dX7_run_33 fK9 (by decide : fo_k 616 = 9) (by decide) 21 (by decide) fl_X7_75 (v := .int (nI (Cs.length))) (congrArg (fun x => some (Value.int x)) ((by rw [hYf 616 (by decide)]; exact hC.1))) 36 rfl ?_
          refine fo_ncmp_ge C (by omega) (by omega) dX7_run_36 80 (by decide) 39 rfl (fun c21 => ?_) (fun c21 => ?_)
          · have hfin : fa_run s x.1 = .inr sk := by rw [hinv, show k = Cs.length by omega, List.drop_length]; rfl
            refine fo_aload_n C dX7_run_80 1 rfl rfl 81 rfl ?_
            refine fo_aload_n C dX7_run_81 1 rfl rfl 82 rfl ?_
            refine fo_get C dX7_run_82 fK9 (by decide : fo_k 616 = 9) (by decide) 21 (by decide) fl_X7_75 (v := .int (nI (Cs.length))) (congrArg (fun x => some (Value.int x)) ((by rw [hYf 616 (by decide)]; exact hC.1))) 85 rfl ?_
            refine fo_qvi C dX7_run_85 (mX7_commit (hs := hs) (s0 := s) (x := nI Cs.length) (hM.2.1.mv (by rw [hYf 616 (by decide)]; exact k1 6 (by decide) (by decide)) (by rw [hYf 620 (by decide)]; exact k2 620 (by decide) (by decide) (by decide))) (by rw [hYf 618 (by decide)]; exact hb2)) lv_X7_117 (by decide : fo_k 616 = 9) rfl (by decide) rfl ⟨Nat.le_of_ble_eq_true rfl, Nat.le_of_ble_eq_true rfl⟩ ⟨Nat.le_of_ble_eq_true rfl, Nat.le_of_ble_eq_true rfl⟩ [] rfl (Nat.le_of_ble_eq_true rfl) 88 rfl (fun r22 I23 D24 J25 X26 p27 => ?_)
            obtain ⟨rfl, hh3, c4, c5, z3, z4, z5⟩ := p27
            obtain rfl := z3.symm
            obtain rfl := z4.symm
            obtain rfl := z5.symm
            exact fin dX7_run_88 rfl ((by rw [hA]; exact ⟨fun h => (by cases h), fun y h => (by cases h; exact ⟨fun o2 h2 => (by rw [hfin] at h2; cases h2), fun s2 h2 => (by
                      rw [hfin] at h2
                      cases h2
                      exact ⟨by rw [hCs2], (by rw [c5 5 (by decide), hYf 616 (by decide)]; exact k5), hM.run (by rw [c4 617 (by decide) (by decide)]; exact hRk) hh3 (by rw [c5 9 (by decide), hYf 616 (by decide)]; exact k1 9 (by decide) (by decide)) (by rw [c5 11 (by decide), hYf 616 (by decide)]; exact k1 11 (by decide) (by decide)) (by rw [c5 18 (by decide), hYf 616 (by decide)]; exact h18) (by rw [c5 7 (by decide), hYf 616 (by decide)]; exact (k1 7 (by decide) (by decide)).trans hM.2.2.2.2.2.1) (by rw [c5 8 (by decide), hYf 616 (by decide)]; exact (k1 8 (by decide) (by decide)).trans hM.2.2.2.2.2.2) (by rw [c4 619 (by decide) (by decide), hYf 619 (by decide)]; exact k2 619 (by decide) (by decide) (by decide)) (by rw [c4 622 (by decide) (by decide), hYf 622 (by decide)]; exact k2 622 (by decide) (by decide) (by decide))⟩)⟩), fun b hb => by rw [c4 b (by omega) (by omega), hYf b (by omega)]; exact k2 b (by omega) (by omega) (by omega), rfl, rfl, rfl⟩))
          · refine fo_aload_n C dX7_run_39 1 rfl rfl 40 rfl ?_
            refine fo_iload_n C dX7_run_40 0 rfl rfl 41 rfl ?_
            obtain ⟨c, hck9⟩ : ∃ c, Cs[k]? = some c := ⟨_, List.getElem?_eq_getElem (show k < Cs.length by omega)⟩
            refine fo_qvi C dX7_run_41 (mX7_cannot (k := k) (s := sk) (c := c) hRk (fm_C.of17 hC hYf) (fm_U.of17 hU hYf) hck9 (hcks c (List.mem_of_getElem? hck9)) h30 h60) lv_X7_268 (by decide : fo_k 616 = 9) rfl (by decide) rfl ⟨Nat.le_of_ble_eq_true rfl, Nat.le_of_ble_eq_true rfl⟩ ⟨Nat.le_of_ble_eq_true rfl, Nat.le_of_ble_eq_true rfl⟩ [] rfl (Nat.le_of_ble_eq_true rfl) 44 rfl (fun r28 I29 D30 J31 X32 p33 => ?_)
            obtain ⟨ha, hb, hcf, z3, z4, z5⟩ := p33
            obtain rfl := z3.symm
            obtain rfl := z4.symm
            obtain rfl := z5.symm
            have hYg : ∀ b, b ≠ 617 → I29 b = I8 b := fun b hb9 => (hcf b hb9).trans (hYf b hb9)
            rcases hru : fa_run sk (fm_sc k c) with o | s2
            · obtain ⟨rfl, rfl⟩ := ha o hru
              have hfin : fa_run s x.1 = .inl o := by rw [hinv, fm_all_drop hck9, fa_run_app, hru]
              refine fo_bif_ne C dX7_run_44 50 (by decide) 47 rfl (fun c34 => ?_) (fun c34 => ?_)
              · refine fo_aload_n C dX7_run_50 1 rfl rfl 51 rfl ?_
                refine fo_get C dX7_run_51 fK9 (by decide : fo_k 616 = 9) (by decide) 1 (by decide) fl_X7_13 (v := .ref (Λ.2.2.1 618)) rfl 54 rfl ?_
                refine fo_iconst C dX7_run_54 (nI 0) ki_0 55 rfl ?_
                refine fo_aload_n C dX7_run_55 1 rfl rfl 56 rfl ?_
                refine fo_get C dX7_run_56 fK9 (by decide : fo_k 616 = 9) (by decide) 0 (by decide) fl_X7_7 (v := .ref (Λ.2.2.1 617)) rfl 59 rfl ?_
                refine fo_iconst C dX7_run_59 (nI 0) ki_0 60 rfl ?_
                refine fo_qsv C dX7_run_60 (mX7_copy (x := 618) (y := 617) (a := 0) (b := 0) (nx := 150) (ny := 150) (by decide) (by decide) rfl rfl (by omega) (by omega) (by decide) (by decide) (by omega)) ls_X7_84 rfl ⟨Nat.le_of_ble_eq_true rfl, Nat.le_of_ble_eq_true rfl⟩ ⟨Nat.le_of_ble_eq_true rfl, Nat.le_of_ble_eq_true rfl⟩ [] rfl (Nat.le_of_ble_eq_true rfl) 63 rfl (fo_erv ?_)
                refine fo_aload_n C dX7_run_63 1 rfl rfl 64 rfl ?_
                refine fo_iload_n C dX7_run_64 0 rfl rfl 65 rfl ?_
                refine fo_put C dX7_run_65 fK9 (by decide : fo_k 616 = 9) (by decide) 8 (by decide) fl_X7_35 rfl rfl rfl rfl (Nat.le_of_ble_eq_true rfl) 68 rfl ?_
                refine fo_aload_n C dX7_run_68 1 rfl rfl 69 rfl ?_
                refine fo_iconst C dX7_run_69 (nI 2) ki_2 70 rfl ?_
                refine fo_qvi C dX7_run_70 (mX7_fail (x := (nI (2)))) lv_X7_111 (by decide : fo_k 616 = 9) rfl (by decide) rfl ⟨Nat.le_of_ble_eq_true rfl, Nat.le_of_ble_eq_true rfl⟩ ⟨Nat.le_of_ble_eq_true rfl, Nat.le_of_ble_eq_true rfl⟩ [] rfl (Nat.le_of_ble_eq_true rfl) 73 rfl (fo_er ?_)
                exact fin dX7_run_73 rfl ((by rw [hA]; exact ⟨fun h => (by cases h), fun y h => (by cases h; exact ⟨fun o2 h2 => (by
                          rw [hfin] at h2
                          cases h2
                          exact ⟨by rw [fo_rs, pk_us], hM.run (by rw [fo_rn _ _ (by decide), fo_rn _ _ (by decide), fo_rs]; exact hb2.cong (fun j hj => by rw [fm_cp_in (by omega) (by omega), hYg 618 (by decide)]; exact congrArg (I8 618) (by omega))) (hM.2.1.mv (by rw [fo_rs, pk_un (by decide), fo_rs, pk_un (by decide), fo_rn _ _ (by decide), hYg 616 (by decide)]; exact k1 6 (by decide) (by decide)) (by rw [fo_rn _ _ (by decide), fo_rn _ _ (by decide), fo_rn _ _ (by decide), hYg 620 (by decide)]; exact k2 620 (by decide) (by decide) (by decide))) (by rw [fo_rs, pk_un (by decide), fo_rs, pk_un (by decide), fo_rn _ _ (by decide), hYg 616 (by decide)]; exact k1 9 (by decide) (by decide)) (by rw [fo_rs, pk_un (by decide), fo_rs, pk_un (by decide), fo_rn _ _ (by decide), hYg 616 (by decide)]; exact k1 11 (by decide) (by decide)) (by rw [fo_rs, pk_un (by decide), fo_rs, pk_un (by decide), fo_rn _ _ (by decide), hYg 616 (by decide)]; exact h18) (by rw [fo_rs, pk_un (by decide), fo_rs, pk_un (by decide), fo_rn _ _ (by decide), hYg 616 (by decide)]; exact (k1 7 (by decide) (by decide)).trans hM.2.2.2.2.2.1) (by rw [fo_rs, pk_un (by decide), fo_rs, pk_us]) (by rw [fo_rn _ _ (by decide), fo_rn _ _ (by decide), fo_rn _ _ (by decide), hYg 619 (by decide)]; exact k2 619 (by decide) (by decide) (by decide)) (by rw [fo_rn _ _ (by decide), fo_rn _ _ (by decide), fo_rn _ _ (by decide), hYg 622 (by decide)]; exact k2 622 (by decide) (by decide) (by decide)), by omega⟩), fun s2 h2 => (by rw [hfin] at h2; cases h2)⟩), fun b hb => by rw [fo_rn _ _ (by omega), fo_rn _ _ (by omega), fo_rn _ _ (by omega), hYg b (by omega)]; exact k2 b (by omega) (by omega) (by omega), rfl, rfl, rfl⟩))
              · exact absurd c34 (by decide)
            · obtain ⟨rfl, hR3⟩ := hb s2 hru
              have hin9 : fa_run s x.1 = fa_run s2 (fm_all (k + 1) (Cs.drop (k + 1))) := by rw [hinv, fm_all_drop hck9, fa_run_app, hru]
              refine fo_bif_ne C dX7_run_44 50 (by decide) 47 rfl (fun c47 => ?_) (fun c47 => ?_)
              · exact absurd c47 (by decide)
              · refine fo_goto C dX7_run_47 74 (by decide) ?_
                refine fo_iinc C dX7_run_74 0 rfl (nI (k + 1)) (nI_inc1 _) [(1, .int (nI (k + 1))), (0, .ref (Λ.2.2.1 616))] rfl (by decide) 77 rfl ?_
                refine fo_goto C dX7_run_77 31 (by decide) ?_
                exact ih31 (k + 1) s2 I29 (by omega) (by omega) hR3 hYg hin9
      exact hL31 (Cs.length + 1 + 1) 0 s I8 (by omega) (Nat.zero_le _) hR2 (fun _ _ => rfl) (by rw [← hCs1]; rfl)
    · exact absurd c20 (by decide)
