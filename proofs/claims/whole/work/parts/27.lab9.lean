/-! THE LABORATORY: run -/
theorem fs_Q.mono2 {I I2 : fo_Mi} {n : Nat} {t : Nat → Nat} (h : fs_Q I n t) (hc : ∀ c, 608 ≤ c → c ≤ 609 → I2 c = I c) : fs_Q I2 n t := ⟨h.1, by rw [hc 608 (by omega) (by omega)]; exact h.2.1, fun j hj => by rw [hc 609 (by omega) (by omega)]; exact h.2.2 j hj⟩
set_option maxRecDepth 10000 in
set_option maxHeartbeats 4000000 in
theorem mX6_run {l : Launch} {Λ : fo_Lt} {I : fo_Mi} {D : fo_Md} {J : fo_Mj} {X : fo_Mi} (hfl : l.stackTraces = false) {np lim : Nat} {kd par n : Nat → Nat} {v : Nat → Nat → Nat} {hs : List fa_S} {m : Nat} {t : Nat → Nat} (hf : fs_F I D 0 np lim kd par n v) (hh : fl_H I D hs) (hq : fs_Q I m t) : fx_i l yX6_run cX6_run 3 .int 9 223 1 6 Λ [.ref (Λ.2.2.1 605)] I D J X ((fun r I' D' J' X' => ∃ l c s, (fq_all m t 60 0 0).1 = some (l, c) ∧ fa_run (np, lim, kd, par, n, v) l = .inr s ∧ r = nI c ∧ fs_FS I' D' 0 s ∧ fl_H I' D' (((np, lim, kd, par, n, v) :: hs).take 8) ∧ fs_Q I' 0 t ∧ (∀ c, (55 ≤ c ∧ c < 110 ∨ c = 605 ∨ 614 ≤ c) → I' c = I c ∧ D' c = D c) ∧ J' = J)) ((fun E I' D' J' X' => (E = "java/lang/IllegalArgumentException" ∧ (fq_all m t 60 0 0).1 = none ∧ I' 605 6 = nI (fq_all m t 60 0 0).2 ∧ (∀ j, j ≠ 6 → I' 605 j = I 605 j) ∧ fs_Q I' 0 t ∧ (∀ c, (c < 605 ∨ c = 606 ∨ c = 607 ∨ 614 ≤ c) → I' c = I c) ∧ D' = D ∧ J' = J) ∨ (E = "java/lang/UnsupportedOperationException" ∧ (∃ l c o, (fq_all m t 60 0 0).1 = some (l, c) ∧ fa_run (np, lim, kd, par, n, v) l = .inl o ∧ I' 605 7 = nI o) ∧ (∀ j, j ≠ 7 → I' 605 j = I 605 j) ∧ fs_Q I' 0 t ∧ fs_F I' D' 0 np lim kd par n v ∧ fl_H I' D' hs ∧ (∀ c, (55 ≤ c ∧ c < 110 ∨ 614 ≤ c) → I' c = I c ∧ D' c = D c) ∧ J' = J))) := by
  obtain ⟨x, hx9, hn0, hc0, h48, h5⟩ := hh
  refine fo_sxi hfl (by decide) [(0, .ref (Λ.2.2.1 605))] rfl (Nat.le_of_ble_eq_true rfl) (fun K C fin out thr => ?_)
  refine fo_aload_n C dX6_run_0 0 rfl rfl 1 rfl ?_
  refine fo_get C dX6_run_1 fK8 (by decide : fo_k 605 = 8) (by decide) 3 (by decide) fl_X6_29 (v := .ref (Λ.2.2.1 608)) rfl 4 rfl ?_
  refine fo_qvi C dX6_run_4 (mX2_parse hq) lv_X6_247 (by decide : fo_k 608 = 4) rfl (by decide) rfl ⟨Nat.le_of_ble_eq_true rfl, Nat.le_of_ble_eq_true rfl⟩ ⟨Nat.le_of_ble_eq_true rfl, Nat.le_of_ble_eq_true rfl⟩ [] rfl (Nat.le_of_ble_eq_true rfl) 7 rfl (fun r1 I2 D3 J4 X5 p6 => ?_)
  obtain ⟨rfl, gq, gp, gv, gf, z9⟩ := p6
  obtain ⟨rfl, rfl, rfl⟩ := fo_sym3 z9
  refine fo_istore_n C dX6_run_7 rfl [(1, .int (fo_b ((fq_all m t 60 0 0).1.isSome))), (0, .ref (Λ.2.2.1 605))] rfl (by decide) 8 rfl ?_
  refine fo_aload_n C dX6_run_8 1 rfl rfl 9 rfl ?_
  refine fo_get C dX6_run_9 fK8 (by decide : fo_k 605 = 8) (by decide) 3 (by decide) fl_X6_29 (v := .ref (Λ.2.2.1 608)) rfl 12 rfl ?_
  refine fo_iconst C dX6_run_12 (nI 0) ki_0 13 rfl ?_
  refine fo_put C dX6_run_13 fK4 (by decide : fo_k 608 = 4) (by decide) 1 (by decide) fl_X6_243 rfl rfl rfl rfl (Nat.le_of_ble_eq_true rfl) 16 rfl ?_
  have hM : ∀ c, (c < 608 ∨ 614 ≤ c) → (fo_r I2 608 (upd (I2 608) 1 (nI (0)))) c = I c := fun c c9 => (fo_rn _ _ (by omega)).trans (gf c (by omega) (by omega) (by omega) (by omega) (by omega))
  have hQ0 : fs_Q (fo_r I2 608 (upd (I2 608) 1 (nI (0)))) 0 t := ⟨Nat.zero_le _, by rw [fo_rs, pk_us], fun j hj => absurd hj (Nat.not_lt_zero _)⟩
  have hp1 : (fo_r I2 608 (upd (I2 608) 1 (nI (0)))) 608 2 = nI (fq_all m t 60 0 0).2 := by rw [fo_rs, pk_un (by decide)]; exact gp
  refine fo_iload_n C dX6_run_16 0 rfl rfl 17 rfl ?_
  refine fo_bif_ne C dX6_run_17 39 (by decide) 20 rfl (fun c7 => ?_) (fun c7 => ?_)
  · obtain ⟨⟨l9, c9⟩, hx⟩ := Option.isSome_iff_exists.mp c7
    have hV := gv _ hx
    have hSt0 := hV.St
    have hc60 : c9 ≤ 60 := Nat.le_trans hV.2.2.1 (Nat.le_trans hV.2.1 hV.1.1)
    have hSt : fs_St (fo_r I2 608 (upd (I2 608) 1 (nI (0)))) l9 := hSt0.mono (by rw [fo_rs, pk_un (by decide)]) (fun c c1 c2 => fo_rn _ _ (by omega))
    have hcm : (fo_r I2 608 (upd (I2 608) 1 (nI (0)))) 608 3 = nI c9 := by rw [fo_rs, pk_un (by decide)]; exact hV.2.2.2.2.2.1
    have hfM : fs_F (fo_r I2 608 (upd (I2 608) 1 (nI (0)))) D 0 np lim kd par n v := hf.mono (fun c _ c2 => ⟨hM c (by omega), rfl⟩)
    have hnM : (fo_r I2 608 (upd (I2 608) 1 (nI (0)))) 606 1 = nI x := by rw [hM 606 (by omega)]; exact hn0
    refine fo_aload_n C dX6_run_39 1 rfl rfl 40 rfl ?_
    refine fo_get C dX6_run_40 fK8 (by decide : fo_k 605 = 8) (by decide) 2 (by decide) fl_X6_22 (v := .ref (Λ.2.2.1 606)) rfl 43 rfl ?_
    refine fo_aload_n C dX6_run_43 1 rfl rfl 44 rfl ?_
    refine fo_get C dX6_run_44 fK8 (by decide : fo_k 605 = 8) (by decide) 0 (by decide) fl_X6_12 (v := .ref (Λ.2.2.1 0)) rfl 47 rfl ?_
    refine fo_qvv C dX6_run_47 (mX1_write hfM hx9 hnM (by omega)) lv_X6_253 (by decide : fo_k 606 = 3) rfl (by decide) rfl ⟨Nat.le_of_ble_eq_true rfl, Nat.le_of_ble_eq_true rfl⟩ ⟨Nat.le_of_ble_eq_true rfl, Nat.le_of_ble_eq_true rfl⟩ [] rfl (Nat.le_of_ble_eq_true rfl) 50 rfl (fun I9 D10 J11 X12 p13 => ?_)
    obtain ⟨g2, f2, z9⟩ := p13
    obtain ⟨rfl, rfl⟩ : J = J11 ∧ X = X12 := ⟨z9.1.symm, z9.2.symm⟩
    have hS2 : fs_FS I9 D10 0 (np, lim, kd, par, n, v) := hfM.mono (fun c _ c2 => f2 c (by omega))
    have hSt2 : fs_St I9 l9 := hSt.mono (by rw [(f2 608 (by omega)).1]) (fun c c1 c2 => (f2 c (by omega)).1)
    refine fo_aload_n C dX6_run_50 1 rfl rfl 51 rfl ?_
    refine fo_qvi C dX6_run_51 (mX6_firstFailedCommand hS2 hSt2 (fun i q hq9 => fq_all_kk hx q (List.mem_of_getElem? hq9))) lv_X6_257 (by decide : fo_k 605 = 8) rfl (by decide) rfl ⟨Nat.le_of_ble_eq_true rfl, Nat.le_of_ble_eq_true rfl⟩ ⟨Nat.le_of_ble_eq_true rfl, Nat.le_of_ble_eq_true rfl⟩ [] rfl (Nat.le_of_ble_eq_true rfl) 54 rfl (fun r14 I15 D16 J17 X18 p19 => ?_)
    obtain ⟨a1, a2, f3, rfl⟩ := p19
    have hn3 : I15 606 1 = nI x := by rw [(f3 606 (by omega)).1, (f2 606 (by omega)).1]; exact hnM
    have hc3 : I15 606 2 = nI hs.length := by rw [(f3 606 (by omega)).1, (f2 606 (by omega)).1, hM 606 (by omega)]; exact hc0
    have hcm3 : I15 608 3 = nI c9 := by rw [(f3 608 (by omega)).1, (f2 608 (by omega)).1]; exact hcm
    have g3 : fs_F I15 D16 (110 + 55 * x) np lim kd par n v := g2.mono (fun c c1 c2 => f3 c (by omega))
    have h53 : ∀ j s, hs[j]? = some s → fs_FS I15 D16 (110 + 55 * ((x + 8 - j) % 9)) s := fun j s hj => (h5 j s hj).mono (fun c c1 c2 => by
      have hj8 := (List.getElem?_eq_some_iff.mp hj).1
      have hlt : (x + 8 - j) % 9 < 9 := Nat.mod_lt _ (by decide)
      have hne : (x + 8 - j) % 9 ≠ x := by omega
      exact ⟨(f3 c (by omega)).1.trans ((f2 c (by omega)).1.trans (hM c (by omega))), (f3 c (by omega)).2.trans (f2 c (by omega)).2⟩)
    rcases hrun : fa_run (np, lim, kd, par, n, v) l9 with o | s9
    · obtain rfl := a1 o hrun
      have ho60 : o ≤ 60 := by obtain ⟨q, h1, h2⟩ := fa_run_in hrun; obtain ⟨j, hj⟩ := List.getElem?_of_mem h1; have := (hSt.2.2 j q hj).2.2.2.2.2.2.2; omega
      refine fo_istore_n C dX6_run_54 rfl [(2, .int (nI o)), (1, .int (fo_b ((fq_all m t 60 0 0).1.isSome))), (0, .ref (Λ.2.2.1 605))] rfl (by decide) 55 rfl ?_
      refine fo_iload_n C dX6_run_55 0 rfl rfl 56 rfl ?_
      refine fo_iconst C dX6_run_56 (-1) (by decide) 57 rfl ?_
      refine fo_icmp_eq C dX6_run_57 84 (by decide) 60 rfl (fun c20 => ?_) (fun c20 => ?_)
      · exact absurd c20 (fo_ow_ne (by omega))
      · refine fo_aload_n C dX6_run_60 2 rfl rfl 61 rfl ?_
        refine fo_get C dX6_run_61 fK8 (by decide : fo_k 605 = 8) (by decide) 2 (by decide) fl_X6_22 (v := .ref (Λ.2.2.1 606)) rfl 64 rfl ?_
        refine fo_aload_n C dX6_run_64 2 rfl rfl 65 rfl ?_
        refine fo_get C dX6_run_65 fK8 (by decide : fo_k 605 = 8) (by decide) 0 (by decide) fl_X6_12 (v := .ref (Λ.2.2.1 0)) rfl 68 rfl ?_
        refine fo_qvv C dX6_run_68 (mX1_read (b := 0) g3 hx9 hn3 (by decide) (by omega)) lv_X6_260 (by decide : fo_k 606 = 3) rfl (by decide) rfl ⟨Nat.le_of_ble_eq_true rfl, Nat.le_of_ble_eq_true rfl⟩ ⟨Nat.le_of_ble_eq_true rfl, Nat.le_of_ble_eq_true rfl⟩ [] rfl (Nat.le_of_ble_eq_true rfl) 71 rfl (fun I22 D23 J24 X25 p26 => ?_)
        obtain ⟨g4, f4, z9⟩ := p26
        obtain ⟨rfl, rfl⟩ : J17 = J24 ∧ X18 = X25 := ⟨z9.1.symm, z9.2.symm⟩
        refine fo_aload_n C dX6_run_71 2 rfl rfl 72 rfl ?_
        refine fo_iload_n C dX6_run_72 0 rfl rfl 73 rfl ?_
        refine fo_put C dX6_run_73 fK8 (by decide : fo_k 605 = 8) (by decide) 7 (by decide) fl_X6_44 rfl rfl rfl rfl (Nat.le_of_ble_eq_true rfl) 76 rfl ?_
        exact thr tf_UnsupportedOperation dX6_run_76 dX6_run_79 dX6_run_80 dX6_run_83 (by decide) (Nat.le_of_ble_eq_true rfl) (Nat.le_of_ble_eq_true rfl) (Nat.le_of_ble_eq_true rfl) (Or.inr ⟨rfl, ⟨l9, c9, o, hx, hrun, by rw [fo_rs, pk_us]⟩, fun j hj => by rw [fo_rs, pk_un hj, (f4 605 (by omega)).1, (f3 605 (by omega)).1, (f2 605 (by omega)).1, hM 605 (by omega)], hQ0.mono2 (fun c c1 c2 => (fo_rn _ _ (by omega)).trans ((f4 c (by omega)).1.trans ((f3 c (by omega)).1.trans (f2 c (by omega)).1))), fs_F.mono g4 (fun c c1 c2 => ⟨fo_rn _ _ (by omega), rfl⟩), ⟨x, hx9, by rw [fo_rn _ _ (by decide), (f4 606 (by omega)).1]; exact hn3, by rw [fo_rn _ _ (by decide), (f4 606 (by omega)).1]; exact hc3, h48, fun j s hj => (h53 j s hj).mono (fun c c1 c2 => ⟨(fo_rn _ _ (by omega)).trans (f4 c (by omega)).1, (f4 c (by omega)).2⟩)⟩, fun c c1 => ⟨(fo_rn _ _ (by omega)).trans ((f4 c (by omega)).1.trans ((f3 c (by omega)).1.trans ((f2 c (by omega)).1.trans (hM c (by omega))))), (f4 c (by omega)).2.trans ((f3 c (by omega)).2.trans (f2 c (by omega)).2)⟩, rfl⟩)
    · obtain ⟨rfl, g9⟩ := a2 s9 hrun
      refine fo_istore_n C dX6_run_54 rfl [(2, .int (-1)), (1, .int (fo_b ((fq_all m t 60 0 0).1.isSome))), (0, .ref (Λ.2.2.1 605))] rfl (by decide) 55 rfl ?_
      refine fo_iload_n C dX6_run_55 0 rfl rfl 56 rfl ?_
      refine fo_iconst C dX6_run_56 (-1) (by decide) 57 rfl ?_
      refine fo_icmp_eq C dX6_run_57 84 (by decide) 60 rfl (fun c27 => ?_) (fun c27 => ?_)
      · refine fo_aload_n C dX6_run_84 2 rfl rfl 85 rfl ?_
        refine fo_get C dX6_run_85 fK8 (by decide : fo_k 605 = 8) (by decide) 2 (by decide) fl_X6_22 (v := .ref (Λ.2.2.1 606)) rfl 88 rfl ?_
        refine fo_qvv C dX6_run_88 (mX1_advance (x := x) (c := hs.length) hx9 h48 hn3 hc3) lv_X6_266 (by decide : fo_k 606 = 3) rfl (by decide) rfl ⟨Nat.le_of_ble_eq_true rfl, Nat.le_of_ble_eq_true rfl⟩ ⟨Nat.le_of_ble_eq_true rfl, Nat.le_of_ble_eq_true rfl⟩ [] rfl (Nat.le_of_ble_eq_true rfl) 91 rfl (fun I29 D30 J31 X32 p33 => ?_)
        obtain ⟨e1, e2, e3, z9⟩ := p33
        obtain ⟨rfl, rfl, rfl⟩ := fo_sym3 z9
        refine fo_aload_n C dX6_run_91 2 rfl rfl 92 rfl ?_
        refine fo_get C dX6_run_92 fK8 (by decide : fo_k 605 = 8) (by decide) 3 (by decide) fl_X6_29 (v := .ref (Λ.2.2.1 608)) rfl 95 rfl ?_
        refine fo_get C dX6_run_95 fK4 (by decide : fo_k 608 = 4) (by decide) 3 (by decide) fl_X6_269 (v := .int (nI c9)) (congrArg (fun x => some (Value.int x)) ((by rw [e3 608 (by decide)]; exact hcm3))) 98 rfl ?_
        exact fin dX6_run_98 rfl (Nat.le_of_ble_eq_true rfl) (Nat.le_of_ble_eq_true rfl) (⟨l9, c9, s9, hx, hrun, rfl, fs_FS.mono g9 (fun c c1 c2 => ⟨e3 c (by omega), rfl⟩), fl_H.push hx9 hc3 h48 h53 g3 (fun c _ => ⟨rfl, rfl⟩) e1 e2 e3, hQ0.mono2 (fun c c1 c2 => (e3 c (by omega)).trans ((f3 c (by omega)).1.trans (f2 c (by omega)).1)), fun c c1 => ⟨(e3 c (by omega)).trans ((f3 c (by omega)).1.trans ((f2 c (by omega)).1.trans (hM c (by omega)))), (f3 c (by omega)).2.trans (f2 c (by omega)).2⟩, rfl⟩)
      · exact absurd rfl c27
  · have hno : (fq_all m t 60 0 0).1 = none := by cases hz : (fq_all m t 60 0 0).1 with | none => rfl | some q => simp_all
    refine fo_aload_n C dX6_run_20 1 rfl rfl 21 rfl ?_
    refine fo_aload_n C dX6_run_21 1 rfl rfl 22 rfl ?_
    refine fo_get C dX6_run_22 fK8 (by decide : fo_k 605 = 8) (by decide) 3 (by decide) fl_X6_29 (v := .ref (Λ.2.2.1 608)) rfl 25 rfl ?_
    refine fo_get C dX6_run_25 fK4 (by decide : fo_k 608 = 4) (by decide) 2 (by decide) fl_X6_250 (v := .int (nI ((fq_all m t 60 0 0).2))) (congrArg (fun x => some (Value.int x)) (hp1)) 28 rfl ?_
    refine fo_put C dX6_run_28 fK8 (by decide : fo_k 605 = 8) (by decide) 6 (by decide) fl_X6_40 rfl rfl rfl rfl (Nat.le_of_ble_eq_true rfl) 31 rfl ?_
    exact thr tf_IllegalArgument dX6_run_31 dX6_run_34 dX6_run_35 dX6_run_38 (by decide) (Nat.le_of_ble_eq_true rfl) (Nat.le_of_ble_eq_true rfl) (Nat.le_of_ble_eq_true rfl) (Or.inl ⟨rfl, hno, by rw [fo_rs, pk_us], fun j hj => by rw [fo_rs, pk_un hj, hM 605 (by omega)], hQ0.mono2 (fun c c1 c2 => fo_rn _ _ (by omega)), fun c c9 => (fo_rn _ _ (by omega)).trans (hM c (by omega)), rfl, rfl⟩)
