/-! THE LAW: changes of the laboratory -/

/-- the laboratory, whole -/
def ll (I : fo_Mi) (D : fo_Md) (s : fa_S) (hs : List fa_S) (ks : Option fa_S) (L : List Nat) (m : Nat) (t : Nat → Nat) (e f : Int32) : Prop := fs_FS I D 0 s ∧ fl_H I D hs ∧ fl_K I D ks ∧ fs_L I L ∧ fs_Q I m t ∧ I 605 6 = e ∧ I 605 7 = f
/-- outside the laboratory nothing changes -/
def fl_g (I : fo_Mi) (D : fo_Md) (I' : fo_Mi) (D' : fo_Md) : Prop := ∀ c, 616 ≤ c → I' c = I c ∧ D' c = D c
theorem fl_g.rf {I : fo_Mi} {D : fo_Md} : fl_g I D I D := fun _ _ => ⟨rfl, rfl⟩
section
variable {I I' : fo_Mi} {D D' : fo_Md} {s s2 : fa_S} {hs hs2 : List fa_S} {ks : Option fa_S} {L : List Nat} {m : Nat} {t : Nat → Nat} {e f : Int32}
theorem fl_H.mono9 (h : fl_H I D hs) (hc : ∀ c, (110 ≤ c ∧ c < 605 ∨ c = 606) → I' c = I c ∧ D' c = D c) : fl_H I' D' hs := by
  obtain ⟨x, h1, h2, h3, h4, h5⟩ := h
  exact ⟨x, h1, by rw [(hc 606 (by decide)).1]; exact h2, by rw [(hc 606 (by decide)).1]; exact h3, h4, fun j q hj => (h5 j q hj).mono (fun c c1 c2 => hc c (by omega))⟩
theorem fl_K.mono (h : fl_K I D ks) (hc : ∀ c, 55 ≤ c → c < 110 → I' c = I c ∧ D' c = D c) (h5 : I' 605 5 = I 605 5) : fl_K I' D' ks := ⟨h5.trans h.1, fun q hq => (h.2 q hq).mono (fun c c1 c2 => hc c c1 (by omega))⟩
theorem fs_L.mono (h : fs_L I L) (e1 : I' 614 = I 614) (e2 : I' 615 = I 615) : fs_L I' L := ⟨h.1, by rw [e1]; exact h.2.1, by rw [e2]; exact h.2.2⟩
theorem fs_Q.mono (h : fs_Q I m t) (e1 : I' 608 = I 608) (e2 : I' 609 = I 609) : fs_Q I' m t := ⟨h.1, by rw [e1]; exact h.2.1, by rw [e2]; exact h.2.2⟩
theorem ll.mono (h : ll I D s hs ks L m t e f) (hc : ∀ c, c < 616 → I' c = I c ∧ D' c = D c) : ll I' D' s hs ks L m t e f := by
  obtain ⟨h1, h2, h3, h4, h5, h6, h7⟩ := h
  exact ⟨h1.mono (fun c _ c2 => hc c (by omega)), h2.mono (fun c _ c2 => hc c (by omega)), h3.mono (fun c _ c2 => hc c (by omega)) (by rw [(hc 605 (by decide)).1]), h4.mono (hc 614 (by decide)).1 (hc 615 (by decide)).1, h5.mono (hc 608 (by decide)).1 (hc 609 (by decide)).1, by rw [(hc 605 (by decide)).1]; exact h6, by rw [(hc 605 (by decide)).1]; exact h7⟩
/-- the present state and the ring change -/
theorem ll.ch (h : ll I D s hs ks L m t e f) (g1 : fs_FS I' D' 0 s2) (g2 : fl_H I' D' hs2) (g3 : fl_f I D I' D') : ll I' D' s2 hs2 ks L m t e f := by
  obtain ⟨h1, h2, h3, h4, h5, h6, h7⟩ := h
  exact ⟨g1, g2, h3.mono (fun c c1 c2 => g3 c (by omega)) (by rw [(g3 605 (by decide)).1]), h4.mono (g3 614 (by decide)).1 (g3 615 (by decide)).1, h5.mono (g3 608 (by decide)).1 (g3 609 (by decide)).1, by rw [(g3 605 (by decide)).1]; exact h6, by rw [(g3 605 (by decide)).1]; exact h7⟩
theorem fl_f.g (g3 : fl_f I D I' D') : fl_g I D I' D' := fun c h => g3 c (by omega)
theorem ll.ln {L2 : List Nat} (h : ll I D s hs ks L m t e f) (g1 : fs_L I' L2) (g2 : fs_lf I I') : ll I' D s hs ks L2 m t e f := by
  obtain ⟨h1, h2, h3, h4, h5, h6, h7⟩ := h
  have hc : ∀ c, c < 614 → I' c = I c ∧ D c = D c := fun c h => ⟨g2 c (by omega) (by omega), rfl⟩
  exact ⟨h1.mono (fun c _ c2 => hc c (by omega)), h2.mono (fun c _ c2 => hc c (by omega)), h3.mono (fun c _ c2 => hc c (by omega)) (by rw [(hc 605 (by decide)).1]), g1, h5.mono (hc 608 (by decide)).1 (hc 609 (by decide)).1, by rw [(hc 605 (by decide)).1]; exact h6, by rw [(hc 605 (by decide)).1]; exact h7⟩
theorem fs_lf.g (g2 : fs_lf I I') : fl_g I D I' D := fun c h => ⟨g2 c (by omega) (by omega), rfl⟩
theorem ll.tx {m2 : Nat} {t2 : Nat → Nat} (h : ll I D s hs ks L m t e f) (g1 : fs_Q I' m2 t2) (g2 : ∀ b, b ≠ 608 → b ≠ 609 → I' b = I b) : ll I' D s hs ks L m2 t2 e f := by
  obtain ⟨h1, h2, h3, h4, h5, h6, h7⟩ := h
  have hc : ∀ c, c ≠ 608 → c ≠ 609 → I' c = I c ∧ D c = D c := fun c h h9 => ⟨g2 c h h9, rfl⟩
  exact ⟨h1.mono (fun c _ c2 => hc c (by omega) (by omega)), h2.mono (fun c _ c2 => hc c (by omega) (by omega)), h3.mono (fun c _ c2 => hc c (by omega) (by omega)) (by rw [(hc 605 (by decide) (by decide)).1]), h4.mono (hc 614 (by decide) (by decide)).1 (hc 615 (by decide) (by decide)).1, g1, by rw [(hc 605 (by decide) (by decide)).1]; exact h6, by rw [(hc 605 (by decide) (by decide)).1]; exact h7⟩
theorem ll.r0 (h : ll I D s hs ks L m t e f) (g1 : fs_FS I' D' 0 s2) (g2 : fl_H I' D' hs2) (g3 : fs_Q I' 0 t) (g4 : ∀ c, (55 ≤ c ∧ c < 110 ∨ c = 605 ∨ 614 ≤ c) → I' c = I c ∧ D' c = D c) : ll I' D' s2 hs2 ks L 0 t e f := by
  obtain ⟨h1, h2, h3, h4, h5, h6, h7⟩ := h
  exact ⟨g1, g2, h3.mono (fun c c1 c2 => g4 c (by omega)) (by rw [(g4 605 (by decide)).1]), h4.mono (g4 614 (by decide)).1 (g4 615 (by decide)).1, g3, by rw [(g4 605 (by decide)).1]; exact h6, by rw [(g4 605 (by decide)).1]; exact h7⟩
theorem ll.r1 {e2 : Int32} (h : ll I D s hs ks L m t e f) (g1 : I' 605 6 = e2) (g2 : ∀ j, j ≠ 6 → I' 605 j = I 605 j) (g3 : fs_Q I' 0 t) (g4 : ∀ c, (c < 605 ∨ c = 606 ∨ c = 607 ∨ 614 ≤ c) → I' c = I c) : ll I' D s hs ks L 0 t e2 f := by
  obtain ⟨h1, h2, h3, h4, h5, h6, h7⟩ := h
  exact ⟨h1.mono (fun c _ c2 => ⟨g4 c (by omega), rfl⟩), h2.mono9 (fun c c1 => ⟨g4 c (by omega), rfl⟩), h3.mono (fun c _ c2 => ⟨g4 c (by omega), rfl⟩) (g2 5 (by decide)), h4.mono (g4 614 (by decide)) (g4 615 (by decide)), g3, g1, by rw [g2 7 (by decide)]; exact h7⟩
theorem ll.r2 {f2 : Int32} (h : ll I D s hs ks L m t e f) (g1 : I' 605 7 = f2) (g2 : ∀ j, j ≠ 7 → I' 605 j = I 605 j) (g3 : fs_Q I' 0 t) (g5 : fs_FS I' D' 0 s) (g6 : fl_H I' D' hs) (g4 : ∀ c, (55 ≤ c ∧ c < 110 ∨ 614 ≤ c) → I' c = I c ∧ D' c = D c) : ll I' D' s hs ks L 0 t e f2 := by
  obtain ⟨h1, h2, h3, h4, h5, h6, h7⟩ := h
  exact ⟨g5, g6, h3.mono (fun c c1 c2 => g4 c (by omega)) (g2 5 (by decide)), h4.mono (g4 614 (by decide)).1 (g4 615 (by decide)).1, g3, by rw [g2 6 (by decide)]; exact h6, g1⟩
end
def fg_run (s : fa_S) (hs : List fa_S) (m : Nat) (t : Nat → Nat) (e f : Int32) : Nat × Int32 × fa_S × List fa_S × Int32 × Int32 := match (fq_all m t 60 0 0).1 with
  | none => (1, nI 0, s, hs, nI (fq_all m t 60 0 0).2, f)
  | some x => match fa_run s x.1 with
    | .inl o => (2, nI 0, s, hs, e, nI o)
    | .inr s2 => (0, nI x.2, s2, (s :: hs).take 8, e, f)
theorem fg_run_1 {s : fa_S} {hs : List fa_S} {m : Nat} {t : Nat → Nat} {e f : Int32} (h : (fq_all m t 60 0 0).1 = none) : fg_run s hs m t e f = (1, nI 0, s, hs, nI (fq_all m t 60 0 0).2, f) := by unfold fg_run; rw [h]
theorem fg_run_2 {s : fa_S} {hs : List fa_S} {m : Nat} {t : Nat → Nat} {e f : Int32} {l : List fq_s} {c o : Nat} (h : (fq_all m t 60 0 0).1 = some (l, c)) (h2 : fa_run s l = .inl o) : fg_run s hs m t e f = (2, nI 0, s, hs, e, nI o) := by unfold fg_run; rw [h]; show (match fa_run s l with | .inl o => _ | .inr s2 => _) = _; rw [h2]
theorem fg_run_t {s s2 : fa_S} {hs : List fa_S} {m : Nat} {t : Nat → Nat} {e f : Int32} {l : List fq_s} {c : Nat} (h : (fq_all m t 60 0 0).1 = some (l, c)) (h2 : fa_run s l = .inr s2) : fg_run s hs m t e f = (0, nI c, s2, (s :: hs).take 8, e, f) := by unfold fg_run; rw [h]; show (match fa_run s l with | .inl o => _ | .inr s2 => _) = _; rw [h2]


theorem fw_j2 {J : fo_Mj} {c : Nat} {x : Int32} {v : Int64} (h : v = x.toInt64) : ∃ jj, fo_r J 629 (vp_updL (J 629) 0 v) = fo_r J 629 jj ∧ (nI c = 0 → jj 0 = x.toInt64) := ⟨_, rfl, fun _ => h⟩
theorem fw_j3 {J : fo_Mj} {c : Nat} {x : Int32} (h : nI c ≠ 0) : ∃ jj, J = fo_r J 629 jj ∧ (nI c = 0 → jj 0 = x.toInt64) := ⟨J 629, (fo_rme J 629).symm, fun q => absurd q h⟩
theorem fg_ty_t {m : Nat} (h : m < 60) : fg_ty m = (0, nI (m + 1)) := if_pos h
theorem fg_ty_1 {m : Nat} (h : ¬ m < 60) : fg_ty m = (1, nI 0) := if_neg h
theorem fw_n1 : nI 1 ≠ 0 := by decide
theorem fw_n2 : nI 2 ≠ 0 := by decide
theorem fw_n3 : nI 3 ≠ 0 := by decide
theorem fw_kz {w q : Nat} (h : w = 108 ∨ w = 109 ∨ w = 100 ∨ w = 116 ∨ w = 115) (h1 : 1 ≤ q) (h9 : q ≤ 9) : (fo_kc w && fo_19 (nI q)) = true := by
  have e1 : fo_kc w = true := decide_eq_true h
  rw [e1, fo_19_nI h1 h9]
  rfl

set_option maxRecDepth 10000 in
set_option maxHeartbeats 4000000 in
theorem mL_addProphet {l : Launch} {Λ : fo_Lt} {I : fo_Mi} {D : fo_Md} {J : fo_Mj} {X : fo_Mi} (hfl : l.stackTraces = false) {np lim : Nat} {kd par n : Nat → Nat} {v : Nat → Nat → Nat} {hs : List fa_S} {ks : Option fa_S} {L : List Nat} {m : Nat} {t : Nat → Nat} {e f : Int32} {w : Nat} {z : Int32} (hw : w < 65536) (hl : ll I D (np, lim, kd, par, n, v) hs ks L m t e f) : fw_i l yL_addProphet cL_addProphet 5 7 186 1 6 [(0, 10, 13, 13), (0, 10, 17, 15)] Λ [.ref (Λ.2.2.1 605), .int (nI w), .int (z), .ref (Λ.2.2.1 629)] I D J X ((fun r I' D' J' X' => r = nI ((fg_add (np, lim, kd, par, n, v) w z).1) ∧ ll I' D' (fg_ns (fg_add (np, lim, kd, par, n, v) w z).2.2 (np, lim, kd, par, n, v)) (fg_nh (fg_add (np, lim, kd, par, n, v) w z).2.2 (np, lim, kd, par, n, v) hs) ks L m t e f ∧ fl_g I D I' D' ∧ ∃ jj, J' = fo_r J 629 jj ∧ (nI ((fg_add (np, lim, kd, par, n, v) w z).1) = 0 → jj 0 = ((fg_add (np, lim, kd, par, n, v) w z).2.1).toInt64))) := by
  skip
  refine fo_sw (by decide) [(0, .ref (Λ.2.2.1 605)), (1, .int (nI w)), (2, .int (z)), (3, .ref (Λ.2.2.1 629))] rfl (Nat.le_of_ble_eq_true rfl) (fun K C tb fin => ?_)
  refine fo_aload_n C dL_addProphet_0 3 rfl rfl 1 rfl ?_
  refine fo_iconst C dL_addProphet_1 (nI 0) ki_0 2 rfl ?_
  refine fo_aload_n C dL_addProphet_2 0 rfl rfl 3 rfl ?_
  refine fo_iload_n C dL_addProphet_3 1 rfl rfl 4 rfl ?_
  refine fo_iload_n C dL_addProphet_4 2 rfl rfl 5 rfl ?_
  refine fo_yvi C dL_addProphet_5 (mX6_addProphet hfl (w := w) (z := z) hw hl.1 hl.2.1) lv_L_7 (by decide : fo_k 605 = 8) rfl (by decide) rfl ⟨Nat.le_of_ble_eq_true rfl, Nat.le_of_ble_eq_true rfl⟩ ⟨Nat.le_of_ble_eq_true rfl, Nat.le_of_ble_eq_true rfl⟩ [.int (nI 0), .ref (Λ.2.2.1 629)] rfl (Nat.le_of_ble_eq_true rfl) 8 rfl (fun E I9 D9 J9 X9 h9 => ?_) (fun r1 I2 D3 J4 X5 p6 => ?_)
  · obtain ⟨h8, z9⟩ := h9
    obtain ⟨rfl, rfl, rfl⟩ := fo_sym3 z9
    simp only [fo_el, or_false] at h8
    rcases h8 with ⟨rfl, hkz⟩ | ⟨rfl, ⟨hkz, hok⟩⟩
    · refine fo_ca C tb [] (0, 10, 13, 13) [(0, 10, 17, 15)] rfl (by decide) (fun _ h => absurd h List.not_mem_nil) (by decide) (by decide) fh_13 13 rfl (fun q9 => ?_)
      refine fo_astore C dL_addProphet_13 [(4, .ref q9), (0, .ref (Λ.2.2.1 605)), (1, .int (nI w)), (2, .int (z)), (3, .ref (Λ.2.2.1 629))] rfl (by decide) 15 rfl ?_
      refine fo_iconst C dL_addProphet_15 (nI 1) ki_1 16 rfl ?_
      exact fin dL_addProphet_16 rfl (Nat.le_of_ble_eq_true rfl) (Nat.le_of_ble_eq_true rfl) (⟨(by rw [fg_add_1 (s := (np, lim, kd, par, n, v)) hkz] <;> rfl), (by rw [fg_add_1 (s := (np, lim, kd, par, n, v)) hkz] <;> exact hl), fl_g.rf, fw_j3 (by rw [fg_add_1 (s := (np, lim, kd, par, n, v)) hkz] <;> first | exact fw_n1 | exact fw_n2 | exact fw_n3)⟩)
    · refine fo_ca C tb [(0, 10, 13, 13)] (0, 10, 17, 15) [] rfl (by decide) (List.forall_mem_cons.mpr ⟨⟨by decide, _, fh_13, by decide, by decide⟩, fun _ h => absurd h List.not_mem_nil⟩) (by decide) (by decide) fh_15 17 rfl (fun q9 => ?_)
      refine fo_astore C dL_addProphet_17 [(4, .ref q9), (0, .ref (Λ.2.2.1 605)), (1, .int (nI w)), (2, .int (z)), (3, .ref (Λ.2.2.1 629))] rfl (by decide) 19 rfl ?_
      refine fo_iconst C dL_addProphet_19 (nI 2) ki_2 20 rfl ?_
      exact fin dL_addProphet_20 rfl (Nat.le_of_ble_eq_true rfl) (Nat.le_of_ble_eq_true rfl) (⟨(by rw [fg_add_2 (s := (np, lim, kd, par, n, v)) hkz hok] <;> rfl), (by rw [fg_add_2 (s := (np, lim, kd, par, n, v)) hkz hok] <;> exact hl), fl_g.rf, fw_j3 (by rw [fg_add_2 (s := (np, lim, kd, par, n, v)) hkz hok] <;> first | exact fw_n1 | exact fw_n2 | exact fw_n3)⟩)
  obtain ⟨q, hq1, hq9, rfl, hw5, hok, rfl, g1, g2, g3, z9⟩ := p6
  obtain rfl := z9.symm
  refine fo_i2l C dL_addProphet_8 _ rfl 9 rfl ?_
  refine fo_last C dL_addProphet_9 (by decide : fo_k 629 = 24) (by rw [(show fo_n 629 = 1 from rfl)]; omega) 10 rfl ?_
  refine fo_goto C dL_addProphet_10 21 (by decide) ?_
  refine fo_iconst C dL_addProphet_21 (nI 0) ki_0 22 rfl ?_
  exact fin dL_addProphet_22 rfl (Nat.le_of_ble_eq_true rfl) (Nat.le_of_ble_eq_true rfl) (⟨(by rw [fg_add_t (s := (np, lim, kd, par, n, v)) (fw_kz hw5 hq1 hq9) hq9 hok] <;> rfl), (by rw [fg_add_t (s := (np, lim, kd, par, n, v)) (fw_kz hw5 hq1 hq9) hq9 hok] <;> exact hl.ch g1 g2 g3), g3.g, fw_j2 (by rw [fg_add_t (s := (np, lim, kd, par, n, v)) (fw_kz hw5 hq1 hq9) hq9 hok] <;> rfl)⟩)
set_option maxRecDepth 10000 in
set_option maxHeartbeats 4000000 in
theorem mL_observe {l : Launch} {Λ : fo_Lt} {I : fo_Mi} {D : fo_Md} {J : fo_Mj} {X : fo_Mi} (hfl : l.stackTraces = false) {np lim : Nat} {kd par n : Nat → Nat} {v : Nat → Nat → Nat} {hs : List fa_S} {ks : Option fa_S} {L : List Nat} {m : Nat} {t : Nat → Nat} {e f : Int32} {x z : Int32} (hl : ll I D (np, lim, kd, par, n, v) hs ks L m t e f) : fw_i l yL_observe cL_observe 5 9 187 2 12 [(0, 10, 13, 21), (0, 10, 17, 13), (0, 10, 21, 15)] Λ [.ref (Λ.2.2.1 605), .int (x), .int (z), .ref (Λ.2.2.1 629)] I D J X ((fun r I' D' J' X' => r = nI ((fg_see (np, lim, kd, par, n, v) x z).1) ∧ ll I' D' (fg_ns (fg_see (np, lim, kd, par, n, v) x z).2.2 (np, lim, kd, par, n, v)) (fg_nh (fg_see (np, lim, kd, par, n, v) x z).2.2 (np, lim, kd, par, n, v) hs) ks L m t e f ∧ fl_g I D I' D' ∧ ∃ jj, J' = fo_r J 629 jj ∧ (nI ((fg_see (np, lim, kd, par, n, v) x z).1) = 0 → jj 0 = ((fg_see (np, lim, kd, par, n, v) x z).2.1).toInt64))) := by
  skip
  refine fo_sw (by decide) [(0, .ref (Λ.2.2.1 605)), (1, .int (x)), (2, .int (z)), (3, .ref (Λ.2.2.1 629))] rfl (Nat.le_of_ble_eq_true rfl) (fun K C tb fin => ?_)
  refine fo_aload_n C dL_observe_0 3 rfl rfl 1 rfl ?_
  refine fo_iconst C dL_observe_1 (nI 0) ki_0 2 rfl ?_
  refine fo_aload_n C dL_observe_2 0 rfl rfl 3 rfl ?_
  refine fo_iload_n C dL_observe_3 1 rfl rfl 4 rfl ?_
  refine fo_iload_n C dL_observe_4 2 rfl rfl 5 rfl ?_
  refine fo_yvi C dL_observe_5 (mX6_observe hfl (x := x) (z := z) hl.1 hl.2.1) lv_L_17 (by decide : fo_k 605 = 8) rfl (by decide) rfl ⟨Nat.le_of_ble_eq_true rfl, Nat.le_of_ble_eq_true rfl⟩ ⟨Nat.le_of_ble_eq_true rfl, Nat.le_of_ble_eq_true rfl⟩ [.int (nI 0), .ref (Λ.2.2.1 629)] rfl (Nat.le_of_ble_eq_true rfl) 8 rfl (fun E I9 D9 J9 X9 h9 => ?_) (fun r1 I2 D3 J4 X5 p6 => ?_)
  · obtain ⟨h8, z9⟩ := h9
    obtain ⟨rfl, rfl, rfl⟩ := fo_sym3 z9
    simp only [fo_el, or_false] at h8
    rcases h8 with ⟨rfl, hx⟩ | ⟨rfl, ⟨k, hk, rfl, hz⟩⟩ | ⟨rfl, ⟨k, u, hk, rfl, hu, rfl, h30⟩⟩
    · refine fo_ca C tb [] (0, 10, 13, 21) [(0, 10, 17, 13), (0, 10, 21, 15)] rfl (by decide) (fun _ h => absurd h List.not_mem_nil) (by decide) (by decide) fh_21 13 rfl (fun q9 => ?_)
      refine fo_astore C dL_observe_13 [(4, .ref q9), (0, .ref (Λ.2.2.1 605)), (1, .int (x)), (2, .int (z)), (3, .ref (Λ.2.2.1 629))] rfl (by decide) 15 rfl ?_
      refine fo_iconst C dL_observe_15 (nI 1) ki_1 16 rfl ?_
      exact fin dL_observe_16 rfl (Nat.le_of_ble_eq_true rfl) (Nat.le_of_ble_eq_true rfl) (⟨(by rw [fg_see_1 (s := (np, lim, kd, par, n, v)) hx] <;> rfl), (by rw [fg_see_1 (s := (np, lim, kd, par, n, v)) hx] <;> exact hl), fl_g.rf, fw_j3 (by rw [fg_see_1 (s := (np, lim, kd, par, n, v)) hx] <;> first | exact fw_n1 | exact fw_n2 | exact fw_n3)⟩)
    · refine fo_ca C tb [(0, 10, 13, 21)] (0, 10, 17, 13) [(0, 10, 21, 15)] rfl (by decide) (List.forall_mem_cons.mpr ⟨⟨by decide, _, fh_21, by decide, by decide⟩, fun _ h => absurd h List.not_mem_nil⟩) (by decide) (by decide) fh_13 17 rfl (fun q9 => ?_)
      refine fo_astore C dL_observe_17 [(4, .ref q9), (0, .ref (Λ.2.2.1 605)), (1, .int (nI k)), (2, .int (z)), (3, .ref (Λ.2.2.1 629))] rfl (by decide) 19 rfl ?_
      refine fo_iconst C dL_observe_19 (nI 2) ki_2 20 rfl ?_
      exact fin dL_observe_20 rfl (Nat.le_of_ble_eq_true rfl) (Nat.le_of_ble_eq_true rfl) (⟨(by rw [fg_see_2 (s := (np, lim, kd, par, n, v)) hk hz] <;> rfl), (by rw [fg_see_2 (s := (np, lim, kd, par, n, v)) hk hz] <;> exact hl), fl_g.rf, fw_j3 (by rw [fg_see_2 (s := (np, lim, kd, par, n, v)) hk hz] <;> first | exact fw_n1 | exact fw_n2 | exact fw_n3)⟩)
    · refine fo_ca C tb [(0, 10, 13, 21), (0, 10, 17, 13)] (0, 10, 21, 15) [] rfl (by decide) (List.forall_mem_cons.mpr ⟨⟨by decide, _, fh_21, by decide, by decide⟩, List.forall_mem_cons.mpr ⟨⟨by decide, _, fh_13, by decide, by decide⟩, fun _ h => absurd h List.not_mem_nil⟩⟩) (by decide) (by decide) fh_15 21 rfl (fun q9 => ?_)
      refine fo_astore C dL_observe_21 [(4, .ref q9), (0, .ref (Λ.2.2.1 605)), (1, .int (nI k)), (2, .int (nI u)), (3, .ref (Λ.2.2.1 629))] rfl (by decide) 23 rfl ?_
      refine fo_iconst C dL_observe_23 (nI 3) ki_3 24 rfl ?_
      exact fin dL_observe_24 rfl (Nat.le_of_ble_eq_true rfl) (Nat.le_of_ble_eq_true rfl) (⟨(by rw [fg_see_3 (s := (np, lim, kd, par, n, v)) hk (fo_999_nI hu) h30] <;> rfl), (by rw [fg_see_3 (s := (np, lim, kd, par, n, v)) hk (fo_999_nI hu) h30] <;> exact hl), fl_g.rf, fw_j3 (by rw [fg_see_3 (s := (np, lim, kd, par, n, v)) hk (fo_999_nI hu) h30] <;> first | exact fw_n1 | exact fw_n2 | exact fw_n3)⟩)
  obtain ⟨k, u, hk, rfl, hu, rfl, h30, rfl, g1, g2, g3, z9⟩ := p6
  obtain rfl := z9.symm
  refine fo_i2l C dL_observe_8 _ rfl 9 rfl ?_
  refine fo_last C dL_observe_9 (by decide : fo_k 629 = 24) (by rw [(show fo_n 629 = 1 from rfl)]; omega) 10 rfl ?_
  refine fo_goto C dL_observe_10 25 (by decide) ?_
  refine fo_iconst C dL_observe_25 (nI 0) ki_0 26 rfl ?_
  exact fin dL_observe_26 rfl (Nat.le_of_ble_eq_true rfl) (Nat.le_of_ble_eq_true rfl) (⟨(by rw [fg_see_t (s := (np, lim, kd, par, n, v)) hk hu h30] <;> rfl), (by rw [fg_see_t (s := (np, lim, kd, par, n, v)) hk hu h30] <;> exact hl.ch g1 g2 g3), g3.g, fw_j2 (by rw [fg_see_t (s := (np, lim, kd, par, n, v)) hk hu h30] <;> rfl)⟩)
set_option maxRecDepth 10000 in
set_option maxHeartbeats 4000000 in
theorem mL_setLimit {l : Launch} {Λ : fo_Lt} {I : fo_Mi} {D : fo_Md} {J : fo_Mj} {X : fo_Mi} (hfl : l.stackTraces = false) {np lim : Nat} {kd par n : Nat → Nat} {v : Nat → Nat → Nat} {hs : List fa_S} {ks : Option fa_S} {L : List Nat} {m : Nat} {t : Nat → Nat} {e f : Int32} {z : Int32} (hl : ll I D (np, lim, kd, par, n, v) hs ks L m t e f) : fw_i l yL_setLimit cL_setLimit 4 7 186 1 6 [(0, 9, 12, 13)] Λ [.ref (Λ.2.2.1 605), .int (z), .ref (Λ.2.2.1 629)] I D J X ((fun r I' D' J' X' => r = nI ((fg_lim (np, lim, kd, par, n, v) z).1) ∧ ll I' D' (fg_ns (fg_lim (np, lim, kd, par, n, v) z).2.2 (np, lim, kd, par, n, v)) (fg_nh (fg_lim (np, lim, kd, par, n, v) z).2.2 (np, lim, kd, par, n, v) hs) ks L m t e f ∧ fl_g I D I' D' ∧ ∃ jj, J' = fo_r J 629 jj ∧ (nI ((fg_lim (np, lim, kd, par, n, v) z).1) = 0 → jj 0 = ((fg_lim (np, lim, kd, par, n, v) z).2.1).toInt64))) := by
  skip
  refine fo_sw (by decide) [(0, .ref (Λ.2.2.1 605)), (1, .int (z)), (2, .ref (Λ.2.2.1 629))] rfl (Nat.le_of_ble_eq_true rfl) (fun K C tb fin => ?_)
  refine fo_aload_n C dL_setLimit_0 2 rfl rfl 1 rfl ?_
  refine fo_iconst C dL_setLimit_1 (nI 0) ki_0 2 rfl ?_
  refine fo_aload_n C dL_setLimit_2 0 rfl rfl 3 rfl ?_
  refine fo_iload_n C dL_setLimit_3 1 rfl rfl 4 rfl ?_
  refine fo_yvi C dL_setLimit_4 (mX6_setLimit hfl (z := z) hl.1 hl.2.1) lv_L_23 (by decide : fo_k 605 = 8) rfl (by decide) rfl ⟨Nat.le_of_ble_eq_true rfl, Nat.le_of_ble_eq_true rfl⟩ ⟨Nat.le_of_ble_eq_true rfl, Nat.le_of_ble_eq_true rfl⟩ [.int (nI 0), .ref (Λ.2.2.1 629)] rfl (Nat.le_of_ble_eq_true rfl) 7 rfl (fun E I9 D9 J9 X9 h9 => ?_) (fun r1 I2 D3 J4 X5 p6 => ?_)
  · obtain ⟨h8, z9⟩ := h9
    obtain ⟨rfl, rfl, rfl⟩ := fo_sym3 z9
    simp only [fo_el, or_false] at h8
    rcases h8 with ⟨rfl, hz⟩
    · refine fo_ca C tb [] (0, 9, 12, 13) [] rfl (by decide) (fun _ h => absurd h List.not_mem_nil) (by decide) (by decide) fh_13 12 rfl (fun q9 => ?_)
      refine fo_astore_n C dL_setLimit_12 rfl [(3, .ref q9), (0, .ref (Λ.2.2.1 605)), (1, .int (z)), (2, .ref (Λ.2.2.1 629))] rfl (by decide) 13 rfl ?_
      refine fo_iconst C dL_setLimit_13 (nI 1) ki_1 14 rfl ?_
      exact fin dL_setLimit_14 rfl (Nat.le_of_ble_eq_true rfl) (Nat.le_of_ble_eq_true rfl) (⟨(by rw [fg_lim_1 (s := (np, lim, kd, par, n, v)) hz] <;> rfl), (by rw [fg_lim_1 (s := (np, lim, kd, par, n, v)) hz] <;> exact hl), fl_g.rf, fw_j3 (by rw [fg_lim_1 (s := (np, lim, kd, par, n, v)) hz] <;> first | exact fw_n1 | exact fw_n2 | exact fw_n3)⟩)
  obtain ⟨q, hq1, hq9, rfl, rfl, g1, g2, g3, z9⟩ := p6
  obtain rfl := z9.symm
  refine fo_i2l C dL_setLimit_7 _ rfl 8 rfl ?_
  refine fo_last C dL_setLimit_8 (by decide : fo_k 629 = 24) (by rw [(show fo_n 629 = 1 from rfl)]; omega) 9 rfl ?_
  refine fo_goto C dL_setLimit_9 15 (by decide) ?_
  refine fo_iconst C dL_setLimit_15 (nI 0) ki_0 16 rfl ?_
  exact fin dL_setLimit_16 rfl (Nat.le_of_ble_eq_true rfl) (Nat.le_of_ble_eq_true rfl) (⟨(by rw [fg_lim_t (s := (np, lim, kd, par, n, v)) hq1 hq9] <;> rfl), (by rw [fg_lim_t (s := (np, lim, kd, par, n, v)) hq1 hq9] <;> exact hl.ch g1 g2 g3), g3.g, fw_j2 (by rw [fg_lim_t (s := (np, lim, kd, par, n, v)) hq1 hq9] <;> rfl)⟩)
set_option maxRecDepth 10000 in
set_option maxHeartbeats 4000000 in
theorem mL_forget {l : Launch} {Λ : fo_Lt} {I : fo_Mi} {D : fo_Md} {J : fo_Mj} {X : fo_Mi} (hfl : l.stackTraces = false) {np lim : Nat} {kd par n : Nat → Nat} {v : Nat → Nat → Nat} {hs : List fa_S} {ks : Option fa_S} {L : List Nat} {m : Nat} {t : Nat → Nat} {e f : Int32} {x : Int32} (hl : ll I D (np, lim, kd, par, n, v) hs ks L m t e f) : fw_i l yL_forget cL_forget 4 9 186 1 6 [(0, 9, 12, 21)] Λ [.ref (Λ.2.2.1 605), .int (x), .ref (Λ.2.2.1 629)] I D J X ((fun r I' D' J' X' => r = nI ((fg_for (np, lim, kd, par, n, v) x).1) ∧ ll I' D' (fg_ns (fg_for (np, lim, kd, par, n, v) x).2.2 (np, lim, kd, par, n, v)) (fg_nh (fg_for (np, lim, kd, par, n, v) x).2.2 (np, lim, kd, par, n, v) hs) ks L m t e f ∧ fl_g I D I' D' ∧ ∃ jj, J' = fo_r J 629 jj ∧ (nI ((fg_for (np, lim, kd, par, n, v) x).1) = 0 → jj 0 = ((fg_for (np, lim, kd, par, n, v) x).2.1).toInt64))) := by
  skip
  refine fo_sw (by decide) [(0, .ref (Λ.2.2.1 605)), (1, .int (x)), (2, .ref (Λ.2.2.1 629))] rfl (Nat.le_of_ble_eq_true rfl) (fun K C tb fin => ?_)
  refine fo_aload_n C dL_forget_0 2 rfl rfl 1 rfl ?_
  refine fo_iconst C dL_forget_1 (nI 0) ki_0 2 rfl ?_
  refine fo_aload_n C dL_forget_2 0 rfl rfl 3 rfl ?_
  refine fo_iload_n C dL_forget_3 1 rfl rfl 4 rfl ?_
  refine fo_yvi C dL_forget_4 (mX6_forget hfl (x := x) hl.1 hl.2.1) lv_L_27 (by decide : fo_k 605 = 8) rfl (by decide) rfl ⟨Nat.le_of_ble_eq_true rfl, Nat.le_of_ble_eq_true rfl⟩ ⟨Nat.le_of_ble_eq_true rfl, Nat.le_of_ble_eq_true rfl⟩ [.int (nI 0), .ref (Λ.2.2.1 629)] rfl (Nat.le_of_ble_eq_true rfl) 7 rfl (fun E I9 D9 J9 X9 h9 => ?_) (fun r1 I2 D3 J4 X5 p6 => ?_)
  · obtain ⟨h8, z9⟩ := h9
    obtain ⟨rfl, rfl, rfl⟩ := fo_sym3 z9
    simp only [fo_el, or_false] at h8
    rcases h8 with ⟨rfl, hx⟩
    · refine fo_ca C tb [] (0, 9, 12, 21) [] rfl (by decide) (fun _ h => absurd h List.not_mem_nil) (by decide) (by decide) fh_21 12 rfl (fun q9 => ?_)
      refine fo_astore_n C dL_forget_12 rfl [(3, .ref q9), (0, .ref (Λ.2.2.1 605)), (1, .int (x)), (2, .ref (Λ.2.2.1 629))] rfl (by decide) 13 rfl ?_
      refine fo_iconst C dL_forget_13 (nI 1) ki_1 14 rfl ?_
      exact fin dL_forget_14 rfl (Nat.le_of_ble_eq_true rfl) (Nat.le_of_ble_eq_true rfl) (⟨(by rw [fg_for_1 (s := (np, lim, kd, par, n, v)) hx] <;> rfl), (by rw [fg_for_1 (s := (np, lim, kd, par, n, v)) hx] <;> exact hl), fl_g.rf, fw_j3 (by rw [fg_for_1 (s := (np, lim, kd, par, n, v)) hx] <;> first | exact fw_n1 | exact fw_n2 | exact fw_n3)⟩)
  obtain ⟨k, hk, rfl, rfl, g1, g2, g3, z9⟩ := p6
  obtain rfl := z9.symm
  refine fo_i2l C dL_forget_7 _ rfl 8 rfl ?_
  refine fo_last C dL_forget_8 (by decide : fo_k 629 = 24) (by rw [(show fo_n 629 = 1 from rfl)]; omega) 9 rfl ?_
  refine fo_goto C dL_forget_9 15 (by decide) ?_
  refine fo_iconst C dL_forget_15 (nI 0) ki_0 16 rfl ?_
  exact fin dL_forget_16 rfl (Nat.le_of_ble_eq_true rfl) (Nat.le_of_ble_eq_true rfl) (⟨(by rw [fg_for_t (s := (np, lim, kd, par, n, v)) hk] <;> rfl), (by rw [fg_for_t (s := (np, lim, kd, par, n, v)) hk] <;> exact hl.ch g1 g2 g3), g3.g, fw_j2 (by rw [fg_for_t (s := (np, lim, kd, par, n, v)) hk] <;> rfl)⟩)
set_option maxRecDepth 10000 in
set_option maxHeartbeats 4000000 in
theorem mL_undo {l : Launch} {Λ : fo_Lt} {I : fo_Mi} {D : fo_Md} {J : fo_Mj} {X : fo_Mi} (hfl : l.stackTraces = false) {s : fa_S} {hs : List fa_S} {ks : Option fa_S} {L : List Nat} {m : Nat} {t : Nat → Nat} {e f : Int32} (hl : ll I D s hs ks L m t e f) : fw_i l yL_undo cL_undo 3 7 164 1 6 [(0, 8, 11, 15)] Λ [.ref (Λ.2.2.1 605), .ref (Λ.2.2.1 629)] I D J X ((fun r I' D' J' X' => r = nI ((fg_ud hs).1) ∧ ll I' D' (fg_ns (fg_ud hs).2.2 s) hs.tail ks L m t e f ∧ fl_g I D I' D' ∧ ∃ jj, J' = fo_r J 629 jj ∧ (nI ((fg_ud hs).1) = 0 → jj 0 = ((fg_ud hs).2.1).toInt64))) := by
  skip
  refine fo_sw (by decide) [(0, .ref (Λ.2.2.1 605)), (1, .ref (Λ.2.2.1 629))] rfl (Nat.le_of_ble_eq_true rfl) (fun K C tb fin => ?_)
  refine fo_aload_n C dL_undo_0 1 rfl rfl 1 rfl ?_
  refine fo_iconst C dL_undo_1 (nI 0) ki_0 2 rfl ?_
  refine fo_aload_n C dL_undo_2 0 rfl rfl 3 rfl ?_
  refine fo_yvi C dL_undo_3 (mX6_undo hfl hl.2.1) lv_L_138 (by decide : fo_k 605 = 8) rfl (by decide) rfl ⟨Nat.le_of_ble_eq_true rfl, Nat.le_of_ble_eq_true rfl⟩ ⟨Nat.le_of_ble_eq_true rfl, Nat.le_of_ble_eq_true rfl⟩ [.int (nI 0), .ref (Λ.2.2.1 629)] rfl (Nat.le_of_ble_eq_true rfl) 6 rfl (fun E I9 D9 J9 X9 h9 => ?_) (fun r1 I2 D3 J4 X5 p6 => ?_)
  · obtain ⟨h8, z9⟩ := h9
    obtain ⟨rfl, rfl, rfl⟩ := fo_sym3 z9
    simp only [fo_el, or_false] at h8
    rcases h8 with ⟨rfl, rfl⟩
    · refine fo_ca C tb [] (0, 8, 11, 15) [] rfl (by decide) (fun _ h => absurd h List.not_mem_nil) (by decide) (by decide) fh_15 11 rfl (fun q9 => ?_)
      refine fo_astore_n C dL_undo_11 rfl [(2, .ref q9), (0, .ref (Λ.2.2.1 605)), (1, .ref (Λ.2.2.1 629))] rfl (by decide) 12 rfl ?_
      refine fo_iconst C dL_undo_12 (nI 1) ki_1 13 rfl ?_
      exact fin dL_undo_13 rfl (Nat.le_of_ble_eq_true rfl) (Nat.le_of_ble_eq_true rfl) (⟨(by rfl), (by exact hl), fl_g.rf, fw_j3 (by first | exact fw_n1 | exact fw_n2 | exact fw_n3)⟩)
  obtain ⟨s2, u2, rfl, rfl, g1, g2, g3, z9⟩ := p6
  obtain rfl := z9.symm
  refine fo_i2l C dL_undo_6 _ rfl 7 rfl ?_
  refine fo_last C dL_undo_7 (by decide : fo_k 629 = 24) (by rw [(show fo_n 629 = 1 from rfl)]; omega) 8 rfl ?_
  refine fo_goto C dL_undo_8 14 (by decide) ?_
  refine fo_iconst C dL_undo_14 (nI 0) ki_0 15 rfl ?_
  exact fin dL_undo_15 rfl (Nat.le_of_ble_eq_true rfl) (Nat.le_of_ble_eq_true rfl) (⟨(by rfl), (by exact hl.ch g1 g2 g3), g3.g, fw_j2 (by rfl)⟩)
set_option maxRecDepth 10000 in
set_option maxHeartbeats 4000000 in
theorem mL_restore {l : Launch} {Λ : fo_Lt} {I : fo_Mi} {D : fo_Md} {J : fo_Mj} {X : fo_Mi} (hfl : l.stackTraces = false) {s : fa_S} {hs : List fa_S} {ks : Option fa_S} {L : List Nat} {m : Nat} {t : Nat → Nat} {e f : Int32} (hl : ll I D s hs ks L m t e f) : fw_i l yL_restore cL_restore 3 7 143 1 6 [(0, 8, 11, 15)] Λ [.ref (Λ.2.2.1 605), .ref (Λ.2.2.1 629)] I D J X ((fun r I' D' J' X' => r = nI ((fg_rs ks).1) ∧ ll I' D' (fg_ns (fg_rs ks).2.2 s) (if ks.isSome then [] else hs) ks L m t e f ∧ fl_g I D I' D' ∧ ∃ jj, J' = fo_r J 629 jj ∧ (nI ((fg_rs ks).1) = 0 → jj 0 = ((fg_rs ks).2.1).toInt64))) := by
  skip
  refine fo_sw (by decide) [(0, .ref (Λ.2.2.1 605)), (1, .ref (Λ.2.2.1 629))] rfl (Nat.le_of_ble_eq_true rfl) (fun K C tb fin => ?_)
  refine fo_aload_n C dL_restore_0 1 rfl rfl 1 rfl ?_
  refine fo_iconst C dL_restore_1 (nI 0) ki_0 2 rfl ?_
  refine fo_aload_n C dL_restore_2 0 rfl rfl 3 rfl ?_
  refine fo_yvi C dL_restore_3 (mX6_restore hfl hl.2.2.1 hl.2.1) lv_L_141 (by decide : fo_k 605 = 8) rfl (by decide) rfl ⟨Nat.le_of_ble_eq_true rfl, Nat.le_of_ble_eq_true rfl⟩ ⟨Nat.le_of_ble_eq_true rfl, Nat.le_of_ble_eq_true rfl⟩ [.int (nI 0), .ref (Λ.2.2.1 629)] rfl (Nat.le_of_ble_eq_true rfl) 6 rfl (fun E I9 D9 J9 X9 h9 => ?_) (fun r1 I2 D3 J4 X5 p6 => ?_)
  · obtain ⟨h8, z9⟩ := h9
    obtain ⟨rfl, rfl, rfl⟩ := fo_sym3 z9
    simp only [fo_el, or_false] at h8
    rcases h8 with ⟨rfl, rfl⟩
    · refine fo_ca C tb [] (0, 8, 11, 15) [] rfl (by decide) (fun _ h => absurd h List.not_mem_nil) (by decide) (by decide) fh_15 11 rfl (fun q9 => ?_)
      refine fo_astore_n C dL_restore_11 rfl [(2, .ref q9), (0, .ref (Λ.2.2.1 605)), (1, .ref (Λ.2.2.1 629))] rfl (by decide) 12 rfl ?_
      refine fo_iconst C dL_restore_12 (nI 1) ki_1 13 rfl ?_
      exact fin dL_restore_13 rfl (Nat.le_of_ble_eq_true rfl) (Nat.le_of_ble_eq_true rfl) (⟨(by rfl), (by exact hl), fl_g.rf, fw_j3 (by first | exact fw_n1 | exact fw_n2 | exact fw_n3)⟩)
  obtain ⟨s2, rfl, rfl, g1, g2, g3, z9⟩ := p6
  obtain rfl := z9.symm
  refine fo_i2l C dL_restore_6 _ rfl 7 rfl ?_
  refine fo_last C dL_restore_7 (by decide : fo_k 629 = 24) (by rw [(show fo_n 629 = 1 from rfl)]; omega) 8 rfl ?_
  refine fo_goto C dL_restore_8 14 (by decide) ?_
  refine fo_iconst C dL_restore_14 (nI 0) ki_0 15 rfl ?_
  exact fin dL_restore_15 rfl (Nat.le_of_ble_eq_true rfl) (Nat.le_of_ble_eq_true rfl) (⟨(by rfl), (by exact hl.ch g1 g2 g3), g3.g, fw_j2 (by rfl)⟩)
set_option maxRecDepth 10000 in
set_option maxHeartbeats 4000000 in
theorem mL_type {l : Launch} {Λ : fo_Lt} {I : fo_Mi} {D : fo_Md} {J : fo_Mj} {X : fo_Mi} (hfl : l.stackTraces = false) {s : fa_S} {hs : List fa_S} {ks : Option fa_S} {L : List Nat} {m : Nat} {t : Nat → Nat} {e f : Int32} {w : Nat} (hw : w < 65536) (hl : ll I D s hs ks L m t e f) : fw_i l yL_type cL_type 4 7 111 1 6 [(0, 9, 12, 15)] Λ [.ref (Λ.2.2.1 605), .int (nI w), .ref (Λ.2.2.1 629)] I D J X ((fun r I' D' J' X' => r = nI ((fg_ty m).1) ∧ ll I' D' s hs ks L (if m < 60 then m + 1 else m) (if m < 60 then va_up t m w else t) e f ∧ fl_g I D I' D' ∧ ∃ jj, J' = fo_r J 629 jj ∧ (nI ((fg_ty m).1) = 0 → jj 0 = ((fg_ty m).2).toInt64))) := by
  skip
  refine fo_sw (by decide) [(0, .ref (Λ.2.2.1 605)), (1, .int (nI w)), (2, .ref (Λ.2.2.1 629))] rfl (Nat.le_of_ble_eq_true rfl) (fun K C tb fin => ?_)
  refine fo_aload_n C dL_type_0 2 rfl rfl 1 rfl ?_
  refine fo_iconst C dL_type_1 (nI 0) ki_0 2 rfl ?_
  refine fo_aload_n C dL_type_2 0 rfl rfl 3 rfl ?_
  refine fo_iload_n C dL_type_3 1 rfl rfl 4 rfl ?_
  refine fo_yvi C dL_type_4 (mX6_type hfl hl.2.2.2.2.1 hw) lv_L_123 (by decide : fo_k 605 = 8) rfl (by decide) rfl ⟨Nat.le_of_ble_eq_true rfl, Nat.le_of_ble_eq_true rfl⟩ ⟨Nat.le_of_ble_eq_true rfl, Nat.le_of_ble_eq_true rfl⟩ [.int (nI 0), .ref (Λ.2.2.1 629)] rfl (Nat.le_of_ble_eq_true rfl) 7 rfl (fun E I9 D9 J9 X9 h9 => ?_) (fun r1 I2 D3 J4 X5 p6 => ?_)
  · obtain ⟨h8, z9⟩ := h9
    obtain ⟨rfl, rfl, rfl⟩ := fo_sym3 z9
    simp only [fo_el, or_false] at h8
    rcases h8 with ⟨rfl, hm⟩
    · refine fo_ca C tb [] (0, 9, 12, 15) [] rfl (by decide) (fun _ h => absurd h List.not_mem_nil) (by decide) (by decide) fh_15 12 rfl (fun q9 => ?_)
      refine fo_astore_n C dL_type_12 rfl [(3, .ref q9), (0, .ref (Λ.2.2.1 605)), (1, .int (nI w)), (2, .ref (Λ.2.2.1 629))] rfl (by decide) 13 rfl ?_
      refine fo_iconst C dL_type_13 (nI 1) ki_1 14 rfl ?_
      exact fin dL_type_14 rfl (Nat.le_of_ble_eq_true rfl) (Nat.le_of_ble_eq_true rfl) (⟨(by rw [fg_ty_1 hm] <;> rfl), (by rw [if_neg hm, if_neg hm]; exact hl), fl_g.rf, fw_j3 (by rw [fg_ty_1 hm] <;> first | exact fw_n1 | exact fw_n2 | exact fw_n3)⟩)
  obtain ⟨hm, rfl, g1, g2, z9⟩ := p6
  obtain ⟨z7, z9⟩ := z9
  obtain rfl := z7.symm
  obtain rfl := z9.symm
  refine fo_i2l C dL_type_7 _ rfl 8 rfl ?_
  refine fo_last C dL_type_8 (by decide : fo_k 629 = 24) (by rw [(show fo_n 629 = 1 from rfl)]; omega) 9 rfl ?_
  refine fo_goto C dL_type_9 15 (by decide) ?_
  refine fo_iconst C dL_type_15 (nI 0) ki_0 16 rfl ?_
  exact fin dL_type_16 rfl (Nat.le_of_ble_eq_true rfl) (Nat.le_of_ble_eq_true rfl) (⟨(by rw [fg_ty_t hm] <;> rfl), (by rw [if_pos hm, if_pos hm]; exact hl.tx g1 g2), (fun c h => ⟨g2 c (by omega) (by omega), rfl⟩), fw_j2 (by rw [fg_ty_t hm] <;> rfl)⟩)
set_option maxRecDepth 10000 in
set_option maxHeartbeats 4000000 in
theorem mL_writeSeries {l : Launch} {Λ : fo_Lt} {I : fo_Mi} {D : fo_Md} {J : fo_Mj} {X : fo_Mi} (hfl : l.stackTraces = false) {np lim : Nat} {kd par n : Nat → Nat} {v : Nat → Nat → Nat} {hs : List fa_S} {ks : Option fa_S} {L : List Nat} {m : Nat} {t : Nat → Nat} {e f : Int32} {x : Int32} (hl : ll I D (np, lim, kd, par, n, v) hs ks L m t e f) : fw_i l yL_writeSeries cL_writeSeries 4 9 154 1 6 [(0, 9, 12, 21)] Λ [.ref (Λ.2.2.1 605), .int (x), .ref (Λ.2.2.1 629)] I D J X ((fun r I' D' J' X' => r = nI ((fg_ws (np, lim, kd, par, n, v) x L).1) ∧ ll I' D' (np, lim, kd, par, n, v) hs ks (fg_ws (np, lim, kd, par, n, v) x L).2.2 m t e f ∧ fl_g I D I' D' ∧ ∃ jj, J' = fo_r J 629 jj ∧ (nI ((fg_ws (np, lim, kd, par, n, v) x L).1) = 0 → jj 0 = ((fg_ws (np, lim, kd, par, n, v) x L).2.1).toInt64))) := by
  skip
  refine fo_sw (by decide) [(0, .ref (Λ.2.2.1 605)), (1, .int (x)), (2, .ref (Λ.2.2.1 629))] rfl (Nat.le_of_ble_eq_true rfl) (fun K C tb fin => ?_)
  refine fo_aload_n C dL_writeSeries_0 2 rfl rfl 1 rfl ?_
  refine fo_iconst C dL_writeSeries_1 (nI 0) ki_0 2 rfl ?_
  refine fo_aload_n C dL_writeSeries_2 0 rfl rfl 3 rfl ?_
  refine fo_iload_n C dL_writeSeries_3 1 rfl rfl 4 rfl ?_
  refine fo_yvi C dL_writeSeries_4 (mX6_writeSeries hfl (x := x) hl.1) lv_L_117 (by decide : fo_k 605 = 8) rfl (by decide) rfl ⟨Nat.le_of_ble_eq_true rfl, Nat.le_of_ble_eq_true rfl⟩ ⟨Nat.le_of_ble_eq_true rfl, Nat.le_of_ble_eq_true rfl⟩ [.int (nI 0), .ref (Λ.2.2.1 629)] rfl (Nat.le_of_ble_eq_true rfl) 7 rfl (fun E I9 D9 J9 X9 h9 => ?_) (fun r1 I2 D3 J4 X5 p6 => ?_)
  · obtain ⟨h8, z9⟩ := h9
    obtain ⟨rfl, rfl, rfl⟩ := fo_sym3 z9
    simp only [fo_el, or_false] at h8
    rcases h8 with ⟨rfl, hx⟩
    · refine fo_ca C tb [] (0, 9, 12, 21) [] rfl (by decide) (fun _ h => absurd h List.not_mem_nil) (by decide) (by decide) fh_21 12 rfl (fun q9 => ?_)
      refine fo_astore_n C dL_writeSeries_12 rfl [(3, .ref q9), (0, .ref (Λ.2.2.1 605)), (1, .int (x)), (2, .ref (Λ.2.2.1 629))] rfl (by decide) 13 rfl ?_
      refine fo_iconst C dL_writeSeries_13 (nI 1) ki_1 14 rfl ?_
      exact fin dL_writeSeries_14 rfl (Nat.le_of_ble_eq_true rfl) (Nat.le_of_ble_eq_true rfl) (⟨(by rw [fg_ws_1 (s := (np, lim, kd, par, n, v)) hx] <;> rfl), (by rw [fg_ws_1 (s := (np, lim, kd, par, n, v)) hx] <;> exact hl), fl_g.rf, fw_j3 (by rw [fg_ws_1 (s := (np, lim, kd, par, n, v)) hx] <;> first | exact fw_n1 | exact fw_n2 | exact fw_n3)⟩)
  obtain ⟨k, hk, rfl, rfl, g1, g2, z9⟩ := p6
  obtain ⟨z7, z9⟩ := z9
  obtain rfl := z7.symm
  obtain rfl := z9.symm
  refine fo_i2l C dL_writeSeries_7 _ rfl 8 rfl ?_
  refine fo_last C dL_writeSeries_8 (by decide : fo_k 629 = 24) (by rw [(show fo_n 629 = 1 from rfl)]; omega) 9 rfl ?_
  refine fo_goto C dL_writeSeries_9 15 (by decide) ?_
  refine fo_iconst C dL_writeSeries_15 (nI 0) ki_0 16 rfl ?_
  exact fin dL_writeSeries_16 rfl (Nat.le_of_ble_eq_true rfl) (Nat.le_of_ble_eq_true rfl) (⟨(by rw [fg_ws_t (s := (np, lim, kd, par, n, v)) hk] <;> rfl), (by rw [fg_ws_t (s := (np, lim, kd, par, n, v)) hk] <;> exact hl.ln g1 g2), fs_lf.g g2, fw_j2 (by rw [fg_ws_t (s := (np, lim, kd, par, n, v)) hk] <;> rfl)⟩)
set_option maxRecDepth 10000 in
set_option maxHeartbeats 4000000 in
theorem mL_run {l : Launch} {Λ : fo_Lt} {I : fo_Mi} {D : fo_Md} {J : fo_Mj} {X : fo_Mi} (hfl : l.stackTraces = false) {np lim : Nat} {kd par n : Nat → Nat} {v : Nat → Nat → Nat} {hs : List fa_S} {ks : Option fa_S} {L : List Nat} {m : Nat} {t : Nat → Nat} {e f : Int32} (hl : ll I D (np, lim, kd, par, n, v) hs ks L m t e f) : fw_i l yL_run cL_run 3 10 245 1 6 [(0, 8, 11, 13), (0, 8, 14, 130)] Λ [.ref (Λ.2.2.1 605), .ref (Λ.2.2.1 629)] I D J X ((fun r I' D' J' X' => r = nI ((fg_run (np, lim, kd, par, n, v) hs m t e f).1) ∧ ll I' D' (fg_run (np, lim, kd, par, n, v) hs m t e f).2.2.1 (fg_run (np, lim, kd, par, n, v) hs m t e f).2.2.2.1 ks L 0 t (fg_run (np, lim, kd, par, n, v) hs m t e f).2.2.2.2.1 (fg_run (np, lim, kd, par, n, v) hs m t e f).2.2.2.2.2 ∧ fl_g I D I' D' ∧ ∃ jj, J' = fo_r J 629 jj ∧ (nI ((fg_run (np, lim, kd, par, n, v) hs m t e f).1) = 0 → jj 0 = ((fg_run (np, lim, kd, par, n, v) hs m t e f).2.1).toInt64))) := by
  skip
  refine fo_sw (by decide) [(0, .ref (Λ.2.2.1 605)), (1, .ref (Λ.2.2.1 629))] rfl (Nat.le_of_ble_eq_true rfl) (fun K C tb fin => ?_)
  refine fo_aload_n C dL_run_0 1 rfl rfl 1 rfl ?_
  refine fo_iconst C dL_run_1 (nI 0) ki_0 2 rfl ?_
  refine fo_aload_n C dL_run_2 0 rfl rfl 3 rfl ?_
  refine fo_yvi C dL_run_3 (mX6_run hfl (hs := hs) hl.1 hl.2.1 hl.2.2.2.2.1) lv_L_127 (by decide : fo_k 605 = 8) rfl (by decide) rfl ⟨Nat.le_of_ble_eq_true rfl, Nat.le_of_ble_eq_true rfl⟩ ⟨Nat.le_of_ble_eq_true rfl, Nat.le_of_ble_eq_true rfl⟩ [.int (nI 0), .ref (Λ.2.2.1 629)] rfl (Nat.le_of_ble_eq_true rfl) 6 rfl (fun E I9 D9 J9 X9 h9 => ?_) (fun r1 I2 D3 J4 X5 p6 => ?_)
  · rcases h9 with ⟨rfl, h1, h2, h3, hq, h4, z7, z9⟩ | ⟨rfl, ⟨l9, c9, o9, ha, hb, h2⟩, h3, hq, hF, hH, h4, z9⟩
    · obtain rfl := z7.symm
      obtain rfl := z9.symm
      refine fo_ca C tb [] (0, 8, 11, 13) [(0, 8, 14, 130)] rfl (by decide) (fun _ h => absurd h List.not_mem_nil) (by decide) (by decide) fh_13 11 rfl (fun q9 => ?_)
      refine fo_astore_n C dL_run_11 rfl [(2, .ref q9), (0, .ref (Λ.2.2.1 605)), (1, .ref (Λ.2.2.1 629))] rfl (by decide) 12 rfl ?_
      refine fo_iconst C dL_run_12 (nI 1) ki_1 13 rfl ?_
      exact fin dL_run_13 rfl (Nat.le_of_ble_eq_true rfl) (Nat.le_of_ble_eq_true rfl) (⟨by rw [fg_run_1 h1] <;> rfl, by rw [fg_run_1 h1]; exact hl.r1 h2 h3 hq h4, (fun c h => ⟨h4 c (by omega), rfl⟩), fw_j3 (by rw [fg_run_1 h1]; first | exact fw_n1 | exact fw_n2)⟩)
    · obtain rfl := z9.symm
      refine fo_ca C tb [(0, 8, 11, 13)] (0, 8, 14, 130) [] rfl (by decide) (List.forall_mem_cons.mpr ⟨⟨by decide, _, fh_13, by decide, by decide⟩, fun _ h => absurd h List.not_mem_nil⟩) (by decide) (by decide) fh_130 14 rfl (fun q9 => ?_)
      refine fo_astore_n C dL_run_14 rfl [(2, .ref q9), (0, .ref (Λ.2.2.1 605)), (1, .ref (Λ.2.2.1 629))] rfl (by decide) 15 rfl ?_
      refine fo_iconst C dL_run_15 (nI 2) ki_2 16 rfl ?_
      exact fin dL_run_16 rfl (Nat.le_of_ble_eq_true rfl) (Nat.le_of_ble_eq_true rfl) (⟨by rw [fg_run_2 ha hb] <;> rfl, by rw [fg_run_2 ha hb]; exact hl.r2 h2 h3 hq hF hH h4, (fun c h => h4 c (by omega)), fw_j3 (by rw [fg_run_2 ha hb]; first | exact fw_n1 | exact fw_n2)⟩)
  obtain ⟨l9, c9, s2, ha, hb, rfl, g1, g2, g3, g4, z9⟩ := p6
  obtain rfl := z9.symm
  refine fo_i2l C dL_run_6 _ rfl 7 rfl ?_
  refine fo_last C dL_run_7 (by decide : fo_k 629 = 24) (by rw [(show fo_n 629 = 1 from rfl)]; omega) 8 rfl ?_
  refine fo_goto C dL_run_8 17 (by decide) ?_
  refine fo_iconst C dL_run_17 (nI 0) ki_0 18 rfl ?_
  exact fin dL_run_18 rfl (Nat.le_of_ble_eq_true rfl) (Nat.le_of_ble_eq_true rfl) (⟨by rw [fg_run_t ha hb] <;> rfl, by rw [fg_run_t ha hb]; exact hl.r0 g1 g2 g3 g4, (fun c h => g4 c (by omega)), fw_j2 (by rw [fg_run_t ha hb] <;> rfl)⟩)
