
/-! THE LABORATORY: what it writes -/
/-- the text of series k, as far as its first d days -/
def fo_ser (lim : Nat) (v : Nat → Nat) (k : Nat) : Nat → List Nat
  | 0 => ([] ++ fp_dig k) ++ [58]
  | d + 1 => ((fo_ser lim v k d ++ [32]) ++ fp_dig (v d)) ++ (if fp_off v lim d then [33] else [])
theorem fo_ser_len {lim : Nat} {v : Nat → Nat} {k : Nat} (hk : k < 4) : ∀ d, (fo_ser lim v k d).length ≤ 2 + 5 * d
  | 0 => by
    have h : fp_dig k = [48 + k % 10] := by unfold fp_dig; rw [if_neg (by omega), if_neg (by omega)]; rfl
    rw [fo_ser, h]
    exact Nat.le_refl 2
  | d + 1 => by
    have h1 := fo_ser_len (lim := lim) (v := v) hk d
    have h2 := (fp_dig_len (v d)).1
    rw [fo_ser, List.length_append, List.length_append, List.length_append]
    have h3 : [32].length = 1 := rfl
    have h4 : (if fp_off v lim d then [33] else ([] : List Nat)).length ≤ 1 := by split <;> decide
    omega
def fo_us (kd : Nat) : Bool := decide (kd = 109 ∨ kd = 100 ∨ kd = 115)
/-- the text of the first p prophets -/
def fo_prs (kd par ap : Nat → Nat) : Nat → List Nat
  | 0 => []
  | p + 1 => ((((fo_prs kd par ap p ++ (if 0 < p then [32] else [])) ++ [kd p]) ++ (if fo_us (kd p) then fp_dig (par p) else [])) ++ [61]) ++ fp_dig (ap p)
theorem fo_prs_len {kd par ap : Nat → Nat} : ∀ p, (fo_prs kd par ap p).length ≤ 9 * p
  | 0 => Nat.le_refl 0
  | p + 1 => by
    have h1 := fo_prs_len (kd := kd) (par := par) (ap := ap) p
    have h2 := (fp_dig_len (par p)).1
    have h5 := (fp_dig_len (ap p)).1
    rw [fo_prs, List.length_append, List.length_append, List.length_append, List.length_append, List.length_append]
    have h3 : (if 0 < p then [32] else ([] : List Nat)).length ≤ 1 := by split <;> decide
    have h4 : (if fo_us (kd p) then fp_dig (par p) else ([] : List Nat)).length ≤ 3 := by split; exact h2; exact Nat.zero_le _
    have h6 : [61].length = 1 := rfl
    have h7 : [kd p].length = 1 := rfl
    omega
theorem fs_lf.trans {I I1 I2 : fo_Mi} (h : fs_lf I I1) (h2 : fs_lf I1 I2) : fs_lf I I2 := fun b a1 a2 => (h2 b a1 a2).trans (h b a1 a2)
theorem fs_F.line {I I' : fo_Mi} {D : fo_Md} {np lim : Nat} {kd par n : Nat → Nat} {v : Nat → Nat → Nat} (h : fs_F I D 0 np lim kd par n v) (hf : fs_lf I I') : fs_F I' D 0 np lim kd par n v := fs_F.mono h (fun c _ c2 => ⟨hf c (by omega) (by omega), rfl⟩)

set_option maxRecDepth 10000 in
set_option maxHeartbeats 4000000 in
theorem mX6_writeSeries {l : Launch} {Λ : fo_Lt} {I : fo_Mi} {D : fo_Md} {J : fo_Mj} {X : fo_Mi} (hfl : l.stackTraces = false) {np lim : Nat} {kd par n : Nat → Nat} {v : Nat → Nat → Nat} {x : Int32} (hf : fs_F I D 0 np lim kd par n v) : fx_i l yX6_writeSeries cX6_writeSeries 4 .int 8 131 1 6 Λ [.ref (Λ.2.2.1 605), .int (x)] I D J X ((fun r I' D' J' X' => ∃ k, k < 4 ∧ x = nI k ∧ r = nI (fo_ser lim (v k) k (n k)).length ∧ fs_L I' (fo_ser lim (v k) k (n k)) ∧ fs_lf I I' ∧ D' = D ∧ J' = J)) ((fun E I' D' J' X' => fo_el [("java/lang/IndexOutOfBoundsException", fo_inr x 4 = false)] E ∧ I' = I ∧ D' = D ∧ J' = J)) := by
  obtain ⟨hS, hP, hC, hnp, hlim, h8, hl1, hl9, hn30⟩ := hf.now
  refine fo_sxi hfl (by decide) [(0, .ref (Λ.2.2.1 605)), (1, .int (x))] rfl (Nat.le_of_ble_eq_true rfl) (fun K C fin out thr => ?_)
  refine fo_aload_n C dX6_writeSeries_0 0 rfl rfl 1 rfl ?_
  refine fo_iload_n C dX6_writeSeries_1 1 rfl rfl 2 rfl ?_
  refine fo_yvq C dX6_writeSeries_2 (mX6_seriesAt hfl (x := x)) lv_X6_72 (by decide : fo_k 605 = 8) rfl (by decide) rfl ⟨Nat.le_of_ble_eq_true rfl, Nat.le_of_ble_eq_true rfl⟩ ⟨Nat.le_of_ble_eq_true rfl, Nat.le_of_ble_eq_true rfl⟩ [] rfl (Nat.le_of_ble_eq_true rfl) 5 rfl (fun E I9 D9 J9 X9 h9 => ?_) (fun r1 I2 D3 J4 X5 p6 => ?_)
  · exact out (Nat.le_of_ble_eq_true rfl) (Nat.le_of_ble_eq_true rfl) ⟨fo_el_app h9.1, h9.2⟩
  obtain ⟨k, hk, rfl, rfl, z9⟩ := p6
  obtain ⟨rfl, rfl, rfl, rfl⟩ := fo_sym4 z9
  refine fo_astore_n C dX6_writeSeries_5 rfl [(2, .ref (Λ.2.2.1 (3 + 5 * k))), (0, .ref (Λ.2.2.1 605)), (1, .int (nI k))] rfl (by decide) 6 rfl ?_
  refine fo_aload_n C dX6_writeSeries_6 1 rfl rfl 7 rfl ?_
  refine fo_get C dX6_writeSeries_7 fK8 (by decide : fo_k 605 = 8) (by decide) 4 (by decide) fl_X6_36 (v := .ref (Λ.2.2.1 614)) rfl 10 rfl ?_
  refine fo_qvv C dX6_writeSeries_10 mX0_clear lv_X6_213 (by decide : fo_k 614 = 2) rfl (by decide) rfl ⟨Nat.le_of_ble_eq_true rfl, Nat.le_of_ble_eq_true rfl⟩ ⟨Nat.le_of_ble_eq_true rfl, Nat.le_of_ble_eq_true rfl⟩ [] rfl (Nat.le_of_ble_eq_true rfl) 13 rfl (fun I8 D9 J10 X11 p12 => ?_)
  obtain ⟨hl13, f13, z9⟩ := p12
  obtain ⟨rfl, rfl, rfl⟩ := fo_sym3 z9
  have hf13 := hf.line f13
  obtain ⟨hS13, hP13, hC13, hnp13, hlim13, _⟩ := hf13.now
  have hkd : fp_dig k = [48 + k % 10] := by unfold fp_dig; rw [if_neg (by omega), if_neg (by omega)]; rfl
  refine fo_aload_n C dX6_writeSeries_13 1 rfl rfl 14 rfl ?_
  refine fo_get C dX6_writeSeries_14 fK8 (by decide : fo_k 605 = 8) (by decide) 4 (by decide) fl_X6_36 (v := .ref (Λ.2.2.1 614)) rfl 17 rfl ?_
  refine fo_iload_n C dX6_writeSeries_17 2 rfl rfl 18 rfl ?_
  refine fo_qvv C dX6_writeSeries_18 (mX0_putNumber hl13 (by first | omega | (simp only [List.length_append, List.length_cons, List.length_nil]; omega)) (by omega)) lv_X6_216 (by decide : fo_k 614 = 2) rfl (by decide) rfl ⟨Nat.le_of_ble_eq_true rfl, Nat.le_of_ble_eq_true rfl⟩ ⟨Nat.le_of_ble_eq_true rfl, Nat.le_of_ble_eq_true rfl⟩ [] rfl (Nat.le_of_ble_eq_true rfl) 21 rfl (fun I15 D16 J17 X18 p19 => ?_)
  obtain ⟨hl20, f20, z9⟩ := p19
  obtain ⟨rfl, rfl, rfl⟩ := fo_sym3 z9
  have hf20 := hf13.line f20
  obtain ⟨hS20, hP20, hC20, hnp20, hlim20, _⟩ := hf20.now
  have hkl : (fp_dig k).length = 1 := by rw [hkd]; rfl
  refine fo_aload_n C dX6_writeSeries_21 1 rfl rfl 22 rfl ?_
  refine fo_get C dX6_writeSeries_22 fK8 (by decide : fo_k 605 = 8) (by decide) 4 (by decide) fl_X6_36 (v := .ref (Λ.2.2.1 614)) rfl 25 rfl ?_
  refine fo_bipush C dX6_writeSeries_25 (nI 58) kb_58 27 rfl ?_
  refine fo_qvv C dX6_writeSeries_27 (mX0_put hl20 (by first | omega | (simp only [List.length_append, List.length_cons, List.length_nil]; omega)) (by omega)) lv_X6_219 (by decide : fo_k 614 = 2) rfl (by decide) rfl ⟨Nat.le_of_ble_eq_true rfl, Nat.le_of_ble_eq_true rfl⟩ ⟨Nat.le_of_ble_eq_true rfl, Nat.le_of_ble_eq_true rfl⟩ [] rfl (Nat.le_of_ble_eq_true rfl) 30 rfl (fun I22 D23 J24 X25 p26 => ?_)
  obtain ⟨hl27, f27, z9⟩ := p26
  obtain ⟨rfl, rfl, rfl⟩ := fo_sym3 z9
  have hf27 := hf20.line f27
  obtain ⟨hS27, hP27, hC27, hnp27, hlim27, _⟩ := hf27.now
  refine fo_iconst C dX6_writeSeries_30 (nI 0) ki_0 31 rfl ?_
  refine fo_istore_n C dX6_writeSeries_31 rfl [(3, .int (nI 0)), (2, .ref (Λ.2.2.1 (3 + 5 * k))), (0, .ref (Λ.2.2.1 605)), (1, .int (nI k))] rfl (by decide) 32 rfl ?_
  have hL32 : ∀ (m32 : Nat) (d : Nat) (Y : fo_Mi) (Z : fo_Mi), n k + 1 - d < m32 → d ≤ n k → fs_L Y (fo_ser lim (v k) k d) → fs_lf I Y → fo_G l Λ { frames := 8, cells := 1, slots := 6, locals := 131 } K 1 6 32 [(3, .int (nI d)), (2, .ref (Λ.2.2.1 (3 + 5 * k))), (0, .ref (Λ.2.2.1 605)), (1, .int (nI k))] [] Y D J Z := by
    intro m32
    induction m32 with
    | zero => intro d Y Z hm; exact absurd hm (Nat.not_lt_zero _)
    | succ m32 ih32 =>
      intro d Y Z hm32 hd hY hF
      have hfY := hf.line hF
      obtain ⟨hSY, hPY, hCY, hnpY, hlimY, _⟩ := hfY.now
      have qlen := fo_ser_len (lim := lim) (v := v k) hk d
      have qk9 := hn30 k hk
      refine fo_iload_n C dX6_writeSeries_32 0 rfl rfl 33 rfl ?_
      refine fo_aload_n C dX6_writeSeries_33 1 rfl rfl 34 rfl ?_
      have q28 := hn30 k (by omega)
      refine fo_get C dX6_writeSeries_34 fK6 ((hS k (by omega)).1) (by decide) 1 (by decide) fl_X6_88 (v := .int (nI (n k))) (congrArg (fun x => some (Value.int x)) ((hSY k (by omega)).2.1)) 37 rfl ?_
      refine fo_ncmp_ge C (by omega) (by omega) dX6_writeSeries_37 92 (by decide) 40 rfl (fun c29 => ?_) (fun c29 => ?_)
      · refine fo_aload_n C dX6_writeSeries_92 2 rfl rfl 93 rfl ?_
        refine fo_get C dX6_writeSeries_93 fK8 (by decide : fo_k 605 = 8) (by decide) 4 (by decide) fl_X6_36 (v := .ref (Λ.2.2.1 614)) rfl 96 rfl ?_
        refine fo_get C dX6_writeSeries_96 fK2 (by decide : fo_k 614 = 2) (by decide) 1 (by decide) fl_X6_223 (v := .int (nI ((fo_ser lim (v k) k d).length))) (congrArg (fun x => some (Value.int x)) (hY.2.1)) 99 rfl ?_
        exact fin dX6_writeSeries_99 rfl (Nat.le_of_ble_eq_true rfl) (Nat.le_of_ble_eq_true rfl) ((by rw [show d = n k by omega] at hY; exact ⟨k, hk, rfl, by rw [show d = n k by omega], hY, hF, rfl, rfl⟩))
      · refine fo_aload_n C dX6_writeSeries_40 2 rfl rfl 41 rfl ?_
        refine fo_get C dX6_writeSeries_41 fK8 (by decide : fo_k 605 = 8) (by decide) 4 (by decide) fl_X6_36 (v := .ref (Λ.2.2.1 614)) rfl 44 rfl ?_
        refine fo_bipush C dX6_writeSeries_44 (nI 32) kb_32 46 rfl ?_
        refine fo_qvv C dX6_writeSeries_46 (mX0_put hY (by first | omega | (simp only [List.length_append, List.length_cons, List.length_nil]; omega)) (by omega)) lv_X6_219 (by decide : fo_k 614 = 2) rfl (by decide) rfl ⟨Nat.le_of_ble_eq_true rfl, Nat.le_of_ble_eq_true rfl⟩ ⟨Nat.le_of_ble_eq_true rfl, Nat.le_of_ble_eq_true rfl⟩ [] rfl (Nat.le_of_ble_eq_true rfl) 49 rfl (fun I31 D32 J33 X34 p35 => ?_)
        obtain ⟨hl36, f36, z9⟩ := p35
        obtain ⟨rfl, rfl, rfl⟩ := fo_sym3 z9
        have hf36 := hfY.line f36
        obtain ⟨hS36, hP36, hC36, hnp36, hlim36, _⟩ := hf36.now
        refine fo_aload_n C dX6_writeSeries_49 2 rfl rfl 50 rfl ?_
        have hdl := (fp_dig_len (v k d)).1
        refine fo_get C dX6_writeSeries_50 fK8 (by decide : fo_k 605 = 8) (by decide) 4 (by decide) fl_X6_36 (v := .ref (Λ.2.2.1 614)) rfl 53 rfl ?_
        refine fo_aload_n C dX6_writeSeries_53 1 rfl rfl 54 rfl ?_
        refine fo_get C dX6_writeSeries_54 fK6 ((hS k (by omega)).1) (by decide) 0 (by decide) fl_X6_101 (v := .ref (Λ.2.2.1 (3 + 5 * k + 1))) rfl 57 rfl ?_
        refine fo_iload_n C dX6_writeSeries_57 0 rfl rfl 58 rfl ?_
        have q37 := (hS k (by omega)).2.2.2.2 d (by omega)
        refine fo_iald C dX6_writeSeries_58 (fo_S1k (hS k (by omega)).1) (by rw [fo_S1n (hS k (by omega)).1]; omega) (nI (v k d)) (((hS36 k (by omega)).2.2.2.1 _ (by omega))) 59 rfl ?_
        refine fo_qvv C dX6_writeSeries_59 (mX0_putNumber hl36 (by first | omega | (simp only [List.length_append, List.length_cons, List.length_nil]; omega)) (by omega)) lv_X6_216 (by decide : fo_k 614 = 2) rfl (by decide) rfl ⟨Nat.le_of_ble_eq_true rfl, Nat.le_of_ble_eq_true rfl⟩ ⟨Nat.le_of_ble_eq_true rfl, Nat.le_of_ble_eq_true rfl⟩ [] rfl (Nat.le_of_ble_eq_true rfl) 62 rfl (fun I39 D40 J41 X42 p43 => ?_)
        obtain ⟨hl44, f44, z9⟩ := p43
        obtain ⟨rfl, rfl, rfl⟩ := fo_sym3 z9
        have hf44 := hf36.line f44
        obtain ⟨hS44, hP44, hC44, hnp44, hlim44, _⟩ := hf44.now
        refine fo_aload_n C dX6_writeSeries_62 1 rfl rfl 63 rfl ?_
        refine fo_iload_n C dX6_writeSeries_63 0 rfl rfl 64 rfl ?_
        refine fo_aload_n C dX6_writeSeries_64 2 rfl rfl 65 rfl ?_
        refine fo_get C dX6_writeSeries_65 fK8 (by decide : fo_k 605 = 8) (by decide) 0 (by decide) fl_X6_12 (v := .ref (Λ.2.2.1 0)) rfl 68 rfl ?_
        refine fo_get C dX6_writeSeries_68 fK7 (by decide : fo_k 0 = 7) (by decide) 3 (by decide) fl_X6_85 (v := .int (nI lim)) (congrArg (fun x => some (Value.int x)) (hlim44)) 71 rfl ?_
        refine fo_qvi C dX6_writeSeries_71 (mX4_strays (day := d) (lim := lim) (by omega) hl9 (hS44 k hk)) lv_X6_132 ((hS k (by omega)).1) rfl (by decide) rfl ⟨Nat.le_of_ble_eq_true rfl, Nat.le_of_ble_eq_true rfl⟩ ⟨Nat.le_of_ble_eq_true rfl, Nat.le_of_ble_eq_true rfl⟩ [] rfl (Nat.le_of_ble_eq_true rfl) 74 rfl (fo_es (fun X49 => ?_))
        refine fo_bif_eq C dX6_writeSeries_74 86 (by decide) 77 rfl (fun c51 => ?_) (fun c51 => ?_)
        · refine fo_iinc C dX6_writeSeries_86 0 rfl (nI (d + 1)) (nI_inc1 _) [(3, .int (nI (d + 1))), (2, .ref (Λ.2.2.1 (3 + 5 * k))), (0, .ref (Λ.2.2.1 605)), (1, .int (nI k))] rfl (by decide) 89 rfl ?_
          refine fo_goto C dX6_writeSeries_89 32 (by decide) ?_
          exact ih32 (d + 1) I39 X49 (by omega) (by omega) (by rw [fo_ser, if_neg (by simp_all), List.append_nil]; exact hl44) (hF.trans (f36.trans f44))
        · refine fo_aload_n C dX6_writeSeries_77 2 rfl rfl 78 rfl ?_
          refine fo_get C dX6_writeSeries_78 fK8 (by decide : fo_k 605 = 8) (by decide) 4 (by decide) fl_X6_36 (v := .ref (Λ.2.2.1 614)) rfl 81 rfl ?_
          refine fo_bipush C dX6_writeSeries_81 (nI 33) kb_33 83 rfl ?_
          refine fo_qvv C dX6_writeSeries_83 (mX0_put hl44 (by first | omega | (simp only [List.length_append, List.length_cons, List.length_nil]; omega)) (by omega)) lv_X6_219 (by decide : fo_k 614 = 2) rfl (by decide) rfl ⟨Nat.le_of_ble_eq_true rfl, Nat.le_of_ble_eq_true rfl⟩ ⟨Nat.le_of_ble_eq_true rfl, Nat.le_of_ble_eq_true rfl⟩ [] rfl (Nat.le_of_ble_eq_true rfl) 86 rfl (fun I53 D54 J55 X56 p57 => ?_)
          obtain ⟨hl58, f58, z9⟩ := p57
          obtain ⟨rfl, rfl, rfl⟩ := fo_sym3 z9
          have hf58 := hf44.line f58
          obtain ⟨hS58, hP58, hC58, hnp58, hlim58, _⟩ := hf58.now
          refine fo_iinc C dX6_writeSeries_86 0 rfl (nI (d + 1)) (nI_inc1 _) [(3, .int (nI (d + 1))), (2, .ref (Λ.2.2.1 (3 + 5 * k))), (0, .ref (Λ.2.2.1 605)), (1, .int (nI k))] rfl (by decide) 89 rfl ?_
          refine fo_goto C dX6_writeSeries_89 32 (by decide) ?_
          exact ih32 (d + 1) I53 X49 (by omega) (by omega) (by rw [fo_ser, if_pos (by assumption)]; exact hl58) (hF.trans ((f36.trans f44).trans f58))
  exact hL32 (n k + 1 + 1) 0 I22 X (by omega) (by omega) hl27 ((f13.trans f20).trans f27)
set_option maxRecDepth 10000 in
set_option maxHeartbeats 4000000 in
theorem mX6_writeProphets {l : Launch} {Λ : fo_Lt} {I : fo_Mi} {D : fo_Md} {J : fo_Mj} {X : fo_Mi} {np lim : Nat} {kd par n : Nat → Nat} {v : Nat → Nat → Nat} (hf : fs_F I D 0 np lim kd par n v) : fk_i l yX6_writeProphets cX6_writeProphets 3 .int 2 42 Λ [.ref (Λ.2.2.1 605)] I D J X ((fun r I' D' J' X' => r = nI (fo_prs kd par (fp_ap np kd par n v) np).length ∧ fs_L I' (fo_prs kd par (fp_ap np kd par n v) np) ∧ fs_lf I I' ∧ D' = D ∧ J' = J ∧ X' = X)) := by
  obtain ⟨hS, hP, hC, hnp, hlim, h8, hl1, hl9, hn30⟩ := hf.now
  refine fo_si (by decide) [(0, .ref (Λ.2.2.1 605))] rfl (Nat.le_of_ble_eq_true rfl) (fun K C fin => ?_)
  refine fo_aload_n C dX6_writeProphets_0 0 rfl rfl 1 rfl ?_
  refine fo_get C dX6_writeProphets_1 fK8 (by decide : fo_k 605 = 8) (by decide) 4 (by decide) fl_X6_36 (v := .ref (Λ.2.2.1 614)) rfl 4 rfl ?_
  refine fo_qvv C dX6_writeProphets_4 mX0_clear lv_X6_213 (by decide : fo_k 614 = 2) rfl (by decide) rfl ⟨Nat.le_of_ble_eq_true rfl, Nat.le_of_ble_eq_true rfl⟩ ⟨Nat.le_of_ble_eq_true rfl, Nat.le_of_ble_eq_true rfl⟩ [] rfl (Nat.le_of_ble_eq_true rfl) 7 rfl (fun I2 D3 J4 X5 p6 => ?_)
  obtain ⟨hl7, f7, z9⟩ := p6
  obtain ⟨rfl, rfl, rfl⟩ := fo_sym3 z9
  have hf7 := hf.line f7
  obtain ⟨hS7, hP7, hC7, hnp7, hlim7, _⟩ := hf7.now
  refine fo_iconst C dX6_writeProphets_7 (nI 0) ki_0 8 rfl ?_
  refine fo_istore_n C dX6_writeProphets_8 rfl [(1, .int (nI 0)), (0, .ref (Λ.2.2.1 605))] rfl (by decide) 9 rfl ?_
  have hL9 : ∀ (m9 : Nat) (p : Nat) (Y : fo_Mi), np + 1 - p < m9 → p ≤ np → fs_L Y (fo_prs kd par (fp_ap np kd par n v) p) → fs_lf I Y → fo_G l Λ { frames := 2, cells := 0, slots := 0, locals := 42 } K 0 0 9 [(1, .int (nI p)), (0, .ref (Λ.2.2.1 605))] [] Y D J X := by
    intro m9
    induction m9 with
    | zero => intro p Y hm; exact absurd hm (Nat.not_lt_zero _)
    | succ m9 ih9 =>
      intro p Y hm9 hp9 hY hF
      have hfY := hf.line hF
      obtain ⟨hSY, hPY, hCY, hnpY, hlimY, _⟩ := hfY.now
      have qlen := fo_prs_len (kd := kd) (par := par) (ap := fp_ap np kd par n v) p
      refine fo_iload_n C dX6_writeProphets_9 0 rfl rfl 10 rfl ?_
      refine fo_aload_n C dX6_writeProphets_10 1 rfl rfl 11 rfl ?_
      refine fo_get C dX6_writeProphets_11 fK8 (by decide : fo_k 605 = 8) (by decide) 0 (by decide) fl_X6_12 (v := .ref (Λ.2.2.1 0)) rfl 14 rfl ?_
      refine fo_get C dX6_writeProphets_14 fK7 (by decide : fo_k 0 = 7) (by decide) 2 (by decide) fl_X6_145 (v := .int (nI np)) (congrArg (fun x => some (Value.int x)) (hnpY)) 17 rfl ?_
      refine fo_ncmp_ge C (by omega) (by omega) dX6_writeProphets_17 98 (by decide) 20 rfl (fun c8 => ?_) (fun c8 => ?_)
      · refine fo_aload_n C dX6_writeProphets_98 1 rfl rfl 99 rfl ?_
        refine fo_get C dX6_writeProphets_99 fK8 (by decide : fo_k 605 = 8) (by decide) 4 (by decide) fl_X6_36 (v := .ref (Λ.2.2.1 614)) rfl 102 rfl ?_
        refine fo_get C dX6_writeProphets_102 fK2 (by decide : fo_k 614 = 2) (by decide) 1 (by decide) fl_X6_223 (v := .int (nI ((fo_prs kd par (fp_ap np kd par n v) p).length))) (congrArg (fun x => some (Value.int x)) (hY.2.1)) 105 rfl ?_
        exact fin dX6_writeProphets_105 rfl ((by rw [show p = np by omega] at hY; exact ⟨by rw [show p = np by omega], hY, hF, rfl, rfl, rfl⟩))
      · refine fo_iload_n C dX6_writeProphets_20 0 rfl rfl 21 rfl ?_
        refine fo_nif_le C (by omega) dX6_writeProphets_21 33 (by decide) 24 rfl (fun c9 => ?_) (fun c9 => ?_)
        · have hkp := (hP p (by omega)).2.2.2
          have hkd9 := hkp.1
          have hpr := hkp.2
          have hpl := (fp_dig_len (par p)).1
          refine fo_aload_n C dX6_writeProphets_33 1 rfl rfl 34 rfl ?_
          refine fo_get C dX6_writeProphets_34 fK8 (by decide : fo_k 605 = 8) (by decide) 0 (by decide) fl_X6_12 (v := .ref (Λ.2.2.1 0)) rfl 37 rfl ?_
          refine fo_get C dX6_writeProphets_37 fK7 (by decide : fo_k 0 = 7) (by decide) 1 (by decide) fl_X6_226 (v := .ref (Λ.2.2.1 2)) rfl 40 rfl ?_
          refine fo_iload_n C dX6_writeProphets_40 0 rfl rfl 41 rfl ?_
          refine fo_aaldP C dX6_writeProphets_41 (by decide : fo_k 2 = 26) (by rw [(show fo_n 2 = 8 from rfl)]; omega) (23 + 4 * p) (by omega) 42 rfl ?_
          refine fo_astore_n C dX6_writeProphets_42 rfl [(2, .ref (Λ.2.2.1 (23 + 4 * p))), (1, .int (nI p)), (0, .ref (Λ.2.2.1 605))] rfl (by decide) 43 rfl ?_
          refine fo_aload_n C dX6_writeProphets_43 2 rfl rfl 44 rfl ?_
          refine fo_get C dX6_writeProphets_44 fK8 (by decide : fo_k 605 = 8) (by decide) 4 (by decide) fl_X6_36 (v := .ref (Λ.2.2.1 614)) rfl 47 rfl ?_
          refine fo_aload_n C dX6_writeProphets_47 0 rfl rfl 48 rfl ?_
          refine fo_get C dX6_writeProphets_48 fK5 ((hP p (by omega)).1) (by decide) 0 (by decide) fl_X6_152 (v := .int (nI (kd p))) (congrArg (fun x => some (Value.int x)) ((hPY p (by omega)).2.1)) 51 rfl ?_
          refine fo_qvv C dX6_writeProphets_51 (mX0_put hY (by first | omega | (simp only [List.length_append, List.length_cons, List.length_nil]; omega)) (by omega)) lv_X6_219 (by decide : fo_k 614 = 2) rfl (by decide) rfl ⟨Nat.le_of_ble_eq_true rfl, Nat.le_of_ble_eq_true rfl⟩ ⟨Nat.le_of_ble_eq_true rfl, Nat.le_of_ble_eq_true rfl⟩ [] rfl (Nat.le_of_ble_eq_true rfl) 54 rfl (fun I11 D12 J13 X14 p15 => ?_)
          obtain ⟨hl16, f16, z9⟩ := p15
          obtain ⟨rfl, rfl, rfl⟩ := fo_sym3 z9
          have hf16 := hfY.line f16
          obtain ⟨hS16, hP16, hC16, hnp16, hlim16, _⟩ := hf16.now
          refine fo_aload_n C dX6_writeProphets_54 0 rfl rfl 55 rfl ?_
          refine fo_qvi C dX6_writeProphets_55 (mX3_usesParameter (hP16 p (by omega))) lv_X6_230 ((hP p (by omega)).1) rfl (by decide) rfl ⟨Nat.le_of_ble_eq_true rfl, Nat.le_of_ble_eq_true rfl⟩ ⟨Nat.le_of_ble_eq_true rfl, Nat.le_of_ble_eq_true rfl⟩ [] rfl (Nat.le_of_ble_eq_true rfl) 58 rfl (fo_er ?_)
          refine fo_bif_eq C dX6_writeProphets_58 72 (by decide) 61 rfl (fun c23 => ?_) (fun c23 => ?_)
          · refine fo_aload_n C dX6_writeProphets_72 2 rfl rfl 73 rfl ?_
            refine fo_get C dX6_writeProphets_73 fK8 (by decide : fo_k 605 = 8) (by decide) 4 (by decide) fl_X6_36 (v := .ref (Λ.2.2.1 614)) rfl 76 rfl ?_
            refine fo_bipush C dX6_writeProphets_76 (nI 61) kb_61 78 rfl ?_
            refine fo_qvv C dX6_writeProphets_78 (mX0_put hl16 (by first | omega | (simp only [List.length_append, List.length_cons, List.length_nil]; omega)) (by omega)) lv_X6_219 (by decide : fo_k 614 = 2) rfl (by decide) rfl ⟨Nat.le_of_ble_eq_true rfl, Nat.le_of_ble_eq_true rfl⟩ ⟨Nat.le_of_ble_eq_true rfl, Nat.le_of_ble_eq_true rfl⟩ [] rfl (Nat.le_of_ble_eq_true rfl) 81 rfl (fun I25 D26 J27 X28 p29 => ?_)
            obtain ⟨hl30, f30, z9⟩ := p29
            obtain ⟨rfl, rfl, rfl⟩ := fo_sym3 z9
            have hf30 := hf16.line f30
            obtain ⟨hS30, hP30, hC30, hnp30, hlim30, _⟩ := hf30.now
            refine fo_aload_n C dX6_writeProphets_81 2 rfl rfl 82 rfl ?_
            refine fo_get C dX6_writeProphets_82 fK8 (by decide : fo_k 605 = 8) (by decide) 4 (by decide) fl_X6_36 (v := .ref (Λ.2.2.1 614)) rfl 85 rfl ?_
            refine fo_aload_n C dX6_writeProphets_85 0 rfl rfl 86 rfl ?_
            have qap := fp_ap_le (np := np) (kd := kd) (par := par) (n := n) (v := v) (p := p) hn30
            have qapl := (fp_dig_len (fp_ap np kd par n v p)).1
            refine fo_qvi C dX6_writeProphets_86 (mX3_sumAllPoints (f := fun k => fp_pts np kd par (v k) p (n k)) (hP p (by omega)).1 (fun k h4 => (hC30 p (by omega) k h4).2.2) (fun k h4 => by have := fp_pts_le np kd par (v k) p (n k); have := hn30 k h4; omega)) lv_X6_233 ((hP p (by omega)).1) rfl (by decide) rfl ⟨Nat.le_of_ble_eq_true rfl, Nat.le_of_ble_eq_true rfl⟩ ⟨Nat.le_of_ble_eq_true rfl, Nat.le_of_ble_eq_true rfl⟩ [.ref (Λ.2.2.1 614)] rfl (Nat.le_of_ble_eq_true rfl) 89 rfl (fo_er ?_)
            refine fo_ti (b := nI (fp_ap np kd par n v p)) rfl ?_
            refine fo_qvv C dX6_writeProphets_89 (mX0_putNumber hl30 (by first | omega | (simp only [List.length_append, List.length_cons, List.length_nil]; omega)) (by omega)) lv_X6_216 (by decide : fo_k 614 = 2) rfl (by decide) rfl ⟨Nat.le_of_ble_eq_true rfl, Nat.le_of_ble_eq_true rfl⟩ ⟨Nat.le_of_ble_eq_true rfl, Nat.le_of_ble_eq_true rfl⟩ [] rfl (Nat.le_of_ble_eq_true rfl) 92 rfl (fun I38 D39 J40 X41 p42 => ?_)
            obtain ⟨hl43, f43, z9⟩ := p42
            obtain ⟨rfl, rfl, rfl⟩ := fo_sym3 z9
            have hf43 := hf30.line f43
            obtain ⟨hS43, hP43, hC43, hnp43, hlim43, _⟩ := hf43.now
            refine fo_iinc C dX6_writeProphets_92 1 rfl (nI (p + 1)) (nI_inc1 _) [(1, .int (nI (p + 1))), (2, .ref (Λ.2.2.1 (23 + 4 * p))), (0, .ref (Λ.2.2.1 605))] rfl (by decide) 95 rfl ?_
            refine fo_goto C dX6_writeProphets_95 9 (by decide) ?_
            refine fo_sub C [0, 2] (lv' := [(1, .int (nI (p + 1))), (0, .ref (Λ.2.2.1 605))]) rfl ?_
            exact ih9 (p + 1) I38 (by omega) (by omega) (by rw [fo_prs, if_neg (by omega), if_neg (show ¬ fo_us (kd p) = true by unfold fo_us; simp_all)]; rw [List.append_nil, List.append_nil]; exact hl43) (hF.trans ((f16.trans f30).trans f43))
          · refine fo_aload_n C dX6_writeProphets_61 2 rfl rfl 62 rfl ?_
            refine fo_get C dX6_writeProphets_62 fK8 (by decide : fo_k 605 = 8) (by decide) 4 (by decide) fl_X6_36 (v := .ref (Λ.2.2.1 614)) rfl 65 rfl ?_
            refine fo_aload_n C dX6_writeProphets_65 0 rfl rfl 66 rfl ?_
            refine fo_get C dX6_writeProphets_66 fK5 ((hP p (by omega)).1) (by decide) 1 (by decide) fl_X6_158 (v := .int (nI (par p))) (congrArg (fun x => some (Value.int x)) ((hP16 p (by omega)).2.2.1)) 69 rfl ?_
            refine fo_qvv C dX6_writeProphets_69 (mX0_putNumber hl16 (by first | omega | (simp only [List.length_append, List.length_cons, List.length_nil]; omega)) (by omega)) lv_X6_216 (by decide : fo_k 614 = 2) rfl (by decide) rfl ⟨Nat.le_of_ble_eq_true rfl, Nat.le_of_ble_eq_true rfl⟩ ⟨Nat.le_of_ble_eq_true rfl, Nat.le_of_ble_eq_true rfl⟩ [] rfl (Nat.le_of_ble_eq_true rfl) 72 rfl (fun I45 D46 J47 X48 p49 => ?_)
            obtain ⟨hl50, f50, z9⟩ := p49
            obtain ⟨rfl, rfl, rfl⟩ := fo_sym3 z9
            have hf50 := hf16.line f50
            obtain ⟨hS50, hP50, hC50, hnp50, hlim50, _⟩ := hf50.now
            refine fo_aload_n C dX6_writeProphets_72 2 rfl rfl 73 rfl ?_
            refine fo_get C dX6_writeProphets_73 fK8 (by decide : fo_k 605 = 8) (by decide) 4 (by decide) fl_X6_36 (v := .ref (Λ.2.2.1 614)) rfl 76 rfl ?_
            refine fo_bipush C dX6_writeProphets_76 (nI 61) kb_61 78 rfl ?_
            refine fo_qvv C dX6_writeProphets_78 (mX0_put hl50 (by first | omega | (simp only [List.length_append, List.length_cons, List.length_nil]; omega)) (by omega)) lv_X6_219 (by decide : fo_k 614 = 2) rfl (by decide) rfl ⟨Nat.le_of_ble_eq_true rfl, Nat.le_of_ble_eq_true rfl⟩ ⟨Nat.le_of_ble_eq_true rfl, Nat.le_of_ble_eq_true rfl⟩ [] rfl (Nat.le_of_ble_eq_true rfl) 81 rfl (fun I52 D53 J54 X55 p56 => ?_)
            obtain ⟨hl57, f57, z9⟩ := p56
            obtain ⟨rfl, rfl, rfl⟩ := fo_sym3 z9
            have hf57 := hf50.line f57
            obtain ⟨hS57, hP57, hC57, hnp57, hlim57, _⟩ := hf57.now
            refine fo_aload_n C dX6_writeProphets_81 2 rfl rfl 82 rfl ?_
            refine fo_get C dX6_writeProphets_82 fK8 (by decide : fo_k 605 = 8) (by decide) 4 (by decide) fl_X6_36 (v := .ref (Λ.2.2.1 614)) rfl 85 rfl ?_
            refine fo_aload_n C dX6_writeProphets_85 0 rfl rfl 86 rfl ?_
            have qap := fp_ap_le (np := np) (kd := kd) (par := par) (n := n) (v := v) (p := p) hn30
            have qapl := (fp_dig_len (fp_ap np kd par n v p)).1
            refine fo_qvi C dX6_writeProphets_86 (mX3_sumAllPoints (f := fun k => fp_pts np kd par (v k) p (n k)) (hP p (by omega)).1 (fun k h4 => (hC57 p (by omega) k h4).2.2) (fun k h4 => by have := fp_pts_le np kd par (v k) p (n k); have := hn30 k h4; omega)) lv_X6_233 ((hP p (by omega)).1) rfl (by decide) rfl ⟨Nat.le_of_ble_eq_true rfl, Nat.le_of_ble_eq_true rfl⟩ ⟨Nat.le_of_ble_eq_true rfl, Nat.le_of_ble_eq_true rfl⟩ [.ref (Λ.2.2.1 614)] rfl (Nat.le_of_ble_eq_true rfl) 89 rfl (fo_er ?_)
            refine fo_ti (b := nI (fp_ap np kd par n v p)) rfl ?_
            refine fo_qvv C dX6_writeProphets_89 (mX0_putNumber hl57 (by first | omega | (simp only [List.length_append, List.length_cons, List.length_nil]; omega)) (by omega)) lv_X6_216 (by decide : fo_k 614 = 2) rfl (by decide) rfl ⟨Nat.le_of_ble_eq_true rfl, Nat.le_of_ble_eq_true rfl⟩ ⟨Nat.le_of_ble_eq_true rfl, Nat.le_of_ble_eq_true rfl⟩ [] rfl (Nat.le_of_ble_eq_true rfl) 92 rfl (fun I65 D66 J67 X68 p69 => ?_)
            obtain ⟨hl70, f70, z9⟩ := p69
            obtain ⟨rfl, rfl, rfl⟩ := fo_sym3 z9
            have hf70 := hf57.line f70
            obtain ⟨hS70, hP70, hC70, hnp70, hlim70, _⟩ := hf70.now
            refine fo_iinc C dX6_writeProphets_92 1 rfl (nI (p + 1)) (nI_inc1 _) [(1, .int (nI (p + 1))), (2, .ref (Λ.2.2.1 (23 + 4 * p))), (0, .ref (Λ.2.2.1 605))] rfl (by decide) 95 rfl ?_
            refine fo_goto C dX6_writeProphets_95 9 (by decide) ?_
            refine fo_sub C [0, 2] (lv' := [(1, .int (nI (p + 1))), (0, .ref (Λ.2.2.1 605))]) rfl ?_
            exact ih9 (p + 1) I65 (by omega) (by omega) (by rw [fo_prs, if_neg (by omega), if_pos (show fo_us (kd p) = true by unfold fo_us; first | assumption | simp_all)]; rw [List.append_nil]; exact hl70) (hF.trans (((f16.trans f50).trans f57).trans f70))
        · refine fo_aload_n C dX6_writeProphets_24 1 rfl rfl 25 rfl ?_
          refine fo_get C dX6_writeProphets_25 fK8 (by decide : fo_k 605 = 8) (by decide) 4 (by decide) fl_X6_36 (v := .ref (Λ.2.2.1 614)) rfl 28 rfl ?_
          refine fo_bipush C dX6_writeProphets_28 (nI 32) kb_32 30 rfl ?_
          refine fo_qvv C dX6_writeProphets_30 (mX0_put hY (by first | omega | (simp only [List.length_append, List.length_cons, List.length_nil]; omega)) (by omega)) lv_X6_219 (by decide : fo_k 614 = 2) rfl (by decide) rfl ⟨Nat.le_of_ble_eq_true rfl, Nat.le_of_ble_eq_true rfl⟩ ⟨Nat.le_of_ble_eq_true rfl, Nat.le_of_ble_eq_true rfl⟩ [] rfl (Nat.le_of_ble_eq_true rfl) 33 rfl (fun I72 D73 J74 X75 p76 => ?_)
          obtain ⟨hl77, f77, z9⟩ := p76
          obtain ⟨rfl, rfl, rfl⟩ := fo_sym3 z9
          have hf77 := hfY.line f77
          obtain ⟨hS77, hP77, hC77, hnp77, hlim77, _⟩ := hf77.now
          have hkp := (hP p (by omega)).2.2.2
          have hkd9 := hkp.1
          have hpr := hkp.2
          have hpl := (fp_dig_len (par p)).1
          refine fo_aload_n C dX6_writeProphets_33 1 rfl rfl 34 rfl ?_
          refine fo_get C dX6_writeProphets_34 fK8 (by decide : fo_k 605 = 8) (by decide) 0 (by decide) fl_X6_12 (v := .ref (Λ.2.2.1 0)) rfl 37 rfl ?_
          refine fo_get C dX6_writeProphets_37 fK7 (by decide : fo_k 0 = 7) (by decide) 1 (by decide) fl_X6_226 (v := .ref (Λ.2.2.1 2)) rfl 40 rfl ?_
          refine fo_iload_n C dX6_writeProphets_40 0 rfl rfl 41 rfl ?_
          refine fo_aaldP C dX6_writeProphets_41 (by decide : fo_k 2 = 26) (by rw [(show fo_n 2 = 8 from rfl)]; omega) (23 + 4 * p) (by omega) 42 rfl ?_
          refine fo_astore_n C dX6_writeProphets_42 rfl [(2, .ref (Λ.2.2.1 (23 + 4 * p))), (1, .int (nI p)), (0, .ref (Λ.2.2.1 605))] rfl (by decide) 43 rfl ?_
          refine fo_aload_n C dX6_writeProphets_43 2 rfl rfl 44 rfl ?_
          refine fo_get C dX6_writeProphets_44 fK8 (by decide : fo_k 605 = 8) (by decide) 4 (by decide) fl_X6_36 (v := .ref (Λ.2.2.1 614)) rfl 47 rfl ?_
          refine fo_aload_n C dX6_writeProphets_47 0 rfl rfl 48 rfl ?_
          refine fo_get C dX6_writeProphets_48 fK5 ((hP p (by omega)).1) (by decide) 0 (by decide) fl_X6_152 (v := .int (nI (kd p))) (congrArg (fun x => some (Value.int x)) ((hP77 p (by omega)).2.1)) 51 rfl ?_
          refine fo_qvv C dX6_writeProphets_51 (mX0_put hl77 (by first | omega | (simp only [List.length_append, List.length_cons, List.length_nil]; omega)) (by omega)) lv_X6_219 (by decide : fo_k 614 = 2) rfl (by decide) rfl ⟨Nat.le_of_ble_eq_true rfl, Nat.le_of_ble_eq_true rfl⟩ ⟨Nat.le_of_ble_eq_true rfl, Nat.le_of_ble_eq_true rfl⟩ [] rfl (Nat.le_of_ble_eq_true rfl) 54 rfl (fun I79 D80 J81 X82 p83 => ?_)
          obtain ⟨hl84, f84, z9⟩ := p83
          obtain ⟨rfl, rfl, rfl⟩ := fo_sym3 z9
          have hf84 := hf77.line f84
          obtain ⟨hS84, hP84, hC84, hnp84, hlim84, _⟩ := hf84.now
          refine fo_aload_n C dX6_writeProphets_54 0 rfl rfl 55 rfl ?_
          refine fo_qvi C dX6_writeProphets_55 (mX3_usesParameter (hP84 p (by omega))) lv_X6_230 ((hP p (by omega)).1) rfl (by decide) rfl ⟨Nat.le_of_ble_eq_true rfl, Nat.le_of_ble_eq_true rfl⟩ ⟨Nat.le_of_ble_eq_true rfl, Nat.le_of_ble_eq_true rfl⟩ [] rfl (Nat.le_of_ble_eq_true rfl) 58 rfl (fo_er ?_)
          refine fo_bif_eq C dX6_writeProphets_58 72 (by decide) 61 rfl (fun c91 => ?_) (fun c91 => ?_)
          · refine fo_aload_n C dX6_writeProphets_72 2 rfl rfl 73 rfl ?_
            refine fo_get C dX6_writeProphets_73 fK8 (by decide : fo_k 605 = 8) (by decide) 4 (by decide) fl_X6_36 (v := .ref (Λ.2.2.1 614)) rfl 76 rfl ?_
            refine fo_bipush C dX6_writeProphets_76 (nI 61) kb_61 78 rfl ?_
            refine fo_qvv C dX6_writeProphets_78 (mX0_put hl84 (by first | omega | (simp only [List.length_append, List.length_cons, List.length_nil]; omega)) (by omega)) lv_X6_219 (by decide : fo_k 614 = 2) rfl (by decide) rfl ⟨Nat.le_of_ble_eq_true rfl, Nat.le_of_ble_eq_true rfl⟩ ⟨Nat.le_of_ble_eq_true rfl, Nat.le_of_ble_eq_true rfl⟩ [] rfl (Nat.le_of_ble_eq_true rfl) 81 rfl (fun I93 D94 J95 X96 p97 => ?_)
            obtain ⟨hl98, f98, z9⟩ := p97
            obtain ⟨rfl, rfl, rfl⟩ := fo_sym3 z9
            have hf98 := hf84.line f98
            obtain ⟨hS98, hP98, hC98, hnp98, hlim98, _⟩ := hf98.now
            refine fo_aload_n C dX6_writeProphets_81 2 rfl rfl 82 rfl ?_
            refine fo_get C dX6_writeProphets_82 fK8 (by decide : fo_k 605 = 8) (by decide) 4 (by decide) fl_X6_36 (v := .ref (Λ.2.2.1 614)) rfl 85 rfl ?_
            refine fo_aload_n C dX6_writeProphets_85 0 rfl rfl 86 rfl ?_
            have qap := fp_ap_le (np := np) (kd := kd) (par := par) (n := n) (v := v) (p := p) hn30
            have qapl := (fp_dig_len (fp_ap np kd par n v p)).1
            refine fo_qvi C dX6_writeProphets_86 (mX3_sumAllPoints (f := fun k => fp_pts np kd par (v k) p (n k)) (hP p (by omega)).1 (fun k h4 => (hC98 p (by omega) k h4).2.2) (fun k h4 => by have := fp_pts_le np kd par (v k) p (n k); have := hn30 k h4; omega)) lv_X6_233 ((hP p (by omega)).1) rfl (by decide) rfl ⟨Nat.le_of_ble_eq_true rfl, Nat.le_of_ble_eq_true rfl⟩ ⟨Nat.le_of_ble_eq_true rfl, Nat.le_of_ble_eq_true rfl⟩ [.ref (Λ.2.2.1 614)] rfl (Nat.le_of_ble_eq_true rfl) 89 rfl (fo_er ?_)
            refine fo_ti (b := nI (fp_ap np kd par n v p)) rfl ?_
            refine fo_qvv C dX6_writeProphets_89 (mX0_putNumber hl98 (by first | omega | (simp only [List.length_append, List.length_cons, List.length_nil]; omega)) (by omega)) lv_X6_216 (by decide : fo_k 614 = 2) rfl (by decide) rfl ⟨Nat.le_of_ble_eq_true rfl, Nat.le_of_ble_eq_true rfl⟩ ⟨Nat.le_of_ble_eq_true rfl, Nat.le_of_ble_eq_true rfl⟩ [] rfl (Nat.le_of_ble_eq_true rfl) 92 rfl (fun I106 D107 J108 X109 p110 => ?_)
            obtain ⟨hl111, f111, z9⟩ := p110
            obtain ⟨rfl, rfl, rfl⟩ := fo_sym3 z9
            have hf111 := hf98.line f111
            obtain ⟨hS111, hP111, hC111, hnp111, hlim111, _⟩ := hf111.now
            refine fo_iinc C dX6_writeProphets_92 1 rfl (nI (p + 1)) (nI_inc1 _) [(1, .int (nI (p + 1))), (2, .ref (Λ.2.2.1 (23 + 4 * p))), (0, .ref (Λ.2.2.1 605))] rfl (by decide) 95 rfl ?_
            refine fo_goto C dX6_writeProphets_95 9 (by decide) ?_
            refine fo_sub C [0, 2] (lv' := [(1, .int (nI (p + 1))), (0, .ref (Λ.2.2.1 605))]) rfl ?_
            exact ih9 (p + 1) I106 (by omega) (by omega) (by rw [fo_prs, if_pos (by omega), if_neg (show ¬ fo_us (kd p) = true by unfold fo_us; simp_all)]; rw [List.append_nil]; exact hl111) (hF.trans (((f77.trans f84).trans f98).trans f111))
          · refine fo_aload_n C dX6_writeProphets_61 2 rfl rfl 62 rfl ?_
            refine fo_get C dX6_writeProphets_62 fK8 (by decide : fo_k 605 = 8) (by decide) 4 (by decide) fl_X6_36 (v := .ref (Λ.2.2.1 614)) rfl 65 rfl ?_
            refine fo_aload_n C dX6_writeProphets_65 0 rfl rfl 66 rfl ?_
            refine fo_get C dX6_writeProphets_66 fK5 ((hP p (by omega)).1) (by decide) 1 (by decide) fl_X6_158 (v := .int (nI (par p))) (congrArg (fun x => some (Value.int x)) ((hP84 p (by omega)).2.2.1)) 69 rfl ?_
            refine fo_qvv C dX6_writeProphets_69 (mX0_putNumber hl84 (by first | omega | (simp only [List.length_append, List.length_cons, List.length_nil]; omega)) (by omega)) lv_X6_216 (by decide : fo_k 614 = 2) rfl (by decide) rfl ⟨Nat.le_of_ble_eq_true rfl, Nat.le_of_ble_eq_true rfl⟩ ⟨Nat.le_of_ble_eq_true rfl, Nat.le_of_ble_eq_true rfl⟩ [] rfl (Nat.le_of_ble_eq_true rfl) 72 rfl (fun I113 D114 J115 X116 p117 => ?_)
            obtain ⟨hl118, f118, z9⟩ := p117
            obtain ⟨rfl, rfl, rfl⟩ := fo_sym3 z9
            have hf118 := hf84.line f118
            obtain ⟨hS118, hP118, hC118, hnp118, hlim118, _⟩ := hf118.now
            refine fo_aload_n C dX6_writeProphets_72 2 rfl rfl 73 rfl ?_
            refine fo_get C dX6_writeProphets_73 fK8 (by decide : fo_k 605 = 8) (by decide) 4 (by decide) fl_X6_36 (v := .ref (Λ.2.2.1 614)) rfl 76 rfl ?_
            refine fo_bipush C dX6_writeProphets_76 (nI 61) kb_61 78 rfl ?_
            refine fo_qvv C dX6_writeProphets_78 (mX0_put hl118 (by first | omega | (simp only [List.length_append, List.length_cons, List.length_nil]; omega)) (by omega)) lv_X6_219 (by decide : fo_k 614 = 2) rfl (by decide) rfl ⟨Nat.le_of_ble_eq_true rfl, Nat.le_of_ble_eq_true rfl⟩ ⟨Nat.le_of_ble_eq_true rfl, Nat.le_of_ble_eq_true rfl⟩ [] rfl (Nat.le_of_ble_eq_true rfl) 81 rfl (fun I120 D121 J122 X123 p124 => ?_)
            obtain ⟨hl125, f125, z9⟩ := p124
            obtain ⟨rfl, rfl, rfl⟩ := fo_sym3 z9
            have hf125 := hf118.line f125
            obtain ⟨hS125, hP125, hC125, hnp125, hlim125, _⟩ := hf125.now
            refine fo_aload_n C dX6_writeProphets_81 2 rfl rfl 82 rfl ?_
            refine fo_get C dX6_writeProphets_82 fK8 (by decide : fo_k 605 = 8) (by decide) 4 (by decide) fl_X6_36 (v := .ref (Λ.2.2.1 614)) rfl 85 rfl ?_
            refine fo_aload_n C dX6_writeProphets_85 0 rfl rfl 86 rfl ?_
            have qap := fp_ap_le (np := np) (kd := kd) (par := par) (n := n) (v := v) (p := p) hn30
            have qapl := (fp_dig_len (fp_ap np kd par n v p)).1
            refine fo_qvi C dX6_writeProphets_86 (mX3_sumAllPoints (f := fun k => fp_pts np kd par (v k) p (n k)) (hP p (by omega)).1 (fun k h4 => (hC125 p (by omega) k h4).2.2) (fun k h4 => by have := fp_pts_le np kd par (v k) p (n k); have := hn30 k h4; omega)) lv_X6_233 ((hP p (by omega)).1) rfl (by decide) rfl ⟨Nat.le_of_ble_eq_true rfl, Nat.le_of_ble_eq_true rfl⟩ ⟨Nat.le_of_ble_eq_true rfl, Nat.le_of_ble_eq_true rfl⟩ [.ref (Λ.2.2.1 614)] rfl (Nat.le_of_ble_eq_true rfl) 89 rfl (fo_er ?_)
            refine fo_ti (b := nI (fp_ap np kd par n v p)) rfl ?_
            refine fo_qvv C dX6_writeProphets_89 (mX0_putNumber hl125 (by first | omega | (simp only [List.length_append, List.length_cons, List.length_nil]; omega)) (by omega)) lv_X6_216 (by decide : fo_k 614 = 2) rfl (by decide) rfl ⟨Nat.le_of_ble_eq_true rfl, Nat.le_of_ble_eq_true rfl⟩ ⟨Nat.le_of_ble_eq_true rfl, Nat.le_of_ble_eq_true rfl⟩ [] rfl (Nat.le_of_ble_eq_true rfl) 92 rfl (fun I133 D134 J135 X136 p137 => ?_)
            obtain ⟨hl138, f138, z9⟩ := p137
            obtain ⟨rfl, rfl, rfl⟩ := fo_sym3 z9
            have hf138 := hf125.line f138
            obtain ⟨hS138, hP138, hC138, hnp138, hlim138, _⟩ := hf138.now
            refine fo_iinc C dX6_writeProphets_92 1 rfl (nI (p + 1)) (nI_inc1 _) [(1, .int (nI (p + 1))), (2, .ref (Λ.2.2.1 (23 + 4 * p))), (0, .ref (Λ.2.2.1 605))] rfl (by decide) 95 rfl ?_
            refine fo_goto C dX6_writeProphets_95 9 (by decide) ?_
            refine fo_sub C [0, 2] (lv' := [(1, .int (nI (p + 1))), (0, .ref (Λ.2.2.1 605))]) rfl ?_
            exact ih9 (p + 1) I133 (by omega) (by omega) (by rw [fo_prs, if_pos (by omega), if_pos (show fo_us (kd p) = true by unfold fo_us; first | assumption | simp_all)]; exact hl138) (hF.trans ((((f77.trans f84).trans f118).trans f125).trans f138))
  exact hL9 (np + 1 + 1) 0 I2 (by omega) (by omega) hl7 f7
