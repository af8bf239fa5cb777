
/-! THE LABORATORY: changes -/
/-- a state: number of prophets, limit, kinds, parameters, numbers of values, values -/
abbrev fa_S : Type := Nat × Nat × (Nat → Nat) × (Nat → Nat) × (Nat → Nat) × (Nat → Nat → Nat)
def fs_FS (I : fo_Mi) (D : fo_Md) (b : Nat) (s : fa_S) : Prop := fs_F I D b s.1 s.2.1 s.2.2.1 s.2.2.2.1 s.2.2.2.2.1 s.2.2.2.2.2
theorem fs_F.mono {I I' : fo_Mi} {D D' : fo_Md} {b np lim : Nat} {kd par n : Nat → Nat} {v : Nat → Nat → Nat} (h : fs_F I D b np lim kd par n v) (hc : ∀ c, b ≤ c → c < b + 55 → I' c = I c ∧ D' c = D c) : fs_F I' D' b np lim kd par n v := by
  obtain ⟨⟨hk, ⟨ho1, ho2, ho4, ho5, ho6⟩, hnp, hlim, hP, hS⟩, hC, hH⟩ := h
  refine ⟨⟨hk, ⟨ho1, ho2, ho4, ho5, ho6⟩, ?_, ?_, ?_, ?_⟩, ?_, ?_⟩
  · rw [(hc b (by omega) (by omega)).1]; exact hnp
  · rw [(hc b (by omega) (by omega)).1]; exact hlim
  · intro p hp
    rw [(hc (b + 23 + 4 * p) (by omega) (by omega)).1]; exact hP p hp
  · intro k h4
    rw [(hc (b + 3 + 5 * k) (by omega) (by omega)).1, (hc (b + 3 + 5 * k + 1) (by omega) (by omega)).1]; exact hS k h4
  · intro p hp k h4
    rw [(hc (b + 23 + 4 * p + 1) (by omega) (by omega)).1, (hc (b + 23 + 4 * p + 2) (by omega) (by omega)).2, (hc (b + 23 + 4 * p + 3) (by omega) (by omega)).1]; exact hC p hp k h4
  · intro p hp
    rw [(hc (b + 23 + 4 * p) (by omega) (by omega)).1]; exact hH p hp
theorem fs_FS.mono {I I' : fo_Mi} {D D' : fo_Md} {b : Nat} {s : fa_S} (h : fs_FS I D b s) (hc : ∀ c, b ≤ c → c < b + 55 → I' c = I c ∧ D' c = D c) : fs_FS I' D' b s := fs_F.mono h hc
/-- the ring: the states before the latest changes, the latest first -/
def fl_H (I : fo_Mi) (D : fo_Md) (h : List fa_S) : Prop := ∃ x, x < 9 ∧ I 606 1 = nI x ∧ I 606 2 = nI h.length ∧ h.length ≤ 8 ∧ ∀ j s, h[j]? = some s → fs_FS I D (110 + 55 * ((x + 8 - j) % 9)) s
theorem fl_H.mono {I I' : fo_Mi} {D D' : fo_Md} {h : List fa_S} (hh : fl_H I D h) (hc : ∀ c, 110 ≤ c → c < 607 → I' c = I c ∧ D' c = D c) : fl_H I' D' h := by
  obtain ⟨x, h1, h2, h3, h4, h5⟩ := hh
  exact ⟨x, h1, by rw [(hc 606 (by omega) (by omega)).1]; exact h2, by rw [(hc 606 (by omega) (by omega)).1]; exact h3, h4, fun j s hs => (h5 j s hs).mono (fun c c1 c2 => hc c (by omega) (by omega))⟩
/-- nothing changes but the present state and the ring -/
def fl_f (I : fo_Mi) (D : fo_Md) (I' : fo_Mi) (D' : fo_Md) : Prop := ∀ c, (55 ≤ c ∧ c < 110 ∨ 605 ≤ c ∧ c ≠ 606) → I' c = I c ∧ D' c = D c
theorem fl_H.push {I I1 I2 : fo_Mi} {D D1 : fo_Md} {s : fa_S} {h : List fa_S} {x : Nat} (hx : x < 9) (h3 : I 606 2 = nI h.length) (h4 : h.length ≤ 8) (h5 : ∀ j s, h[j]? = some s → fs_FS I D (110 + 55 * ((x + 8 - j) % 9)) s) (hs : fs_FS I1 D1 (110 + 55 * x) s) (hf : fs_fr (110 + 55 * x) I D I1 D1) (e1 : I2 606 1 = nI (if x + 1 < 9 then x + 1 else 0)) (e2 : I2 606 2 = nI (if h.length < 8 then h.length + 1 else h.length)) (e3 : ∀ b, b ≠ 606 → I2 b = I1 b) : fl_H I2 D1 ((s :: h).take 8) := by
  have hl : ((s :: h).take 8).length = if h.length < 8 then h.length + 1 else h.length := by
    rw [List.length_take, List.length_cons]
    split <;> omega
  refine ⟨if x + 1 < 9 then x + 1 else 0, by split <;> omega, e1, by rw [hl]; exact e2, by rw [hl]; split <;> omega, fun j q hq => ?_⟩
  have hj : j < 8 := by
    have := (List.getElem?_eq_some_iff.mp hq).1
    rw [hl] at this
    split at this <;> omega
  rw [List.getElem?_take_of_lt hj] at hq
  have key : (if x + 1 < 9 then x + 1 else 0) + 8 - j = (if x + 1 < 9 then x + 9 - j else 8 - j) := by split <;> omega
  cases j with
  | zero =>
    cases hq
    have ep : ((if x + 1 < 9 then x + 1 else 0) + 8 - 0) % 9 = x := by split <;> omega
    rw [ep]
    exact hs.mono (fun c c1 c2 => ⟨e3 c (by omega), rfl⟩)
  | succ j =>
    have hq : h[j]? = some q := hq
    have ep : ((if x + 1 < 9 then x + 1 else 0) + 8 - (j + 1)) % 9 = (x + 8 - j) % 9 := by split <;> omega
    rw [ep]
    have hne : (x + 8 - j) % 9 ≠ x := by omega
    have hlt : (x + 8 - j) % 9 < 9 := Nat.mod_lt _ (by decide)
    refine (h5 j q hq).mono (fun c c1 c2 => ?_)
    rw [e3 c (by omega)]
    exact hf c (by omega)


def fo_999 (x : Int32) : Bool := decide (0 ≤ x.toInt ∧ x.toInt ≤ 999)
theorem fo_999_lt {x : Int32} (h : x < 0) : fo_999 x = false := by
  have := Int32.lt_iff_toInt_lt.mp h
  rw [show (0 : Int32).toInt = 0 from rfl] at this
  exact decide_eq_false (by omega)
theorem fo_999_gt {x : Int32} (h : nI 999 < x) : fo_999 x = false := by
  have := Int32.lt_iff_toInt_lt.mp h
  rw [nI_toInt (by decide)] at this
  exact decide_eq_false (by omega)
theorem fo_999_in {x : Int32} (h0 : ¬ x < 0) (h : x ≤ nI 999) : ∃ c, c ≤ 999 ∧ x = nI c := by
  have h1 : ¬ x.toInt < 0 := fun q => h0 (Int32.lt_iff_toInt_lt.mpr (by rw [show (0 : Int32).toInt = 0 from rfl]; exact q))
  have h2 := Int32.le_iff_toInt_le.mp h
  rw [nI_toInt (by decide)] at h2
  refine ⟨x.toInt.toNat, by omega, ?_⟩
  apply Int32.toInt_inj.mp
  rw [nI_toInt (by omega)]
  omega

set_option maxRecDepth 10000 in
set_option maxHeartbeats 4000000 in
theorem mX6_noteChange {l : Launch} {Λ : fo_Lt} {I : fo_Mi} {D : fo_Md} {J : fo_Mj} {X : fo_Mi} {np lim : Nat} {kd par n : Nat → Nat} {v : Nat → Nat → Nat} {hs : List fa_S} (hf : fs_F I D 0 np lim kd par n v) (hh : fl_H I D hs) : fk_v l yX6_noteChange cX6_noteChange 1 4 144 Λ [.ref (Λ.2.2.1 605)] I D J X ((fun I' D' J' X' => fl_H I' D' (((np, lim, kd, par, n, v) :: hs).take 8) ∧ (∀ c, (c < 110 ∨ 605 ≤ c ∧ c ≠ 606) → I' c = I c ∧ D' c = D c) ∧ J' = J ∧ X' = X)) := by
  obtain ⟨x, hx, hn, hc, h4, h5⟩ := hh
  refine fo_sv (by decide) [(0, .ref (Λ.2.2.1 605))] rfl (Nat.le_of_ble_eq_true rfl) (fun K C fin => ?_)
  refine fo_aload_n C dX6_noteChange_0 0 rfl rfl 1 rfl ?_
  refine fo_get C dX6_noteChange_1 fK8 (by decide : fo_k 605 = 8) (by decide) 2 (by decide) fl_X6_22 (v := .ref (Λ.2.2.1 606)) rfl 4 rfl ?_
  refine fo_aload_n C dX6_noteChange_4 0 rfl rfl 5 rfl ?_
  refine fo_get C dX6_noteChange_5 fK8 (by decide : fo_k 605 = 8) (by decide) 0 (by decide) fl_X6_12 (v := .ref (Λ.2.2.1 0)) rfl 8 rfl ?_
  refine fo_qvv C dX6_noteChange_8 (mX1_write hf hx hn (by omega)) lv_X6_253 (by decide : fo_k 606 = 3) rfl (by decide) rfl ⟨Nat.le_of_ble_eq_true rfl, Nat.le_of_ble_eq_true rfl⟩ ⟨Nat.le_of_ble_eq_true rfl, Nat.le_of_ble_eq_true rfl⟩ [] rfl (Nat.le_of_ble_eq_true rfl) 11 rfl (fun I2 D3 J4 X5 p6 => ?_)
  obtain ⟨g1, f1, z9⟩ := p6
  obtain ⟨rfl, rfl⟩ : J = J4 ∧ X = X5 := ⟨z9.1.symm, z9.2.symm⟩
  refine fo_aload_n C dX6_noteChange_11 0 rfl rfl 12 rfl ?_
  refine fo_get C dX6_noteChange_12 fK8 (by decide : fo_k 605 = 8) (by decide) 2 (by decide) fl_X6_22 (v := .ref (Λ.2.2.1 606)) rfl 15 rfl ?_
  refine fo_qvv C dX6_noteChange_15 (mX1_advance (x := x) (c := hs.length) hx h4 (by rw [(f1 606 (by omega)).1]; exact hn) (by rw [(f1 606 (by omega)).1]; exact hc)) lv_X6_266 (by decide : fo_k 606 = 3) rfl (by decide) rfl ⟨Nat.le_of_ble_eq_true rfl, Nat.le_of_ble_eq_true rfl⟩ ⟨Nat.le_of_ble_eq_true rfl, Nat.le_of_ble_eq_true rfl⟩ [] rfl (Nat.le_of_ble_eq_true rfl) 18 rfl (fun I8 D9 J10 X11 p12 => ?_)
  obtain ⟨a1, a2, a3, z9⟩ := p12
  obtain ⟨rfl, rfl, rfl⟩ := fo_sym3 z9
  exact fin dX6_noteChange_18 (⟨fl_H.push hx hc h4 h5 g1 f1 a1 a2 a3, fun c hc9 => ⟨(a3 c (by omega)).trans (f1 c (by omega)).1, (f1 c (by omega)).2⟩, rfl, rfl⟩)
set_option maxRecDepth 10000 in
set_option maxHeartbeats 4000000 in
theorem mX6_addProphet {l : Launch} {Λ : fo_Lt} {I : fo_Mi} {D : fo_Md} {J : fo_Mj} {X : fo_Mi} (hfl : l.stackTraces = false) {np lim : Nat} {kd par n : Nat → Nat} {v : Nat → Nat → Nat} {hs : List fa_S} {w : Nat} {z : Int32} (hw : w < 65536) (hf : fs_F I D 0 np lim kd par n v) (hh : fl_H I D hs) : fx_i l yX6_addProphet cX6_addProphet 3 .int 6 164 1 6 Λ [.ref (Λ.2.2.1 605), .int (nI w), .int (z)] I D J X ((fun r I' D' J' X' => ∃ q, 1 ≤ q ∧ q ≤ 9 ∧ z = nI q ∧ (w = 108 ∨ w = 109 ∨ w = 100 ∨ w = 116 ∨ w = 115) ∧ (np < 8 ∧ fp_sum n 0 4 = 0) ∧ r = nI np ∧ fs_F I' D' 0 (np + 1) lim (va_up kd np w) (va_up par np q) n v ∧ fl_H I' D' (((np, lim, kd, par, n, v) :: hs).take 8) ∧ fl_f I D I' D' ∧ J' = J)) ((fun E I' D' J' X' => fo_el [("java/lang/IllegalArgumentException", (fo_kc w && fo_19 z) = false), ("java/lang/IllegalStateException", (fo_kc w && fo_19 z) = true ∧ ¬ (np < 8 ∧ fp_sum n 0 4 = 0))] E ∧ I' = I ∧ D' = D ∧ J' = J)) := by
  obtain ⟨hS, hP, hC, hnp, hlim, h8, hl1, hl9, hn30⟩ := hf.now
  refine fo_sxi hfl (by decide) [(0, .ref (Λ.2.2.1 605)), (1, .int (nI w)), (2, .int (z))] rfl (Nat.le_of_ble_eq_true rfl) (fun K C fin out thr => ?_)
  refine fo_iload_n C dX6_addProphet_0 1 rfl rfl 1 rfl ?_
  refine fo_qsi C dX6_addProphet_1 (mX6_isKind (w := w) (by omega)) ls_X6_47 rfl ⟨Nat.le_of_ble_eq_true rfl, Nat.le_of_ble_eq_true rfl⟩ ⟨Nat.le_of_ble_eq_true rfl, Nat.le_of_ble_eq_true rfl⟩ [] rfl (Nat.le_of_ble_eq_true rfl) 4 rfl (fo_er ?_)
  refine fo_bif_eq C dX6_addProphet_4 14 (by decide) 7 rfl (fun c7 => ?_) (fun c7 => ?_)
  · exact thr tf_IllegalArgument dX6_addProphet_14 dX6_addProphet_17 dX6_addProphet_18 dX6_addProphet_21 (by decide) (Nat.le_of_ble_eq_true rfl) (Nat.le_of_ble_eq_true rfl) (Nat.le_of_ble_eq_true rfl) (⟨Or.inl ⟨rfl, by simp_all⟩, rfl, rfl, rfl⟩)
  · have hkc : w = 108 ∨ w = 109 ∨ w = 100 ∨ w = 116 ∨ w = 115 := by first | exact of_decide_eq_true (by assumption) | (simp_all [fo_kc])
    refine fo_iload_n C dX6_addProphet_7 2 rfl rfl 8 rfl ?_
    refine fo_qsi C dX6_addProphet_8 (mX6_isOneToNine (x := z)) ls_X6_51 rfl ⟨Nat.le_of_ble_eq_true rfl, Nat.le_of_ble_eq_true rfl⟩ ⟨Nat.le_of_ble_eq_true rfl, Nat.le_of_ble_eq_true rfl⟩ [] rfl (Nat.le_of_ble_eq_true rfl) 11 rfl (fo_er ?_)
    refine fo_bif_ne C dX6_addProphet_11 22 (by decide) 14 rfl (fun c14 => ?_) (fun c14 => ?_)
    · obtain ⟨q, hq1, hq2, rfl⟩ := fo_19_at c14
      refine fo_aload_n C dX6_addProphet_22 0 rfl rfl 23 rfl ?_
      refine fo_get C dX6_addProphet_23 fK8 (by decide : fo_k 605 = 8) (by decide) 0 (by decide) fl_X6_12 (v := .ref (Λ.2.2.1 0)) rfl 26 rfl ?_
      refine fo_qvi C dX6_addProphet_26 (mX5_takesProphet hf.1) lv_X6_58 (by decide : fo_k 0 = 7) rfl (by decide) rfl ⟨Nat.le_of_ble_eq_true rfl, Nat.le_of_ble_eq_true rfl⟩ ⟨Nat.le_of_ble_eq_true rfl, Nat.le_of_ble_eq_true rfl⟩ [] rfl (Nat.le_of_ble_eq_true rfl) 29 rfl (fo_er ?_)
      refine fo_bif_ne C dX6_addProphet_29 40 (by decide) 32 rfl (fun c21 => ?_) (fun c21 => ?_)
      · have hok : np < 8 ∧ fp_sum n 0 4 = 0 := by first | exact of_decide_eq_true c21 | simp_all
        refine fo_aload_n C dX6_addProphet_40 0 rfl rfl 41 rfl ?_
        refine fo_qvv C dX6_addProphet_41 (mX6_noteChange hf hh) lv_X6_65 (by decide : fo_k 605 = 8) rfl (by decide) rfl ⟨Nat.le_of_ble_eq_true rfl, Nat.le_of_ble_eq_true rfl⟩ ⟨Nat.le_of_ble_eq_true rfl, Nat.le_of_ble_eq_true rfl⟩ [] rfl (Nat.le_of_ble_eq_true rfl) 44 rfl (fun I23 D24 J25 X26 p27 => ?_)
        obtain ⟨hh1, hc1, z9⟩ := p27
        obtain ⟨rfl, rfl⟩ : J = J25 ∧ X = X26 := ⟨z9.1.symm, z9.2.symm⟩
        have hf1 : fs_F I23 D24 0 np lim kd par n v := hf.mono (fun c _ c2 => hc1 c (by omega))
        refine fo_aload_n C dX6_addProphet_44 0 rfl rfl 45 rfl ?_
        refine fo_get C dX6_addProphet_45 fK8 (by decide : fo_k 605 = 8) (by decide) 0 (by decide) fl_X6_12 (v := .ref (Λ.2.2.1 0)) rfl 48 rfl ?_
        refine fo_iload_n C dX6_addProphet_48 1 rfl rfl 49 rfl ?_
        refine fo_iload_n C dX6_addProphet_49 2 rfl rfl 50 rfl ?_
        refine fo_qvi C dX6_addProphet_50 (mX5_enlist hf1 hok.1 hok.2 ⟨hkc, hq1, hq2⟩) lv_X6_68 (by decide : fo_k 0 = 7) rfl (by decide) rfl ⟨Nat.le_of_ble_eq_true rfl, Nat.le_of_ble_eq_true rfl⟩ ⟨Nat.le_of_ble_eq_true rfl, Nat.le_of_ble_eq_true rfl⟩ [] rfl (Nat.le_of_ble_eq_true rfl) 53 rfl (fun r28 I29 D30 J31 X32 p33 => ?_)
        obtain ⟨rfl, g2, f2, rfl⟩ := p33
        exact fin dX6_addProphet_53 rfl (Nat.le_of_ble_eq_true rfl) (Nat.le_of_ble_eq_true rfl) (⟨q, hq1, hq2, rfl, hkc, hok, rfl, g2, hh1.mono (fun c c1 c2 => (f2 c (by omega))), fun c c9 => ⟨(f2 c (by omega)).1.trans (hc1 c (by omega)).1, (f2 c (by omega)).2.trans (hc1 c (by omega)).2⟩, rfl⟩)
      · exact thr tf_IllegalState dX6_addProphet_32 dX6_addProphet_35 dX6_addProphet_36 dX6_addProphet_39 (by decide) (Nat.le_of_ble_eq_true rfl) (Nat.le_of_ble_eq_true rfl) (Nat.le_of_ble_eq_true rfl) (⟨Or.inr (Or.inl ⟨rfl, ⟨by have e1 : fo_kc w = true := decide_eq_true hkc; rw [e1, fo_19_nI hq1 hq2]; rfl, by first | exact of_decide_eq_false (by assumption) | simp_all⟩⟩), rfl, rfl, rfl⟩)
    · exact thr tf_IllegalArgument dX6_addProphet_14 dX6_addProphet_17 dX6_addProphet_18 dX6_addProphet_21 (by decide) (Nat.le_of_ble_eq_true rfl) (Nat.le_of_ble_eq_true rfl) (Nat.le_of_ble_eq_true rfl) (⟨Or.inl ⟨rfl, by simp_all⟩, rfl, rfl, rfl⟩)
set_option maxRecDepth 10000 in
set_option maxHeartbeats 4000000 in
theorem mX6_observe {l : Launch} {Λ : fo_Lt} {I : fo_Mi} {D : fo_Md} {J : fo_Mj} {X : fo_Mi} (hfl : l.stackTraces = false) {np lim : Nat} {kd par n : Nat → Nat} {v : Nat → Nat → Nat} {hs : List fa_S} {x z : Int32} (hf : fs_F I D 0 np lim kd par n v) (hh : fl_H I D hs) : fx_i l yX6_observe cX6_observe 4 .int 8 164 2 12 Λ [.ref (Λ.2.2.1 605), .int (x), .int (z)] I D J X ((fun r I' D' J' X' => ∃ k u, k < 4 ∧ x = nI k ∧ u ≤ 999 ∧ z = nI u ∧ n k < 30 ∧ r = nI (n k) ∧ fs_F I' D' 0 np lim kd par (va_up n k (n k + 1)) (va_up v k (va_up (v k) (n k) u)) ∧ fl_H I' D' (((np, lim, kd, par, n, v) :: hs).take 8) ∧ fl_f I D I' D' ∧ J' = J)) ((fun E I' D' J' X' => fo_el [("java/lang/IndexOutOfBoundsException", fo_inr x 4 = false), ("java/lang/IllegalArgumentException", ∃ k, k < 4 ∧ x = nI k ∧ fo_999 z = false), ("java/lang/IllegalStateException", ∃ k u, k < 4 ∧ x = nI k ∧ u ≤ 999 ∧ z = nI u ∧ ¬ n k < 30)] E ∧ I' = I ∧ D' = D ∧ J' = J)) := by
  obtain ⟨hS, hP, hC, hnp, hlim, h8, hl1, hl9, hn30⟩ := hf.now
  refine fo_sxi hfl (by decide) [(0, .ref (Λ.2.2.1 605)), (1, .int (x)), (2, .int (z))] rfl (Nat.le_of_ble_eq_true rfl) (fun K C fin out thr => ?_)
  refine fo_aload_n C dX6_observe_0 0 rfl rfl 1 rfl ?_
  refine fo_iload_n C dX6_observe_1 1 rfl rfl 2 rfl ?_
  refine fo_yvq C dX6_observe_2 (mX6_seriesAt hfl (x := x)) lv_X6_72 (by decide : fo_k 605 = 8) rfl (by decide) rfl ⟨Nat.le_of_ble_eq_true rfl, Nat.le_of_ble_eq_true rfl⟩ ⟨Nat.le_of_ble_eq_true rfl, Nat.le_of_ble_eq_true rfl⟩ [] rfl (Nat.le_of_ble_eq_true rfl) 5 rfl (fun E I9 D9 J9 X9 h9 => ?_) (fun r1 I2 D3 J4 X5 p6 => ?_)
  · exact out (Nat.le_of_ble_eq_true rfl) (Nat.le_of_ble_eq_true rfl) ⟨fo_el_app h9.1, h9.2⟩
  obtain ⟨k, hk, rfl, rfl, z9⟩ := p6
  obtain ⟨rfl, rfl, rfl, rfl⟩ := fo_sym4 z9
  refine fo_astore_n C dX6_observe_5 rfl [(3, .ref (Λ.2.2.1 (3 + 5 * k))), (0, .ref (Λ.2.2.1 605)), (1, .int (nI k)), (2, .int (z))] rfl (by decide) 6 rfl ?_
  refine fo_iload_n C dX6_observe_6 3 rfl rfl 7 rfl ?_
  refine fo_if_lt C dX6_observe_7 17 (by decide) 10 rfl (fun c7 => ?_) (fun c7 => ?_)
  · exact thr tf_IllegalArgument dX6_observe_17 dX6_observe_20 dX6_observe_21 dX6_observe_24 (by decide) (Nat.le_of_ble_eq_true rfl) (Nat.le_of_ble_eq_true rfl) (Nat.le_of_ble_eq_true rfl) (⟨Or.inr (Or.inl ⟨rfl, ⟨k, hk, rfl, by first | exact fo_999_lt (by assumption) | exact fo_999_gt (Int32.not_le.mp (by assumption))⟩⟩), rfl, rfl, rfl⟩)
  · refine fo_iload_n C dX6_observe_10 3 rfl rfl 11 rfl ?_
    refine fo_sipush C dX6_observe_11 (nI 999) ks_999 14 rfl ?_
    refine fo_icmp_le C dX6_observe_14 25 (by decide) 17 rfl (fun c8 => ?_) (fun c8 => ?_)
    · obtain ⟨u, hu, rfl⟩ := fo_999_in (by assumption) c8
      refine fo_aload_n C dX6_observe_25 0 rfl rfl 26 rfl ?_
      refine fo_qvi C dX6_observe_26 (mX4_isFull (hS k hk)) lv_X6_76 ((hS k (by omega)).1) rfl (by decide) rfl ⟨Nat.le_of_ble_eq_true rfl, Nat.le_of_ble_eq_true rfl⟩ ⟨Nat.le_of_ble_eq_true rfl, Nat.le_of_ble_eq_true rfl⟩ [] rfl (Nat.le_of_ble_eq_true rfl) 29 rfl (fo_er ?_)
      refine fo_bif_eq C dX6_observe_29 40 (by decide) 32 rfl (fun c15 => ?_) (fun c15 => ?_)
      · have hfull : n k < 30 := by first | (have z8 := of_decide_eq_false c15; omega) | (simp at c15; omega) | omega
        have qk := hn30 k hk
        refine fo_aload_n C dX6_observe_40 1 rfl rfl 41 rfl ?_
        refine fo_qvv C dX6_observe_41 (mX6_noteChange hf hh) lv_X6_65 (by decide : fo_k 605 = 8) rfl (by decide) rfl ⟨Nat.le_of_ble_eq_true rfl, Nat.le_of_ble_eq_true rfl⟩ ⟨Nat.le_of_ble_eq_true rfl, Nat.le_of_ble_eq_true rfl⟩ [] rfl (Nat.le_of_ble_eq_true rfl) 44 rfl (fun I17 D18 J19 X20 p21 => ?_)
        obtain ⟨hh1, hc1, z9⟩ := p21
        obtain ⟨rfl, rfl⟩ : J = J19 ∧ X = X20 := ⟨z9.1.symm, z9.2.symm⟩
        have hf1 : fs_F I17 D18 0 np lim kd par n v := hf.mono (fun c _ c2 => hc1 c (by omega))
        refine fo_aload_n C dX6_observe_44 1 rfl rfl 45 rfl ?_
        refine fo_get C dX6_observe_45 fK8 (by decide : fo_k 605 = 8) (by decide) 0 (by decide) fl_X6_12 (v := .ref (Λ.2.2.1 0)) rfl 48 rfl ?_
        refine fo_iload_n C dX6_observe_48 2 rfl rfl 49 rfl ?_
        refine fo_iload_n C dX6_observe_49 3 rfl rfl 50 rfl ?_
        refine fo_qvi C dX6_observe_50 (mX5_append (x := u) hk hfull hu hf1) lv_X6_81 (by decide : fo_k 0 = 7) rfl (by decide) rfl ⟨Nat.le_of_ble_eq_true rfl, Nat.le_of_ble_eq_true rfl⟩ ⟨Nat.le_of_ble_eq_true rfl, Nat.le_of_ble_eq_true rfl⟩ [] rfl (Nat.le_of_ble_eq_true rfl) 53 rfl (fun r22 I23 D24 J25 X26 p27 => ?_)
        obtain ⟨rfl, g2, f2, rfl⟩ := p27
        exact fin dX6_observe_53 rfl (Nat.le_of_ble_eq_true rfl) (Nat.le_of_ble_eq_true rfl) (⟨k, u, hk, rfl, hu, rfl, hfull, rfl, g2, hh1.mono (fun c c1 c2 => (f2 c (by omega))), fun c c9 => ⟨(f2 c (by omega)).1.trans (hc1 c (by omega)).1, (f2 c (by omega)).2.trans (hc1 c (by omega)).2⟩, rfl⟩)
      · exact thr tf_IllegalState dX6_observe_32 dX6_observe_35 dX6_observe_36 dX6_observe_39 (by decide) (Nat.le_of_ble_eq_true rfl) (Nat.le_of_ble_eq_true rfl) (Nat.le_of_ble_eq_true rfl) (⟨Or.inr (Or.inr (Or.inl ⟨rfl, ⟨k, u, hk, rfl, hu, rfl, by first | (have z8 := of_decide_eq_true (p := 30 ≤ n k) (by assumption); omega) | (simp_all; omega)⟩⟩)), rfl, rfl, rfl⟩)
    · exact thr tf_IllegalArgument dX6_observe_17 dX6_observe_20 dX6_observe_21 dX6_observe_24 (by decide) (Nat.le_of_ble_eq_true rfl) (Nat.le_of_ble_eq_true rfl) (Nat.le_of_ble_eq_true rfl) (⟨Or.inr (Or.inl ⟨rfl, ⟨k, hk, rfl, by first | exact fo_999_lt (by assumption) | exact fo_999_gt (Int32.not_le.mp (by assumption))⟩⟩), rfl, rfl, rfl⟩)
