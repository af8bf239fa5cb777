
/-! THE MODEL: changes, whole -/
abbrev fg_t : Type := Nat × Int32 × Option fa_S
def fg_ns (o : Option fa_S) (s : fa_S) : fa_S := o.getD s
def fg_nh (o : Option fa_S) (s : fa_S) (hs : List fa_S) : List fa_S := if o.isSome then (s :: hs).take 8 else hs
def fg_add (s : fa_S) (w : Nat) (z : Int32) : fg_t := if fo_kc w && fo_19 z then (if s.1 < 8 ∧ fp_sum s.2.2.2.2.1 0 4 = 0 then (0, nI s.1, some (s.1 + 1, s.2.1, va_up s.2.2.1 s.1 w, va_up s.2.2.2.1 s.1 (fN z), s.2.2.2.2.1, s.2.2.2.2.2)) else (2, nI 0, none)) else (1, nI 0, none)
theorem fg_add_1 {s : fa_S} {w : Nat} {z : Int32} (h : (fo_kc w && fo_19 z) = false) : fg_add s w z = (1, nI 0, none) := by unfold fg_add; rw [h]; rfl
theorem fg_add_2 {s : fa_S} {w : Nat} {z : Int32} (h : (fo_kc w && fo_19 z) = true) (h2 : ¬ (s.1 < 8 ∧ fp_sum s.2.2.2.2.1 0 4 = 0)) : fg_add s w z = (2, nI 0, none) := by unfold fg_add; rw [h]; exact if_neg h2
theorem fg_add_t {s : fa_S} {w q : Nat} (h : (fo_kc w && fo_19 (nI q)) = true) (hq : q ≤ 9) (h2 : s.1 < 8 ∧ fp_sum s.2.2.2.2.1 0 4 = 0) : fg_add s w (nI q) = (0, nI s.1, some (s.1 + 1, s.2.1, va_up s.2.2.1 s.1 w, va_up s.2.2.2.1 s.1 q, s.2.2.2.2.1, s.2.2.2.2.2)) := by unfold fg_add; rw [h, fN_nI (by omega)]; exact if_pos h2
def fg_see (s : fa_S) (x z : Int32) : fg_t := if fo_inr x 4 then (if fo_999 z then (if s.2.2.2.2.1 (fN x) < 30 then (0, nI (s.2.2.2.2.1 (fN x)), some (s.1, s.2.1, s.2.2.1, s.2.2.2.1, va_up s.2.2.2.2.1 (fN x) (s.2.2.2.2.1 (fN x) + 1), va_up s.2.2.2.2.2 (fN x) (va_up (s.2.2.2.2.2 (fN x)) (s.2.2.2.2.1 (fN x)) (fN z)))) else (3, nI 0, none)) else (2, nI 0, none)) else (1, nI 0, none)
theorem fg_see_1 {s : fa_S} {x z : Int32} (h : fo_inr x 4 = false) : fg_see s x z = (1, nI 0, none) := by unfold fg_see; rw [h]; rfl
theorem fg_see_2 {s : fa_S} {k : Nat} {z : Int32} (hk : k < 4) (h : fo_999 z = false) : fg_see s (nI k) z = (2, nI 0, none) := by unfold fg_see; rw [fo_inr_nI hk (by omega), h]; rfl
theorem fg_see_3 {s : fa_S} {k : Nat} {z : Int32} (hk : k < 4) (h : fo_999 z = true) (h2 : ¬ s.2.2.2.2.1 k < 30) : fg_see s (nI k) z = (3, nI 0, none) := by unfold fg_see; rw [fo_inr_nI hk (by omega), h, fN_nI (by omega)]; exact if_neg h2
theorem fg_see_t {s : fa_S} {k u : Nat} (hk : k < 4) (hu : u ≤ 999) (h2 : s.2.2.2.2.1 k < 30) : fg_see s (nI k) (nI u) = (0, nI (s.2.2.2.2.1 k), some (s.1, s.2.1, s.2.2.1, s.2.2.2.1, va_up s.2.2.2.2.1 k (s.2.2.2.2.1 k + 1), va_up s.2.2.2.2.2 k (va_up (s.2.2.2.2.2 k) (s.2.2.2.2.1 k) u))) := by unfold fg_see; rw [fo_inr_nI hk (by omega), fo_999_nI hu, fN_nI (by omega), fN_nI (by omega)]; exact if_pos h2
def fg_lim (s : fa_S) (z : Int32) : fg_t := if fo_19 z then (0, nI s.2.1, some (s.1, fN z, s.2.2.1, s.2.2.2.1, s.2.2.2.2.1, s.2.2.2.2.2)) else (1, nI 0, none)
theorem fg_lim_1 {s : fa_S} {z : Int32} (h : fo_19 z = false) : fg_lim s z = (1, nI 0, none) := by unfold fg_lim; rw [h]; rfl
theorem fg_lim_t {s : fa_S} {q : Nat} (h1 : 1 ≤ q) (h9 : q ≤ 9) : fg_lim s (nI q) = (0, nI s.2.1, some (s.1, q, s.2.2.1, s.2.2.2.1, s.2.2.2.2.1, s.2.2.2.2.2)) := by unfold fg_lim; rw [fo_19_nI h1 h9, fN_nI (by omega)]; rfl
def fg_for (s : fa_S) (x : Int32) : fg_t := if fo_inr x 4 then (0, nI (s.2.2.2.2.1 (fN x)), some (s.1, s.2.1, s.2.2.1, s.2.2.2.1, va_up s.2.2.2.2.1 (fN x) 0, s.2.2.2.2.2)) else (1, nI 0, none)
theorem fg_for_1 {s : fa_S} {x : Int32} (h : fo_inr x 4 = false) : fg_for s x = (1, nI 0, none) := by unfold fg_for; rw [h]; rfl
theorem fg_for_t {s : fa_S} {k : Nat} (hk : k < 4) : fg_for s (nI k) = (0, nI (s.2.2.2.2.1 k), some (s.1, s.2.1, s.2.2.1, s.2.2.2.1, va_up s.2.2.2.2.1 k 0, s.2.2.2.2.2)) := by unfold fg_for; rw [fo_inr_nI hk (by omega), fN_nI (by omega)]; rfl

set_option maxRecDepth 10000 in
set_option maxHeartbeats 4000000 in
theorem mX7_addProphet {l : Launch} {Λ : fo_Lt} {I : fo_Mi} {D : fo_Md} {J : fo_Mj} {X : fo_Mi} {np lim : Nat} {kd par n : Nat → Nat} {v : Nat → Nat → Nat} {hs : List fa_S} {ks : Option fa_S} {L : List Nat} {m : Nat} {t : Nat → Nat} {e f : Int32} {w : Nat} {z : Int32} (hw : w < 65536) (hM : fm_M I (np, lim, kd, par, n, v) hs ks L m t e f) : fk_i l yX7_addProphet cX7_addProphet 4 .int 3 63 Λ [.ref (Λ.2.2.1 616), .int (nI w), .int (z)] I D J X ((fun r I' D' J' X' => r = (fg_add (np, lim, kd, par, n, v) w z).2.1 ∧ I' 616 5 = nI (fg_add (np, lim, kd, par, n, v) w z).1 ∧ fm_M I' (fg_ns (fg_add (np, lim, kd, par, n, v) w z).2.2 (np, lim, kd, par, n, v)) (fg_nh (fg_add (np, lim, kd, par, n, v) w z).2.2 (np, lim, kd, par, n, v) hs) ks L m t e f ∧ fm_f I I' ∧ D' = D ∧ J' = J ∧ X' = X)) := by
  have ht : fm_T I 617 np lim kd par n v := hM.1
  obtain ⟨⟨ho1, ⟨ho2, ho3⟩, ho4, ho5, ho6⟩, hnp, hlim, hP, hS⟩ := id ht
  refine fo_si (by decide) [(0, .ref (Λ.2.2.1 616)), (1, .int (nI w)), (2, .int (z))] rfl (Nat.le_of_ble_eq_true rfl) (fun K C fin => ?_)
  rcases hw9 : fo_kc w with _ | _
  · have hkz : (fo_kc w && fo_19 z) = false := by rw [hw9]; rfl
    refine fo_aload_n C dX7_addProphet_0 0 rfl rfl 1 rfl ?_
    refine fo_qvv C dX7_addProphet_1 (mX7_begin ht) lv_X7_104 (by decide : fo_k 616 = 9) rfl (by decide) rfl ⟨Nat.le_of_ble_eq_true rfl, Nat.le_of_ble_eq_true rfl⟩ ⟨Nat.le_of_ble_eq_true rfl, Nat.le_of_ble_eq_true rfl⟩ [] rfl (Nat.le_of_ble_eq_true rfl) 4 rfl (fun I2 D3 J4 X5 p6 => ?_)
    obtain ⟨ht1, hb1, b3, b4, b5, z3, z4, z5⟩ := p6
    obtain rfl := z3.symm
    obtain rfl := z4.symm
    obtain rfl := z5.symm
    refine fo_aload_n C dX7_addProphet_4 0 rfl rfl 5 rfl ?_
    refine fo_iload_n C dX7_addProphet_5 1 rfl rfl 6 rfl ?_
    refine fo_iload_n C dX7_addProphet_6 2 rfl rfl 7 rfl ?_
    refine fo_qvi C dX7_addProphet_7 (mX7_cannotAdd (w := w) (z := z) hw ht1) lv_X7_107 (by decide : fo_k 616 = 9) rfl (by decide) rfl ⟨Nat.le_of_ble_eq_true rfl, Nat.le_of_ble_eq_true rfl⟩ ⟨Nat.le_of_ble_eq_true rfl, Nat.le_of_ble_eq_true rfl⟩ [] rfl (Nat.le_of_ble_eq_true rfl) 10 rfl (fo_er ?_)
    rw [fg_ca_1 hkz]
    refine fo_istore_n C dX7_addProphet_10 rfl [(3, .int (nI 1)), (0, .ref (Λ.2.2.1 616)), (1, .int (nI w)), (2, .int (z))] rfl (by decide) 11 rfl ?_
    refine fo_iload_n C dX7_addProphet_11 0 rfl rfl 12 rfl ?_
    refine fo_nif_le C (by omega) dX7_addProphet_12 23 (by decide) 15 rfl (fun c13 => ?_) (fun c13 => ?_)
    · omega
    · refine fo_aload_n C dX7_addProphet_15 1 rfl rfl 16 rfl ?_
      refine fo_iload_n C dX7_addProphet_16 0 rfl rfl 17 rfl ?_
      refine fo_qvi C dX7_addProphet_17 (mX7_fail (x := (nI (1)))) lv_X7_111 (by decide : fo_k 616 = 9) rfl (by decide) rfl ⟨Nat.le_of_ble_eq_true rfl, Nat.le_of_ble_eq_true rfl⟩ ⟨Nat.le_of_ble_eq_true rfl, Nat.le_of_ble_eq_true rfl⟩ [] rfl (Nat.le_of_ble_eq_true rfl) 20 rfl (fo_er ?_)
      refine fo_goto C dX7_addProphet_20 33 (by decide) ?_
      exact fin dX7_addProphet_33 rfl (⟨by rw [fg_add_1 (s := (np, lim, kd, par, n, v)) hkz], by rw [fo_rs, pk_us, fg_add_1 (s := (np, lim, kd, par, n, v)) hkz], by rw [fg_add_1 (s := (np, lim, kd, par, n, v)) hkz]; exact hM.mv (fun j hj => by rw [fo_rs, pk_un hj]; exact b5 j hj) (fun b c1 c2 c3 => by rw [fo_rn _ _ (by omega)]; exact b4 b (by omega) c3), fun b hb => by rw [fo_rn _ _ (by omega)]; exact b4 b (by omega) (by omega), rfl, rfl, rfl⟩)
  · skip
    rcases hz : fo_19 z with _ | _
    · have hkz : (fo_kc w && fo_19 z) = false := by rw [hw9, hz]; rfl
      refine fo_aload_n C dX7_addProphet_0 0 rfl rfl 1 rfl ?_
      refine fo_qvv C dX7_addProphet_1 (mX7_begin ht) lv_X7_104 (by decide : fo_k 616 = 9) rfl (by decide) rfl ⟨Nat.le_of_ble_eq_true rfl, Nat.le_of_ble_eq_true rfl⟩ ⟨Nat.le_of_ble_eq_true rfl, Nat.le_of_ble_eq_true rfl⟩ [] rfl (Nat.le_of_ble_eq_true rfl) 4 rfl (fun I21 D22 J23 X24 p25 => ?_)
      obtain ⟨ht1, hb1, b3, b4, b5, z3, z4, z5⟩ := p25
      obtain rfl := z3.symm
      obtain rfl := z4.symm
      obtain rfl := z5.symm
      refine fo_aload_n C dX7_addProphet_4 0 rfl rfl 5 rfl ?_
      refine fo_iload_n C dX7_addProphet_5 1 rfl rfl 6 rfl ?_
      refine fo_iload_n C dX7_addProphet_6 2 rfl rfl 7 rfl ?_
      refine fo_qvi C dX7_addProphet_7 (mX7_cannotAdd (w := w) (z := z) hw ht1) lv_X7_107 (by decide : fo_k 616 = 9) rfl (by decide) rfl ⟨Nat.le_of_ble_eq_true rfl, Nat.le_of_ble_eq_true rfl⟩ ⟨Nat.le_of_ble_eq_true rfl, Nat.le_of_ble_eq_true rfl⟩ [] rfl (Nat.le_of_ble_eq_true rfl) 10 rfl (fo_er ?_)
      rw [fg_ca_1 hkz]
      refine fo_istore_n C dX7_addProphet_10 rfl [(3, .int (nI 1)), (0, .ref (Λ.2.2.1 616)), (1, .int (nI w)), (2, .int (z))] rfl (by decide) 11 rfl ?_
      refine fo_iload_n C dX7_addProphet_11 0 rfl rfl 12 rfl ?_
      refine fo_nif_le C (by omega) dX7_addProphet_12 23 (by decide) 15 rfl (fun c32 => ?_) (fun c32 => ?_)
      · omega
      · refine fo_aload_n C dX7_addProphet_15 1 rfl rfl 16 rfl ?_
        refine fo_iload_n C dX7_addProphet_16 0 rfl rfl 17 rfl ?_
        refine fo_qvi C dX7_addProphet_17 (mX7_fail (x := (nI (1)))) lv_X7_111 (by decide : fo_k 616 = 9) rfl (by decide) rfl ⟨Nat.le_of_ble_eq_true rfl, Nat.le_of_ble_eq_true rfl⟩ ⟨Nat.le_of_ble_eq_true rfl, Nat.le_of_ble_eq_true rfl⟩ [] rfl (Nat.le_of_ble_eq_true rfl) 20 rfl (fo_er ?_)
        refine fo_goto C dX7_addProphet_20 33 (by decide) ?_
        exact fin dX7_addProphet_33 rfl (⟨by rw [fg_add_1 (s := (np, lim, kd, par, n, v)) hkz], by rw [fo_rs, pk_us, fg_add_1 (s := (np, lim, kd, par, n, v)) hkz], by rw [fg_add_1 (s := (np, lim, kd, par, n, v)) hkz]; exact hM.mv (fun j hj => by rw [fo_rs, pk_un hj]; exact b5 j hj) (fun b c1 c2 c3 => by rw [fo_rn _ _ (by omega)]; exact b4 b (by omega) c3), fun b hb => by rw [fo_rn _ _ (by omega)]; exact b4 b (by omega) (by omega), rfl, rfl, rfl⟩)
    · have hkz : (fo_kc w && fo_19 z) = true := by rw [hw9, hz]; rfl
      obtain ⟨q, hq1, hq2, rfl⟩ := fo_19_at hz
      have hkc : w = 108 ∨ w = 109 ∨ w = 100 ∨ w = 116 ∨ w = 115 := of_decide_eq_true hw9
      by_cases hok : np < 8 ∧ fp_sum n 0 4 = 0
      · skip
        refine fo_aload_n C dX7_addProphet_0 0 rfl rfl 1 rfl ?_
        refine fo_qvv C dX7_addProphet_1 (mX7_begin ht) lv_X7_104 (by decide : fo_k 616 = 9) rfl (by decide) rfl ⟨Nat.le_of_ble_eq_true rfl, Nat.le_of_ble_eq_true rfl⟩ ⟨Nat.le_of_ble_eq_true rfl, Nat.le_of_ble_eq_true rfl⟩ [] rfl (Nat.le_of_ble_eq_true rfl) 4 rfl (fun I40 D41 J42 X43 p44 => ?_)
        obtain ⟨ht1, hb1, b3, b4, b5, z3, z4, z5⟩ := p44
        obtain rfl := z3.symm
        obtain rfl := z4.symm
        obtain rfl := z5.symm
        refine fo_aload_n C dX7_addProphet_4 0 rfl rfl 5 rfl ?_
        refine fo_iload_n C dX7_addProphet_5 1 rfl rfl 6 rfl ?_
        refine fo_iload_n C dX7_addProphet_6 2 rfl rfl 7 rfl ?_
        refine fo_qvi C dX7_addProphet_7 (mX7_cannotAdd (w := w) (z := (nI (q))) hw ht1) lv_X7_107 (by decide : fo_k 616 = 9) rfl (by decide) rfl ⟨Nat.le_of_ble_eq_true rfl, Nat.le_of_ble_eq_true rfl⟩ ⟨Nat.le_of_ble_eq_true rfl, Nat.le_of_ble_eq_true rfl⟩ [] rfl (Nat.le_of_ble_eq_true rfl) 10 rfl (fo_er ?_)
        rw [fg_ca_t hkz hok]
        refine fo_istore_n C dX7_addProphet_10 rfl [(3, .int (nI 0)), (0, .ref (Λ.2.2.1 616)), (1, .int (nI w)), (2, .int (nI q))] rfl (by decide) 11 rfl ?_
        refine fo_iload_n C dX7_addProphet_11 0 rfl rfl 12 rfl ?_
        refine fo_nif_le C (by omega) dX7_addProphet_12 23 (by decide) 15 rfl (fun c51 => ?_) (fun c51 => ?_)
        · refine fo_aload_n C dX7_addProphet_23 1 rfl rfl 24 rfl ?_
          refine fo_aload_n C dX7_addProphet_24 1 rfl rfl 25 rfl ?_
          refine fo_iload_n C dX7_addProphet_25 2 rfl rfl 26 rfl ?_
          refine fo_iload_n C dX7_addProphet_26 3 rfl rfl 27 rfl ?_
          refine fo_qvi C dX7_addProphet_27 (mX7_adds (w := w) (q := q) hok.1 hkc hq1 hq2 ht1) lv_X7_114 (by decide : fo_k 616 = 9) rfl (by decide) rfl ⟨Nat.le_of_ble_eq_true rfl, Nat.le_of_ble_eq_true rfl⟩ ⟨Nat.le_of_ble_eq_true rfl, Nat.le_of_ble_eq_true rfl⟩ [.ref (Λ.2.2.1 616)] rfl (Nat.le_of_ble_eq_true rfl) 30 rfl (fun r52 I53 D54 J55 X56 p57 => ?_)
          obtain ⟨rfl, ht2, a4, z3, z4, z5⟩ := p57
          obtain rfl := z3.symm
          obtain rfl := z4.symm
          obtain rfl := z5.symm
          refine fo_qvi C dX7_addProphet_30 (mX7_commit (hs := hs) (s0 := (np, lim, kd, par, n, v)) (x := (nI (np))) (hM.2.1.mv (by rw [a4 616 (by decide)]; exact b5 6 (by decide)) (by rw [a4 620 (by decide)]; exact b4 620 (by decide) (by decide))) (by rw [a4 618 (by decide)]; exact hb1)) lv_X7_117 (by decide : fo_k 616 = 9) rfl (by decide) rfl ⟨Nat.le_of_ble_eq_true rfl, Nat.le_of_ble_eq_true rfl⟩ ⟨Nat.le_of_ble_eq_true rfl, Nat.le_of_ble_eq_true rfl⟩ [] rfl (Nat.le_of_ble_eq_true rfl) 33 rfl (fun r58 I59 D60 J61 X62 p63 => ?_)
          obtain ⟨rfl, hh3, c4, c5, z3, z4, z5⟩ := p63
          obtain rfl := z3.symm
          obtain rfl := z4.symm
          obtain rfl := z5.symm
          exact fin dX7_addProphet_33 rfl (⟨by rw [fg_add_t (s := (np, lim, kd, par, n, v)) hkz hq2 hok], by rw [fg_add_t (s := (np, lim, kd, par, n, v)) hkz hq2 hok, c5 5 (by decide), a4 616 (by decide)]; exact b3, by rw [fg_add_t (s := (np, lim, kd, par, n, v)) hkz hq2 hok]; exact hM.go (by rw [c4 617 (by decide) (by decide)]; exact ht2) hh3 (fun j h5 h6 => by rw [c5 j h6, a4 616 (by decide)]; exact b5 j h5) (fun b c1 c2 c3 => by rw [c4 b (by omega) c3, a4 b (by omega)]; exact b4 b (by omega) (by omega)), fun b hb => by rw [c4 b (by omega) (by omega), a4 b (by omega)]; exact b4 b (by omega) (by omega), rfl, rfl, rfl⟩)
        · omega
      · skip
        refine fo_aload_n C dX7_addProphet_0 0 rfl rfl 1 rfl ?_
        refine fo_qvv C dX7_addProphet_1 (mX7_begin ht) lv_X7_104 (by decide : fo_k 616 = 9) rfl (by decide) rfl ⟨Nat.le_of_ble_eq_true rfl, Nat.le_of_ble_eq_true rfl⟩ ⟨Nat.le_of_ble_eq_true rfl, Nat.le_of_ble_eq_true rfl⟩ [] rfl (Nat.le_of_ble_eq_true rfl) 4 rfl (fun I65 D66 J67 X68 p69 => ?_)
        obtain ⟨ht1, hb1, b3, b4, b5, z3, z4, z5⟩ := p69
        obtain rfl := z3.symm
        obtain rfl := z4.symm
        obtain rfl := z5.symm
        refine fo_aload_n C dX7_addProphet_4 0 rfl rfl 5 rfl ?_
        refine fo_iload_n C dX7_addProphet_5 1 rfl rfl 6 rfl ?_
        refine fo_iload_n C dX7_addProphet_6 2 rfl rfl 7 rfl ?_
        refine fo_qvi C dX7_addProphet_7 (mX7_cannotAdd (w := w) (z := (nI (q))) hw ht1) lv_X7_107 (by decide : fo_k 616 = 9) rfl (by decide) rfl ⟨Nat.le_of_ble_eq_true rfl, Nat.le_of_ble_eq_true rfl⟩ ⟨Nat.le_of_ble_eq_true rfl, Nat.le_of_ble_eq_true rfl⟩ [] rfl (Nat.le_of_ble_eq_true rfl) 10 rfl (fo_er ?_)
        rw [fg_ca_2 hkz hok]
        refine fo_istore_n C dX7_addProphet_10 rfl [(3, .int (nI 2)), (0, .ref (Λ.2.2.1 616)), (1, .int (nI w)), (2, .int (nI q))] rfl (by decide) 11 rfl ?_
        refine fo_iload_n C dX7_addProphet_11 0 rfl rfl 12 rfl ?_
        refine fo_nif_le C (by omega) dX7_addProphet_12 23 (by decide) 15 rfl (fun c76 => ?_) (fun c76 => ?_)
        · omega
        · refine fo_aload_n C dX7_addProphet_15 1 rfl rfl 16 rfl ?_
          refine fo_iload_n C dX7_addProphet_16 0 rfl rfl 17 rfl ?_
          refine fo_qvi C dX7_addProphet_17 (mX7_fail (x := (nI (2)))) lv_X7_111 (by decide : fo_k 616 = 9) rfl (by decide) rfl ⟨Nat.le_of_ble_eq_true rfl, Nat.le_of_ble_eq_true rfl⟩ ⟨Nat.le_of_ble_eq_true rfl, Nat.le_of_ble_eq_true rfl⟩ [] rfl (Nat.le_of_ble_eq_true rfl) 20 rfl (fo_er ?_)
          refine fo_goto C dX7_addProphet_20 33 (by decide) ?_
          exact fin dX7_addProphet_33 rfl (⟨by rw [fg_add_2 (s := (np, lim, kd, par, n, v)) hkz hok], by rw [fo_rs, pk_us, fg_add_2 (s := (np, lim, kd, par, n, v)) hkz hok], by rw [fg_add_2 (s := (np, lim, kd, par, n, v)) hkz hok]; exact hM.mv (fun j hj => by rw [fo_rs, pk_un hj]; exact b5 j hj) (fun b c1 c2 c3 => by rw [fo_rn _ _ (by omega)]; exact b4 b (by omega) c3), fun b hb => by rw [fo_rn _ _ (by omega)]; exact b4 b (by omega) (by omega), rfl, rfl, rfl⟩)
set_option maxRecDepth 10000 in
set_option maxHeartbeats 4000000 in
theorem mX7_observe {l : Launch} {Λ : fo_Lt} {I : fo_Mi} {D : fo_Md} {J : fo_Mj} {X : fo_Mi} {np lim : Nat} {kd par n : Nat → Nat} {v : Nat → Nat → Nat} {hs : List fa_S} {ks : Option fa_S} {L : List Nat} {m : Nat} {t : Nat → Nat} {e f : Int32} {x z : Int32} (hM : fm_M I (np, lim, kd, par, n, v) hs ks L m t e f) : fk_i l yX7_observe cX7_observe 4 .int 3 64 Λ [.ref (Λ.2.2.1 616), .int (x), .int (z)] I D J X ((fun r I' D' J' X' => r = (fg_see (np, lim, kd, par, n, v) x z).2.1 ∧ I' 616 5 = nI (fg_see (np, lim, kd, par, n, v) x z).1 ∧ fm_M I' (fg_ns (fg_see (np, lim, kd, par, n, v) x z).2.2 (np, lim, kd, par, n, v)) (fg_nh (fg_see (np, lim, kd, par, n, v) x z).2.2 (np, lim, kd, par, n, v) hs) ks L m t e f ∧ fm_f I I' ∧ D' = D ∧ J' = J ∧ X' = X)) := by
  have ht : fm_T I 617 np lim kd par n v := hM.1
  obtain ⟨⟨ho1, ⟨ho2, ho3⟩, ho4, ho5, ho6⟩, hnp, hlim, hP, hS⟩ := id ht
  refine fo_si (by decide) [(0, .ref (Λ.2.2.1 616)), (1, .int (x)), (2, .int (z))] rfl (Nat.le_of_ble_eq_true rfl) (fun K C fin => ?_)
  rcases hx : fo_inr x 4 with _ | _
  · skip
    refine fo_aload_n C dX7_observe_0 0 rfl rfl 1 rfl ?_
    refine fo_qvv C dX7_observe_1 (mX7_begin ht) lv_X7_104 (by decide : fo_k 616 = 9) rfl (by decide) rfl ⟨Nat.le_of_ble_eq_true rfl, Nat.le_of_ble_eq_true rfl⟩ ⟨Nat.le_of_ble_eq_true rfl, Nat.le_of_ble_eq_true rfl⟩ [] rfl (Nat.le_of_ble_eq_true rfl) 4 rfl (fun I2 D3 J4 X5 p6 => ?_)
    obtain ⟨ht1, hb1, b3, b4, b5, z3, z4, z5⟩ := p6
    obtain rfl := z3.symm
    obtain rfl := z4.symm
    obtain rfl := z5.symm
    refine fo_aload_n C dX7_observe_4 0 rfl rfl 5 rfl ?_
    refine fo_iload_n C dX7_observe_5 1 rfl rfl 6 rfl ?_
    refine fo_iload_n C dX7_observe_6 2 rfl rfl 7 rfl ?_
    refine fo_qvi C dX7_observe_7 (mX7_cannotSee (x := x) (z := z) ht1) lv_X7_123 (by decide : fo_k 616 = 9) rfl (by decide) rfl ⟨Nat.le_of_ble_eq_true rfl, Nat.le_of_ble_eq_true rfl⟩ ⟨Nat.le_of_ble_eq_true rfl, Nat.le_of_ble_eq_true rfl⟩ [] rfl (Nat.le_of_ble_eq_true rfl) 10 rfl (fo_er ?_)
    rw [fg_cs_1 hx]
    refine fo_istore_n C dX7_observe_10 rfl [(3, .int (nI 1)), (0, .ref (Λ.2.2.1 616)), (1, .int (x)), (2, .int (z))] rfl (by decide) 11 rfl ?_
    refine fo_iload_n C dX7_observe_11 0 rfl rfl 12 rfl ?_
    refine fo_nif_le C (by omega) dX7_observe_12 23 (by decide) 15 rfl (fun c13 => ?_) (fun c13 => ?_)
    · omega
    · refine fo_aload_n C dX7_observe_15 1 rfl rfl 16 rfl ?_
      refine fo_iload_n C dX7_observe_16 0 rfl rfl 17 rfl ?_
      refine fo_qvi C dX7_observe_17 (mX7_fail (x := (nI (1)))) lv_X7_111 (by decide : fo_k 616 = 9) rfl (by decide) rfl ⟨Nat.le_of_ble_eq_true rfl, Nat.le_of_ble_eq_true rfl⟩ ⟨Nat.le_of_ble_eq_true rfl, Nat.le_of_ble_eq_true rfl⟩ [] rfl (Nat.le_of_ble_eq_true rfl) 20 rfl (fo_er ?_)
      refine fo_goto C dX7_observe_20 33 (by decide) ?_
      exact fin dX7_observe_33 rfl (⟨by rw [fg_see_1 (s := (np, lim, kd, par, n, v)) hx], by rw [fo_rs, pk_us, fg_see_1 (s := (np, lim, kd, par, n, v)) hx], by rw [fg_see_1 (s := (np, lim, kd, par, n, v)) hx]; exact hM.mv (fun j hj => by rw [fo_rs, pk_un hj]; exact b5 j hj) (fun b c1 c2 c3 => by rw [fo_rn _ _ (by omega)]; exact b4 b (by omega) c3), fun b hb => by rw [fo_rn _ _ (by omega)]; exact b4 b (by omega) (by omega), rfl, rfl, rfl⟩)
  · obtain ⟨k, hk, hk31, rfl⟩ := fo_inr_at hx
    have hnk := ho5 k hk
    have hsx : fo_inr (nI k) 4 = true := fo_inr_nI hk (by omega)
    rcases hz : fo_999 z with _ | _
    · skip
      refine fo_aload_n C dX7_observe_0 0 rfl rfl 1 rfl ?_
      refine fo_qvv C dX7_observe_1 (mX7_begin ht) lv_X7_104 (by decide : fo_k 616 = 9) rfl (by decide) rfl ⟨Nat.le_of_ble_eq_true rfl, Nat.le_of_ble_eq_true rfl⟩ ⟨Nat.le_of_ble_eq_true rfl, Nat.le_of_ble_eq_true rfl⟩ [] rfl (Nat.le_of_ble_eq_true rfl) 4 rfl (fun I21 D22 J23 X24 p25 => ?_)
      obtain ⟨ht1, hb1, b3, b4, b5, z3, z4, z5⟩ := p25
      obtain rfl := z3.symm
      obtain rfl := z4.symm
      obtain rfl := z5.symm
      refine fo_aload_n C dX7_observe_4 0 rfl rfl 5 rfl ?_
      refine fo_iload_n C dX7_observe_5 1 rfl rfl 6 rfl ?_
      refine fo_iload_n C dX7_observe_6 2 rfl rfl 7 rfl ?_
      refine fo_qvi C dX7_observe_7 (mX7_cannotSee (x := (nI (k))) (z := z) ht1) lv_X7_123 (by decide : fo_k 616 = 9) rfl (by decide) rfl ⟨Nat.le_of_ble_eq_true rfl, Nat.le_of_ble_eq_true rfl⟩ ⟨Nat.le_of_ble_eq_true rfl, Nat.le_of_ble_eq_true rfl⟩ [] rfl (Nat.le_of_ble_eq_true rfl) 10 rfl (fo_er ?_)
      rw [fg_cs_2 hk hz]
      refine fo_istore_n C dX7_observe_10 rfl [(3, .int (nI 2)), (0, .ref (Λ.2.2.1 616)), (1, .int (nI k)), (2, .int (z))] rfl (by decide) 11 rfl ?_
      refine fo_iload_n C dX7_observe_11 0 rfl rfl 12 rfl ?_
      refine fo_nif_le C (by omega) dX7_observe_12 23 (by decide) 15 rfl (fun c32 => ?_) (fun c32 => ?_)
      · omega
      · refine fo_aload_n C dX7_observe_15 1 rfl rfl 16 rfl ?_
        refine fo_iload_n C dX7_observe_16 0 rfl rfl 17 rfl ?_
        refine fo_qvi C dX7_observe_17 (mX7_fail (x := (nI (2)))) lv_X7_111 (by decide : fo_k 616 = 9) rfl (by decide) rfl ⟨Nat.le_of_ble_eq_true rfl, Nat.le_of_ble_eq_true rfl⟩ ⟨Nat.le_of_ble_eq_true rfl, Nat.le_of_ble_eq_true rfl⟩ [] rfl (Nat.le_of_ble_eq_true rfl) 20 rfl (fo_er ?_)
        refine fo_goto C dX7_observe_20 33 (by decide) ?_
        exact fin dX7_observe_33 rfl (⟨by rw [fg_see_2 (s := (np, lim, kd, par, n, v)) hk hz], by rw [fo_rs, pk_us, fg_see_2 (s := (np, lim, kd, par, n, v)) hk hz], by rw [fg_see_2 (s := (np, lim, kd, par, n, v)) hk hz]; exact hM.mv (fun j hj => by rw [fo_rs, pk_un hj]; exact b5 j hj) (fun b c1 c2 c3 => by rw [fo_rn _ _ (by omega)]; exact b4 b (by omega) c3), fun b hb => by rw [fo_rn _ _ (by omega)]; exact b4 b (by omega) (by omega), rfl, rfl, rfl⟩)
    · obtain ⟨u, hu, rfl⟩ := fo_999_at hz
      by_cases hok : n k < 30
      · skip
        refine fo_aload_n C dX7_observe_0 0 rfl rfl 1 rfl ?_
        refine fo_qvv C dX7_observe_1 (mX7_begin ht) lv_X7_104 (by decide : fo_k 616 = 9) rfl (by decide) rfl ⟨Nat.le_of_ble_eq_true rfl, Nat.le_of_ble_eq_true rfl⟩ ⟨Nat.le_of_ble_eq_true rfl, Nat.le_of_ble_eq_true rfl⟩ [] rfl (Nat.le_of_ble_eq_true rfl) 4 rfl (fun I40 D41 J42 X43 p44 => ?_)
        obtain ⟨ht1, hb1, b3, b4, b5, z3, z4, z5⟩ := p44
        obtain rfl := z3.symm
        obtain rfl := z4.symm
        obtain rfl := z5.symm
        refine fo_aload_n C dX7_observe_4 0 rfl rfl 5 rfl ?_
        refine fo_iload_n C dX7_observe_5 1 rfl rfl 6 rfl ?_
        refine fo_iload_n C dX7_observe_6 2 rfl rfl 7 rfl ?_
        refine fo_qvi C dX7_observe_7 (mX7_cannotSee (x := (nI (k))) (z := (nI (u))) ht1) lv_X7_123 (by decide : fo_k 616 = 9) rfl (by decide) rfl ⟨Nat.le_of_ble_eq_true rfl, Nat.le_of_ble_eq_true rfl⟩ ⟨Nat.le_of_ble_eq_true rfl, Nat.le_of_ble_eq_true rfl⟩ [] rfl (Nat.le_of_ble_eq_true rfl) 10 rfl (fo_er ?_)
        rw [fg_cs_t hk hz hok]
        refine fo_istore_n C dX7_observe_10 rfl [(3, .int (nI 0)), (0, .ref (Λ.2.2.1 616)), (1, .int (nI k)), (2, .int (nI u))] rfl (by decide) 11 rfl ?_
        refine fo_iload_n C dX7_observe_11 0 rfl rfl 12 rfl ?_
        refine fo_nif_le C (by omega) dX7_observe_12 23 (by decide) 15 rfl (fun c51 => ?_) (fun c51 => ?_)
        · refine fo_aload_n C dX7_observe_23 1 rfl rfl 24 rfl ?_
          refine fo_aload_n C dX7_observe_24 1 rfl rfl 25 rfl ?_
          refine fo_iload_n C dX7_observe_25 2 rfl rfl 26 rfl ?_
          refine fo_iload_n C dX7_observe_26 3 rfl rfl 27 rfl ?_
          refine fo_qvi C dX7_observe_27 (mX7_sees (k := k) (u := u) hk hok hu ht1) lv_X7_126 (by decide : fo_k 616 = 9) rfl (by decide) rfl ⟨Nat.le_of_ble_eq_true rfl, Nat.le_of_ble_eq_true rfl⟩ ⟨Nat.le_of_ble_eq_true rfl, Nat.le_of_ble_eq_true rfl⟩ [.ref (Λ.2.2.1 616)] rfl (Nat.le_of_ble_eq_true rfl) 30 rfl (fun r52 I53 D54 J55 X56 p57 => ?_)
          obtain ⟨rfl, ht2, a4, z3, z4, z5⟩ := p57
          obtain rfl := z3.symm
          obtain rfl := z4.symm
          obtain rfl := z5.symm
          refine fo_qvi C dX7_observe_30 (mX7_commit (hs := hs) (s0 := (np, lim, kd, par, n, v)) (x := (nI (n k))) (hM.2.1.mv (by rw [a4 616 (by decide)]; exact b5 6 (by decide)) (by rw [a4 620 (by decide)]; exact b4 620 (by decide) (by decide))) (by rw [a4 618 (by decide)]; exact hb1)) lv_X7_117 (by decide : fo_k 616 = 9) rfl (by decide) rfl ⟨Nat.le_of_ble_eq_true rfl, Nat.le_of_ble_eq_true rfl⟩ ⟨Nat.le_of_ble_eq_true rfl, Nat.le_of_ble_eq_true rfl⟩ [] rfl (Nat.le_of_ble_eq_true rfl) 33 rfl (fun r58 I59 D60 J61 X62 p63 => ?_)
          obtain ⟨rfl, hh3, c4, c5, z3, z4, z5⟩ := p63
          obtain rfl := z3.symm
          obtain rfl := z4.symm
          obtain rfl := z5.symm
          exact fin dX7_observe_33 rfl (⟨by rw [fg_see_t (s := (np, lim, kd, par, n, v)) hk hu hok], by rw [fg_see_t (s := (np, lim, kd, par, n, v)) hk hu hok, c5 5 (by decide), a4 616 (by decide)]; exact b3, by rw [fg_see_t (s := (np, lim, kd, par, n, v)) hk hu hok]; exact hM.go (by rw [c4 617 (by decide) (by decide)]; exact ht2) hh3 (fun j h5 h6 => by rw [c5 j h6, a4 616 (by decide)]; exact b5 j h5) (fun b c1 c2 c3 => by rw [c4 b (by omega) c3, a4 b (by omega)]; exact b4 b (by omega) (by omega)), fun b hb => by rw [c4 b (by omega) (by omega), a4 b (by omega)]; exact b4 b (by omega) (by omega), rfl, rfl, rfl⟩)
        · omega
      · skip
        refine fo_aload_n C dX7_observe_0 0 rfl rfl 1 rfl ?_
        refine fo_qvv C dX7_observe_1 (mX7_begin ht) lv_X7_104 (by decide : fo_k 616 = 9) rfl (by decide) rfl ⟨Nat.le_of_ble_eq_true rfl, Nat.le_of_ble_eq_true rfl⟩ ⟨Nat.le_of_ble_eq_true rfl, Nat.le_of_ble_eq_true rfl⟩ [] rfl (Nat.le_of_ble_eq_true rfl) 4 rfl (fun I65 D66 J67 X68 p69 => ?_)
        obtain ⟨ht1, hb1, b3, b4, b5, z3, z4, z5⟩ := p69
        obtain rfl := z3.symm
        obtain rfl := z4.symm
        obtain rfl := z5.symm
        refine fo_aload_n C dX7_observe_4 0 rfl rfl 5 rfl ?_
        refine fo_iload_n C dX7_observe_5 1 rfl rfl 6 rfl ?_
        refine fo_iload_n C dX7_observe_6 2 rfl rfl 7 rfl ?_
        refine fo_qvi C dX7_observe_7 (mX7_cannotSee (x := (nI (k))) (z := (nI (u))) ht1) lv_X7_123 (by decide : fo_k 616 = 9) rfl (by decide) rfl ⟨Nat.le_of_ble_eq_true rfl, Nat.le_of_ble_eq_true rfl⟩ ⟨Nat.le_of_ble_eq_true rfl, Nat.le_of_ble_eq_true rfl⟩ [] rfl (Nat.le_of_ble_eq_true rfl) 10 rfl (fo_er ?_)
        rw [fg_cs_3 hk hz hok]
        refine fo_istore_n C dX7_observe_10 rfl [(3, .int (nI 3)), (0, .ref (Λ.2.2.1 616)), (1, .int (nI k)), (2, .int (nI u))] rfl (by decide) 11 rfl ?_
        refine fo_iload_n C dX7_observe_11 0 rfl rfl 12 rfl ?_
        refine fo_nif_le C (by omega) dX7_observe_12 23 (by decide) 15 rfl (fun c76 => ?_) (fun c76 => ?_)
        · omega
        · refine fo_aload_n C dX7_observe_15 1 rfl rfl 16 rfl ?_
          refine fo_iload_n C dX7_observe_16 0 rfl rfl 17 rfl ?_
          refine fo_qvi C dX7_observe_17 (mX7_fail (x := (nI (3)))) lv_X7_111 (by decide : fo_k 616 = 9) rfl (by decide) rfl ⟨Nat.le_of_ble_eq_true rfl, Nat.le_of_ble_eq_true rfl⟩ ⟨Nat.le_of_ble_eq_true rfl, Nat.le_of_ble_eq_true rfl⟩ [] rfl (Nat.le_of_ble_eq_true rfl) 20 rfl (fo_er ?_)
          refine fo_goto C dX7_observe_20 33 (by decide) ?_
          exact fin dX7_observe_33 rfl (⟨by rw [fg_see_3 (s := (np, lim, kd, par, n, v)) hk hz hok], by rw [fo_rs, pk_us, fg_see_3 (s := (np, lim, kd, par, n, v)) hk hz hok], by rw [fg_see_3 (s := (np, lim, kd, par, n, v)) hk hz hok]; exact hM.mv (fun j hj => by rw [fo_rs, pk_un hj]; exact b5 j hj) (fun b c1 c2 c3 => by rw [fo_rn _ _ (by omega)]; exact b4 b (by omega) c3), fun b hb => by rw [fo_rn _ _ (by omega)]; exact b4 b (by omega) (by omega), rfl, rfl, rfl⟩)
set_option maxRecDepth 10000 in
set_option maxHeartbeats 4000000 in
theorem mX7_setLimit {l : Launch} {Λ : fo_Lt} {I : fo_Mi} {D : fo_Md} {J : fo_Mj} {X : fo_Mi} {np lim : Nat} {kd par n : Nat → Nat} {v : Nat → Nat → Nat} {hs : List fa_S} {ks : Option fa_S} {L : List Nat} {m : Nat} {t : Nat → Nat} {e f : Int32} {z : Int32} (hM : fm_M I (np, lim, kd, par, n, v) hs ks L m t e f) : fk_i l yX7_setLimit cX7_setLimit 2 .int 2 46 Λ [.ref (Λ.2.2.1 616), .int (z)] I D J X ((fun r I' D' J' X' => r = (fg_lim (np, lim, kd, par, n, v) z).2.1 ∧ I' 616 5 = nI (fg_lim (np, lim, kd, par, n, v) z).1 ∧ fm_M I' (fg_ns (fg_lim (np, lim, kd, par, n, v) z).2.2 (np, lim, kd, par, n, v)) (fg_nh (fg_lim (np, lim, kd, par, n, v) z).2.2 (np, lim, kd, par, n, v) hs) ks L m t e f ∧ fm_f I I' ∧ D' = D ∧ J' = J ∧ X' = X)) := by
  have ht : fm_T I 617 np lim kd par n v := hM.1
  obtain ⟨⟨ho1, ⟨ho2, ho3⟩, ho4, ho5, ho6⟩, hnp, hlim, hP, hS⟩ := id ht
  refine fo_si (by decide) [(0, .ref (Λ.2.2.1 616)), (1, .int (z))] rfl (Nat.le_of_ble_eq_true rfl) (fun K C fin => ?_)
  rcases hz : fo_19 z with _ | _
  · skip
    refine fo_aload_n C dX7_setLimit_0 0 rfl rfl 1 rfl ?_
    refine fo_qvv C dX7_setLimit_1 (mX7_begin ht) lv_X7_104 (by decide : fo_k 616 = 9) rfl (by decide) rfl ⟨Nat.le_of_ble_eq_true rfl, Nat.le_of_ble_eq_true rfl⟩ ⟨Nat.le_of_ble_eq_true rfl, Nat.le_of_ble_eq_true rfl⟩ [] rfl (Nat.le_of_ble_eq_true rfl) 4 rfl (fun I2 D3 J4 X5 p6 => ?_)
    obtain ⟨ht1, hb1, b3, b4, b5, z3, z4, z5⟩ := p6
    obtain rfl := z3.symm
    obtain rfl := z4.symm
    obtain rfl := z5.symm
    refine fo_iload_n C dX7_setLimit_4 1 rfl rfl 5 rfl ?_
    refine fo_iconst C dX7_setLimit_5 (nI 1) ki_1 6 rfl ?_
    refine fo_bipush C dX7_setLimit_6 (nI 9) kb_9 8 rfl ?_
    refine fo_qsi C dX7_setLimit_8 (mX7_in (x := z) (y := (nI (1))) (z := (nI (9)))) ls_X7_88 rfl ⟨Nat.le_of_ble_eq_true rfl, Nat.le_of_ble_eq_true rfl⟩ ⟨Nat.le_of_ble_eq_true rfl, Nat.le_of_ble_eq_true rfl⟩ [] rfl (Nat.le_of_ble_eq_true rfl) 11 rfl (fo_er ?_)
    rw [fm_in_9, hz]
    refine fo_bif_eq C dX7_setLimit_11 26 (by decide) 14 rfl (fun c13 => ?_) (fun c13 => ?_)
    · refine fo_aload_n C dX7_setLimit_26 0 rfl rfl 27 rfl ?_
      refine fo_iconst C dX7_setLimit_27 (nI 1) ki_1 28 rfl ?_
      refine fo_qvi C dX7_setLimit_28 (mX7_fail (x := (nI (1)))) lv_X7_111 (by decide : fo_k 616 = 9) rfl (by decide) rfl ⟨Nat.le_of_ble_eq_true rfl, Nat.le_of_ble_eq_true rfl⟩ ⟨Nat.le_of_ble_eq_true rfl, Nat.le_of_ble_eq_true rfl⟩ [] rfl (Nat.le_of_ble_eq_true rfl) 31 rfl (fo_er ?_)
      exact fin dX7_setLimit_31 rfl (⟨by rw [fg_lim_1 (s := (np, lim, kd, par, n, v)) hz], by rw [fo_rs, pk_us, fg_lim_1 (s := (np, lim, kd, par, n, v)) hz], by rw [fg_lim_1 (s := (np, lim, kd, par, n, v)) hz]; exact hM.mv (fun j hj => by rw [fo_rs, pk_un hj]; exact b5 j hj) (fun b c1 c2 c3 => by rw [fo_rn _ _ (by omega)]; exact b4 b (by omega) c3), fun b hb => by rw [fo_rn _ _ (by omega)]; exact b4 b (by omega) (by omega), rfl, rfl, rfl⟩)
    · exact absurd c13 (by decide)
  · obtain ⟨q, hq1, hq2, rfl⟩ := fo_19_at hz
    refine fo_aload_n C dX7_setLimit_0 0 rfl rfl 1 rfl ?_
    refine fo_qvv C dX7_setLimit_1 (mX7_begin ht) lv_X7_104 (by decide : fo_k 616 = 9) rfl (by decide) rfl ⟨Nat.le_of_ble_eq_true rfl, Nat.le_of_ble_eq_true rfl⟩ ⟨Nat.le_of_ble_eq_true rfl, Nat.le_of_ble_eq_true rfl⟩ [] rfl (Nat.le_of_ble_eq_true rfl) 4 rfl (fun I21 D22 J23 X24 p25 => ?_)
    obtain ⟨ht1, hb1, b3, b4, b5, z3, z4, z5⟩ := p25
    obtain rfl := z3.symm
    obtain rfl := z4.symm
    obtain rfl := z5.symm
    refine fo_iload_n C dX7_setLimit_4 1 rfl rfl 5 rfl ?_
    refine fo_iconst C dX7_setLimit_5 (nI 1) ki_1 6 rfl ?_
    refine fo_bipush C dX7_setLimit_6 (nI 9) kb_9 8 rfl ?_
    refine fo_qsi C dX7_setLimit_8 (mX7_in (x := (nI (q))) (y := (nI (1))) (z := (nI (9)))) ls_X7_88 rfl ⟨Nat.le_of_ble_eq_true rfl, Nat.le_of_ble_eq_true rfl⟩ ⟨Nat.le_of_ble_eq_true rfl, Nat.le_of_ble_eq_true rfl⟩ [] rfl (Nat.le_of_ble_eq_true rfl) 11 rfl (fo_er ?_)
    rw [fm_in_9, hz]
    refine fo_bif_eq C dX7_setLimit_11 26 (by decide) 14 rfl (fun c32 => ?_) (fun c32 => ?_)
    · exact absurd c32 (by decide)
    · refine fo_aload_n C dX7_setLimit_14 0 rfl rfl 15 rfl ?_
      refine fo_aload_n C dX7_setLimit_15 0 rfl rfl 16 rfl ?_
      refine fo_iload_n C dX7_setLimit_16 1 rfl rfl 17 rfl ?_
      refine fo_qvi C dX7_setLimit_17 (mX7_limits (q := q) hq1 hq2 ht1) lv_X7_129 (by decide : fo_k 616 = 9) rfl (by decide) rfl ⟨Nat.le_of_ble_eq_true rfl, Nat.le_of_ble_eq_true rfl⟩ ⟨Nat.le_of_ble_eq_true rfl, Nat.le_of_ble_eq_true rfl⟩ [.ref (Λ.2.2.1 616)] rfl (Nat.le_of_ble_eq_true rfl) 20 rfl (fun r33 I34 D35 J36 X37 p38 => ?_)
      obtain ⟨rfl, ht2, a4, z3, z4, z5⟩ := p38
      obtain rfl := z3.symm
      obtain rfl := z4.symm
      obtain rfl := z5.symm
      refine fo_qvi C dX7_setLimit_20 (mX7_commit (hs := hs) (s0 := (np, lim, kd, par, n, v)) (x := (nI (lim))) (hM.2.1.mv (by rw [a4 616 (by decide)]; exact b5 6 (by decide)) (by rw [a4 620 (by decide)]; exact b4 620 (by decide) (by decide))) (by rw [a4 618 (by decide)]; exact hb1)) lv_X7_117 (by decide : fo_k 616 = 9) rfl (by decide) rfl ⟨Nat.le_of_ble_eq_true rfl, Nat.le_of_ble_eq_true rfl⟩ ⟨Nat.le_of_ble_eq_true rfl, Nat.le_of_ble_eq_true rfl⟩ [] rfl (Nat.le_of_ble_eq_true rfl) 23 rfl (fun r39 I40 D41 J42 X43 p44 => ?_)
      obtain ⟨rfl, hh3, c4, c5, z3, z4, z5⟩ := p44
      obtain rfl := z3.symm
      obtain rfl := z4.symm
      obtain rfl := z5.symm
      refine fo_goto C dX7_setLimit_23 31 (by decide) ?_
      exact fin dX7_setLimit_31 rfl (⟨by rw [fg_lim_t (s := (np, lim, kd, par, n, v)) hq1 hq2], by rw [fg_lim_t (s := (np, lim, kd, par, n, v)) hq1 hq2, c5 5 (by decide), a4 616 (by decide)]; exact b3, by rw [fg_lim_t (s := (np, lim, kd, par, n, v)) hq1 hq2]; exact hM.go (by rw [c4 617 (by decide) (by decide)]; exact ht2) hh3 (fun j h5 h6 => by rw [c5 j h6, a4 616 (by decide)]; exact b5 j h5) (fun b c1 c2 c3 => by rw [c4 b (by omega) c3, a4 b (by omega)]; exact b4 b (by omega) (by omega)), fun b hb => by rw [c4 b (by omega) (by omega), a4 b (by omega)]; exact b4 b (by omega) (by omega), rfl, rfl, rfl⟩)
set_option maxRecDepth 10000 in
set_option maxHeartbeats 4000000 in
theorem mX7_forget {l : Launch} {Λ : fo_Lt} {I : fo_Mi} {D : fo_Md} {J : fo_Mj} {X : fo_Mi} {np lim : Nat} {kd par n : Nat → Nat} {v : Nat → Nat → Nat} {hs : List fa_S} {ks : Option fa_S} {L : List Nat} {m : Nat} {t : Nat → Nat} {e f : Int32} {x : Int32} (hM : fm_M I (np, lim, kd, par, n, v) hs ks L m t e f) : fk_i l yX7_forget cX7_forget 2 .int 2 46 Λ [.ref (Λ.2.2.1 616), .int (x)] I D J X ((fun r I' D' J' X' => r = (fg_for (np, lim, kd, par, n, v) x).2.1 ∧ I' 616 5 = nI (fg_for (np, lim, kd, par, n, v) x).1 ∧ fm_M I' (fg_ns (fg_for (np, lim, kd, par, n, v) x).2.2 (np, lim, kd, par, n, v)) (fg_nh (fg_for (np, lim, kd, par, n, v) x).2.2 (np, lim, kd, par, n, v) hs) ks L m t e f ∧ fm_f I I' ∧ D' = D ∧ J' = J ∧ X' = X)) := by
  have ht : fm_T I 617 np lim kd par n v := hM.1
  obtain ⟨⟨ho1, ⟨ho2, ho3⟩, ho4, ho5, ho6⟩, hnp, hlim, hP, hS⟩ := id ht
  refine fo_si (by decide) [(0, .ref (Λ.2.2.1 616)), (1, .int (x))] rfl (Nat.le_of_ble_eq_true rfl) (fun K C fin => ?_)
  rcases hx : fo_inr x 4 with _ | _
  · skip
    refine fo_aload_n C dX7_forget_0 0 rfl rfl 1 rfl ?_
    refine fo_qvv C dX7_forget_1 (mX7_begin ht) lv_X7_104 (by decide : fo_k 616 = 9) rfl (by decide) rfl ⟨Nat.le_of_ble_eq_true rfl, Nat.le_of_ble_eq_true rfl⟩ ⟨Nat.le_of_ble_eq_true rfl, Nat.le_of_ble_eq_true rfl⟩ [] rfl (Nat.le_of_ble_eq_true rfl) 4 rfl (fun I2 D3 J4 X5 p6 => ?_)
    obtain ⟨ht1, hb1, b3, b4, b5, z3, z4, z5⟩ := p6
    obtain rfl := z3.symm
    obtain rfl := z4.symm
    obtain rfl := z5.symm
    refine fo_iload_n C dX7_forget_4 1 rfl rfl 5 rfl ?_
    refine fo_qsi C dX7_forget_5 (mX7_isSeries (x := x)) ls_X7_120 rfl ⟨Nat.le_of_ble_eq_true rfl, Nat.le_of_ble_eq_true rfl⟩ ⟨Nat.le_of_ble_eq_true rfl, Nat.le_of_ble_eq_true rfl⟩ [] rfl (Nat.le_of_ble_eq_true rfl) 8 rfl (fo_er ?_)
    first | rw [hsx] | rw [hx]
    refine fo_bif_eq C dX7_forget_8 23 (by decide) 11 rfl (fun c13 => ?_) (fun c13 => ?_)
    · refine fo_aload_n C dX7_forget_23 0 rfl rfl 24 rfl ?_
      refine fo_iconst C dX7_forget_24 (nI 1) ki_1 25 rfl ?_
      refine fo_qvi C dX7_forget_25 (mX7_fail (x := (nI (1)))) lv_X7_111 (by decide : fo_k 616 = 9) rfl (by decide) rfl ⟨Nat.le_of_ble_eq_true rfl, Nat.le_of_ble_eq_true rfl⟩ ⟨Nat.le_of_ble_eq_true rfl, Nat.le_of_ble_eq_true rfl⟩ [] rfl (Nat.le_of_ble_eq_true rfl) 28 rfl (fo_er ?_)
      exact fin dX7_forget_28 rfl (⟨by rw [fg_for_1 (s := (np, lim, kd, par, n, v)) hx], by rw [fo_rs, pk_us, fg_for_1 (s := (np, lim, kd, par, n, v)) hx], by rw [fg_for_1 (s := (np, lim, kd, par, n, v)) hx]; exact hM.mv (fun j hj => by rw [fo_rs, pk_un hj]; exact b5 j hj) (fun b c1 c2 c3 => by rw [fo_rn _ _ (by omega)]; exact b4 b (by omega) c3), fun b hb => by rw [fo_rn _ _ (by omega)]; exact b4 b (by omega) (by omega), rfl, rfl, rfl⟩)
    · exact absurd c13 (by decide)
  · obtain ⟨k, hk, hk31, rfl⟩ := fo_inr_at hx
    have hsx : fo_inr (nI k) 4 = true := fo_inr_nI hk (by omega)
    refine fo_aload_n C dX7_forget_0 0 rfl rfl 1 rfl ?_
    refine fo_qvv C dX7_forget_1 (mX7_begin ht) lv_X7_104 (by decide : fo_k 616 = 9) rfl (by decide) rfl ⟨Nat.le_of_ble_eq_true rfl, Nat.le_of_ble_eq_true rfl⟩ ⟨Nat.le_of_ble_eq_true rfl, Nat.le_of_ble_eq_true rfl⟩ [] rfl (Nat.le_of_ble_eq_true rfl) 4 rfl (fun I21 D22 J23 X24 p25 => ?_)
    obtain ⟨ht1, hb1, b3, b4, b5, z3, z4, z5⟩ := p25
    obtain rfl := z3.symm
    obtain rfl := z4.symm
    obtain rfl := z5.symm
    refine fo_iload_n C dX7_forget_4 1 rfl rfl 5 rfl ?_
    refine fo_qsi C dX7_forget_5 (mX7_isSeries (x := (nI (k)))) ls_X7_120 rfl ⟨Nat.le_of_ble_eq_true rfl, Nat.le_of_ble_eq_true rfl⟩ ⟨Nat.le_of_ble_eq_true rfl, Nat.le_of_ble_eq_true rfl⟩ [] rfl (Nat.le_of_ble_eq_true rfl) 8 rfl (fo_er ?_)
    first | rw [hsx] | rw [hx]
    refine fo_bif_eq C dX7_forget_8 23 (by decide) 11 rfl (fun c32 => ?_) (fun c32 => ?_)
    · exact absurd c32 (by decide)
    · refine fo_aload_n C dX7_forget_11 0 rfl rfl 12 rfl ?_
      refine fo_aload_n C dX7_forget_12 0 rfl rfl 13 rfl ?_
      refine fo_iload_n C dX7_forget_13 1 rfl rfl 14 rfl ?_
      refine fo_qvi C dX7_forget_14 (mX7_forgets (k := k) hk ht1) lv_X7_132 (by decide : fo_k 616 = 9) rfl (by decide) rfl ⟨Nat.le_of_ble_eq_true rfl, Nat.le_of_ble_eq_true rfl⟩ ⟨Nat.le_of_ble_eq_true rfl, Nat.le_of_ble_eq_true rfl⟩ [.ref (Λ.2.2.1 616)] rfl (Nat.le_of_ble_eq_true rfl) 17 rfl (fun r33 I34 D35 J36 X37 p38 => ?_)
      obtain ⟨rfl, ht2, a4, z3, z4, z5⟩ := p38
      obtain rfl := z3.symm
      obtain rfl := z4.symm
      obtain rfl := z5.symm
      refine fo_qvi C dX7_forget_17 (mX7_commit (hs := hs) (s0 := (np, lim, kd, par, n, v)) (x := (nI (n k))) (hM.2.1.mv (by rw [a4 616 (by decide)]; exact b5 6 (by decide)) (by rw [a4 620 (by decide)]; exact b4 620 (by decide) (by decide))) (by rw [a4 618 (by decide)]; exact hb1)) lv_X7_117 (by decide : fo_k 616 = 9) rfl (by decide) rfl ⟨Nat.le_of_ble_eq_true rfl, Nat.le_of_ble_eq_true rfl⟩ ⟨Nat.le_of_ble_eq_true rfl, Nat.le_of_ble_eq_true rfl⟩ [] rfl (Nat.le_of_ble_eq_true rfl) 20 rfl (fun r39 I40 D41 J42 X43 p44 => ?_)
      obtain ⟨rfl, hh3, c4, c5, z3, z4, z5⟩ := p44
      obtain rfl := z3.symm
      obtain rfl := z4.symm
      obtain rfl := z5.symm
      refine fo_goto C dX7_forget_20 28 (by decide) ?_
      exact fin dX7_forget_28 rfl (⟨by rw [fg_for_t (s := (np, lim, kd, par, n, v)) hk], by rw [fg_for_t (s := (np, lim, kd, par, n, v)) hk, c5 5 (by decide), a4 616 (by decide)]; exact b3, by rw [fg_for_t (s := (np, lim, kd, par, n, v)) hk]; exact hM.go (by rw [c4 617 (by decide) (by decide)]; exact ht2) hh3 (fun j h5 h6 => by rw [c5 j h6, a4 616 (by decide)]; exact b5 j h5) (fun b c1 c2 c3 => by rw [c4 b (by omega) c3, a4 b (by omega)]; exact b4 b (by omega) (by omega)), fun b hb => by rw [c4 b (by omega) (by omega), a4 b (by omega)]; exact b4 b (by omega) (by omega), rfl, rfl, rfl⟩)
