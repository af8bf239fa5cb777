
/-! THE LAW'S LOOP -/
theorem fw_63 (x : Int32) : ∃ q, q < 64 ∧ x &&& nI 63 = nI q := by
  refine ⟨(x &&& nI 63).toBitVec.toNat, ?_, ?_⟩
  · rw [Int32.toBitVec_and, BitVec.toNat_and]
    exact Nat.and_lt_two_pow (n := 6) _ (by decide)
  · generalize x &&& nI 63 = y
    apply Int32.toBitVec_inj.mp
    apply BitVec.eq_of_toNat_eq
    show y.toBitVec.toNat = (Int32.ofNat y.toBitVec.toNat).toBitVec.toNat
    simp
theorem fw_i4 {i Ls : Nat} (hi : i < 2 ^ 31) (hL : Ls < 2 ^ 31) (h : nI i ≤ nI Ls - nI 4) : i + 3 < Ls := by
  by_cases h4 : 4 ≤ Ls
  · rw [pk_sub h4] at h
    have h2 := Int32.le_iff_toInt_le.mp h
    rw [nI_toInt hi, nI_toInt (by omega)] at h2
    omega
  · exfalso
    have h2 := Int32.le_iff_toInt_le.mp h
    rw [nI_toInt hi] at h2
    have h3 : Ls = 0 ∨ Ls = 1 ∨ Ls = 2 ∨ Ls = 3 := by omega
    rcases h3 with rfl | rfl | rfl | rfl
    · rw [show (nI 0 - nI 4).toInt = -4 by decide] at h2; omega
    · rw [show (nI 1 - nI 4).toInt = -3 by decide] at h2; omega
    · rw [show (nI 2 - nI 4).toInt = -2 by decide] at h2; omega
    · rw [show (nI 3 - nI 4).toInt = -1 by decide] at h2; omega
theorem fw_inc4 (i : Nat) : nI i + Int32.ofInt 4 = nI (i + 4) := nI_add i 4
set_option maxRecDepth 10000 in
set_option maxHeartbeats 4000000 in
theorem lw_lp {l : Launch} {Λ : fo_Lt} {K : fo_K} {b Ls : Nat} {xs : Nat → Int32} (hfl : l.stackTraces = false) (C : fo_C Λ K cL_law RL 9) (hX : va_X b Ls xs K.2.2.1 K.2.2.1.heap) (hb : b < Λ.2.2.2) (hLs : Ls ≤ 2048) (kend : ∀ (cs ss : Nat) (lv : List (Nat × Value)) (I : fo_Mi) (D : fo_Md) (J : fo_Mj) (X : fo_Mi), cs ≤ 603072 → ss ≤ 7211114 → fo_G l Λ room_1 K cs ss 2690 lv [.int (nI 1)] I D J X) : ∀ (g ix cs ss : Nat) (I : fo_Mi) (D : fo_Md) (J : fo_Mj) (X : fo_Mi) (s : fa_S) (hs : List fa_S) (ks : Option fa_S) (L : List Nat) (m : Nat) (t : Nat → Nat) (e f : Int32), Ls + 4 - ix < g → ix ≤ Ls + 4 → 4 * cs + 3 * (Ls + 4 - ix) ≤ 2412288 → 4 * ss + 18 * (Ls + 4 - ix) ≤ 28844456 → ll I D s hs ks L m t e f → fm_M I s hs ks L m t e f → (e = -1 ∨ ¬ e < 0) → (f = -1 ∨ ¬ f < 0) → fo_G l Λ room_1 K cs ss 28 [(5, .int (nI ix)), (0, .ref b), (1, .ref (Λ.2.2.1 605)), (2, .ref (Λ.2.2.1 616)), (3, .ref (Λ.2.2.1 629)), (4, .ref (Λ.2.2.1 630))] [] I D J X := by
  intro g
  induction g with
  | zero => intro ix cs ss I D J X s hs ks L m t e f h; exact absurd h (Nat.not_lt_zero _)
  | succ g ih =>
    intro ix cs ss I D J X s hs ks L m t e f hg hix hcs hss hl hM he hf
    refine fo_iload C dL_law_28 0 rfl 30 rfl ?_
    refine fo_aload_n C dL_law_30 1 rfl rfl 31 rfl ?_
    refine fo_scl C hX hb dL_law_31 32 rfl ?_
    refine fo_iconst C dL_law_32 (nI 4) ki_4 33 rfl ?_
    refine fo_isub C dL_law_33 _ rfl 34 rfl ?_
    refine fo_icmp_gt C dL_law_34 2689 (by decide) 37 rfl (fun c1 => ?_) (fun c1 => ?_)
    · refine fo_iconst C dL_law_2689 (nI 1) ki_1 2690 rfl ?_
      exact kend cs ss _ I D J X (by omega) (by omega)
    have h3 : ix + 3 < Ls := fw_i4 (by omega) (by omega) (Int32.not_lt.mp c1)
    refine fo_aload_n C dL_law_37 1 rfl rfl 38 rfl ?_
    refine fo_iload C dL_law_38 0 rfl 40 rfl ?_
    refine fo_sld C hX hb hLs (i := ix) (by omega) dL_law_40 41 rfl ?_
    refine fo_bipush C dL_law_41 (nI 63) kb_63 43 rfl ?_
    refine fo_iand C dL_law_43 _ rfl 44 rfl ?_
    have hk : lk_k l Λ K b ix cs ss := fun cs' ss' I' D' J' X' s' hs' ks' L' m' t' e' f' h1 h2 hl' hM' he' hf' => by
      refine fo_iinc C dL_law_2683 0 rfl (nI (ix + 4)) (fw_inc4 ix) [(5, .int (nI (ix + 4))), (0, .ref b), (1, .ref (Λ.2.2.1 605)), (2, .ref (Λ.2.2.1 616)), (3, .ref (Λ.2.2.1 629)), (4, .ref (Λ.2.2.1 630))] rfl (by decide) 2686 rfl ?_
      refine fo_goto C dL_law_2686 28 (by decide) ?_
      exact ih (ix + 4) cs' ss' I' D' J' X' s' hs' ks' L' m' t' e' f' (by omega) (by omega) (by omega) (by omega) hl' hM' he' hf'
    obtain ⟨q, hq, eq⟩ := fw_63 (xs ix)
    rw [eq]
    rcases Nat.lt_or_ge q 42 with h | h
    · match q, h with
      | 0, _ => refine fo_tabIn C dL_law_44 (by decide) (by decide) (off := 184) (by decide) 228 (by decide) (lc_0 hfl C hX hb hLs h3 hl hM he hf (by omega) (by omega) hk)
      | 1, _ => refine fo_tabIn C dL_law_44 (by decide) (by decide) (off := 254) (by decide) 298 (by decide) (lc_1 hfl C hX hb hLs h3 hl hM he hf (by omega) (by omega) hk)
      | 2, _ => refine fo_tabIn C dL_law_44 (by decide) (by decide) (off := 322) (by decide) 366 (by decide) (lc_2 hfl C hX hb hLs h3 hl hM he hf (by omega) (by omega) hk)
      | 3, _ => refine fo_tabIn C dL_law_44 (by decide) (by decide) (off := 378) (by decide) 422 (by decide) (lc_3 hfl C hX hb hLs h3 hl hM he hf (by omega) (by omega) hk)
      | 4, _ => refine fo_tabIn C dL_law_44 (by decide) (by decide) (off := 434) (by decide) 478 (by decide) (lc_4 hfl C hX hb hLs h3 hl hM he hf (by omega) (by omega) hk)
      | 5, _ => refine fo_tabIn C dL_law_44 (by decide) (by decide) (off := 490) (by decide) 534 (by decide) (lc_5 hfl C hX hb hLs h3 hl hM he hf (by omega) (by omega) hk)
      | 6, _ => refine fo_tabIn C dL_law_44 (by decide) (by decide) (off := 558) (by decide) 602 (by decide) (lc_6 hfl C hX hb hLs h3 hl hM he hf (by omega) (by omega) hk)
      | 7, _ => refine fo_tabIn C dL_law_44 (by decide) (by decide) (off := 614) (by decide) 658 (by decide) (lc_7 hfl C hX hb hLs h3 hl hM he hf (by omega) (by omega) hk)
      | 8, _ => refine fo_tabIn C dL_law_44 (by decide) (by decide) (off := 703) (by decide) 747 (by decide) (lc_8 hfl C hX hb hLs h3 hl hM he hf (by omega) (by omega) hk)
      | 9, _ => refine fo_tabIn C dL_law_44 (by decide) (by decide) (off := 792) (by decide) 836 (by decide) (lc_9 hfl C hX hb hLs h3 hl hM he hf (by omega) (by omega) hk)
      | 10, _ => refine fo_tabIn C dL_law_44 (by decide) (by decide) (off := 860) (by decide) 904 (by decide) (lc_10 hfl C hX hb hLs h3 hl hM he hf (by omega) (by omega) hk)
      | 11, _ => refine fo_tabIn C dL_law_44 (by decide) (by decide) (off := 928) (by decide) 972 (by decide) (lc_11 hfl C hX hb hLs h3 hl hM he hf (by omega) (by omega) hk)
      | 12, _ => refine fo_tabIn C dL_law_44 (by decide) (by decide) (off := 1017) (by decide) 1061 (by decide) (lc_12 hfl C hX hb hLs h3 hl hM he hf (by omega) (by omega) hk)
      | 13, _ => refine fo_tabIn C dL_law_44 (by decide) (by decide) (off := 1092) (by decide) 1136 (by decide) (lc_13 hfl C hX hb hLs h3 hl hM he hf (by omega) (by omega) hk)
      | 14, _ => refine fo_tabIn C dL_law_44 (by decide) (by decide) (off := 1148) (by decide) 1192 (by decide) (lc_14 hfl C hX hb hLs h3 hl hM he hf (by omega) (by omega) hk)
      | 15, _ => refine fo_tabIn C dL_law_44 (by decide) (by decide) (off := 1204) (by decide) 1248 (by decide) (lc_15 hfl C hX hb hLs h3 hl hM he hf (by omega) (by omega) hk)
      | 16, _ => refine fo_tabIn C dL_law_44 (by decide) (by decide) (off := 1284) (by decide) 1328 (by decide) (lc_16 hfl C hX hb hLs h3 hl hM he hf (by omega) (by omega) hk)
      | 17, _ => refine fo_tabIn C dL_law_44 (by decide) (by decide) (off := 1297) (by decide) 1341 (by decide) (lc_17 hfl C hX hb hLs h3 hl hM he hf (by omega) (by omega) hk)
      | 18, _ => refine fo_tabIn C dL_law_44 (by decide) (by decide) (off := 1310) (by decide) 1354 (by decide) (lc_18 hfl C hX hb hLs h3 hl hM he hf (by omega) (by omega) hk)
      | 19, _ => refine fo_tabIn C dL_law_44 (by decide) (by decide) (off := 1366) (by decide) 1410 (by decide) (lc_19 hfl C hX hb hLs h3 hl hM he hf (by omega) (by omega) hk)
      | 20, _ => refine fo_tabIn C dL_law_44 (by decide) (by decide) (off := 1422) (by decide) 1466 (by decide) (lc_20 hfl C hX hb hLs h3 hl hM he hf (by omega) (by omega) hk)
      | 21, _ => refine fo_tabIn C dL_law_44 (by decide) (by decide) (off := 1497) (by decide) 1541 (by decide) (lc_21 hfl C hX hb hLs h3 hl hM he hf (by omega) (by omega) hk)
      | 22, _ => refine fo_tabIn C dL_law_44 (by decide) (by decide) (off := 1586) (by decide) 1630 (by decide) (lc_22 hfl C hX hb hLs h3 hl hM he hf (by omega) (by omega) hk)
      | 23, _ => refine fo_tabIn C dL_law_44 (by decide) (by decide) (off := 1653) (by decide) 1697 (by decide) (lc_23 hfl C hX hb hLs h3 hl hM he hf (by omega) (by omega) hk)
      | 24, _ => refine fo_tabIn C dL_law_44 (by decide) (by decide) (off := 1721) (by decide) 1765 (by decide) (lc_24 hfl C hX hb hLs h3 hl hM he hf (by omega) (by omega) hk)
      | 25, _ => refine fo_tabIn C dL_law_44 (by decide) (by decide) (off := 1810) (by decide) 1854 (by decide) (lc_25 hfl C hX hb hLs h3 hl hM he hf (by omega) (by omega) hk)
      | 26, _ => refine fo_tabIn C dL_law_44 (by decide) (by decide) (off := 1899) (by decide) 1943 (by decide) (lc_26 hfl C hX hb hLs h3 hl hM he hf (by omega) (by omega) hk)
      | 27, _ => refine fo_tabIn C dL_law_44 (by decide) (by decide) (off := 1967) (by decide) 2011 (by decide) (lc_27 hfl C hX hb hLs h3 hl hM he hf (by omega) (by omega) hk)
      | 28, _ => refine fo_tabIn C dL_law_44 (by decide) (by decide) (off := 2044) (by decide) 2088 (by decide) (lc_28 hfl C hX hb hLs h3 hl hM he hf (by omega) (by omega) hk)
      | 29, _ => refine fo_tabIn C dL_law_44 (by decide) (by decide) (off := 2100) (by decide) 2144 (by decide) (lc_29 hfl C hX hb hLs h3 hl hM he hf (by omega) (by omega) hk)
      | 30, _ => refine fo_tabIn C dL_law_44 (by decide) (by decide) (off := 2144) (by decide) 2188 (by decide) (lc_30 hfl C hX hb hLs h3 hl hM he hf (by omega) (by omega) hk)
      | 31, _ => refine fo_tabIn C dL_law_44 (by decide) (by decide) (off := 2210) (by decide) 2254 (by decide) (lc_31 hfl C hX hb hLs h3 hl hM he hf (by omega) (by omega) hk)
      | 32, _ => refine fo_tabIn C dL_law_44 (by decide) (by decide) (off := 2223) (by decide) 2267 (by decide) (lc_32 hfl C hX hb hLs h3 hl hM he hf (by omega) (by omega) hk)
      | 33, _ => refine fo_tabIn C dL_law_44 (by decide) (by decide) (off := 2279) (by decide) 2323 (by decide) (lc_33 hfl C hX hb hLs h3 hl hM he hf (by omega) (by omega) hk)
      | 34, _ => refine fo_tabIn C dL_law_44 (by decide) (by decide) (off := 2292) (by decide) 2336 (by decide) (lc_34 hfl C hX hb hLs h3 hl hM he hf (by omega) (by omega) hk)
      | 35, _ => refine fo_tabIn C dL_law_44 (by decide) (by decide) (off := 2348) (by decide) 2392 (by decide) (lc_35 hfl C hX hb hLs h3 hl hM he hf (by omega) (by omega) hk)
      | 36, _ => refine fo_tabIn C dL_law_44 (by decide) (by decide) (off := 2406) (by decide) 2450 (by decide) (lc_36 hfl C hX hb hLs h3 hl hM he hf (by omega) (by omega) hk)
      | 37, _ => refine fo_tabIn C dL_law_44 (by decide) (by decide) (off := 2450) (by decide) 2494 (by decide) (lc_37 hfl C hX hb hLs h3 hl hM he hf (by omega) (by omega) hk)
      | 38, _ => refine fo_tabIn C dL_law_44 (by decide) (by decide) (off := 2494) (by decide) 2538 (by decide) (lc_38 hfl C hX hb hLs h3 hl hM he hf (by omega) (by omega) hk)
      | 39, _ => refine fo_tabIn C dL_law_44 (by decide) (by decide) (off := 2538) (by decide) 2582 (by decide) (lc_39 hfl C hX hb hLs h3 hl hM he hf (by omega) (by omega) hk)
      | 40, _ => refine fo_tabIn C dL_law_44 (by decide) (by decide) (off := 2582) (by decide) 2626 (by decide) (lc_40 hfl C hX hb hLs h3 hl hM he hf (by omega) (by omega) hk)
      | 41, _ => refine fo_tabIn C dL_law_44 (by decide) (by decide) (off := 2595) (by decide) 2639 (by decide) (lc_41 hfl C hX hb hLs h3 hl hM he hf (by omega) (by omega) hk)
      | q + 42, h9 => exact absurd h9 (by omega)
    · refine fo_tabOut C dL_law_44 (Or.inr (by rw [nI_toInt (by omega)]; omega)) 2683 (by decide) ?_
      exact hk _ _ _ _ _ _ _ _ _ _ _ _ _ _ (by omega) (by omega) hl hM he hf

