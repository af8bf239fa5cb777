
/-! THE LABORATORY: a program's steps -/
theorem fo_19_nat {x : Nat} (hx : x < 2 ^ 31) : fo_19 (nI x) = decide (1 ≤ x ∧ x ≤ 9) := by
  unfold fo_19
  rw [nI_toInt hx]
  by_cases h : 1 ≤ x ∧ x ≤ 9
  · rw [decide_eq_true h, decide_eq_true (by omega)]
  · rw [decide_eq_false h, decide_eq_false (by omega)]
theorem fo_inr_nat {a m : Nat} (ha : a < 2 ^ 31) : fo_inr (nI a) m = decide (a < m) := by
  unfold fo_inr
  rw [nI_toInt ha]
  by_cases h : a < m
  · rw [decide_eq_true h, decide_eq_true (by omega)]
  · rw [decide_eq_false h, decide_eq_false (by omega)]
/-- a step on a state; none: it fails -/
def fa_step (s : fa_S) (w a x : Nat) : Option fa_S :=
  if w = 112 then (if (1 ≤ x ∧ x ≤ 9) ∧ (s.1 < 8 ∧ fp_sum s.2.2.2.2.1 0 4 = 0) then some (s.1 + 1, s.2.1, va_up s.2.2.1 s.1 a, va_up s.2.2.2.1 s.1 x, s.2.2.2.2.1, s.2.2.2.2.2) else none)
  else if w = 115 then (if a < 4 ∧ s.2.2.2.2.1 a < 30 then some (s.1, s.2.1, s.2.2.1, s.2.2.2.1, va_up s.2.2.2.2.1 a (s.2.2.2.2.1 a + 1), va_up s.2.2.2.2.2 a (va_up (s.2.2.2.2.2 a) (s.2.2.2.2.1 a) x)) else none)
  else if w = 108 then (if 1 ≤ a ∧ a ≤ 9 then some (s.1, a, s.2.2.1, s.2.2.2.1, s.2.2.2.2.1, s.2.2.2.2.2) else none)
  else (if a < 4 then some (s.1, s.2.1, s.2.2.1, s.2.2.2.1, va_up s.2.2.2.2.1 a 0, s.2.2.2.2.2) else none)
/-- what a step of a parsed program is -/
def fq_kk (w a x : Nat) : Prop := (w = 112 ∨ w = 115 ∨ w = 108 ∨ w = 102) ∧ (w = 112 → (a = 108 ∨ a = 109 ∨ a = 100 ∨ a = 116 ∨ a = 115)) ∧ a < 65536 ∧ x ≤ 999

set_option maxRecDepth 10000 in
set_option maxHeartbeats 4000000 in
theorem mX6_takeStep {l : Launch} {Λ : fo_Lt} {I : fo_Mi} {D : fo_Md} {J : fo_Mj} {X : fo_Mi} {np lim : Nat} {kd par n : Nat → Nat} {v : Nat → Nat → Nat} {w a x : Nat} (hkk : fq_kk w a x) (hf : fs_F I D 0 np lim kd par n v) : fk_i l yX6_takeStep cX6_takeStep 4 .boolean 4 103 Λ [.ref (Λ.2.2.1 605), .int (nI w), .int (nI a), .int (nI x)] I D J X ((fun r I' D' J' X' => r = fo_b (fa_step (np, lim, kd, par, n, v) w a x).isSome ∧ (∀ s, fa_step (np, lim, kd, par, n, v) w a x = some s → fs_FS I' D' 0 s) ∧ fs_fr 0 I D I' D' ∧ J' = J)) := by
  obtain ⟨hS, hP, hC, hnp, hlim, h8, hl1, hl9, hn30⟩ := hf.now
  refine fo_si (by decide) [(0, .ref (Λ.2.2.1 605)), (1, .int (nI w)), (2, .int (nI a)), (3, .int (nI x))] rfl (Nat.le_of_ble_eq_true rfl) (fun K C fin => ?_)
  refine fo_iload_n C dX6_takeStep_0 1 rfl rfl 1 rfl ?_
  obtain ⟨hww, hwk, ha16, hx9⟩ := hkk
  rcases hww with rfl | rfl | rfl | rfl
  · refine fo_lookup C dX6_takeStep_1 (by decide) (off := 35) (by decide) 36 (by decide) ?_
    refine fo_iload_n C dX6_takeStep_36 3 rfl rfl 37 rfl ?_
    refine fo_qsi C dX6_takeStep_37 (mX6_isOneToNine (x := nI (x))) ls_X6_51 rfl ⟨Nat.le_of_ble_eq_true rfl, Nat.le_of_ble_eq_true rfl⟩ ⟨Nat.le_of_ble_eq_true rfl, Nat.le_of_ble_eq_true rfl⟩ [] rfl (Nat.le_of_ble_eq_true rfl) 40 rfl (fo_er ?_)
    refine fo_bif_eq C dX6_takeStep_40 53 (by decide) 43 rfl (fun c7 => ?_) (fun c7 => ?_)
    · have hno : ¬ ((1 ≤ x ∧ x ≤ 9) ∧ (np < 8 ∧ fp_sum n 0 4 = 0)) := by intro q; have z8 : fo_19 (nI x) = false := (by first | assumption | simp_all); rw [fo_19_nat (by omega)] at z8; exact of_decide_eq_false z8 q.1
      refine fo_iconst C dX6_takeStep_53 (nI 0) ki_0 54 rfl ?_
      exact fin dX6_takeStep_54 (by first | rfl | exact fo_nb _) ((by have e9 : fa_step (np, lim, kd, par, n, v) 112 a x = none := (by rw [fa_step, if_pos rfl, if_neg hno]); exact ⟨(by rw [e9]; rfl), fun s9 hs9 => (by rw [e9] at hs9; cases hs9), fun c _ => ⟨rfl, rfl⟩, rfl⟩))
    · have h19 : 1 ≤ x ∧ x ≤ 9 := by have z8 : fo_19 (nI x) = true := (by first | assumption | simp_all); rw [fo_19_nat (by omega)] at z8; exact of_decide_eq_true z8
      refine fo_aload_n C dX6_takeStep_43 0 rfl rfl 44 rfl ?_
      refine fo_get C dX6_takeStep_44 fK8 (by decide : fo_k 605 = 8) (by decide) 0 (by decide) fl_X6_12 (v := .ref (Λ.2.2.1 0)) rfl 47 rfl ?_
      refine fo_qvi C dX6_takeStep_47 (mX5_takesProphet hf.1) lv_X6_58 (by decide : fo_k 0 = 7) rfl (by decide) rfl ⟨Nat.le_of_ble_eq_true rfl, Nat.le_of_ble_eq_true rfl⟩ ⟨Nat.le_of_ble_eq_true rfl, Nat.le_of_ble_eq_true rfl⟩ [] rfl (Nat.le_of_ble_eq_true rfl) 50 rfl (fo_er ?_)
      refine fo_bif_ne C dX6_takeStep_50 55 (by decide) 53 rfl (fun c14 => ?_) (fun c14 => ?_)
      · have hok : np < 8 ∧ fp_sum n 0 4 = 0 := by first | exact of_decide_eq_true (by assumption) | simp_all
        refine fo_aload_n C dX6_takeStep_55 0 rfl rfl 56 rfl ?_
        refine fo_get C dX6_takeStep_56 fK8 (by decide : fo_k 605 = 8) (by decide) 0 (by decide) fl_X6_12 (v := .ref (Λ.2.2.1 0)) rfl 59 rfl ?_
        refine fo_iload_n C dX6_takeStep_59 2 rfl rfl 60 rfl ?_
        refine fo_i2c C dX6_takeStep_60 (nI (a)) (fo_chr (by omega)) 61 rfl ?_
        refine fo_iload_n C dX6_takeStep_61 3 rfl rfl 62 rfl ?_
        refine fo_qvi C dX6_takeStep_62 (mX5_enlist hf hok.1 hok.2 ⟨hwk rfl, h19⟩) lv_X6_68 (by decide : fo_k 0 = 7) rfl (by decide) rfl ⟨Nat.le_of_ble_eq_true rfl, Nat.le_of_ble_eq_true rfl⟩ ⟨Nat.le_of_ble_eq_true rfl, Nat.le_of_ble_eq_true rfl⟩ [] rfl (Nat.le_of_ble_eq_true rfl) 65 rfl (fun r15 I16 D17 J18 X19 p20 => ?_)
        obtain ⟨rfl, g2, f2, rfl⟩ := p20
        refine fo_pop C dX6_takeStep_65 rfl 66 rfl ?_
        refine fo_iconst C dX6_takeStep_66 (nI 1) ki_1 67 rfl ?_
        exact fin dX6_takeStep_67 (by first | rfl | exact fo_nb _) ((by have e9 : fa_step (np, lim, kd, par, n, v) 112 a x = some (np + 1, lim, va_up kd np a, va_up par np x, n, v) := (by rw [fa_step, if_pos rfl, if_pos ⟨h19, hok⟩]); exact ⟨(by rw [e9]; rfl), fun s9 hs9 => (by rw [e9] at hs9; cases hs9; exact g2), f2, rfl⟩))
      · have hno : ¬ ((1 ≤ x ∧ x ≤ 9) ∧ (np < 8 ∧ fp_sum n 0 4 = 0)) := by intro q; have z8 : decide (np < 8 ∧ fp_sum n 0 4 = 0) = false := (by first | assumption | simp_all); exact of_decide_eq_false z8 q.2
        refine fo_iconst C dX6_takeStep_53 (nI 0) ki_0 54 rfl ?_
        exact fin dX6_takeStep_54 (by first | rfl | exact fo_nb _) ((by have e9 : fa_step (np, lim, kd, par, n, v) 112 a x = none := (by rw [fa_step, if_pos rfl, if_neg hno]); exact ⟨(by rw [e9]; rfl), fun s9 hs9 => (by rw [e9] at hs9; cases hs9), fun c _ => ⟨rfl, rfl⟩, rfl⟩))
  · refine fo_lookup C dX6_takeStep_1 (by decide) (off := 67) (by decide) 68 (by decide) ?_
    refine fo_iload_n C dX6_takeStep_68 2 rfl rfl 69 rfl ?_
    refine fo_qsi C dX6_takeStep_69 (mX6_isSeries (x := nI (a))) ls_X6_283 rfl ⟨Nat.le_of_ble_eq_true rfl, Nat.le_of_ble_eq_true rfl⟩ ⟨Nat.le_of_ble_eq_true rfl, Nat.le_of_ble_eq_true rfl⟩ [] rfl (Nat.le_of_ble_eq_true rfl) 72 rfl (fo_er ?_)
    refine fo_bif_eq C dX6_takeStep_72 90 (by decide) 75 rfl (fun c27 => ?_) (fun c27 => ?_)
    · have hno : ¬ (a < 4 ∧ n a < 30) := by intro q; have z8 : fo_inr (nI a) 4 = false := (by first | assumption | simp_all); rw [fo_inr_nat (by omega)] at z8; exact of_decide_eq_false z8 q.1
      refine fo_iconst C dX6_takeStep_90 (nI 0) ki_0 91 rfl ?_
      exact fin dX6_takeStep_91 (by first | rfl | exact fo_nb _) ((by have e9 : fa_step (np, lim, kd, par, n, v) 115 a x = none := (by rw [fa_step, if_neg (by decide), if_pos rfl, if_neg hno]); exact ⟨(by rw [e9]; rfl), fun s9 hs9 => (by rw [e9] at hs9; cases hs9), fun c _ => ⟨rfl, rfl⟩, rfl⟩))
    · have ha4 : a < 4 := by have z8 : fo_inr (nI a) 4 = true := (by first | assumption | simp_all); rw [fo_inr_nat (by omega)] at z8; exact of_decide_eq_true z8
      refine fo_aload_n C dX6_takeStep_75 0 rfl rfl 76 rfl ?_
      refine fo_get C dX6_takeStep_76 fK8 (by decide : fo_k 605 = 8) (by decide) 0 (by decide) fl_X6_12 (v := .ref (Λ.2.2.1 0)) rfl 79 rfl ?_
      refine fo_get C dX6_takeStep_79 fK7 (by decide : fo_k 0 = 7) (by decide) 0 (by decide) fl_X6_286 (v := .ref (Λ.2.2.1 1)) rfl 82 rfl ?_
      refine fo_iload_n C dX6_takeStep_82 2 rfl rfl 83 rfl ?_
      refine fo_aaldS C dX6_takeStep_83 (by decide : fo_k 1 = 25) (by rw [(show fo_n 1 = 4 from rfl)]; omega) (3 + 5 * a) (by omega) 84 rfl ?_
      refine fo_qvi C dX6_takeStep_84 (mX4_isFull (hS a (by omega))) lv_X6_76 ((hS a (by omega)).1) rfl (by decide) rfl ⟨Nat.le_of_ble_eq_true rfl, Nat.le_of_ble_eq_true rfl⟩ ⟨Nat.le_of_ble_eq_true rfl, Nat.le_of_ble_eq_true rfl⟩ [] rfl (Nat.le_of_ble_eq_true rfl) 87 rfl (fo_er ?_)
      refine fo_bif_eq C dX6_takeStep_87 92 (by decide) 90 rfl (fun c34 => ?_) (fun c34 => ?_)
      · have hfull : n a < 30 := by have z8 : decide (30 ≤ n a) = false := (by first | assumption | simp_all); exact Nat.not_le.mp (of_decide_eq_false z8)
        refine fo_aload_n C dX6_takeStep_92 0 rfl rfl 93 rfl ?_
        refine fo_get C dX6_takeStep_93 fK8 (by decide : fo_k 605 = 8) (by decide) 0 (by decide) fl_X6_12 (v := .ref (Λ.2.2.1 0)) rfl 96 rfl ?_
        refine fo_iload_n C dX6_takeStep_96 2 rfl rfl 97 rfl ?_
        refine fo_iload_n C dX6_takeStep_97 3 rfl rfl 98 rfl ?_
        refine fo_qvi C dX6_takeStep_98 (mX5_append (x := x) ha4 hfull hx9 hf) lv_X6_81 (by decide : fo_k 0 = 7) rfl (by decide) rfl ⟨Nat.le_of_ble_eq_true rfl, Nat.le_of_ble_eq_true rfl⟩ ⟨Nat.le_of_ble_eq_true rfl, Nat.le_of_ble_eq_true rfl⟩ [] rfl (Nat.le_of_ble_eq_true rfl) 101 rfl (fun r35 I36 D37 J38 X39 p40 => ?_)
        obtain ⟨rfl, g2, f2, rfl⟩ := p40
        refine fo_pop C dX6_takeStep_101 rfl 102 rfl ?_
        refine fo_iconst C dX6_takeStep_102 (nI 1) ki_1 103 rfl ?_
        exact fin dX6_takeStep_103 (by first | rfl | exact fo_nb _) ((by have e9 : fa_step (np, lim, kd, par, n, v) 115 a x = some (np, lim, kd, par, va_up n a (n a + 1), va_up v a (va_up (v a) (n a) x)) := (by rw [fa_step, if_neg (by decide), if_pos rfl, if_pos ⟨ha4, hfull⟩]); exact ⟨(by rw [e9]; rfl), fun s9 hs9 => (by rw [e9] at hs9; cases hs9; exact g2), f2, rfl⟩))
      · have hno : ¬ (a < 4 ∧ n a < 30) := by intro q; have z8 : decide (30 ≤ n a) = true := (by first | assumption | simp_all); have := of_decide_eq_true z8; omega
        refine fo_iconst C dX6_takeStep_90 (nI 0) ki_0 91 rfl ?_
        exact fin dX6_takeStep_91 (by first | rfl | exact fo_nb _) ((by have e9 : fa_step (np, lim, kd, par, n, v) 115 a x = none := (by rw [fa_step, if_neg (by decide), if_pos rfl, if_neg hno]); exact ⟨(by rw [e9]; rfl), fun s9 hs9 => (by rw [e9] at hs9; cases hs9), fun c _ => ⟨rfl, rfl⟩, rfl⟩))
  · refine fo_lookup C dX6_takeStep_1 (by decide) (off := 103) (by decide) 104 (by decide) ?_
    refine fo_iload_n C dX6_takeStep_104 2 rfl rfl 105 rfl ?_
    refine fo_qsi C dX6_takeStep_105 (mX6_isOneToNine (x := nI (a))) ls_X6_51 rfl ⟨Nat.le_of_ble_eq_true rfl, Nat.le_of_ble_eq_true rfl⟩ ⟨Nat.le_of_ble_eq_true rfl, Nat.le_of_ble_eq_true rfl⟩ [] rfl (Nat.le_of_ble_eq_true rfl) 108 rfl (fo_er ?_)
    refine fo_bif_ne C dX6_takeStep_108 113 (by decide) 111 rfl (fun c47 => ?_) (fun c47 => ?_)
    · have h19 : 1 ≤ a ∧ a ≤ 9 := by have z8 : fo_19 (nI a) = true := (by first | assumption | simp_all); rw [fo_19_nat (by omega)] at z8; exact of_decide_eq_true z8
      refine fo_aload_n C dX6_takeStep_113 0 rfl rfl 114 rfl ?_
      refine fo_get C dX6_takeStep_114 fK8 (by decide : fo_k 605 = 8) (by decide) 0 (by decide) fl_X6_12 (v := .ref (Λ.2.2.1 0)) rfl 117 rfl ?_
      refine fo_iload_n C dX6_takeStep_117 2 rfl rfl 118 rfl ?_
      refine fo_put C dX6_takeStep_118 fK7 (by decide : fo_k 0 = 7) (by decide) 3 (by decide) fl_X6_85 rfl rfl rfl rfl (Nat.le_of_ble_eq_true rfl) 121 rfl ?_
      have g2 := hf.lim h19.1 h19.2
      have f2 : fs_fr 0 I D (fo_r I 0 (upd (I 0) 3 (nI (a)))) D := fun c c9 => ⟨fo_rn _ _ (by omega), rfl⟩
      refine fo_iconst C dX6_takeStep_121 (nI 1) ki_1 122 rfl ?_
      exact fin dX6_takeStep_122 (by first | rfl | exact fo_nb _) ((by have e9 : fa_step (np, lim, kd, par, n, v) 108 a x = some (np, a, kd, par, n, v) := (by rw [fa_step, if_neg (by decide), if_neg (by decide), if_pos rfl, if_pos h19]); exact ⟨(by rw [e9]; rfl), fun s9 hs9 => (by rw [e9] at hs9; cases hs9; exact g2), f2, rfl⟩))
    · have hno : ¬ (1 ≤ a ∧ a ≤ 9) := by intro q; have z8 : fo_19 (nI a) = false := (by first | assumption | simp_all); rw [fo_19_nat (by omega)] at z8; exact of_decide_eq_false z8 q
      refine fo_iconst C dX6_takeStep_111 (nI 0) ki_0 112 rfl ?_
      exact fin dX6_takeStep_112 (by first | rfl | exact fo_nb _) ((by have e9 : fa_step (np, lim, kd, par, n, v) 108 a x = none := (by rw [fa_step, if_neg (by decide), if_neg (by decide), if_pos rfl, if_neg hno]); exact ⟨(by rw [e9]; rfl), fun s9 hs9 => (by rw [e9] at hs9; cases hs9), fun c _ => ⟨rfl, rfl⟩, rfl⟩))
  · refine fo_lookup C dX6_takeStep_1 (by decide) (off := 122) (by decide) 123 (by decide) ?_
    refine fo_iload_n C dX6_takeStep_123 2 rfl rfl 124 rfl ?_
    refine fo_qsi C dX6_takeStep_124 (mX6_isSeries (x := nI (a))) ls_X6_283 rfl ⟨Nat.le_of_ble_eq_true rfl, Nat.le_of_ble_eq_true rfl⟩ ⟨Nat.le_of_ble_eq_true rfl, Nat.le_of_ble_eq_true rfl⟩ [] rfl (Nat.le_of_ble_eq_true rfl) 127 rfl (fo_er ?_)
    refine fo_bif_ne C dX6_takeStep_127 132 (by decide) 130 rfl (fun c54 => ?_) (fun c54 => ?_)
    · have ha4 : a < 4 := by have z8 : fo_inr (nI a) 4 = true := (by first | assumption | simp_all); rw [fo_inr_nat (by omega)] at z8; exact of_decide_eq_true z8
      refine fo_aload_n C dX6_takeStep_132 0 rfl rfl 133 rfl ?_
      refine fo_get C dX6_takeStep_133 fK8 (by decide : fo_k 605 = 8) (by decide) 0 (by decide) fl_X6_12 (v := .ref (Λ.2.2.1 0)) rfl 136 rfl ?_
      refine fo_iload_n C dX6_takeStep_136 2 rfl rfl 137 rfl ?_
      refine fo_qvv C dX6_takeStep_137 (mX5_wipe ha4 hf) lv_X6_91 (by decide : fo_k 0 = 7) rfl (by decide) rfl ⟨Nat.le_of_ble_eq_true rfl, Nat.le_of_ble_eq_true rfl⟩ ⟨Nat.le_of_ble_eq_true rfl, Nat.le_of_ble_eq_true rfl⟩ [] rfl (Nat.le_of_ble_eq_true rfl) 140 rfl (fun I56 D57 J58 X59 p60 => ?_)
      obtain ⟨g2, f2, rfl⟩ := p60
      refine fo_iconst C dX6_takeStep_140 (nI 1) ki_1 141 rfl ?_
      exact fin dX6_takeStep_141 (by first | rfl | exact fo_nb _) ((by have e9 : fa_step (np, lim, kd, par, n, v) 102 a x = some (np, lim, kd, par, va_up n a 0, v) := (by rw [fa_step, if_neg (by decide), if_neg (by decide), if_neg (by decide), if_pos ha4]); exact ⟨(by rw [e9]; rfl), fun s9 hs9 => (by rw [e9] at hs9; cases hs9; exact g2), f2, rfl⟩))
    · have hno : ¬ (a < 4) := by intro q; have z8 : fo_inr (nI a) 4 = false := (by first | assumption | simp_all); rw [fo_inr_nat (by omega)] at z8; exact of_decide_eq_false z8 q
      refine fo_iconst C dX6_takeStep_130 (nI 0) ki_0 131 rfl ?_
      exact fin dX6_takeStep_131 (by first | rfl | exact fo_nb _) ((by have e9 : fa_step (np, lim, kd, par, n, v) 102 a x = none := (by rw [fa_step, if_neg (by decide), if_neg (by decide), if_neg (by decide), if_neg hno]); exact ⟨(by rw [e9]; rfl), fun s9 hs9 => (by rw [e9] at hs9; cases hs9), fun c _ => ⟨rfl, rfl⟩, rfl⟩))
