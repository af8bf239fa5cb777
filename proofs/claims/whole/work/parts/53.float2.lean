/-! DOUBLES: units, bounds, the level's least magnitude -/
abbrev fu (m : Nat) : Nat := FP.Core.unitsOf FP.Core.b64 m
abbrev fz (a : UInt64) : Int := FP.Core.zval FP.Core.b64 (FP.Core.val64 a)
theorem fu_nf {E f : Nat} (hE : 1 ≤ E) (hf : f < 2 ^ 52) : fu (E * 2 ^ 52 + f) = (2 ^ 52 + f) * 2 ^ (E - 1) := by
  show FP.Core.unitsOf FP.Core.b64 (E * 2 ^ 52 + f) = _
  unfold FP.Core.unitsOf
  rw [FP.Core.tails_b64, if_neg (by have := Nat.mul_le_mul_right (2 ^ 52) hE; omega), show (E * 2 ^ 52 + f) % 2 ^ 52 = f by omega, show (E * 2 ^ 52 + f) / 2 ^ 52 = E by omega]
theorem fu_le {m k : Nat} (h : m ≤ k) : fu m ≤ fu k := FP.Core.unitsOf_le_iff.mpr h
theorem fu_rep : ∀ (k n e : Nat), 0 < n → n < 2 ^ 53 → 2 ^ 52 ≤ n * 2 ^ k → k ≤ e → ∃ m, fu m = n * 2 ^ e ∧ m < (e + 2) * 2 ^ 52
  | 0, n, e, h1, h2, h3, h4 => by
    have h5 : 2 ^ 52 ≤ n := by rw [Nat.pow_zero, Nat.mul_one] at h3; exact h3
    refine ⟨(e + 1) * 2 ^ 52 + (n - 2 ^ 52), ?_, by omega⟩
    rw [fu_nf (by omega) (by omega), show 2 ^ 52 + (n - 2 ^ 52) = n by omega, Nat.add_sub_cancel]
  | k + 1, n, e, h1, h2, h3, h4 => by
    by_cases h5 : 2 ^ 52 ≤ n
    · refine ⟨(e + 1) * 2 ^ 52 + (n - 2 ^ 52), ?_, by omega⟩
      rw [fu_nf (by omega) (by omega), show 2 ^ 52 + (n - 2 ^ 52) = n by omega, Nat.add_sub_cancel]
    · obtain ⟨m, e1, e2⟩ := fu_rep k (2 * n) (e - 1) (by omega) (by omega) (by rw [Nat.mul_comm 2 n, Nat.mul_assoc, ← Nat.pow_succ']; exact h3) (by omega)
      refine ⟨m, ?_, Nat.lt_of_lt_of_le e2 (Nat.mul_le_mul_right _ (by omega))⟩
      rw [e1, Nat.mul_comm 2 n, Nat.mul_assoc, ← Nat.pow_succ', show (e - 1).succ = e by omega]
theorem fu_nn {a : UInt64} (h : fd_m a 2047) : FP.Core.val64 a ≠ .nan := (FP.Core.ne_nan a).mpr (by have h : a.toNat % 2 ^ 63 < 2047 * 2 ^ 52 := h; omega)
theorem fu_fin {a : UInt64} (h : fd_m a 2047) : ∃ s c q, FP.Core.val64 a = .fin s c q ∧ FP.Core.fits FP.Core.b64 (.fin s c q) ∧ FP.Core.zmag FP.Core.b64 (.fin s c q) = fu (a.toNat % 2 ^ 63) ∧ (s = true ↔ 2 ^ 63 ≤ a.toNat) := by
  obtain ⟨s, c, q, h1, h2, h3⟩ := FP.Core.fin_of_mag FP.Core.good_b64 (n := a.toNat) (by rw [FP.Core.mag_toNat64, FP.Core.infBits_b64]; have h : a.toNat % 2 ^ 63 < 2047 * 2 ^ 52 := h; omega)
  rw [FP.Core.mag_toNat64] at h3
  exact ⟨s, c, q, h1, h2, h3, FP.Core.sign_bits (a := a) (s := s) (Or.inl ⟨c, q, h1⟩)⟩
theorem fu_z {a : UInt64} (h : fd_m a 2047) : fz a = FP.Core.signed (decide (2 ^ 63 ≤ a.toNat)) (fu (a.toNat % 2 ^ 63)) := by
  show FP.Core.signed (FP.Core.sgn (FP.Core.val64 a)) (FP.Core.zmag FP.Core.b64 (FP.Core.val64 a)) = _
  rw [FP.Core.sgn_bits (fu_nn h), FP.Core.zmag_bits (fu_nn h)]
theorem fu_V {m : Nat} (h : m < 2047 * 2 ^ 52) : FP.Core.decode FP.Core.b64 m ≠ .nan ∧ FP.Core.zval FP.Core.b64 (FP.Core.decode FP.Core.b64 m) = (fu m : Int) := by
  have hm : FP.Core.mag FP.Core.b64 m = m := FP.Core.mag_of_lt (by rw [FP.Core.half_b64]; omega)
  have hn : FP.Core.decode FP.Core.b64 m ≠ .nan := fun q => by
    have := (FP.Core.decode_nan m).mp q
    rw [hm, FP.Core.infBits_b64] at this
    omega
  refine ⟨hn, ?_⟩
  show FP.Core.signed (FP.Core.sgn (FP.Core.decode FP.Core.b64 m)) (FP.Core.zmag FP.Core.b64 (FP.Core.decode FP.Core.b64 m)) = _
  have h1 : FP.Core.mag FP.Core.b64 m ≤ FP.Core.infBits FP.Core.b64 := by rw [hm, FP.Core.infBits_b64]; omega
  rw [FP.Core.zmag_decode FP.Core.good_b64 h1, hm, FP.Core.sgn_decode h1 (by rw [FP.Core.half_b64]; omega), FP.Core.half_b64, decide_eq_false (by omega)]
  rfl
/-- what is at least a positive bound is positive -/
theorem fu_zge {z : UInt64} {m : Nat} (hz : FP.Core.val64 z ≠ .nan) (hm : 0 < m) (h : (fu m : Int) ≤ fz z) : z.toNat < 2 ^ 63 ∧ m ≤ z.toNat := by
  have e : fz z = FP.Core.signed (decide (2 ^ 63 ≤ z.toNat)) (fu (z.toNat % 2 ^ 63)) := by
    show FP.Core.signed (FP.Core.sgn (FP.Core.val64 z)) (FP.Core.zmag FP.Core.b64 (FP.Core.val64 z)) = _
    rw [FP.Core.sgn_bits hz, FP.Core.zmag_bits hz]
  rw [e] at h
  have hp : 0 < fu m := Nat.pos_of_ne_zero (fun q => by have := FP.Core.unitsOf_eq_zero.mp q; omega)
  by_cases h9 : 2 ^ 63 ≤ z.toNat
  · rw [decide_eq_true h9] at h
    have : FP.Core.signed true (fu (z.toNat % 2 ^ 63)) = -((fu (z.toNat % 2 ^ 63) : Nat) : Int) := rfl
    omega
  · rw [decide_eq_false h9] at h
    have h2 : FP.Core.signed false (fu (z.toNat % 2 ^ 63)) = ((fu (z.toNat % 2 ^ 63) : Nat) : Int) := rfl
    rw [h2, Nat.mod_eq_of_lt (by omega)] at h
    exact ⟨by omega, FP.Core.unitsOf_le_iff.mp (show fu m ≤ fu z.toNat by omega)⟩
theorem fu_abs {a : UInt64} {B : Nat} (ha : fd_m a 2047) (h1 : -(B : Int) ≤ fz a) (h2 : fz a ≤ (B : Int)) : fu (a.toNat % 2 ^ 63) ≤ B := by
  rw [fu_z ha] at h1 h2
  by_cases h9 : 2 ^ 63 ≤ a.toNat
  · rw [decide_eq_true h9] at h1
    have : FP.Core.signed true (fu (a.toNat % 2 ^ 63)) = -((fu (a.toNat % 2 ^ 63) : Nat) : Int) := rfl
    omega
  · rw [decide_eq_false h9] at h2
    have : FP.Core.signed false (fu (a.toNat % 2 ^ 63)) = ((fu (a.toNat % 2 ^ 63) : Nat) : Int) := rfl
    omega
theorem fu_absz {a : UInt64} (ha : fd_m a 2047) : -((fu (a.toNat % 2 ^ 63) : Nat) : Int) ≤ fz a := by
  rw [fu_z ha]
  by_cases h9 : 2 ^ 63 ≤ a.toNat
  · rw [decide_eq_true h9]; exact Int.le_refl _
  · rw [decide_eq_false h9]
    have : FP.Core.signed false (fu (a.toNat % 2 ^ 63)) = ((fu (a.toNat % 2 ^ 63) : Nat) : Int) := rfl
    omega
theorem fu_fz {a : UInt64} (h : fd_m a 2047) : ∃ s c q, FP.Core.val64 a = .fin s c q := by
  obtain ⟨s, c, q, h1, _⟩ := fu_fin h
  exact ⟨s, c, q, h1⟩
theorem fu_add_ge {a b : UInt64} {m : Nat} (ha : fd_m a 2047) (hb : fd_m b 2047) (hm : m < 2047 * 2 ^ 52) (h : (fu m : Int) ≤ fz a + fz b) : (fu m : Int) ≤ fz (FP.dadd a b) := by
  have hV := fu_V hm
  have := FP.Core.sum_ge FP.Core.good_b64 (fu_fz ha) (fu_fz hb) (FP.Core.val64_fits a) (FP.Core.val64_fits b) (FP.Core.decode_fits FP.Core.good_b64 m) hV.1 (by rw [hV.2]; exact h)
  rw [hV.2] at this
  show _ ≤ FP.Core.zval FP.Core.b64 (FP.Core.val64 (FP.Core.dadd a b))
  rw [FP.Core.val64_dadd]
  exact this
theorem fu_ngf {b : UInt64} (hb : fd_m b 2047) : ∃ s c q, FP.Core.negate (FP.Core.val64 b) = .fin s c q := by
  obtain ⟨s, c, q, h⟩ := fu_fz hb
  rw [h]
  exact ⟨!s, c, q, rfl⟩
theorem fu_sub_ge {a b : UInt64} {V : FP.Core.Datum} (ha : fd_m a 2047) (hb : fd_m b 2047) (fV : FP.Core.fits FP.Core.b64 V) (hV : V ≠ .nan) (h : FP.Core.zval FP.Core.b64 V ≤ fz a - fz b) : FP.Core.zval FP.Core.b64 V ≤ fz (FP.dsub a b) := by
  show _ ≤ FP.Core.zval FP.Core.b64 (FP.Core.val64 (FP.Core.dsub a b))
  rw [FP.Core.val64_dsub]
  exact FP.Core.sum_ge FP.Core.good_b64 (fu_fz ha) (fu_ngf hb) (FP.Core.val64_fits a) (FP.Core.negate_fits (FP.Core.val64_fits b)) fV hV (by rw [FP.Core.zval_negate]; have h : FP.Core.zval FP.Core.b64 V ≤ FP.Core.zval FP.Core.b64 (FP.Core.val64 a) - FP.Core.zval FP.Core.b64 (FP.Core.val64 b) := h; omega)
theorem fu_sub_le {a b : UInt64} {V : FP.Core.Datum} (ha : fd_m a 2047) (hb : fd_m b 2047) (fV : FP.Core.fits FP.Core.b64 V) (hV : V ≠ .nan) (h : fz a - fz b ≤ FP.Core.zval FP.Core.b64 V) : fz (FP.dsub a b) ≤ FP.Core.zval FP.Core.b64 V := by
  show FP.Core.zval FP.Core.b64 (FP.Core.val64 (FP.Core.dsub a b)) ≤ _
  rw [FP.Core.val64_dsub]
  exact FP.Core.sum_le FP.Core.good_b64 (fu_fz ha) (fu_ngf hb) (FP.Core.val64_fits a) (FP.Core.negate_fits (FP.Core.val64_fits b)) fV hV (by rw [FP.Core.zval_negate]; have h : FP.Core.zval FP.Core.b64 (FP.Core.val64 a) - FP.Core.zval FP.Core.b64 (FP.Core.val64 b) ≤ FP.Core.zval FP.Core.b64 V := h; omega)
theorem fu_q : (FP.Core.b64.qmin - 2 * FP.Core.b64.qmin).toNat = (-FP.Core.b64.qmin).toNat := by rw [FP.Core.qmin_b64]; rfl
theorem fu_qneg : FP.Core.b64.qmin < 0 := by rw [FP.Core.qmin_b64]; decide
theorem fu_mul {a b : UInt64} (ha : fd_m a 2047) (hb : fd_m b 2047) : ∃ s A e, FP.Core.decode FP.Core.b64 (FP.dmul a b).toNat = FP.Core.roundRatio FP.Core.b64 s A 1 e ∧ 2 * FP.Core.b64.qmin ≤ e ∧ FP.Core.inUnits A e (2 * FP.Core.b64.qmin) = fu (a.toNat % 2 ^ 63) * fu (b.toNat % 2 ^ 63) ∧ (s = true ↔ ¬ ((2 ^ 63 ≤ a.toNat) ↔ (2 ^ 63 ≤ b.toNat))) := by
  obtain ⟨s, c, q, x1, x2, x3, x4⟩ := fu_fin ha
  obtain ⟨t, d, r, y1, y2, y3, y4⟩ := fu_fin hb
  obtain ⟨p1, p2, p3⟩ := FP.Core.product_units x2 y2
  refine ⟨s != t, c * d, q + r, ?_, p2, by rw [p3, x3, y3], ?_⟩
  · show FP.Core.val64 (FP.Core.dmul a b) = _
    rw [FP.Core.val64_dmul, x1, y1, p1]
    rfl
  · rw [← x4, ← y4]
    cases s <;> cases t <;> decide
theorem fu_mul_le {a b : UInt64} {m : Nat} (ha : fd_m a 2047) (hb : fd_m b 2047) (h : fu (a.toNat % 2 ^ 63) * fu (b.toNat % 2 ^ 63) ≤ fu m * FP.Core.one64) : (FP.dmul a b).toNat % 2 ^ 63 ≤ m := by
  obtain ⟨s, A, e, h1, h2, h3, _⟩ := fu_mul ha hb
  have := FP.Core.mag_le FP.Core.good_b64 (m := m) h1 (by decide) (e0 := 2 * FP.Core.b64.qmin) (by have := fu_qneg; omega) h2 (by rw [h3, fu_q, FP.Core.pow_qmin64, Nat.mul_one]; exact h)
  rw [FP.Core.mag_toNat64] at this
  exact this
theorem fu_mul_ge {a b : UInt64} {m : Nat} (ha : fd_m a 2047) (hb : fd_m b 2047) (hm : m < 2047 * 2 ^ 52) (h : fu m * FP.Core.one64 ≤ fu (a.toNat % 2 ^ 63) * fu (b.toNat % 2 ^ 63)) : m ≤ (FP.dmul a b).toNat % 2 ^ 63 := by
  obtain ⟨s, A, e, h1, h2, h3, _⟩ := fu_mul ha hb
  have := FP.Core.mag_ge FP.Core.good_b64 (m := m) h1 (by decide) (e0 := 2 * FP.Core.b64.qmin) (by have := fu_qneg; omega) h2 (by rw [FP.Core.infBits_b64]; omega) (by rw [h3, fu_q, FP.Core.pow_qmin64, Nat.mul_one]; exact h)
  rw [FP.Core.mag_toNat64] at this
  exact this
theorem fu_div {a b : UInt64} (ha : fd_m a 2047) (hb : fd_m b 2047) (h0 : b.toNat % 2 ^ 63 ≠ 0) : ∃ s A B e e0, FP.Core.decode FP.Core.b64 (FP.ddiv a b).toNat = FP.Core.roundRatio FP.Core.b64 s A B e ∧ 0 < B ∧ e0 ≤ FP.Core.b64.qmin ∧ e0 ≤ e ∧ FP.Core.inUnits A e e0 = fu (a.toNat % 2 ^ 63) * FP.Core.one64 ∧ 2 ^ (FP.Core.b64.qmin - e0).toNat * B = fu (b.toNat % 2 ^ 63) ∧ (s = true ↔ ¬ ((2 ^ 63 ≤ a.toNat) ↔ (2 ^ 63 ≤ b.toNat))) ∧ (a.toNat % 2 ^ 63 = 0 → A = 0) := by
  obtain ⟨s, c, q, x1, x2, x3, x4⟩ := fu_fin ha
  obtain ⟨t, d, r, y1, y2, y3, y4⟩ := fu_fin hb
  have hd0 : d ≠ 0 := by
    rintro rfl
    rw [show FP.Core.zmag FP.Core.b64 (.fin t 0 r) = 0 from Nat.zero_mul _] at y3
    exact h0 (FP.Core.unitsOf_eq_zero.mp y3.symm)
  have hx1 := x2.2.1
  have hy1 := y2.2.1
  have hq := fu_qneg
  refine ⟨s != t, c, d, q - r, 2 * FP.Core.b64.qmin - r, ?_, by omega, by omega, by omega, ?_, ?_, ?_, fun h => ?_⟩
  · show FP.Core.val64 (FP.Core.ddiv a b) = _
    rw [FP.Core.val64_ddiv, x1, y1]
    simp only [FP.Core.quotient, if_neg hd0]
  · rw [← x3, ← FP.Core.pow_qmin64]
    show c * _ = c * _ * _
    rw [Nat.mul_assoc, ← Nat.pow_add]
    congr 2
    omega
  · rw [← y3]
    show _ = d * _
    rw [Nat.mul_comm]
    congr 2
    omega
  · rw [← x4, ← y4]
    cases s <;> cases t <;> decide
  · rw [h, show fu 0 = 0 from FP.Core.unitsOf_zero _] at x3
    have hz : c * 2 ^ (q - FP.Core.b64.qmin).toNat = 0 := x3
    rcases Nat.mul_eq_zero.mp hz with h | h
    · exact h
    · exact absurd h (Nat.pos_iff_ne_zero.mp (Nat.two_pow_pos _))
theorem fu_div_le {a b : UInt64} {m : Nat} (ha : fd_m a 2047) (hb : fd_m b 2047) (h0 : b.toNat % 2 ^ 63 ≠ 0) (h : fu (a.toNat % 2 ^ 63) * FP.Core.one64 ≤ fu m * fu (b.toNat % 2 ^ 63)) : (FP.ddiv a b).toNat % 2 ^ 63 ≤ m := by
  obtain ⟨s, A, B, e, e0, h1, h2, h3, h4, h5, h6, _⟩ := fu_div ha hb h0
  have := FP.Core.mag_le FP.Core.good_b64 (m := m) h1 h2 h3 h4 (by rw [h5, Nat.mul_assoc, h6]; exact h)
  rw [FP.Core.mag_toNat64] at this
  exact this
theorem fu_div_ge {a b : UInt64} {m : Nat} (ha : fd_m a 2047) (hb : fd_m b 2047) (h0 : b.toNat % 2 ^ 63 ≠ 0) (hm : m < 2047 * 2 ^ 52) (h : fu m * fu (b.toNat % 2 ^ 63) ≤ fu (a.toNat % 2 ^ 63) * FP.Core.one64) : m ≤ (FP.ddiv a b).toNat % 2 ^ 63 := by
  obtain ⟨s, A, B, e, e0, h1, h2, h3, h4, h5, h6, _⟩ := fu_div ha hb h0
  have := FP.Core.mag_ge FP.Core.good_b64 (m := m) h1 h2 h3 h4 (by rw [FP.Core.infBits_b64]; omega) (by rw [h5, Nat.mul_assoc, h6]; exact h)
  rw [FP.Core.mag_toNat64] at this
  exact this

/-- positive, or a zero -/
def fu_N (a : UInt64) : Prop := a.toNat < 2 ^ 63 ∨ a.toNat % 2 ^ 63 = 0
theorem fu_N.z {a : UInt64} (ha : fd_m a 2047) (h : fu_N a) : 0 ≤ fz a := by
  rw [fu_z ha]
  rcases h with h | h
  · rw [decide_eq_false (by omega)]
    exact Int.natCast_nonneg _
  · rw [h, show fu 0 = 0 from FP.Core.unitsOf_zero _, FP.Core.signed_zero]
    exact Int.le_refl _
theorem fu_N.of {a : UInt64} (ha : fd_m a 2047) (h : 0 ≤ fz a) : fu_N a := by
  rw [fu_z ha] at h
  by_cases h9 : 2 ^ 63 ≤ a.toNat
  · rw [decide_eq_true h9] at h
    have e : FP.Core.signed true (fu (a.toNat % 2 ^ 63)) = -((fu (a.toNat % 2 ^ 63) : Nat) : Int) := rfl
    exact Or.inr (FP.Core.unitsOf_eq_zero.mp (show fu (a.toNat % 2 ^ 63) = 0 by omega))
  · exact Or.inl (by omega)
theorem fu_sg {z : UInt64} {A B : Nat} {e : Int} (h : FP.Core.decode FP.Core.b64 z.toNat = FP.Core.roundRatio FP.Core.b64 false A B e) : z.toNat < 2 ^ 63 := by
  have h1 : FP.Core.val64 z = FP.Core.roundRatio FP.Core.b64 false A B e := h
  have hn : FP.Core.val64 z ≠ .nan := by rw [h1]; exact FP.Core.roundRatio_ne_nan _ _ _ _ _
  have h2 := FP.Core.sgn_bits hn
  rw [h1, FP.Core.sgn_roundRatio] at h2
  have := of_decide_eq_false h2.symm
  omega
theorem fu_N.mul {a b : UInt64} (ha : fd_m a 2047) (hb : fd_m b 2047) (h1 : fu_N a) (h2 : fu_N b) : fu_N (FP.dmul a b) := by
  have hz : fu 0 = 0 := FP.Core.unitsOf_zero _
  rcases h1 with h1 | h1
  · rcases h2 with h2 | h2
    · obtain ⟨s, A, e, g1, _, _, g4⟩ := fu_mul ha hb
      cases s with
      | false => exact Or.inl (fu_sg g1)
      | true => exact absurd ⟨fun q => by omega, fun q => by omega⟩ (g4.mp rfl)
    · exact Or.inr (Nat.le_zero.mp (fu_mul_le ha hb (by rw [h2, hz, Nat.mul_zero]; exact Nat.zero_le _)))
  · exact Or.inr (Nat.le_zero.mp (fu_mul_le ha hb (by rw [h1, hz, Nat.zero_mul]; exact Nat.zero_le _)))
theorem fu_N.div {a b : UInt64} (ha : fd_m a 2047) (hb : fd_m b 2047) (h0 : b.toNat % 2 ^ 63 ≠ 0) (h1 : fu_N a) (h2 : b.toNat < 2 ^ 63) : fu_N (FP.ddiv a b) := by
  have hz : fu 0 = 0 := FP.Core.unitsOf_zero _
  rcases h1 with h1 | h1
  · obtain ⟨s, A, B, e, e0, g1, _, _, _, _, _, g4, _⟩ := fu_div ha hb h0
    cases s with
    | false => exact Or.inl (fu_sg g1)
    | true => exact absurd ⟨fun q => by omega, fun q => by omega⟩ (g4.mp rfl)
  · exact Or.inr (Nat.le_zero.mp (fu_div_le ha hb h0 (by rw [h1, hz, Nat.zero_mul]; exact Nat.zero_le _)))
theorem fz_i (x : Int32) : fz (FP.i2d x) = x.toInt * (FP.Core.one64 : Int) := FP.Core.DInt_zval (FP.Core.i2d_int x)
theorem fu_i {v : Nat} (hv : v < 2 ^ 31) : (FP.i2d (nI v)).toNat < 2 ^ 63 ∧ fu ((FP.i2d (nI v)).toNat % 2 ^ 63) = v * FP.Core.one64 := by
  have hm : fd_m (FP.i2d (nI v)) 2047 := fd_up (fd_i _) (by decide)
  have h1 := fz_i (nI v)
  rw [nI_toInt hv, fu_z hm] at h1
  have hp : 0 < FP.Core.one64 := FP.Core.one64_pos
  have hc : ((v : Int) * (FP.Core.one64 : Int)) = ((v * FP.Core.one64 : Nat) : Int) := by rw [Int.natCast_mul]
  rw [hc] at h1
  by_cases h9 : 2 ^ 63 ≤ (FP.i2d (nI v)).toNat
  · exfalso
    rw [decide_eq_true h9] at h1
    have e : FP.Core.signed true (fu ((FP.i2d (nI v)).toNat % 2 ^ 63)) = -((fu ((FP.i2d (nI v)).toNat % 2 ^ 63) : Nat) : Int) := rfl
    have hv0 : v * FP.Core.one64 = 0 := by omega
    rcases Nat.mul_eq_zero.mp hv0 with q | q
    · rw [q] at h9
      exact absurd h9 (by decide +kernel)
    · omega
  · rw [decide_eq_false h9] at h1
    have e : FP.Core.signed false (fu ((FP.i2d (nI v)).toNat % 2 ^ 63)) = ((fu ((FP.i2d (nI v)).toNat % 2 ^ 63) : Nat) : Int) := rfl
    exact ⟨by omega, by omega⟩
theorem fu_ten : fu ((4621819117588971520 : UInt64).toNat % 2 ^ 63) = 10 * FP.Core.one64 := by decide +kernel
theorem fu_tens : fd_m 4621819117588971520 2047 ∧ (4621819117588971520 : UInt64).toNat % 2 ^ 63 ≠ 0 ∧ (4621819117588971520 : UInt64).toNat < 2 ^ 63 := by decide +kernel
theorem fu_1023 : fu (1023 * 2 ^ 52) = FP.Core.one64 := by decide +kernel
theorem fu_1019 : 16 * fu (1019 * 2 ^ 52) = FP.Core.one64 := by decide +kernel
abbrev fl_n (x : UInt64) (p v : Nat) : UInt64 := FP.dadd x (FP.ddiv (FP.dmul (FP.i2d (nI p)) (FP.dsub (FP.i2d (nI v)) x)) 4621819117588971520)
set_option maxRecDepth 10000 in
set_option maxHeartbeats 4000000 in
theorem fl_step {x : UInt64} {v p K E : Nat} (hx : fd_m x K) (hK1 : 1056 ≤ K) (hK : K ≤ 1300) (hp1 : 1 ≤ p) (hp : p < 10) (hv : v < 2 ^ 31) (hs : x.toNat < 2 ^ 63) (hE : E * 2 ^ 52 ≤ x.toNat) (hE10 : 10 ≤ E) : (fl_n x p v).toNat < 2 ^ 63 ∧ (E - 4) * 2 ^ 52 ≤ (fl_n x p v).toNat := by
  obtain ⟨w1, w2, w3, w4⟩ := fd_step (v := nI v) hx hK1 (by omega) hp
  have x0 : fd_m x 2047 := fd_up hx (by omega)
  have v0 : fd_m (FP.i2d (nI v)) 2047 := fd_up (fd_i _) (by decide)
  have p0 : fd_m (FP.i2d (nI p)) 2047 := fd_up (fd_i _) (by decide)
  replace w1 := fd_up w1 (show K + 2 ≤ 2047 by omega)
  replace w2 := fd_up w2 (show K + 7 ≤ 2047 by omega)
  replace w3 := fd_up w3 (show K + 5 ≤ 2047 by omega)
  replace w4 := fd_up w4 (show K + 7 ≤ 2047 by omega)
  have hmx : x.toNat % 2 ^ 63 = x.toNat := Nat.mod_eq_of_lt hs
  have hxK : x.toNat < K * 2 ^ 52 := by have h : x.toNat % 2 ^ 63 < K * 2 ^ 52 := hx; omega
  have zx : fz x = ((fu x.toNat : Nat) : Int) := by
    rw [fu_z x0, decide_eq_false (by omega), hmx]
    rfl
  have pN : fu_N (FP.i2d (nI p)) := Or.inl (fu_i (by omega)).1
  have vz : 0 ≤ fz (FP.i2d (nI v)) := (show fu_N (FP.i2d (nI v)) from Or.inl (fu_i hv).1).z v0
  by_cases hc : fz x ≤ fz (FP.i2d (nI v))
  · have t0 : 0 ≤ fz (FP.dsub (FP.i2d (nI v)) x) := by
      have hV := fu_V (m := 0) (by decide)
      have h := fu_sub_ge v0 x0 (FP.Core.decode_fits FP.Core.good_b64 0) hV.1 (by rw [hV.2, show fu 0 = 0 from FP.Core.unitsOf_zero _]; show (0 : Int) ≤ _; omega)
      rw [hV.2, show fu 0 = 0 from FP.Core.unitsOf_zero _] at h
      exact h
    have d0 := (fu_N.div w2 fu_tens.1 fu_tens.2.1 (fu_N.mul p0 w1 pN (fu_N.of w1 t0)) fu_tens.2.2).z w3
    have h := fu_add_ge (m := x.toNat) x0 w3 (Nat.lt_of_lt_of_le hxK (Nat.mul_le_mul_right _ (by omega))) (by rw [zx]; omega)
    have h2 := fu_zge (fu_nn w4) (by omega) h
    exact ⟨h2.1, Nat.le_trans (Nat.le_trans (Nat.mul_le_mul_right _ (Nat.sub_le E 4)) hE) h2.2⟩
  · obtain ⟨E0, f, he, hf⟩ : ∃ E0 f, x.toNat = E0 * 2 ^ 52 + f ∧ f < 2 ^ 52 := ⟨x.toNat / 2 ^ 52, x.toNat % 2 ^ 52, by omega, Nat.mod_lt _ (by decide)⟩
    have hE0 : E ≤ E0 := by omega
    have hE1 : E0 < 1300 := by omega
    have hX : fu x.toNat = (2 ^ 52 + f) * 2 ^ (E0 - 1) := by rw [he]; exact fu_nf (by omega) hf
    obtain ⟨j, hj1, hj2⟩ : ∃ j, j * 2 ^ 47 ≤ 2 ^ 52 + f ∧ 2 ^ 52 + f < (j + 1) * 2 ^ 47 := ⟨(2 ^ 52 + f) / 2 ^ 47, Nat.div_mul_le_self _ _, by rw [Nat.mul_comm]; exact Nat.lt_mul_div_succ _ (by decide)⟩
    have hj3 : 32 ≤ j := by omega
    have hj4 : j ≤ 63 := by omega
    obtain ⟨W, hW⟩ : ∃ W, 2 ^ (E0 + 46) = W := ⟨_, rfl⟩
    have hWP : W = 2 ^ 47 * 2 ^ (E0 - 1) := by rw [← hW, ← Nat.pow_add, show 47 + (E0 - 1) = E0 + 46 by omega]
    have hXu : fu x.toNat ≤ (j + 1) * W := by rw [hX, hWP, ← Nat.mul_assoc]; exact Nat.mul_le_mul_right _ (Nat.le_of_lt hj2)
    have hXl : j * W ≤ fu x.toNat := by rw [hX, hWP, ← Nat.mul_assoc]; exact Nat.mul_le_mul_right _ hj1
    have tl : -((fu x.toNat : Nat) : Int) ≤ fz (FP.dsub (FP.i2d (nI v)) x) := by
      have h := fu_sub_ge v0 x0 (FP.Core.negate_fits (FP.Core.val64_fits x)) (FP.Core.negate_ne_nan (fu_nn x0)) (by rw [FP.Core.zval_negate]; show -(fz x) ≤ _; omega)
      rw [FP.Core.zval_negate] at h
      have h : -(fz x) ≤ _ := h
      rw [zx] at h
      exact h
    have tu : fz (FP.dsub (FP.i2d (nI v)) x) ≤ ((fu x.toNat : Nat) : Int) := by
      have hV := fu_V (m := 0) (by decide)
      have h := fu_sub_le v0 x0 (FP.Core.decode_fits FP.Core.good_b64 0) hV.1 (by rw [hV.2, show fu 0 = 0 from FP.Core.unitsOf_zero _]; show _ ≤ (0 : Int); omega)
      rw [hV.2, show fu 0 = 0 from FP.Core.unitsOf_zero _] at h
      have h : _ ≤ (0 : Int) := h
      omega
    have tX := fu_abs w1 tl tu
    obtain ⟨m1, e1, b1⟩ := fu_rep 52 (9 * (j + 1)) (E0 + 46) (by omega) (by omega) (by omega) (by omega)
    obtain ⟨m2, e2, b2⟩ := fu_rep 52 ((9 * (j + 1) + 9) / 10) (E0 + 46) (by omega) (by omega) (by omega) (by omega)
    rw [hW] at e1 e2
    have hm := fu_mul_le (m := m1) p0 w1 (by
      rw [(fu_i (v := p) (by omega)).2, e1, Nat.mul_assoc, Nat.mul_comm FP.Core.one64, ← Nat.mul_assoc]
      refine Nat.mul_le_mul_right _ ?_
      refine Nat.le_trans (Nat.mul_le_mul (show p ≤ 9 by omega) (Nat.le_trans tX hXu)) ?_
      rw [Nat.mul_assoc]
      exact Nat.le_refl _)
    have hd := fu_div_le (m := m2) w2 fu_tens.1 fu_tens.2.1 (by
      rw [fu_ten, e2, Nat.mul_assoc, Nat.mul_left_comm W, ← Nat.mul_assoc _ 10, ← Nat.mul_assoc]
      refine Nat.mul_le_mul_right _ ?_
      refine Nat.le_trans (fu_le hm) ?_
      rw [e1]
      exact Nat.mul_le_mul_right _ (by omega))
    have hdl := fu_absz w3
    have hdu := fu_le hd
    rw [e2] at hdu
    have hfin : fu ((E0 - 4) * 2 ^ 52) = 2 * W := by
      have h := fu_nf (E := E0 - 4) (f := 0) (by omega) (by decide)
      rw [Nat.add_zero, Nat.add_zero] at h
      rw [h, ← hW, ← Nat.pow_add, ← Nat.pow_succ', show 52 + (E0 - 4 - 1) = (E0 + 46).succ by omega]
    have hj5 : ((9 * (j + 1) + 9) / 10 + 2) * W ≤ j * W := Nat.mul_le_mul_right _ (by omega)
    rw [Nat.add_mul] at hj5
    have h := fu_add_ge (m := (E0 - 4) * 2 ^ 52) x0 w3 (by omega) (by rw [hfin, zx]; omega)
    have h2 := fu_zge (fu_nn w4) (by omega) h
    exact ⟨h2.1, Nat.le_trans (Nat.mul_le_mul_right _ (by omega)) h2.2⟩
theorem fl_zero : ∀ p, p < 10 → fl_n 0 p 0 = 0 := by decide +kernel
theorem fl_step0 {v p : Nat} (hp1 : 1 ≤ p) (hp : p < 10) (hv1 : 1 ≤ v) (hv : v < 2 ^ 31) : (fl_n 0 p v).toNat < 2 ^ 63 ∧ 1019 * 2 ^ 52 ≤ (fl_n 0 p v).toNat := by
  have hx : fd_m 0 1056 := by show (0 : UInt64).toNat % 2 ^ 63 < _; decide
  obtain ⟨w1, w2, w3, w4⟩ := fd_step (v := nI v) hx (Nat.le_refl _) (by decide) hp
  have x0 : fd_m 0 2047 := fd_up hx (by decide)
  have v0 : fd_m (FP.i2d (nI v)) 2047 := fd_up (fd_i _) (by decide)
  have p0 : fd_m (FP.i2d (nI p)) 2047 := fd_up (fd_i _) (by decide)
  replace w1 := fd_up w1 (show 1056 + 2 ≤ 2047 by decide)
  replace w2 := fd_up w2 (show 1056 + 7 ≤ 2047 by decide)
  replace w3 := fd_up w3 (show 1056 + 5 ≤ 2047 by decide)
  replace w4 := fd_up w4 (show 1056 + 7 ≤ 2047 by decide)
  have z0 : fz 0 = 0 := FP.Core.zval64_zero
  have hT := FP.Core.one64_pos
  have t1 : (FP.dsub (FP.i2d (nI v)) 0).toNat < 2 ^ 63 ∧ 1023 * 2 ^ 52 ≤ (FP.dsub (FP.i2d (nI v)) 0).toNat := by
    have hV := fu_V (m := 1023 * 2 ^ 52) (by decide)
    refine fu_zge (fu_nn w1) (by decide) ?_
    rw [← hV.2]
    refine fu_sub_ge v0 x0 (FP.Core.decode_fits FP.Core.good_b64 _) hV.1 ?_
    rw [hV.2, fu_1023, z0, fz_i, nI_toInt hv]
    have h1 : FP.Core.one64 ≤ v * FP.Core.one64 := Nat.le_mul_of_pos_left _ hv1
    have h2 : ((v * FP.Core.one64 : Nat) : Int) = (v : Int) * (FP.Core.one64 : Int) := Int.natCast_mul _ _
    omega
  have t2 : FP.Core.one64 ≤ fu ((FP.dsub (FP.i2d (nI v)) 0).toNat % 2 ^ 63) := by
    rw [Nat.mod_eq_of_lt t1.1, ← fu_1023]
    exact fu_le t1.2
  have m1 := fu_mul_ge (m := 1023 * 2 ^ 52) p0 w1 (by decide) (by
    rw [fu_1023, (fu_i (v := p) (by omega)).2]
    exact Nat.mul_le_mul (Nat.le_mul_of_pos_left _ hp1) t2)
  have mN := fu_N.mul p0 w1 (Or.inl (fu_i (by omega)).1) (Or.inl t1.1)
  have m2 := fu_le m1
  rw [fu_1023] at m2
  have d1 := fu_div_ge (m := 1019 * 2 ^ 52) w2 fu_tens.1 fu_tens.2.1 (by decide) (by
    rw [fu_ten, ← Nat.mul_assoc]
    refine Nat.mul_le_mul_right _ ?_
    have := fu_1019
    omega)
  have dN := fu_N.div w2 fu_tens.1 fu_tens.2.1 mN fu_tens.2.2
  have dlt : (FP.ddiv (FP.dmul (FP.i2d (nI p)) (FP.dsub (FP.i2d (nI v)) 0)) 4621819117588971520).toNat < 2 ^ 63 := by
    rcases dN with h | h
    · exact h
    · omega
  refine fu_zge (fu_nn w4) (by decide) (fu_add_ge x0 w3 (by decide) ?_)
  rw [z0, fu_z w3, decide_eq_false (by omega)]
  have e : FP.Core.signed false (fu ((FP.ddiv (FP.dmul (FP.i2d (nI p)) (FP.dsub (FP.i2d (nI v)) 0)) 4621819117588971520).toNat % 2 ^ 63)) = ((fu ((FP.ddiv (FP.dmul (FP.i2d (nI p)) (FP.dsub (FP.i2d (nI v)) 0)) 4621819117588971520).toNat % 2 ^ 63) : Nat) : Int) := rfl
  have := fu_le d1
  omega
theorem fl_i {v : Nat} (hv : v < 2 ^ 31) : FP.i2d (nI v) = 0 ∨ ((FP.i2d (nI v)).toNat < 2 ^ 63 ∧ 1019 * 2 ^ 52 ≤ (FP.i2d (nI v)).toNat) := by
  rcases Nat.eq_zero_or_pos v with h | h
  · rw [h]; exact Or.inl (by decide +kernel)
  · have h1 := (fu_i hv).1
    have h2 := fd_ib (x := nI v) (by rw [nI_toInt hv]; omega)
    exact Or.inr ⟨h1, by omega⟩
theorem fl_lev {v : Nat → Nat} {p : Nat} (hp1 : 1 ≤ p) (hp : p < 10) : ∀ k, k ≤ 29 → (∀ j, j ≤ k → v j ≤ 999) → fp_lev v p k = 0 ∨ ((fp_lev v p k).toNat < 2 ^ 63 ∧ (1019 - 4 * k) * 2 ^ 52 ≤ (fp_lev v p k).toNat)
  | 0, _, hv => by
    have := hv 0 (Nat.le_refl 0)
    exact fl_i (by omega)
  | k + 1, hk, hv => by
    have hv9 := hv (k + 1) (Nat.le_refl _)
    show fl_n (fp_lev v p k) p (v (k + 1)) = 0 ∨ _
    rcases fl_lev hp1 hp k (by omega) (fun j hj => hv j (by omega)) with h | h
    · rcases Nat.eq_zero_or_pos (v (k + 1)) with q | q
      · rw [h, q]; exact Or.inl (fl_zero p hp)
      · have h2 := fl_step0 hp1 hp q (by omega)
        refine Or.inr ?_
        show (fl_n (fp_lev v p k) p (v (k + 1))).toNat < 2 ^ 63 ∧ _ ≤ (fl_n (fp_lev v p k) p (v (k + 1))).toNat
        rw [h]
        exact ⟨h2.1, Nat.le_trans (Nat.mul_le_mul_right _ (by omega)) h2.2⟩
    · have h2 := fl_step (v := v (k + 1)) (fd_lev v hp k (by omega)) (by omega) (by omega) hp1 hp (by omega) h.1 h.2 (by omega)
      refine Or.inr ⟨h2.1, Nat.le_trans (Nat.mul_le_mul_right _ (by omega)) h2.2⟩
/-- a double that the class's way of taking bits takes whole -/
def fl_ok (x : UInt64) : Prop := x = 0 ∨ (2 ^ 52 ≤ x.toNat % 2 ^ 63 ∧ x.toNat % 2 ^ 63 < 2046 * 2 ^ 52)
theorem fl_mz : ∀ n, n < 10 → n ≠ 0 → FP.ddiv (FP.i2d (nI 0)) (FP.i2d (nI n)) = 0 := by decide +kernel
theorem fl_mean {v : Nat → Nat} {a n : Nat} (h1 : 1 ≤ n) (h9 : n ≤ 9) (hs : fp_sum v a n < 2 ^ 31) : fl_ok (fp_mean v a n) := by
  have hu := fd_mean v a (n := n) h1 (by omega)
  rcases Nat.eq_zero_or_pos (fp_sum v a n) with q | q
  · refine Or.inl ?_
    unfold fp_mean
    rw [q]
    exact fl_mz n (by omega) (by omega)
  · refine Or.inr ⟨?_, Nat.lt_of_lt_of_le hu (by decide)⟩
    have s0 : fd_m (FP.i2d (nI (fp_sum v a n))) 2047 := fd_up (fd_i _) (by decide)
    have n0 : fd_m (FP.i2d (nI n)) 2047 := fd_up (fd_i _) (by decide)
    have nb := fd_ib (x := nI n) (by rw [nI_toInt (by omega)]; omega)
    have := fu_div_ge (m := 1019 * 2 ^ 52) s0 n0 (by omega) (by decide) (by
      rw [(fu_i (v := n) (by omega)).2, (fu_i hs).2, ← Nat.mul_assoc]
      refine Nat.mul_le_mul_right _ ?_
      have e := fu_1019
      have e2 : FP.Core.one64 ≤ fp_sum v a n * FP.Core.one64 := Nat.le_mul_of_pos_left _ q
      have e3 : fu (1019 * 2 ^ 52) * n ≤ fu (1019 * 2 ^ 52) * 9 := Nat.mul_le_mul_left _ h9
      omega)
    exact Nat.le_trans (by decide) this
theorem fl_int (x : Int32) : fl_ok (FP.i2d x) := by
  by_cases h : x.toInt = 0
  · have : x = 0 := Int32.toInt.inj (by rw [h]; rfl)
    rw [this]
    exact Or.inl (by decide +kernel)
  · have h1 := fd_ib h
    have h2 : (FP.i2d x).toNat % 2 ^ 63 < 1056 * 2 ^ 52 := fd_i x
    exact Or.inr ⟨by omega, by omega⟩
theorem fl_fore {kd par : Nat} (h : fp_kdok kd par) {v : Nat → Nat} {d : Nat} (hd : fp_need kd par ≤ d) (hd30 : d ≤ 30) (hv : ∀ j, j < d → v j ≤ 999) : fl_ok (fp_fore kd par v d) := by
  obtain ⟨hk, h1, h9⟩ := h
  have hn := fp_need_in ⟨hk, h1, h9⟩
  rcases hk with rfl | rfl | rfl | rfl | rfl
  · exact fl_int _
  · have hd2 : par ≤ d := by simp [fp_need] at hd; omega
    have hsum := fp_sum_le (v := v) (a := d - par) (c := 999) (n := par) (fun k hk => hv _ (by omega))
    exact fl_mean h1 h9 (by omega)
  · exact fl_int _
  · exact fl_int _
  · show fl_ok (fp_lev v par (d - 1))
    rcases fl_lev h1 (show par < 10 by omega) (d - 1) (by omega) (fun j hj => hv j (by omega)) with q | q
    · exact Or.inl q
    · have hb : (fp_lev v par (d - 1)).toNat % 2 ^ 63 < (1056 + 7 * (d - 1)) * 2 ^ 52 := fd_lev v (show par < 10 by omega) (d - 1) (by omega)
      rw [Nat.mod_eq_of_lt q.1] at hb
      refine Or.inr ?_
      rw [Nat.mod_eq_of_lt q.1]
      exact ⟨Nat.le_trans (Nat.le_mul_of_pos_left _ (by omega)) q.2, Nat.lt_of_lt_of_le hb (Nat.mul_le_mul_right _ (by omega))⟩
