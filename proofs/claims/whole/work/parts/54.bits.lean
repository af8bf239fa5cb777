
/-! DOUBLES: their bits -/
abbrev fb_L (n : Nat) : Int64 := Int64.ofNat n
theorem fb_or {a b k : Nat} (h : b < 2 ^ k) : fb_L (a * 2 ^ k) ||| fb_L b = fb_L (a * 2 ^ k + b) := by
  apply Int64.toBitVec_inj.mp
  rw [Int64.toBitVec_or]
  show BitVec.ofNat 64 (a * 2 ^ k) ||| BitVec.ofNat 64 b = BitVec.ofNat 64 (a * 2 ^ k + b)
  rw [← Nat.shiftLeft_eq, Nat.shiftLeft_add_eq_or_of_lt h]
  apply BitVec.eq_of_toNat_eq
  rw [BitVec.toNat_or, BitVec.toNat_ofNat, BitVec.toNat_ofNat, BitVec.toNat_ofNat, Nat.or_mod_two_pow]
set_option maxRecDepth 100000 in
theorem fb_shl : ∀ E, E < 2048 → fb_L E <<< ((nI 52).toInt64 &&& 63) = fb_L (E * 2 ^ 52) := by decide +kernel
theorem fb_x (x : UInt64) : x.toInt64 = fb_L x.toNat := by
  apply Int64.toBitVec_inj.mp
  apply BitVec.eq_of_toNat_eq
  show x.toNat = (BitVec.ofNat 64 x.toNat).toNat
  rw [BitVec.toNat_ofNat, Nat.mod_eq_of_lt x.toNat_lt]
theorem fb_pos {x : UInt64} {E f : Nat} (hf : f < 2 ^ 52) (hE : E < 2048) (hx : x.toNat % 2 ^ 63 = E * 2 ^ 52 + f) (hs : x.toNat < 2 ^ 63) : (0 ||| fb_L E <<< ((nI 52).toInt64 &&& 63)) ||| fb_L f = x.toInt64 := by
  rw [fb_shl E hE, Int64.zero_or, fb_or hf, fb_x, ← hx, Nat.mod_eq_of_lt hs]
theorem fb_neg {x : UInt64} {E f : Nat} (hf : f < 2 ^ 52) (hE : E < 2048) (hx : x.toNat % 2 ^ 63 = E * 2 ^ 52 + f) (hs : 2 ^ 63 ≤ x.toNat) : ((-9223372036854775808) ||| fb_L E <<< ((nI 52).toInt64 &&& 63)) ||| fb_L f = x.toInt64 := by
  have hlt := x.toNat_lt
  rw [fb_shl E hE, show (-9223372036854775808 : Int64) = fb_L (1 * 2 ^ 63) by decide, fb_or (show E * 2 ^ 52 < 2 ^ 63 by omega), show 1 * 2 ^ 63 + E * 2 ^ 52 = (2 ^ 11 + E) * 2 ^ 52 by omega, fb_or hf, fb_x]
  exact congrArg fb_L (by omega)
theorem fb_succ (n : Nat) : fb_L n + 1 = fb_L (n + 1) := (Int64.ofNat_add n 1).symm
theorem fb_pred {n : Nat} (h : 1 ≤ n) : fb_L n - 1 = fb_L (n - 1) := by
  have h2 := fb_succ (n - 1)
  rw [show n - 1 + 1 = n by omega] at h2
  rw [← h2, Int64.add_sub_cancel]
theorem fb_int {n : Nat} (h : n < 2 ^ 62) : (fb_L n).toInt = n := Int64.toInt_ofNat_of_lt (by omega)
theorem fb_lcl {a b : Nat} (h : a < b) (hb : b < 2 ^ 62) : lg_cmp (fb_L a) (fb_L b) = -1 := by
  unfold lg_cmp
  rw [if_neg (fun q => by have := Int64.lt_iff_toInt_lt.mp q; rw [fb_int hb, fb_int (by omega)] at this; omega), if_neg (fun q => by have := congrArg Int64.toInt q; rw [fb_int hb, fb_int (by omega)] at this; omega)]
theorem fb_lcg {a b : Nat} (h : b < a) (hb : a < 2 ^ 62) : lg_cmp (fb_L a) (fb_L b) = 1 := by
  unfold lg_cmp
  rw [if_pos (Int64.lt_iff_toInt_lt.mpr (by rw [fb_int hb, fb_int (by omega)]; omega))]
theorem fb_cmp {i j : Int} {k : CmpOp} : Op.cmpValue (some (compare i j)) k < 0 ↔ i < j := by
  rcases h : compare i j with _ | _ | _
  · exact ⟨fun _ => (FP.Core.compare_lt_iff i j).mp h, fun _ => by cases k <;> decide⟩
  · have := (FP.Core.compare_eq_iff i j).mp h
    exact ⟨fun q => absurd q (by cases k <;> decide), fun q => by omega⟩
  · have := (FP.Core.compare_gt_iff i j).mp h
    exact ⟨fun q => absurd q (by cases k <;> decide), fun q => by omega⟩
theorem fb_cmp0 {i j : Int} {k : CmpOp} : Op.cmpValue (some (compare i j)) k = 0 ↔ i = j := by
  rcases h : compare i j with _ | _ | _
  · have := (FP.Core.compare_lt_iff i j).mp h
    exact ⟨fun q => absurd q (by cases k <;> decide), fun q => by omega⟩
  · exact ⟨fun _ => (FP.Core.compare_eq_iff i j).mp h, fun _ => by cases k <;> decide⟩
  · have := (FP.Core.compare_gt_iff i j).mp h
    exact ⟨fun q => absurd q (by cases k <;> decide), fun q => by omega⟩
theorem fb_dcmp {a b : UInt64} (ha : fd_m a 2047) (hb : fd_m b 2047) : FP.dcmp a b = some (compare (FP.Core.dkey a) (FP.Core.dkey b)) := FP.Core.dcmp_key (fu_nn ha) (fu_nn hb)
theorem fb_keyp {a : UInt64} (h : a.toNat < 2 ^ 63) : FP.Core.dkey a = (a.toNat : Int) := if_neg (by omega)
theorem fb_keyn {a : UInt64} (h : 2 ^ 63 ≤ a.toNat) : FP.Core.dkey a = ((2 ^ 63 : Nat) : Int) - (a.toNat : Int) := if_pos h
/-- two doubles without sign stand as their bits -/
theorem fb_lt {a b : UInt64} {k : CmpOp} (ha : fd_m a 2047) (hb : fd_m b 2047) (sa : a.toNat < 2 ^ 63) (sb : b.toNat < 2 ^ 63) : Op.cmpValue (FP.dcmp a b) k < 0 ↔ a.toNat < b.toNat := by
  rw [fb_dcmp ha hb, fb_cmp, fb_keyp sa, fb_keyp sb]
  omega
theorem fb_0 : fd_m FP.dconst0 2047 ∧ FP.Core.dkey FP.dconst0 = 0 := by decide +kernel
theorem fb_ne0 {x : UInt64} {k : CmpOp} (hx : fd_m x 2047) (h : x.toNat % 2 ^ 63 ≠ 0) : ¬ Op.cmpValue (FP.dcmp x FP.dconst0) k = 0 := by
  rw [fb_dcmp hx fb_0.1, fb_cmp0, fb_0.2]
  by_cases h9 : 2 ^ 63 ≤ x.toNat
  · rw [fb_keyn h9]; have := x.toNat_lt; omega
  · rw [fb_keyp (by omega)]; omega
theorem fb_sg {x : UInt64} {k : CmpOp} (hx : fd_m x 2047) (h : x.toNat % 2 ^ 63 ≠ 0) : Op.cmpValue (FP.dcmp x FP.dconst0) k < 0 ↔ 2 ^ 63 ≤ x.toNat := by
  rw [fb_dcmp hx fb_0.1, fb_cmp, fb_0.2]
  by_cases h9 : 2 ^ 63 ≤ x.toNat
  · rw [fb_keyn h9]; have := x.toNat_lt; omega
  · rw [fb_keyp (by omega)]; omega
theorem fb_abs {x : UInt64} (h : 2 ^ 63 ≤ x.toNat) : (FP.dneg x).toNat = x.toNat % 2 ^ 63 := by
  have hlt := x.toNat_lt
  have e : (FP.dneg x).toNat = x.toNat ^^^ 2 ^ 63 := by
    show (x ^^^ 0x8000000000000000).toNat = _
    rw [UInt64.toNat_xor]
    rfl
  have h1 : (x.toNat ^^^ 2 ^ 63) % 2 ^ 63 = x.toNat % 2 ^ 63 := by rw [Nat.xor_mod_two_pow, Nat.mod_self, Nat.xor_zero]
  have h2 : (x.toNat ^^^ 2 ^ 63) / 2 ^ 63 = 0 := by
    rw [Nat.xor_div_two_pow, Nat.div_self (by decide), show x.toNat / 2 ^ 63 = 1 by omega, Nat.xor_self]
  rw [e]
  omega
theorem fu_two : fu ((4611686018427387904 : UInt64).toNat % 2 ^ 63) = 2 * FP.Core.one64 := by decide +kernel
theorem fu_twos : fd_m 4611686018427387904 2047 ∧ (4611686018427387904 : UInt64).toNat % 2 ^ 63 ≠ 0 ∧ (4611686018427387904 : UInt64).toNat < 2 ^ 63 ∧ (4611686018427387904 : UInt64).toNat = 1024 * 2 ^ 52 := by decide +kernel
theorem fb_m {u : UInt64} {E f : Nat} (hf : f < 2 ^ 52) (hu : u.toNat = E * 2 ^ 52 + f) (hE : E ≤ 2046) : fd_m u 2047 ∧ u.toNat < 2 ^ 63 ∧ u.toNat % 2 ^ 63 = u.toNat := by
  have h1 : u.toNat < 2047 * 2 ^ 52 := by have := Nat.mul_le_mul_right (2 ^ 52) hE; omega
  have h2 : u.toNat % 2 ^ 63 = u.toNat := Nat.mod_eq_of_lt (by omega)
  exact ⟨by show u.toNat % 2 ^ 63 < _; rw [h2]; exact h1, by omega, h2⟩
theorem fb_N {z : UInt64} {m : Nat} (hz : fu_N z) (h : z.toNat % 2 ^ 63 = m) (hm : 0 < m) : z.toNat = m := by
  rcases hz with h1 | h1
  · rw [Nat.mod_eq_of_lt h1] at h; exact h
  · omega
theorem fb_half {u : UInt64} {E f : Nat} (hf : f < 2 ^ 52) (hu : u.toNat = E * 2 ^ 52 + f) (h2 : 2 ≤ E) (hE : E ≤ 2046) : (FP.ddiv u 4611686018427387904).toNat = (E - 1) * 2 ^ 52 + f := by
  obtain ⟨m1, m2, m3⟩ := fb_m hf hu hE
  have e : fu (u.toNat % 2 ^ 63) * FP.Core.one64 = fu ((E - 1) * 2 ^ 52 + f) * fu ((4611686018427387904 : UInt64).toNat % 2 ^ 63) := by
    have h9 : 2 ^ (E - 1) = 2 ^ (E - 1 - 1) * 2 := by rw [← Nat.pow_succ, show (E - 1 - 1).succ = E - 1 by omega]
    rw [m3, hu, fu_nf (by omega) hf, fu_nf (by omega) hf, fu_two, h9]
    simp only [Nat.mul_assoc]
  have h1 := fu_div_le m1 fu_twos.1 fu_twos.2.1 (Nat.le_of_eq e)
  have h3 := fu_div_ge m1 fu_twos.1 fu_twos.2.1 (by have := Nat.mul_le_mul_right (2 ^ 52) (show E - 1 ≤ 2045 by omega); omega) (Nat.le_of_eq e.symm)
  exact fb_N (fu_N.div m1 fu_twos.1 fu_twos.2.1 (Or.inl m2) fu_twos.2.2.1) (by omega) (by have := Nat.mul_le_mul_right (2 ^ 52) (show 1 ≤ E - 1 by omega); omega)
theorem fb_twice {u : UInt64} {E f : Nat} (hf : f < 2 ^ 52) (hu : u.toNat = E * 2 ^ 52 + f) (h1 : 1 ≤ E) (hE : E ≤ 2045) : (FP.dmul u 4611686018427387904).toNat = (E + 1) * 2 ^ 52 + f := by
  obtain ⟨m1, m2, m3⟩ := fb_m hf hu (by omega)
  have e : fu (u.toNat % 2 ^ 63) * fu ((4611686018427387904 : UInt64).toNat % 2 ^ 63) = fu ((E + 1) * 2 ^ 52 + f) * FP.Core.one64 := by
    rw [m3, hu, fu_nf (by omega) hf, fu_nf (by omega) hf, fu_two, Nat.add_sub_cancel, ← Nat.mul_assoc, Nat.mul_assoc (2 ^ 52 + f), ← Nat.pow_succ, show (E - 1).succ = E by omega]
  have g1 := fu_mul_le m1 fu_twos.1 (Nat.le_of_eq e)
  have g3 := fu_mul_ge m1 fu_twos.1 (by have := Nat.mul_le_mul_right (2 ^ 52) (show E + 1 ≤ 2046 by omega); omega) (Nat.le_of_eq e.symm)
  exact fb_N (fu_N.mul m1 fu_twos.1 (Or.inl m2) (Or.inl fu_twos.2.2.1)) (by omega) (by have := Nat.mul_le_mul_right (2 ^ 52) (show 1 ≤ E + 1 by omega); omega)
theorem fu_ones : fd_m FP.dconst1 2047 ∧ FP.dconst1.toNat < 2 ^ 63 ∧ FP.dconst1.toNat = 1023 * 2 ^ 52 := by decide +kernel
theorem fu_big : fu ((4841369599423283200 : UInt64).toNat % 2 ^ 63) = 2 ^ 52 * FP.Core.one64 ∧ fd_m 4841369599423283200 1076 := by decide +kernel
theorem fu_T : 2 ^ 1022 * 2 ^ 52 = FP.Core.one64 := by decide +kernel
theorem fb_frac {u : UInt64} {f : Nat} (hf : f < 2 ^ 52) (hu : u.toNat = 1023 * 2 ^ 52 + f) : fd_m (FP.dsub u FP.dconst1) 1026 ∧ fd_m (FP.dmul (FP.dsub u FP.dconst1) 4841369599423283200) 2047 ∧ FP.d2l (FP.dmul (FP.dsub u FP.dconst1) 4841369599423283200) = fb_L f := by
  obtain ⟨m1, m2, m3⟩ := fb_m (E := 1023) hf hu (by decide)
  have hu1024 : fd_m u 1024 := by show u.toNat % 2 ^ 63 < _; omega
  have t1 : fd_m (FP.dsub u FP.dconst1) 1026 := fd_sub hu1024 (by decide +kernel) (by decide)
  have t2 : fd_m (FP.dsub u FP.dconst1) 2047 := fd_up t1 (by decide)
  have c2 : fd_m 4841369599423283200 2047 := fd_up fu_big.2 (by decide)
  have r0 : fd_m (FP.dmul (FP.dsub u FP.dconst1) 4841369599423283200) 2047 := fd_up (FP.Core.dmul_mag t1 fu_big.2 (by decide) (by decide)) (by decide)
  obtain ⟨m, hm1, hm2⟩ : ∃ m, fu m = f * 2 ^ 1022 ∧ m < 2047 * 2 ^ 52 := by
    rcases Nat.eq_zero_or_pos f with q | q
    · rw [q]; exact ⟨0, by rw [Nat.zero_mul]; exact FP.Core.unitsOf_zero _, by decide⟩
    · obtain ⟨m, a, b⟩ := fu_rep 52 f 1022 q (by omega) (Nat.le_mul_of_pos_left _ q) (by decide)
      exact ⟨m, a, Nat.lt_of_lt_of_le b (by decide)⟩
  have zu : fz u = ((fu u.toNat : Nat) : Int) := by rw [fu_z m1, decide_eq_false (by omega), m3]; rfl
  have z1 : fz FP.dconst1 = ((fu FP.dconst1.toNat : Nat) : Int) := by rw [fu_z fu_ones.1, decide_eq_false (by have := fu_ones.2.1; omega), Nat.mod_eq_of_lt fu_ones.2.1]; rfl
  have fu1 : fu u.toNat = 2 ^ 52 * 2 ^ 1022 + f * 2 ^ 1022 := by rw [hu, fu_nf (by decide) hf, Nat.add_mul]
  have fu2 : fu FP.dconst1.toNat = 2 ^ 52 * 2 ^ 1022 := by
    rw [fu_ones.2.2]
    have := fu_nf (E := 1023) (f := 0) (by decide) (by decide)
    rw [Nat.add_zero, Nat.add_zero, show 1023 - 1 = 1022 from rfl] at this
    exact this
  have hV := fu_V hm2
  have hdif : fz u - fz FP.dconst1 = FP.Core.zval FP.Core.b64 (FP.Core.decode FP.Core.b64 m) := by rw [hV.2, zu, z1, fu1, fu2, hm1]; omega
  have g1 := fu_sub_ge m1 fu_ones.1 (FP.Core.decode_fits FP.Core.good_b64 m) hV.1 (Int.le_of_eq hdif.symm)
  have g2 := fu_sub_le m1 fu_ones.1 (FP.Core.decode_fits FP.Core.good_b64 m) hV.1 (Int.le_of_eq hdif)
  rw [hV.2] at g1 g2
  have tN : fu_N (FP.dsub u FP.dconst1) := fu_N.of t2 (by omega)
  have t3 : fu ((FP.dsub u FP.dconst1).toNat % 2 ^ 63) = f * 2 ^ 1022 := by
    rw [← hm1]
    refine Nat.le_antisymm (fu_abs t2 (by omega) g2) ?_
    rw [fu_z t2] at g1
    by_cases h9 : 2 ^ 63 ≤ (FP.dsub u FP.dconst1).toNat
    · rw [decide_eq_true h9] at g1
      have e : FP.Core.signed true (fu ((FP.dsub u FP.dconst1).toNat % 2 ^ 63)) = -((fu ((FP.dsub u FP.dconst1).toNat % 2 ^ 63) : Nat) : Int) := rfl
      omega
    · rw [decide_eq_false h9] at g1
      have e : FP.Core.signed false (fu ((FP.dsub u FP.dconst1).toNat % 2 ^ 63)) = ((fu ((FP.dsub u FP.dconst1).toNat % 2 ^ 63) : Nat) : Int) := rfl
      omega
  have rN := fu_N.mul t2 c2 tN (Or.inl (by decide +kernel))
  have hf31 : fz (FP.Core.l2d (fb_L f)) = ((f * FP.Core.one64 : Nat) : Int) := by
    have := FP.Core.DInt_zval (FP.Core.l2d_int (a := fb_L f) (by rw [fb_int (by omega)]; omega))
    rw [fb_int (by omega)] at this
    rw [Int.natCast_mul]
    exact this
  have hl0 : fd_m (FP.Core.l2d (fb_L f)) 2047 := fd_up (FP.Core.l2d_mag (fb_L f)) (by decide)
  have hlu : fu ((FP.Core.l2d (fb_L f)).toNat % 2 ^ 63) = f * FP.Core.one64 := by
    refine Nat.le_antisymm (fu_abs hl0 (by rw [hf31]; omega) (Int.le_of_eq hf31)) ?_
    rw [fu_z hl0] at hf31
    by_cases h9 : 2 ^ 63 ≤ (FP.Core.l2d (fb_L f)).toNat
    · rw [decide_eq_true h9] at hf31
      have e : FP.Core.signed true (fu ((FP.Core.l2d (fb_L f)).toNat % 2 ^ 63)) = -((fu ((FP.Core.l2d (fb_L f)).toNat % 2 ^ 63) : Nat) : Int) := rfl
      omega
    · rw [decide_eq_false h9] at hf31
      have e : FP.Core.signed false (fu ((FP.Core.l2d (fb_L f)).toNat % 2 ^ 63)) = ((fu ((FP.Core.l2d (fb_L f)).toNat % 2 ^ 63) : Nat) : Int) := rfl
      omega
  have e3 : fu ((FP.dsub u FP.dconst1).toNat % 2 ^ 63) * fu ((4841369599423283200 : UInt64).toNat % 2 ^ 63) = fu ((FP.Core.l2d (fb_L f)).toNat % 2 ^ 63) * FP.Core.one64 := by
    rw [t3, fu_big.1, hlu, ← Nat.mul_assoc, Nat.mul_assoc f, fu_T]
  have k1 := fu_mul_le t2 c2 (Nat.le_of_eq e3)
  have k2 := fu_mul_ge t2 c2 hl0 (Nat.le_of_eq e3.symm)
  have hu9 : fu ((FP.dmul (FP.dsub u FP.dconst1) 4841369599423283200).toNat % 2 ^ 63) = f * FP.Core.one64 := by rw [show (FP.dmul (FP.dsub u FP.dconst1) 4841369599423283200).toNat % 2 ^ 63 = (FP.Core.l2d (fb_L f)).toNat % 2 ^ 63 by omega]; exact hlu
  refine ⟨t1, r0, Int64.toInt.inj ?_⟩
  show (FP.Core.d2l (FP.dmul (FP.dsub u FP.dconst1) 4841369599423283200)).toInt = _
  rw [FP.Core.d2l_val (fu_nn r0), FP.Core.zmag_bits (fu_nn r0), show FP.Core.unitsOf FP.Core.b64 ((FP.dmul (FP.dsub u FP.dconst1) 4841369599423283200).toNat % 2 ^ 63) = f * FP.Core.one64 from hu9, Nat.mul_div_cancel _ FP.Core.one64_pos, FP.Core.sgn_bits (fu_nn r0), fb_int (by omega)]
  rcases rN with h9 | h9
  · rw [decide_eq_false (by omega)]
    have e : FP.Core.signed false f = (f : Int) := rfl
    rw [e]
    omega
  · rw [h9, show fu 0 = 0 from FP.Core.unitsOf_zero _] at hu9
    have hf0 : f = 0 := by
      rcases Nat.mul_eq_zero.mp hu9.symm with q | q
      · exact q
      · exact absurd q (Nat.pos_iff_ne_zero.mp FP.Core.one64_pos)
    rw [hf0, FP.Core.signed_zero]
    decide
section FOB
variable {l : Launch} {Λ : fo_Lt} {R : Room} {K : fo_K} {cc : ByteArray} {own : String} {nL cs ss pc : Nat} {lv : List (Nat × Value)} {st st0 : List Value} {I : fo_Mi} {D : fo_Md} {J : fo_Mj} {X : fo_Mi}
variable {y : MethodName} {bytes : ByteArray} {maxL fr lo n idx i : Nat} {As : List Value}
theorem fo_lcmp (C : fo_C Λ K cc own nL) {x z : Int64} (d : decode cc pc = .ok (.lcmp, 1)) (v : Int32) (hv : lg_cmp x z = v) (n' : Nat) (hn : pc + 1 = n') (k : fo_G l Λ R K cs ss n' lv (.int v :: st) I D J X) : fo_G l Λ R K cs ss pc lv (.long z :: .long x :: st) I D J X := by
  intro H locs ls hP hS hl
  subst hn
  subst hv
  exact W.lcmp C.1 C.2.1 d (k H locs ls hP hS hl)
theorem fo_tl {a b : Int64} (h : a = b) (k : fo_G l Λ R K cs ss pc lv (.long b :: st) I D J X) : fo_G l Λ R K cs ss pc lv (.long a :: st) I D J X := by
  rw [h]
  exact k
theorem fo_raw (C : fo_C Λ K cc own nL) {x : UInt64} (d : decode cc pc = .ok (.invokestatic idx, 3)) (h1 : Cond.methodLink own idx ⟨"java/lang/Double", "doubleToRawLongBits", "(D)J"⟩ ∈ fo_W0) (h2 : Cond.native ⟨"java/lang/Double", "doubleToRawLongBits", "(D)J"⟩ ∈ fo_W0) (h3 : Cond.static ⟨"java/lang/Double", "doubleToRawLongBits", "(D)J"⟩ ∈ fo_W0) (h4 : Cond.initialized "java/lang/Double" ∈ fo_W0) (hR : 1 ≤ R.frames ∧ (st.map fun v => v.category).sum + 15 ≤ R.locals) (n' : Nat) (hn : pc + 3 = n') (k : fo_G l Λ R K cs ss n' lv (.long x.toInt64 :: st) I D J X) : fo_G l Λ R K cs ss pc lv (.double x :: st) I D J X := by
  intro H locs ls hP hS hl9
  subst hn
  exact vn_d2l C.1 C.2.1 (C.2.2.1.trans (hl9.1.trans C.nl).symm) C.2.2.2.1 (C.2.2.2.2.1 _ h1) (C.2.2.2.2.1 _ h2) (C.2.2.2.2.1 _ h3) (C.2.2.2.2.1 _ h4) hR.1 hR.2 d (k H locs ls hP hS hl9)
theorem fo_tql (C : fo_C Λ K cc own nL) {post : (Int64) → fo_Mi → fo_Md → fo_Mj → fo_Mi → Prop} (d : decode cc pc = .ok (.invokestatic idx, 3)) (hM : fk_l l y bytes maxL fr lo Λ As I D J X post) (hl : fo_la3 own idx y bytes maxL (some .long) n) (hn : As.length = n) (hR : fr + 1 ≤ R.frames ∧ 8 + (maxL + 11) + lo ≤ R.locals) (hf : cs ≤ R.cells ∧ ss ≤ R.slots) (st : List Value) (hst : st0 = As.reverse ++ st) (hW : (st.map fun v => v.category).sum ≤ 8) (n' : Nat) (hn' : pc + 3 = n') (k : ∀ (r : Int64) (I' : fo_Mi) (D' : fo_Md) (J' : fo_Mj) (X' : fo_Mi), post r I' D' J' X' → fo_G l Λ R K cs ss n' lv (.long r :: st) I' D' J' X') : fo_G l Λ R K cs ss pc lv st0 I D J X := by
  intro H locs ls hP hS hl9
  subst hn'
  subst hst
  refine va_calll (va_runS (As := As) (rest := st) C.fix hM (va_cwS n C.2.2.2.2.1 hl.1 rfl rfl rfl hl.2 hR) ⟨fo_PB, fun U hU hW9 => fo_pre hP hS C.vk C.ok C.zq hU hW9⟩ rfl hn (hl9.1.trans C.nl) rfl (lv_room hW) d ⟨hf.1, hf.2⟩) hS (fun q _ h => h) (fun q h => h) (fun r u t H1 locs1 ht hvm hw hB hz1 hk1 hS1 => ?_)
  · obtain ⟨I', D', J', X'⟩ := u
    exact k r I' D' J' X' hw H1 locs1 ls (by rw [← ht]; exact hB) hS1 hl9
end FOB

theorem fq_init : Cond.initialized "java/lang/Double" ∈ fo_W0 := fo_in 92 (by decide +kernel) (by decide +kernel)
theorem fq_l199 : Cond.methodLink RX7 199 yJxe99ae_doubleToLongBits_ccdee ∈ fo_W0 := fo_in 1448 (by decide +kernel) (by decide +kernel)
theorem fq_s1 : Cond.static yJxe99ae_doubleToLongBits_ccdee ∈ fo_W0 := fo_in 1449 (by decide +kernel) (by decide +kernel)
theorem fq_c1 : Cond.code yJxe99ae_doubleToLongBits_ccdee cJxe99ae_doubleToLongBits_ccdee 2 (some .long) ∈ fo_W0 := fo_in 1450 (by decide +kernel) (by decide +kernel)
theorem fq_l122 : Cond.methodLink RJxe99ae 122 yJxe99ae_isNaN_b9ae7 ∈ fo_W0 := fo_in 1451 (by decide +kernel) (by decide +kernel)
theorem fq_s2 : Cond.static yJxe99ae_isNaN_b9ae7 ∈ fo_W0 := fo_in 1452 (by decide +kernel) (by decide +kernel)
theorem fq_c2 : Cond.code yJxe99ae_isNaN_b9ae7 cJxe99ae_isNaN_b9ae7 2 (some .boolean) ∈ fo_W0 := fo_in 1453 (by decide +kernel) (by decide +kernel)
theorem fq_l134 : Cond.methodLink RJxe99ae 134 ⟨"java/lang/Double", "doubleToRawLongBits", "(D)J"⟩ ∈ fo_W0 := fo_in 1454 (by decide +kernel) (by decide +kernel)
theorem fq_s3 : Cond.static ⟨"java/lang/Double", "doubleToRawLongBits", "(D)J"⟩ ∈ fo_W0 := fo_in 1455 (by decide +kernel) (by decide +kernel)
theorem fq_n3 : Cond.native ⟨"java/lang/Double", "doubleToRawLongBits", "(D)J"⟩ ∈ fo_W0 := fo_in 1456 (by decide +kernel) (by decide +kernel)
theorem lt_X7_199 : fo_la3 RX7 199 yJxe99ae_doubleToLongBits_ccdee cJxe99ae_doubleToLongBits_ccdee 2 (some .long) 1 := fo_la3_of fq_l199 fq_s1 fq_init fq_c1 (by decide +kernel)
theorem lt_Jxe99ae_122 : fo_la3 RJxe99ae 122 yJxe99ae_isNaN_b9ae7 cJxe99ae_isNaN_b9ae7 2 (some .boolean) 1 := fo_la3_of fq_l122 fq_s2 fq_init fq_c2 (by decide +kernel)
set_option maxRecDepth 10000 in
set_option maxHeartbeats 4000000 in
theorem mJxe99ae_isNaN_b9ae7 {l : Launch} {Λ : fo_Lt} {I : fo_Mi} {D : fo_Md} {J : fo_Mj} {X : fo_Mi} {x : UInt64} (hx : fd_m x 2047) : fk_i l yJxe99ae_isNaN_b9ae7 cJxe99ae_isNaN_b9ae7 2 .boolean 0 0 Λ [.double (x)] I D J X (fo_pr (fo_b false) I D J X) := by
  refine fo_si (by decide) [(0, .double (x))] rfl (Nat.le_of_ble_eq_true rfl) (fun K C fin => ?_)
  refine fo_dload_n C dJxe99ae_isNaN_b9ae7_0 0 rfl rfl 1 rfl ?_
  refine fo_dload_n C dJxe99ae_isNaN_b9ae7_1 0 rfl rfl 2 rfl ?_
  refine fo_dcmp C dJxe99ae_isNaN_b9ae7_2 3 rfl ?_
  refine fo_if_eq C dJxe99ae_isNaN_b9ae7_3 10 (by decide) 6 rfl (fun c1 => ?_) (fun c1 => ?_)
  · refine fo_iconst C dJxe99ae_isNaN_b9ae7_10 (nI 0) ki_0 11 rfl ?_
    exact fin dJxe99ae_isNaN_b9ae7_11 (by first | rfl | exact fo_nb _) (⟨rfl, rfl, rfl, rfl, rfl⟩)
  · exact absurd (fd_same hx (by decide)) c1
set_option maxRecDepth 10000 in
set_option maxHeartbeats 4000000 in
theorem mJxe99ae_doubleToLongBits_ccdee {l : Launch} {Λ : fo_Lt} {I : fo_Mi} {D : fo_Md} {J : fo_Mj} {X : fo_Mi} {x : UInt64} (hx : fd_m x 2047) : fk_l l yJxe99ae_doubleToLongBits_ccdee cJxe99ae_doubleToLongBits_ccdee 2 1 30 Λ [.double (x)] I D J X (fo_pr (x.toInt64) I D J X) := by
  refine fo_sl (by decide) [(0, .double (x))] rfl (Nat.le_of_ble_eq_true rfl) (fun K C fin => ?_)
  refine fo_dload_n C dJxe99ae_doubleToLongBits_ccdee_0 0 rfl rfl 1 rfl ?_
  refine fo_tqi C dJxe99ae_doubleToLongBits_ccdee_1 (mJxe99ae_isNaN_b9ae7 hx) lt_Jxe99ae_122 rfl ⟨Nat.le_of_ble_eq_true rfl, Nat.le_of_ble_eq_true rfl⟩ ⟨Nat.le_of_ble_eq_true rfl, Nat.le_of_ble_eq_true rfl⟩ [] rfl (Nat.le_of_ble_eq_true rfl) 4 rfl (fo_er ?_)
  refine fo_bif_ne C dJxe99ae_doubleToLongBits_ccdee_4 12 (by decide) 7 rfl (fun c1 => ?_) (fun c1 => ?_)
  · exact absurd c1 (by decide)
  · refine fo_dload_n C dJxe99ae_doubleToLongBits_ccdee_7 0 rfl rfl 8 rfl ?_
    refine fo_raw C dJxe99ae_doubleToLongBits_ccdee_8 fq_l134 fq_n3 fq_s3 fq_init ⟨Nat.le_of_ble_eq_true rfl, Nat.le_of_ble_eq_true rfl⟩ 11 rfl ?_
    exact fin dJxe99ae_doubleToLongBits_ccdee_11 (⟨rfl, rfl, rfl, rfl, rfl⟩)
set_option maxRecDepth 10000 in
set_option maxHeartbeats 4000000 in
theorem mX6_bitsOf {l : Launch} {Λ : fo_Lt} {I : fo_Mi} {D : fo_Md} {J : fo_Mj} {X : fo_Mi} {x : UInt64} (hok : fl_ok x) : fk_l l yX6_bitsOf cX6_bitsOf 10 0 0 Λ [.double (x)] I D J X (fo_pr (x.toInt64) I D J X) := by
  refine fo_sl (by decide) [(0, .double (x))] rfl (Nat.le_of_ble_eq_true rfl) (fun K C fin => ?_)
  rcases hok with rfl | ⟨hl, hh⟩
  · skip
    refine fo_dload_n C dX6_bitsOf_0 0 rfl rfl 1 rfl ?_
    refine fo_dconst0 C dX6_bitsOf_1 2 rfl ?_
    refine fo_dcmp C dX6_bitsOf_2 3 rfl ?_
    refine fo_if_ne C dX6_bitsOf_3 8 (by decide) 6 rfl (fun c1 => ?_) (fun c1 => ?_)
    · exact absurd (by decide +kernel) c1
    · refine fo_lconst C dX6_bitsOf_6 0 (by decide) 7 rfl ?_
      exact fin dX6_bitsOf_7 (⟨by rfl, rfl, rfl, rfl, rfl⟩)
  · skip
    refine fo_dload_n C dX6_bitsOf_0 0 rfl rfl 1 rfl ?_
    refine fo_dconst0 C dX6_bitsOf_1 2 rfl ?_
    refine fo_dcmp C dX6_bitsOf_2 3 rfl ?_
    refine fo_if_ne C dX6_bitsOf_3 8 (by decide) 6 rfl (fun c2 => ?_) (fun c2 => ?_)
    · have hx0 : x.toNat % 2 ^ 63 ≠ 0 := by omega
      have hxm : fd_m x 2047 := by show x.toNat % 2 ^ 63 < _; omega
      obtain ⟨E0, f, hE0, hf⟩ : ∃ E0 f, x.toNat % 2 ^ 63 = E0 * 2 ^ 52 + f ∧ f < 2 ^ 52 := ⟨x.toNat % 2 ^ 63 / 2 ^ 52, x.toNat % 2 ^ 63 % 2 ^ 52, by omega, Nat.mod_lt _ (by decide)⟩
      have hE1 : 1 ≤ E0 := by omega
      have hE2 : E0 ≤ 2045 := by omega
      refine fo_dload_n C dX6_bitsOf_8 0 rfl rfl 9 rfl ?_
      refine fo_dconst0 C dX6_bitsOf_9 10 rfl ?_
      refine fo_dcmp C dX6_bitsOf_10 11 rfl ?_
      refine fo_if_ge C dX6_bitsOf_11 19 (by decide) 14 rfl (fun c3 => ?_) (fun c3 => ?_)
      · have hsg : x.toNat < 2 ^ 63 := Nat.lt_of_not_le (fun q => absurd ((fb_sg hxm hx0).mpr q) (Int32.not_lt.mpr c3))
        have hu0 : x.toNat = E0 * 2 ^ 52 + f := by omega
        refine fo_dload_n C dX6_bitsOf_19 0 rfl rfl 20 rfl ?_
        refine fo_dstore_n C dX6_bitsOf_20 rfl [(2, .double (x)), (0, .double (x))] rfl (by decide) 21 rfl ?_
        refine fo_ldcl C dX6_bitsOf_21 fd_X6_313 24 rfl ?_
        refine fo_tl (show (1023 : Int64) = fb_L 1023 by decide) ?_
        refine fo_lstore C dX6_bitsOf_24 [(4, .long (fb_L 1023)), (2, .double (x)), (0, .double (x))] rfl (by decide) 26 rfl ?_
        have hL26 : ∀ (m26 : Nat) (E e : Nat) (u : UInt64), E < m26 → u.toNat = E * 2 ^ 52 + f → 1 ≤ E → E ≤ 2045 → E + e = E0 + 1023 → E ≤ E0 → fo_G l Λ { frames := 0, cells := 0, slots := 0, locals := 0 } K 0 0 26 [(4, .long (fb_L e)), (2, .double (u)), (0, .double (x))] [] I D J X := by
          intro m26
          induction m26 with
          | zero => intro E e u hm; exact absurd hm (Nat.not_lt_zero _)
          | succ m26 ih26 =>
            intro E e u hm26 hu hEl hEu hEe hEE
            obtain ⟨um1, um2, um3⟩ := fb_m hf hu (by omega)
            refine fo_dload_n C dX6_bitsOf_26 1 rfl rfl 27 rfl ?_
            refine fo_ldcd C dX6_bitsOf_27 fd_X6_315 30 rfl ?_
            refine fo_dcmp C dX6_bitsOf_30 31 rfl ?_
            refine fo_if_lt C dX6_bitsOf_31 58 (by decide) 34 rfl (fun c4 => ?_) (fun c4 => ?_)
            · have hlt := (fb_lt um1 fu_twos.1 um2 fu_twos.2.2.1).mp c4
              rw [hu, fu_twos.2.2.2] at hlt
              have hE3 : E ≤ 1023 := by omega
              have hL58 : ∀ (m58 : Nat) (E e : Nat) (u : UInt64), 1024 - E < m58 → u.toNat = E * 2 ^ 52 + f → 1 ≤ E → E ≤ 2045 → E + e = E0 + 1023 → E ≤ 1023 → fo_G l Λ { frames := 0, cells := 0, slots := 0, locals := 0 } K 0 0 58 [(4, .long (fb_L e)), (2, .double (u)), (0, .double (x))] [] I D J X := by
                intro m58
                induction m58 with
                | zero => intro E e u hm; exact absurd hm (Nat.not_lt_zero _)
                | succ m58 ih58 =>
                  intro E e u hm58 hu hEl hEu hEe hE3
                  obtain ⟨um1, um2, um3⟩ := fb_m hf hu (by omega)
                  refine fo_dload_n C dX6_bitsOf_58 1 rfl rfl 59 rfl ?_
                  refine fo_dconst1 C dX6_bitsOf_59 60 rfl ?_
                  refine fo_dcmp C dX6_bitsOf_60 61 rfl ?_
                  refine fo_if_ge C dX6_bitsOf_61 86 (by decide) 64 rfl (fun c5 => ?_) (fun c5 => ?_)
                  · have hlt := mt (fb_lt um1 fu_ones.1 um2 fu_ones.2.1).mpr (Int32.not_lt.mpr c5)
                    rw [hu, fu_ones.2.2] at hlt
                    have hE5 : E = 1023 := by omega
                    have he9 : e = E0 := by omega
                    obtain ⟨fr1, fr2, fr3⟩ := fb_frac hf (hE5 ▸ hu)
                    refine fo_dload_n C dX6_bitsOf_86 1 rfl rfl 87 rfl ?_
                    refine fo_dconst1 C dX6_bitsOf_87 88 rfl ?_
                    refine fo_dsub C dX6_bitsOf_88 (fd_ok fr1 (by decide)) 89 rfl ?_
                    refine fo_ldcd C dX6_bitsOf_89 fd_X6_319 92 rfl ?_
                    refine fo_dmul C dX6_bitsOf_92 (fd_ok fr2 (by decide)) 93 rfl ?_
                    refine fo_d2l C dX6_bitsOf_93 94 rfl ?_
                    refine fo_tl fr3 ?_
                    refine fo_lstore C dX6_bitsOf_94 [(6, .long (fb_L f)), (4, .long (fb_L e)), (2, .double (u)), (0, .double (x))] rfl (by decide) 96 rfl ?_
                    refine fo_dload_n C dX6_bitsOf_96 3 rfl rfl 97 rfl ?_
                    refine fo_dconst0 C dX6_bitsOf_97 98 rfl ?_
                    refine fo_dcmp C dX6_bitsOf_98 99 rfl ?_
                    refine fo_if_ge C dX6_bitsOf_99 108 (by decide) 102 rfl (fun c6 => ?_) (fun c6 => ?_)
                    · refine fo_lconst C dX6_bitsOf_108 0 (by decide) 109 rfl ?_
                      refine fo_lstore C dX6_bitsOf_109 [(8, .long (0)), (6, .long (fb_L f)), (4, .long (fb_L e)), (2, .double (u)), (0, .double (x))] rfl (by decide) 111 rfl ?_
                      refine fo_lload C dX6_bitsOf_111 0 rfl 113 rfl ?_
                      refine fo_lload C dX6_bitsOf_113 2 rfl 115 rfl ?_
                      refine fo_bipush C dX6_bitsOf_115 (nI 52) kb_52 117 rfl ?_
                      refine fo_lshl C dX6_bitsOf_117 _ rfl 118 rfl ?_
                      refine fo_lor C dX6_bitsOf_118 _ rfl 119 rfl ?_
                      refine fo_lload C dX6_bitsOf_119 1 rfl 121 rfl ?_
                      refine fo_lor C dX6_bitsOf_121 _ rfl 122 rfl ?_
                      exact fin dX6_bitsOf_122 (⟨(by rw [he9]; exact fb_pos hf (by omega) hE0 hsg), rfl, rfl, rfl, rfl⟩)
                    · exact absurd (by assumption) c6
                  · have hlt := (fb_lt um1 fu_ones.1 um2 fu_ones.2.1).mp (Int32.not_le.mp c5)
                    rw [hu, fu_ones.2.2] at hlt
                    have hE5 : E ≤ 1022 := by omega
                    refine fo_lload C dX6_bitsOf_64 0 rfl 66 rfl ?_
                    refine fo_lconst C dX6_bitsOf_66 1 (by decide) 67 rfl ?_
                    refine fo_lcmp C dX6_bitsOf_67 (1) (fb_lcg (b := 1) (by omega) (by omega)) 68 rfl ?_
                    refine fo_if_le C dX6_bitsOf_68 86 (by decide) 71 rfl (fun c7 => ?_) (fun c7 => ?_)
                    · exact absurd c7 (by decide)
                    · refine fo_dload_n C dX6_bitsOf_71 1 rfl rfl 72 rfl ?_
                      refine fo_ldcd C dX6_bitsOf_72 fd_X6_315 75 rfl ?_
                      refine fo_dmul C dX6_bitsOf_75 (fd_ok (K := 2047) (fb_m hf (fb_twice hf hu (by omega) (by omega)) (by omega)).1 (by decide)) 76 rfl ?_
                      refine fo_dstore_n C dX6_bitsOf_76 rfl [(2, .double (FP.dmul (u) (4611686018427387904))), (4, .long (fb_L e)), (0, .double (x))] rfl (by decide) 77 rfl ?_
                      refine fo_lload C dX6_bitsOf_77 1 rfl 79 rfl ?_
                      refine fo_lconst C dX6_bitsOf_79 1 (by decide) 80 rfl ?_
                      refine fo_lsub C dX6_bitsOf_80 _ rfl 81 rfl ?_
                      refine fo_tl (fb_pred (by omega)) ?_
                      refine fo_lstore C dX6_bitsOf_81 [(4, .long (fb_L (e - 1))), (2, .double (FP.dmul (u) (4611686018427387904))), (0, .double (x))] rfl (by decide) 83 rfl ?_
                      refine fo_goto C dX6_bitsOf_83 58 (by decide) ?_
                      exact ih58 (E + 1) (e - 1) _ (by omega) (fb_twice hf hu (by omega) (by omega)) (by omega) (by omega) (by omega) (by omega)
              exact hL58 (1024 + 1) E e u (by omega) hu hEl hEu hEe (by omega)
            · have hlt := mt (fb_lt um1 fu_twos.1 um2 fu_twos.2.2.1).mpr c4
              rw [hu, fu_twos.2.2.2] at hlt
              have hE4 : 1024 ≤ E := by omega
              refine fo_lload C dX6_bitsOf_34 0 rfl 36 rfl ?_
              refine fo_ldcl C dX6_bitsOf_36 fd_X6_317 39 rfl ?_
              refine fo_lcmp C dX6_bitsOf_39 (-1) (fb_lcl (b := 2046) (by omega) (by decide)) 40 rfl ?_
              refine fo_if_ge C dX6_bitsOf_40 58 (by decide) 43 rfl (fun c8 => ?_) (fun c8 => ?_)
              · exact absurd c8 (by decide)
              · refine fo_dload_n C dX6_bitsOf_43 1 rfl rfl 44 rfl ?_
                refine fo_ldcd C dX6_bitsOf_44 fd_X6_315 47 rfl ?_
                refine fo_ddiv C dX6_bitsOf_47 (fd_ok (K := 2047) (by rw [show FP.ddiv u 4611686018427387904 = FP.ddiv u 4611686018427387904 from rfl]; exact (fb_m hf (fb_half hf hu (by omega) (by omega)) (by omega)).1) (by decide)) 48 rfl ?_
                refine fo_dstore_n C dX6_bitsOf_48 rfl [(2, .double (FP.ddiv (u) (4611686018427387904))), (4, .long (fb_L e)), (0, .double (x))] rfl (by decide) 49 rfl ?_
                refine fo_lload C dX6_bitsOf_49 1 rfl 51 rfl ?_
                refine fo_lconst C dX6_bitsOf_51 1 (by decide) 52 rfl ?_
                refine fo_ladd C dX6_bitsOf_52 _ rfl 53 rfl ?_
                refine fo_tl (fb_succ e) ?_
                refine fo_lstore C dX6_bitsOf_53 [(4, .long (fb_L (e + 1))), (2, .double (FP.ddiv (u) (4611686018427387904))), (0, .double (x))] rfl (by decide) 55 rfl ?_
                refine fo_goto C dX6_bitsOf_55 26 (by decide) ?_
                exact ih26 (E - 1) (e + 1) _ (by omega) (fb_half hf hu (by omega) (by omega)) (by omega) (by omega) (by omega) (by omega)
        exact hL26 (E0 + 1) E0 1023 _ (by omega) hu0 hE1 hE2 (by omega) (Nat.le_refl _)
      · have hsg : 2 ^ 63 ≤ x.toNat := (fb_sg hxm hx0).mp (Int32.not_le.mp c3)
        have hu0 : (FP.dneg x).toNat = E0 * 2 ^ 52 + f := (fb_abs hsg).trans hE0
        refine fo_dload_n C dX6_bitsOf_14 0 rfl rfl 15 rfl ?_
        refine fo_dneg C dX6_bitsOf_15 16 rfl ?_
        refine fo_goto C dX6_bitsOf_16 20 (by decide) ?_
        refine fo_dstore_n C dX6_bitsOf_20 rfl [(2, .double (FP.dneg (x))), (0, .double (x))] rfl (by decide) 21 rfl ?_
        refine fo_ldcl C dX6_bitsOf_21 fd_X6_313 24 rfl ?_
        refine fo_tl (show (1023 : Int64) = fb_L 1023 by decide) ?_
        refine fo_lstore C dX6_bitsOf_24 [(4, .long (fb_L 1023)), (2, .double (FP.dneg (x))), (0, .double (x))] rfl (by decide) 26 rfl ?_
        have hL26 : ∀ (m26 : Nat) (E e : Nat) (u : UInt64), E < m26 → u.toNat = E * 2 ^ 52 + f → 1 ≤ E → E ≤ 2045 → E + e = E0 + 1023 → E ≤ E0 → fo_G l Λ { frames := 0, cells := 0, slots := 0, locals := 0 } K 0 0 26 [(4, .long (fb_L e)), (2, .double (u)), (0, .double (x))] [] I D J X := by
          intro m26
          induction m26 with
          | zero => intro E e u hm; exact absurd hm (Nat.not_lt_zero _)
          | succ m26 ih26 =>
            intro E e u hm26 hu hEl hEu hEe hEE
            obtain ⟨um1, um2, um3⟩ := fb_m hf hu (by omega)
            refine fo_dload_n C dX6_bitsOf_26 1 rfl rfl 27 rfl ?_
            refine fo_ldcd C dX6_bitsOf_27 fd_X6_315 30 rfl ?_
            refine fo_dcmp C dX6_bitsOf_30 31 rfl ?_
            refine fo_if_lt C dX6_bitsOf_31 58 (by decide) 34 rfl (fun c9 => ?_) (fun c9 => ?_)
            · have hlt := (fb_lt um1 fu_twos.1 um2 fu_twos.2.2.1).mp c9
              rw [hu, fu_twos.2.2.2] at hlt
              have hE3 : E ≤ 1023 := by omega
              have hL58 : ∀ (m58 : Nat) (E e : Nat) (u : UInt64), 1024 - E < m58 → u.toNat = E * 2 ^ 52 + f → 1 ≤ E → E ≤ 2045 → E + e = E0 + 1023 → E ≤ 1023 → fo_G l Λ { frames := 0, cells := 0, slots := 0, locals := 0 } K 0 0 58 [(4, .long (fb_L e)), (2, .double (u)), (0, .double (x))] [] I D J X := by
                intro m58
                induction m58 with
                | zero => intro E e u hm; exact absurd hm (Nat.not_lt_zero _)
                | succ m58 ih58 =>
                  intro E e u hm58 hu hEl hEu hEe hE3
                  obtain ⟨um1, um2, um3⟩ := fb_m hf hu (by omega)
                  refine fo_dload_n C dX6_bitsOf_58 1 rfl rfl 59 rfl ?_
                  refine fo_dconst1 C dX6_bitsOf_59 60 rfl ?_
                  refine fo_dcmp C dX6_bitsOf_60 61 rfl ?_
                  refine fo_if_ge C dX6_bitsOf_61 86 (by decide) 64 rfl (fun c10 => ?_) (fun c10 => ?_)
                  · have hlt := mt (fb_lt um1 fu_ones.1 um2 fu_ones.2.1).mpr (Int32.not_lt.mpr c10)
                    rw [hu, fu_ones.2.2] at hlt
                    have hE5 : E = 1023 := by omega
                    have he9 : e = E0 := by omega
                    obtain ⟨fr1, fr2, fr3⟩ := fb_frac hf (hE5 ▸ hu)
                    refine fo_dload_n C dX6_bitsOf_86 1 rfl rfl 87 rfl ?_
                    refine fo_dconst1 C dX6_bitsOf_87 88 rfl ?_
                    refine fo_dsub C dX6_bitsOf_88 (fd_ok fr1 (by decide)) 89 rfl ?_
                    refine fo_ldcd C dX6_bitsOf_89 fd_X6_319 92 rfl ?_
                    refine fo_dmul C dX6_bitsOf_92 (fd_ok fr2 (by decide)) 93 rfl ?_
                    refine fo_d2l C dX6_bitsOf_93 94 rfl ?_
                    refine fo_tl fr3 ?_
                    refine fo_lstore C dX6_bitsOf_94 [(6, .long (fb_L f)), (4, .long (fb_L e)), (2, .double (u)), (0, .double (x))] rfl (by decide) 96 rfl ?_
                    refine fo_dload_n C dX6_bitsOf_96 3 rfl rfl 97 rfl ?_
                    refine fo_dconst0 C dX6_bitsOf_97 98 rfl ?_
                    refine fo_dcmp C dX6_bitsOf_98 99 rfl ?_
                    refine fo_if_ge C dX6_bitsOf_99 108 (by decide) 102 rfl (fun c11 => ?_) (fun c11 => ?_)
                    · exact absurd c11 (by assumption)
                    · refine fo_ldcl C dX6_bitsOf_102 fd_X6_321 105 rfl ?_
                      refine fo_goto C dX6_bitsOf_105 109 (by decide) ?_
                      refine fo_lstore C dX6_bitsOf_109 [(8, .long (-9223372036854775808)), (6, .long (fb_L f)), (4, .long (fb_L e)), (2, .double (u)), (0, .double (x))] rfl (by decide) 111 rfl ?_
                      refine fo_lload C dX6_bitsOf_111 0 rfl 113 rfl ?_
                      refine fo_lload C dX6_bitsOf_113 2 rfl 115 rfl ?_
                      refine fo_bipush C dX6_bitsOf_115 (nI 52) kb_52 117 rfl ?_
                      refine fo_lshl C dX6_bitsOf_117 _ rfl 118 rfl ?_
                      refine fo_lor C dX6_bitsOf_118 _ rfl 119 rfl ?_
                      refine fo_lload C dX6_bitsOf_119 1 rfl 121 rfl ?_
                      refine fo_lor C dX6_bitsOf_121 _ rfl 122 rfl ?_
                      exact fin dX6_bitsOf_122 (⟨(by rw [he9]; exact fb_neg hf (by omega) hE0 hsg), rfl, rfl, rfl, rfl⟩)
                  · have hlt := (fb_lt um1 fu_ones.1 um2 fu_ones.2.1).mp (Int32.not_le.mp c10)
                    rw [hu, fu_ones.2.2] at hlt
                    have hE5 : E ≤ 1022 := by omega
                    refine fo_lload C dX6_bitsOf_64 0 rfl 66 rfl ?_
                    refine fo_lconst C dX6_bitsOf_66 1 (by decide) 67 rfl ?_
                    refine fo_lcmp C dX6_bitsOf_67 (1) (fb_lcg (b := 1) (by omega) (by omega)) 68 rfl ?_
                    refine fo_if_le C dX6_bitsOf_68 86 (by decide) 71 rfl (fun c12 => ?_) (fun c12 => ?_)
                    · exact absurd c12 (by decide)
                    · refine fo_dload_n C dX6_bitsOf_71 1 rfl rfl 72 rfl ?_
                      refine fo_ldcd C dX6_bitsOf_72 fd_X6_315 75 rfl ?_
                      refine fo_dmul C dX6_bitsOf_75 (fd_ok (K := 2047) (fb_m hf (fb_twice hf hu (by omega) (by omega)) (by omega)).1 (by decide)) 76 rfl ?_
                      refine fo_dstore_n C dX6_bitsOf_76 rfl [(2, .double (FP.dmul (u) (4611686018427387904))), (4, .long (fb_L e)), (0, .double (x))] rfl (by decide) 77 rfl ?_
                      refine fo_lload C dX6_bitsOf_77 1 rfl 79 rfl ?_
                      refine fo_lconst C dX6_bitsOf_79 1 (by decide) 80 rfl ?_
                      refine fo_lsub C dX6_bitsOf_80 _ rfl 81 rfl ?_
                      refine fo_tl (fb_pred (by omega)) ?_
                      refine fo_lstore C dX6_bitsOf_81 [(4, .long (fb_L (e - 1))), (2, .double (FP.dmul (u) (4611686018427387904))), (0, .double (x))] rfl (by decide) 83 rfl ?_
                      refine fo_goto C dX6_bitsOf_83 58 (by decide) ?_
                      exact ih58 (E + 1) (e - 1) _ (by omega) (fb_twice hf hu (by omega) (by omega)) (by omega) (by omega) (by omega) (by omega)
              exact hL58 (1024 + 1) E e u (by omega) hu hEl hEu hEe (by omega)
            · have hlt := mt (fb_lt um1 fu_twos.1 um2 fu_twos.2.2.1).mpr c9
              rw [hu, fu_twos.2.2.2] at hlt
              have hE4 : 1024 ≤ E := by omega
              refine fo_lload C dX6_bitsOf_34 0 rfl 36 rfl ?_
              refine fo_ldcl C dX6_bitsOf_36 fd_X6_317 39 rfl ?_
              refine fo_lcmp C dX6_bitsOf_39 (-1) (fb_lcl (b := 2046) (by omega) (by decide)) 40 rfl ?_
              refine fo_if_ge C dX6_bitsOf_40 58 (by decide) 43 rfl (fun c13 => ?_) (fun c13 => ?_)
              · exact absurd c13 (by decide)
              · refine fo_dload_n C dX6_bitsOf_43 1 rfl rfl 44 rfl ?_
                refine fo_ldcd C dX6_bitsOf_44 fd_X6_315 47 rfl ?_
                refine fo_ddiv C dX6_bitsOf_47 (fd_ok (K := 2047) (by rw [show FP.ddiv u 4611686018427387904 = FP.ddiv u 4611686018427387904 from rfl]; exact (fb_m hf (fb_half hf hu (by omega) (by omega)) (by omega)).1) (by decide)) 48 rfl ?_
                refine fo_dstore_n C dX6_bitsOf_48 rfl [(2, .double (FP.ddiv (u) (4611686018427387904))), (4, .long (fb_L e)), (0, .double (x))] rfl (by decide) 49 rfl ?_
                refine fo_lload C dX6_bitsOf_49 1 rfl 51 rfl ?_
                refine fo_lconst C dX6_bitsOf_51 1 (by decide) 52 rfl ?_
                refine fo_ladd C dX6_bitsOf_52 _ rfl 53 rfl ?_
                refine fo_tl (fb_succ e) ?_
                refine fo_lstore C dX6_bitsOf_53 [(4, .long (fb_L (e + 1))), (2, .double (FP.ddiv (u) (4611686018427387904))), (0, .double (x))] rfl (by decide) 55 rfl ?_
                refine fo_goto C dX6_bitsOf_55 26 (by decide) ?_
                exact ih26 (E - 1) (e + 1) _ (by omega) (fb_half hf hu (by omega) (by omega)) (by omega) (by omega) (by omega) (by omega)
        exact hL26 (E0 + 1) E0 1023 _ (by omega) hu0 hE1 hE2 (by omega) (Nat.le_refl _)
    · exact absurd c2 (fb_ne0 (by show x.toNat % 2 ^ 63 < _; omega) (by omega))
