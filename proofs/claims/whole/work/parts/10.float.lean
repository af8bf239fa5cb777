/-! DOUBLES: none of the class's is a NaN; by their magnitudes -/
abbrev fd_m (a : UInt64) (K : Nat) : Prop := a.toNat % 2 ^ 63 < K * 2 ^ 52
theorem fd_ok {a : UInt64} {K : Nat} (h : fd_m a K) (hK : K ≤ 2047) : vf_n64 a := by
  unfold vf_n64
  rw [UInt64.le_iff_toNat_le, UInt64.toNat_and]
  show a.toNat &&& (2 ^ 63 - 1) ≤ 0x7ff0000000000000
  rw [Nat.and_two_pow_sub_one_eq_mod]
  exact Nat.le_of_lt (Nat.lt_of_lt_of_le h (Nat.le_trans (Nat.mul_le_mul_right _ hK) (by decide)))
theorem fd_up {a : UInt64} {K L : Nat} (h : fd_m a K) (hK : K ≤ L) : fd_m a L := Nat.lt_of_lt_of_le h (Nat.mul_le_mul_right _ hK)
theorem fd_add {a b : UInt64} {K : Nat} (ha : fd_m a K) (hb : fd_m b K) (hK : K ≤ 2047) : fd_m (FP.dadd a b) (K + 2) := FP.Core.dadd_mag ha hb hK
theorem fd_sub {a b : UInt64} {K : Nat} (ha : fd_m a K) (hb : fd_m b K) (hK : K ≤ 2047) : fd_m (FP.dsub a b) (K + 2) := FP.Core.dsub_mag ha hb hK
theorem fd_i (x : Int32) : fd_m (FP.i2d x) 1056 := FP.Core.i2d_mag x
theorem fd_ib {x : Int32} (h : x.toInt ≠ 0) : 1023 * 2 ^ 52 ≤ (FP.i2d x).toNat % 2 ^ 63 := (FP.Core.i2d_big h).1
/-- the quotient of a double by a whole number that isn't 0 -/
theorem fd_divi {a : UInt64} {x : Int32} {K : Nat} (ha : fd_m a K) (h : x.toInt ≠ 0) (hK : K ≤ 2047) : fd_m (FP.ddiv a (FP.i2d x)) (K + 3) := by
  have h1 := FP.Core.i2d_big h
  have h2 := FP.Core.ddiv_mag (a := a) (b := FP.i2d x) (K := K) (L := 1023) ha h1.1 h1.2 hK (by decide)
  exact fd_up (K := K + (1074 - 52 - 1) - 1023 + 3) h2 (by omega)
theorem fd_mean (v : Nat → Nat) (a : Nat) {n : Nat} (h0 : 0 < n) (h : n < 2 ^ 31) : fd_m (fp_mean v a n) 1059 := by
  refine fd_divi (K := 1056) (fd_i _) ?_ (by decide)
  rw [nI_toInt h]
  omega
theorem fd_meanok {x : Int32} {n : Nat} (h0 : 0 < n) (h : n < 2 ^ 31) : vf_n64 (FP.ddiv (FP.i2d x) (FP.i2d (nI n))) := by
  refine fd_ok (K := 1059) (fd_divi (K := 1056) (fd_i _) ?_ (by decide)) (by decide)
  rw [nI_toInt h]
  omega
/-- the digits 1 to 9 as doubles -/
theorem fd_dig : ∀ p, p < 10 → fd_m (FP.i2d (nI p)) 1027 := by decide +kernel
/-- one step of the smoothed level: K, then K + 7 -/
theorem fd_step {x : UInt64} {v : Int32} {p K : Nat} (hx : fd_m x K) (hK1 : 1056 ≤ K) (hK : K ≤ 2000) (hp : p < 10) :
    fd_m (FP.dsub (FP.i2d v) x) (K + 2) ∧ fd_m (FP.dmul (FP.i2d (nI p)) (FP.dsub (FP.i2d v) x)) (K + 7) ∧ fd_m (FP.ddiv (FP.dmul (FP.i2d (nI p)) (FP.dsub (FP.i2d v) x)) 4621819117588971520) (K + 5) ∧ fd_m (FP.dadd x (FP.ddiv (FP.dmul (FP.i2d (nI p)) (FP.dsub (FP.i2d v) x)) 4621819117588971520)) (K + 7) := by
  have h1 : fd_m (FP.dsub (FP.i2d v) x) (K + 2) := fd_sub (fd_up (fd_i v) hK1) hx (by omega)
  have h2 : fd_m (FP.dmul (FP.i2d (nI p)) (FP.dsub (FP.i2d v) x)) (K + 7) := fd_up (FP.Core.dmul_mag (fd_dig p hp) h1 (by decide) (by omega)) (by omega)
  have h3 : fd_m (FP.ddiv (FP.dmul (FP.i2d (nI p)) (FP.dsub (FP.i2d v) x)) 4621819117588971520) (K + 5) := fd_up (FP.Core.ddiv_mag (L := 1026) h2 (by decide +kernel) (by decide +kernel) (by omega) (by decide)) (by omega)
  exact ⟨h1, h2, h3, fd_add (fd_up hx (by omega)) h3 (by omega)⟩
/-- the smoothed level of the values of the days 0 to k -/
def fp_lev (v : Nat → Nat) (p : Nat) : Nat → UInt64
  | 0 => FP.i2d (nI (v 0))
  | k + 1 => FP.dadd (fp_lev v p k) (FP.ddiv (FP.dmul (FP.i2d (nI p)) (FP.dsub (FP.i2d (nI (v (k + 1)))) (fp_lev v p k))) 4621819117588971520)
theorem fd_lev (v : Nat → Nat) {p : Nat} (hp : p < 10) : ∀ k, k ≤ 30 → fd_m (fp_lev v p k) (1056 + 7 * k)
  | 0, _ => fd_i _
  | k + 1, h => (fd_step (fd_lev v hp k (by omega)) (by omega) (by omega) hp).2.2.2
theorem fp_lev_congr {v u : Nat → Nat} {p : Nat} : ∀ {k : Nat}, (∀ j, j ≤ k → v j = u j) → fp_lev v p k = fp_lev u p k
  | 0, h => by rw [fp_lev, fp_lev, h 0 (Nat.le_refl 0)]
  | k + 1, h => by rw [fp_lev, fp_lev, fp_lev_congr (fun j hj => h j (by omega)), h (k + 1) (Nat.le_refl _)]
/-- a prophet's forecast for day d, from the values before it -/
def fp_fore (kd par : Nat) (v : Nat → Nat) (d : Nat) : UInt64 :=
  if kd = 109 then fp_mean v (d - par) par
  else if kd = 100 then FP.i2d (nI (fp_med (fun j => v (d - par + j)) par))
  else if kd = 116 then FP.i2d (nI (2 * v (d - 1)) - nI (v (d - 2)))
  else if kd = 115 then fp_lev v par (d - 1)
  else FP.i2d (nI (v (d - 1)))
def fp_need (kd par : Nat) : Nat := if kd = 109 ∨ kd = 100 then par else if kd = 116 then 2 else 1
/-- what a prophet can be -/
def fp_kdok (kd par : Nat) : Prop := (kd = 108 ∨ kd = 109 ∨ kd = 100 ∨ kd = 116 ∨ kd = 115) ∧ 1 ≤ par ∧ par ≤ 9
theorem fp_need_in {kd par : Nat} (h : fp_kdok kd par) : 1 ≤ fp_need kd par ∧ fp_need kd par ≤ 9 := by
  obtain ⟨h1, h2, h3⟩ := h
  unfold fp_need
  split
  · omega
  · split <;> omega
theorem fd_fore {kd par : Nat} (h : fp_kdok kd par) (v : Nat → Nat) {d : Nat} (hd : d ≤ 30) : fd_m (fp_fore kd par v d) 1300 := by
  obtain ⟨h1, h2, h3⟩ := h
  unfold fp_fore
  split
  · exact fd_up (fd_mean v _ h2 (by omega)) (by decide)
  · split
    · exact fd_up (fd_i _) (by decide)
    · split
      · exact fd_up (fd_i _) (by decide)
      · split
        · exact fd_up (fd_lev v (by omega) (d - 1) (by omega)) (by omega)
        · exact fd_up (fd_i _) (by decide)
theorem fp_fore_congr {kd par : Nat} (h : fp_kdok kd par) {v u : Nat → Nat} {d : Nat} (hd : fp_need kd par ≤ d) (hv : ∀ j, j < d → v j = u j) : fp_fore kd par v d = fp_fore kd par u d := by
  obtain ⟨h1, h2, h3⟩ := h
  unfold fp_fore fp_need at *
  by_cases k1 : kd = 109
  · rw [if_pos k1, if_pos k1]
    rw [if_pos (Or.inl k1)] at hd
    unfold fp_mean
    rw [fp_sum_congr (fun k hk => hv _ (by omega))]
  · rw [if_neg k1, if_neg k1]
    by_cases k2 : kd = 100
    · rw [if_pos k2, if_pos k2]
      rw [if_pos (Or.inr k2)] at hd
      rw [fp_med_congr (fun k hk => hv _ (by omega))]
    · rw [if_neg k2, if_neg k2]
      rw [if_neg (by omega)] at hd
      by_cases k3 : kd = 116
      · rw [if_pos k3, if_pos k3]
        rw [if_pos k3] at hd
        rw [hv _ (by omega), hv _ (by omega)]
      · rw [if_neg k3, if_neg k3]
        rw [if_neg k3] at hd
        by_cases k4 : kd = 115
        · rw [if_pos k4, if_pos k4, fp_lev_congr (fun j hj => hv j (by omega))]
        · rw [if_neg k4, if_neg k4, hv _ (by omega)]
/-- the absolute value as the class makes it -/
def fp_dabs (x : UInt64) : UInt64 := if Op.cmpValue (FP.dcmp x FP.dconst0) .g < 0 then FP.dneg x else x
theorem fd_neg {x : UInt64} {K : Nat} (h : fd_m x K) : fd_m (FP.dneg x) K := by
  unfold fd_m FP.dneg at *
  rw [UInt64.toNat_xor, Nat.xor_mod_two_pow]
  rw [show (0x8000000000000000 : UInt64).toNat % 2 ^ 63 = 0 by decide, Nat.xor_zero]
  exact h
theorem fd_abs {x : UInt64} {K : Nat} (h : fd_m x K) : fd_m (fp_dabs x) K := by
  unfold fp_dabs
  split
  · exact fd_neg h
  · exact h
/-- a prophet's error on day d -/
def fp_err (kd par : Nat) (v : Nat → Nat) (d : Nat) : UInt64 := fp_dabs (FP.dsub (fp_fore kd par v d) (FP.i2d (nI (v d))))
theorem fd_err0 {kd par : Nat} (h : fp_kdok kd par) (v : Nat → Nat) {d : Nat} (hd : d ≤ 30) : fd_m (FP.dsub (fp_fore kd par v d) (FP.i2d (nI (v d)))) 1302 := fd_sub (fd_fore h v hd) (fd_up (fd_i _) (by decide)) (by decide)
theorem fd_err {kd par : Nat} (h : fp_kdok kd par) (v : Nat → Nat) {d : Nat} (hd : d ≤ 30) : fd_m (fp_err kd par v d) 1302 := fd_abs (fd_err0 h v hd)
theorem fp_err_congr {kd par : Nat} (h : fp_kdok kd par) {v u : Nat → Nat} {d : Nat} (hd : fp_need kd par ≤ d) (hv : ∀ j, j ≤ d → v j = u j) : fp_err kd par v d = fp_err kd par u d := by
  unfold fp_err
  rw [fp_fore_congr h hd (fun j hj => hv j (by omega)), hv d (Nat.le_refl d)]
/-- the error sum over the days up to d -/
def fp_es (kd par : Nat) (v : Nat → Nat) : Nat → UInt64
  | 0 => FP.dconst0
  | d + 1 => if fp_need kd par ≤ d then FP.dadd (fp_es kd par v d) (fp_err kd par v d) else fp_es kd par v d
theorem fd_es {kd par : Nat} (h : fp_kdok kd par) (v : Nat → Nat) : ∀ d, d ≤ 30 → fd_m (fp_es kd par v d) (1302 + 2 * d)
  | 0, _ => by show fd_m FP.dconst0 1302; decide +kernel
  | d + 1, hd => by
    have h1 := fd_es h v d (by omega)
    rw [fp_es]
    split
    · exact fd_up (K := 1302 + 2 * d + 2) (fd_add (K := 1302 + 2 * d) h1 (fd_up (fd_err h v (by omega)) (by omega)) (by omega)) (by omega)
    · exact fd_up (K := 1302 + 2 * d) h1 (by omega)
theorem fp_es_congr {kd par : Nat} (h : fp_kdok kd par) {v u : Nat → Nat} : ∀ {d : Nat}, (∀ j, j < d → v j = u j) → fp_es kd par v d = fp_es kd par u d
  | 0, _ => rfl
  | d + 1, hv => by
    rw [fp_es, fp_es, fp_es_congr h (fun j hj => hv j (by omega))]
    split
    · rename_i hd
      rw [fp_err_congr h hd (fun j hj => hv j (by omega))]
    · rfl
theorem fp_es_0 {kd par : Nat} {v : Nat → Nat} : ∀ {d : Nat}, d ≤ fp_need kd par → fp_es kd par v d = FP.dconst0
  | 0, _ => rfl
  | d + 1, h => by rw [fp_es, if_neg (by omega), fp_es_0 (by omega)]
/-- the number on top of the stack, under another name -/
theorem fo_ti {l : Launch} {Λ : fo_Lt} {R : Room} {K : fo_K} {cs ss pc : Nat} {lv : List (Nat × Value)} {st : List Value} {I : fo_Mi} {D : fo_Md} {J : fo_Mj} {X : fo_Mi} {a b : Int32} (h : a = b) (k : fo_G l Λ R K cs ss pc lv (.int b :: st) I D J X) : fo_G l Λ R K cs ss pc lv (.int a :: st) I D J X := by
  rw [h]
  exact k
theorem fo_td {l : Launch} {Λ : fo_Lt} {R : Room} {K : fo_K} {cs ss pc : Nat} {lv : List (Nat × Value)} {st : List Value} {I : fo_Mi} {D : fo_Md} {J : fo_Mj} {X : fo_Mi} {a b : UInt64} (h : a = b) (k : fo_G l Λ R K cs ss pc lv (.double b :: st) I D J X) : fo_G l Λ R K cs ss pc lv (.double a :: st) I D J X := by
  rw [h]
  exact k
/-- the memory, under another name -/
theorem fo_mi {l : Launch} {Λ : fo_Lt} {R : Room} {K : fo_K} {cs ss pc : Nat} {lv : List (Nat × Value)} {st : List Value} {I I2 : fo_Mi} {D : fo_Md} {J : fo_Mj} {X : fo_Mi} (h : I = I2) (k : fo_G l Λ R K cs ss pc lv st I2 D J X) : fo_G l Λ R K cs ss pc lv st I D J X := by
  rw [h]
  exact k
theorem fo_md {l : Launch} {Λ : fo_Lt} {R : Room} {K : fo_K} {cs ss pc : Nat} {lv : List (Nat × Value)} {st : List Value} {I : fo_Mi} {D D2 : fo_Md} {J : fo_Mj} {X : fo_Mi} (h : D = D2) (k : fo_G l Λ R K cs ss pc lv st I D2 J X) : fo_G l Λ R K cs ss pc lv st I D J X := by
  rw [h]
  exact k
