/-! PURE WORDS of a whole state: scores, winners, ranks -/
/-- a is less than b, as the class compares doubles -/
def fp_lt (a b : UInt64) : Bool := decide (Op.cmpValue (FP.dcmp a b) .g < 0)
/-- the first of those with the least value, among the first j that count -/
def fp_lst (ok : Nat → Bool) (val : Nat → UInt64) : Nat → Option Nat
  | 0 => none
  | j + 1 => if ok j then (match fp_lst ok val j with
    | none => some j
    | some b => if fp_lt (val j) (val b) then some j else some b) else fp_lst ok val j
theorem fp_lst_in {ok : Nat → Bool} {val : Nat → UInt64} : ∀ {j b : Nat}, fp_lst ok val j = some b → b < j ∧ ok b = true
  | 0, b, h => by cases h
  | j + 1, b, h => by
    rw [fp_lst] at h
    cases hj : ok j with
    | false =>
      rw [hj, if_neg (by decide)] at h
      have := fp_lst_in h
      exact ⟨by omega, this.2⟩
    | true =>
      rw [hj, if_pos rfl] at h
      cases hl : fp_lst ok val j with
      | none => rw [hl] at h; cases h; exact ⟨by omega, hj⟩
      | some c =>
        rw [hl] at h
        have h9 := fp_lst_in hl
        by_cases hc : fp_lt (val j) (val c) = true
        · simp only [hc, if_true] at h
          cases h
          exact ⟨by omega, hj⟩
        · simp only [hc] at h
          cases h
          exact ⟨by omega, h9.2⟩
theorem fp_lst_none {ok : Nat → Bool} {val : Nat → UInt64} : ∀ {j : Nat}, fp_lst ok val j = none ↔ ∀ b, b < j → ok b = false
  | 0 => ⟨fun _ b h => absurd h (Nat.not_lt_zero b), fun _ => rfl⟩
  | j + 1 => by
    rw [fp_lst]
    cases hj : ok j with
    | false =>
      rw [if_neg (by decide), fp_lst_none]
      exact ⟨fun h b hb => by by_cases e : b = j; (rw [e]; exact hj); exact h b (by omega), fun h b hb => h b (by omega)⟩
    | true =>
      rw [if_pos rfl]
      refine ⟨fun h => ?_, fun h => by rw [h j (by omega)] at hj; cases hj⟩
      cases hl : fp_lst ok val j with
      | none => rw [hl] at h; cases h
      | some c => rw [hl] at h; dsimp only at h; split at h <;> cases h
theorem fp_lst_congr {ok ok2 : Nat → Bool} {val val2 : Nat → UInt64} {j : Nat} (h1 : ∀ b, b < j → ok b = ok2 b) (h2 : ∀ b, b < j → ok b = true → val b = val2 b) : fp_lst ok val j = fp_lst ok2 val2 j := by
  induction j with
  | zero => rfl
  | succ j ih =>
    have ih := ih (fun b hb => h1 b (by omega)) (fun b hb => h2 b (by omega))
    rw [fp_lst, fp_lst, ← h1 j (by omega), ih]
    cases hj : ok j with
    | false => rw [if_neg (by decide), if_neg (by decide)]
    | true =>
      rw [if_pos rfl, if_pos rfl, h2 j (by omega) hj]
      cases hl : fp_lst ok2 val2 j with
      | none => rfl
      | some c =>
        have h9 := fp_lst_in (ih.trans hl)
        have e := h2 c (by omega) h9.2
        simp only [e]
/-- none as the class has it: -1 -/
def fo_ow (o : Option Nat) : Int32 := match o with
  | none => -1
  | some k => nI k
/-- who gets the point of day d, among np prophets -/
def fp_win (np : Nat) (kd par : Nat → Nat) (v : Nat → Nat) (d : Nat) : Option Nat := fp_lst (fun p => decide (fp_need (kd p) (par p) ≤ d)) (fun p => fp_err (kd p) (par p) v d) np
def fp_pts (np : Nat) (kd par : Nat → Nat) (v : Nat → Nat) (p : Nat) : Nat → Nat
  | 0 => 0
  | d + 1 => fp_pts np kd par v p d + (if fp_win np kd par v d = some p then 1 else 0)
theorem fp_pts_le (np : Nat) (kd par : Nat → Nat) (v : Nat → Nat) (p : Nat) : ∀ d, fp_pts np kd par v p d ≤ d
  | 0 => Nat.le_refl 0
  | d + 1 => by
    have := fp_pts_le np kd par v p d
    rw [fp_pts]
    split <;> omega
theorem fp_win_congr {np : Nat} {kd par : Nat → Nat} {v u : Nat → Nat} {d : Nat} (h : ∀ p, p < np → fp_kdok (kd p) (par p)) (hv : ∀ j, j ≤ d → v j = u j) : fp_win np kd par v d = fp_win np kd par u d :=
  fp_lst_congr (fun _ _ => rfl) (fun b hb ho => fp_err_congr (h b hb) (of_decide_eq_true ho) hv)
theorem fp_pts_congr {np : Nat} {kd par : Nat → Nat} {v u : Nat → Nat} {p : Nat} (h : ∀ p, p < np → fp_kdok (kd p) (par p)) : ∀ {d : Nat}, (∀ j, j < d → v j = u j) → fp_pts np kd par v p d = fp_pts np kd par u p d
  | 0, _ => rfl
  | d + 1, hv => by rw [fp_pts, fp_pts, fp_pts_congr h (fun j hj => hv j (by omega)), fp_win_congr h (fun j hj => hv j (by omega))]
/-- all that a state is: the number of prophets, the limit, kinds, parameters, numbers of values, values -/
def fa_ok (np lim : Nat) (kd par n : Nat → Nat) (v : Nat → Nat → Nat) : Prop := np ≤ 8 ∧ (1 ≤ lim ∧ lim ≤ 9) ∧ (∀ p, p < np → fp_kdok (kd p) (par p)) ∧ (∀ k, k < 4 → n k ≤ 30) ∧ ∀ k, k < 4 → ∀ d, d < n k → v k d ≤ 999
/-- the most days with a forecast that one of the first j prophets has -/
def fp_most (n : Nat) (nd : Nat → Nat) : Nat → Nat
  | 0 => 0
  | j + 1 => max (fp_most n nd j) (n - nd j)
theorem fp_most_le (n : Nat) (nd : Nat → Nat) : ∀ j, fp_most n nd j ≤ n
  | 0 => Nat.zero_le _
  | j + 1 => by
    have := fp_most_le n nd j
    rw [fp_most]
    omega
theorem fp_most_succ (n : Nat) (nd : Nat → Nat) : ∀ j, fp_most (n + 1) nd j = fp_most n nd j + (if ∃ p, p < j ∧ nd p ≤ n then 1 else 0)
  | 0 => by
    rw [if_neg (by intro ⟨p, h, _⟩; omega)]
    rfl
  | j + 1 => by
    have ih := fp_most_succ n nd j
    rw [fp_most, fp_most, ih]
    by_cases h : ∃ p, p < j ∧ nd p ≤ n
    · have h2 : ∃ p, p < j + 1 ∧ nd p ≤ n := by
        obtain ⟨p, a, b⟩ := h
        exact ⟨p, by omega, b⟩
      rw [if_pos h, if_pos h2]
      omega
    · by_cases hj : nd j ≤ n
      · rw [if_neg h, if_pos ⟨j, by omega, hj⟩]
        have : ∀ i, i ≤ j → fp_most n nd i = 0 := by
          intro i
          induction i with
          | zero => intro _; rfl
          | succ i ih => 
            intro hi
            have : ¬ nd i ≤ n := fun q => h ⟨i, by omega, q⟩
            rw [fp_most, ih (by omega)]
            omega
        rw [this j (Nat.le_refl j)]
        omega
      · rw [if_neg h, if_neg (by
          intro ⟨p, a, b⟩
          by_cases e : p = j
          · rw [e] at b; exact hj b
          · exact h ⟨p, by omega, b⟩)]
        omega
theorem fp_sum_one {w : Option Nat} : ∀ j, fp_sum (fun p => if w = some p then 1 else 0) 0 j = if ∃ p, p < j ∧ w = some p then 1 else 0
  | 0 => by
    rw [if_neg (by intro ⟨p, h, _⟩; omega)]
    rfl
  | j + 1 => by
    rw [fp_sum, fp_sum_one j, Nat.zero_add]
    by_cases h : ∃ p, p < j ∧ w = some p
    · have h2 : ∃ p, p < j + 1 ∧ w = some p := by
        obtain ⟨p, a, b⟩ := h
        exact ⟨p, by omega, b⟩
      rw [if_pos h, if_pos h2]
      obtain ⟨p, a, b⟩ := h
      rw [if_neg (by rw [b]; intro q; cases q; omega)]
    · rw [if_neg h]
      by_cases hj : w = some j
      · rw [if_pos hj, if_pos ⟨j, by omega, hj⟩]
      · rw [if_neg hj, if_neg (by
          intro ⟨p, a, b⟩
          by_cases e : p = j
          · rw [e] at b; exact hj b
          · exact h ⟨p, by omega, b⟩)]
theorem fp_sum_plus (f g : Nat → Nat) (a : Nat) : ∀ j, fp_sum (fun p => f p + g p) a j = fp_sum f a j + fp_sum g a j
  | 0 => rfl
  | j + 1 => by
    rw [fp_sum, fp_sum_plus f g a j, fp_sum, fp_sum]
    omega
/-- each day with a forecast gives one point -/
theorem fp_pts_sum (np : Nat) (kd par : Nat → Nat) (v : Nat → Nat) : ∀ d, fp_sum (fun p => fp_pts np kd par v p d) 0 np = fp_most d (fun p => fp_need (kd p) (par p)) np
  | 0 => by
    have h1 : fp_sum (fun p => fp_pts np kd par v p 0) 0 np ≤ np * 0 := fp_sum_le (fun k _ => Nat.le_refl 0)
    have h2 := fp_most_le 0 (fun p => fp_need (kd p) (par p)) np
    omega
  | d + 1 => by
    have e : (fun p => fp_pts np kd par v p (d + 1)) = fun p => fp_pts np kd par v p d + (if fp_win np kd par v d = some p then 1 else 0) := rfl
    rw [e, fp_sum_plus, fp_pts_sum np kd par v d, fp_sum_one, fp_most_succ]
    congr 1
    have hiff : (∃ p, p < np ∧ fp_win np kd par v d = some p) ↔ ∃ p, p < np ∧ fp_need (kd p) (par p) ≤ d := by
      constructor
      · intro ⟨p, hp, hw⟩
        have := (fp_lst_in hw).2
        exact ⟨p, hp, of_decide_eq_true this⟩
      · intro ⟨p, hp, hn⟩
        cases hw : fp_win np kd par v d with
        | none =>
          have := fp_lst_none.mp hw p hp
          simp at this
          omega
        | some q => exact ⟨q, (fp_lst_in hw).1, rfl⟩
    by_cases h : ∃ p, p < np ∧ fp_need (kd p) (par p) ≤ d
    · rw [if_pos h, if_pos (hiff.mpr h)]
    · rw [if_neg h, if_neg (fun q => h (hiff.mp q))]
/-- points of all series, errors of all series, the mean error -/
def fp_ap (np : Nat) (kd par n : Nat → Nat) (v : Nat → Nat → Nat) (p : Nat) : Nat := fp_sum (fun k => fp_pts np kd par (v k) p (n k)) 0 4
def fp_ae (kd par n : Nat → Nat) (p : Nat) : Nat := fp_sum (fun k => n k - fp_need (kd p) (par p)) 0 4
def fp_me (kd par n : Nat → Nat) (v : Nat → Nat → Nat) (p : Nat) : UInt64 := FP.ddiv (fp_ds (fun k => fp_es (kd p) (par p) (v k) (n k)) 4) (FP.i2d (nI (fp_ae kd par n p)))
theorem fp_ap_le {np : Nat} {kd par n : Nat → Nat} {v : Nat → Nat → Nat} {p : Nat} (hn : ∀ k, k < 4 → n k ≤ 30) : fp_ap np kd par n v p ≤ 120 := by
  have := fp_sum_le (v := fun k => fp_pts np kd par (v k) p (n k)) (a := 0) (c := 30) (n := 4) (fun k hk => by have := fp_pts_le np kd par (v (0 + k)) p (n (0 + k)); have := hn (0 + k) (by omega); omega)
  unfold fp_ap
  omega
theorem fp_ae_le {kd par n : Nat → Nat} {p : Nat} (hn : ∀ k, k < 4 → n k ≤ 30) : fp_ae kd par n p ≤ 120 := by
  have := fp_sum_le (v := fun k => n k - fp_need (kd p) (par p)) (a := 0) (c := 30) (n := 4) (fun k hk => by have := hn (0 + k) (by omega); omega)
  unfold fp_ae
  omega
theorem fd_me {kd par n : Nat → Nat} {v : Nat → Nat → Nat} {p : Nat} (hok : fp_kdok (kd p) (par p)) (hn : ∀ k, k < 4 → n k ≤ 30) : fd_m (fp_ds (fun k => fp_es (kd p) (par p) (v k) (n k)) 4) 1408 :=
  fd_ds (K := 1400) 4 (by decide) (fun j hj => fd_up (fd_es hok (v j) (n j) (hn j hj)) (by have := hn j hj; omega)) (by decide)
def fp_rank (f : Nat → Nat) (np p : Nat) : Nat := fp_cnt (fun o => decide (f p < f o ∨ f o = f p ∧ o < p)) np
/-- the first of the numbers from k on, m of them, of which q holds -/
def fp_fst (q : Nat → Bool) : Nat → Nat → Option Nat
  | _, 0 => none
  | k, m + 1 => if q k then some k else fp_fst q (k + 1) m
theorem fp_fst_in {q : Nat → Bool} : ∀ {m k j : Nat}, fp_fst q k m = some j → k ≤ j ∧ j < k + m ∧ q j = true
  | 0, k, j, h => by cases h
  | m + 1, k, j, h => by
    rw [fp_fst] at h
    cases hk : q k with
    | true =>
      rw [hk, if_pos rfl] at h
      cases h
      exact ⟨Nat.le_refl _, by omega, hk⟩
    | false =>
      rw [hk, if_neg (by decide)] at h
      have := fp_fst_in h
      exact ⟨by omega, by omega, this.2.2⟩
theorem fp_lt_t {a b : UInt64} (h : ¬ 0 ≤ Op.cmpValue (FP.dcmp a b) .g) : fp_lt a b = true := decide_eq_true (Int32.not_le.mp h)
theorem fp_lt_f {a b : UInt64} (h : 0 ≤ Op.cmpValue (FP.dcmp a b) .g) : fp_lt a b = false := decide_eq_false (Int32.not_lt.mpr h)
theorem fd_notNaN {a : UInt64} {K : Nat} (h : fd_m a K) (hK : K ≤ 2047) : FP.Core.dIsNaN a = false := FP.Core.DFin.notNaN (FP.Core.fin_of_lt h hK)
theorem fd_same {a : UInt64} {K : Nat} (h : fd_m a K) (hK : K ≤ 2047) : Op.cmpValue (FP.dcmp a a) .l = 0 := by
  show Op.cmpValue (FP.Core.dcmp a a) .l = 0
  rw [FP.Core.dcmp_refl (fd_notNaN h hK)]
  rfl
