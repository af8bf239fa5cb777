/-! PURE WORDS: what the laboratory's numbers are, over natural numbers -/
def fp_cnt (p : Nat → Bool) : Nat → Nat
  | 0 => 0
  | n + 1 => fp_cnt p n + (if p n then 1 else 0)
theorem fp_cnt_le (p : Nat → Bool) : ∀ n, fp_cnt p n ≤ n
  | 0 => Nat.le_refl 0
  | n + 1 => by
    have := fp_cnt_le p n
    rw [fp_cnt]
    split <;> omega
theorem fp_cnt_congr {p q : Nat → Bool} : ∀ {n : Nat}, (∀ k, k < n → p k = q k) → fp_cnt p n = fp_cnt q n
  | 0, _ => rfl
  | n + 1, h => by rw [fp_cnt, fp_cnt, fp_cnt_congr (fun k hk => h k (by omega)), h n (by omega)]
theorem fp_cnt_mono {p q : Nat → Bool} : ∀ {n : Nat}, (∀ k, k < n → p k = true → q k = true) → fp_cnt p n ≤ fp_cnt q n
  | 0, _ => Nat.le_refl 0
  | n + 1, h => by
    have h1 := fp_cnt_mono (p := p) (q := q) (n := n) (fun k hk => h k (by omega))
    have h2 := h n (by omega)
    rw [fp_cnt, fp_cnt]
    cases hp : p n with
    | false => simp; omega
    | true => rw [h2 hp]; simp; omega
theorem fp_cnt_split {p q r : Nat → Bool} : ∀ {n : Nat}, (∀ k, k < n → (if r k then 1 else 0) = (if p k then 1 else 0) + (if q k then 1 else 0)) → fp_cnt r n = fp_cnt p n + fp_cnt q n
  | 0, _ => rfl
  | n + 1, h => by
    have h1 := fp_cnt_split (p := p) (q := q) (r := r) (n := n) (fun k hk => h k (by omega))
    have h2 := h n (by omega)
    rw [fp_cnt, fp_cnt, fp_cnt, h1, h2]
    omega
theorem fp_cnt_ex {p q : Nat → Bool} : ∀ {n : Nat}, fp_cnt p n < fp_cnt q n → ∃ k, k < n ∧ p k = false ∧ q k = true
  | 0, h => absurd h (Nat.lt_irrefl 0)
  | n + 1, h => by
    rw [fp_cnt, fp_cnt] at h
    by_cases hn : fp_cnt p n < fp_cnt q n
    · obtain ⟨k, h1, h2⟩ := fp_cnt_ex hn
      exact ⟨k, by omega, h2⟩
    · refine ⟨n, by omega, ?_⟩
      cases hp : p n <;> cases hq : q n <;> simp [hp, hq] at h ⊢ <;> omega
theorem fp_cnt_all {p : Nat → Bool} : ∀ {n : Nat}, (∀ k, k < n → p k = true) → fp_cnt p n = n
  | 0, _ => rfl
  | n + 1, h => by rw [fp_cnt, fp_cnt_all (fun k hk => h k (by omega)), h n (by omega)]; rfl
theorem fp_cnt_add (p : Nat → Bool) (m : Nat) : ∀ n, fp_cnt p (m + n) = fp_cnt p m + fp_cnt (fun k => p (m + k)) n
  | 0 => rfl
  | n + 1 => by
    have := fp_cnt_add p m n
    rw [← Nat.add_assoc, fp_cnt, this, fp_cnt]
    omega
theorem fp_cnt_none {p : Nat → Bool} : ∀ {n : Nat}, (∀ k, k < n → p k = false) → fp_cnt p n = 0
  | 0, _ => rfl
  | n + 1, h => by rw [fp_cnt, fp_cnt_none (fun k hk => h k (by omega)), h n (by omega)]; rfl
/-! sums and means -/
def fp_sum (v : Nat → Nat) (a : Nat) : Nat → Nat
  | 0 => 0
  | n + 1 => fp_sum v a n + v (a + n)
theorem fp_sum_le {v : Nat → Nat} {a c : Nat} : ∀ {n : Nat}, (∀ k, k < n → v (a + k) ≤ c) → fp_sum v a n ≤ n * c
  | 0, _ => Nat.zero_le _
  | n + 1, h => by
    have h1 := fp_sum_le (v := v) (a := a) (c := c) (n := n) (fun k hk => h k (by omega))
    have h2 := h n (by omega)
    rw [fp_sum, Nat.succ_mul]
    omega
theorem fp_sum_split (v : Nat → Nat) (m : Nat) : ∀ n, fp_sum v 0 (m + n) = fp_sum v 0 m + fp_sum v m n
  | 0 => rfl
  | n + 1 => by
    have := fp_sum_split v m n
    rw [← Nat.add_assoc, fp_sum, this, fp_sum, Nat.zero_add]
    omega
theorem fp_sum_congr {v u : Nat → Nat} {a : Nat} : ∀ {n : Nat}, (∀ k, k < n → v (a + k) = u (a + k)) → fp_sum v a n = fp_sum u a n
  | 0, _ => rfl
  | n + 1, h => by rw [fp_sum, fp_sum, fp_sum_congr (fun k hk => h k (by omega)), h n (by omega)]
def fp_mean (v : Nat → Nat) (a n : Nat) : UInt64 := FP.ddiv (FP.i2d (nI (fp_sum v a n))) (FP.i2d (nI n))
/-! the median: the first number with so many smaller ones, or so many with the equal ones -/
def fp_hit (f : Nat → Nat) (n i k : Nat) : Bool := decide (fp_cnt (fun o => decide (f o < f k)) n ≤ i) && decide (i < fp_cnt (fun o => decide (f o < f k)) n + fp_cnt (fun o => decide (f o = f k)) n)
def fp_mg (f : Nat → Nat) (n i : Nat) : Nat → Nat → Nat
  | _, 0 => 0
  | k, m + 1 => if fp_hit f n i k then f k else fp_mg f n i (k + 1) m
def fp_med (f : Nat → Nat) (n : Nat) : Nat := fp_mg f n ((n - 1) / 2) 0 n
theorem fp_cnt_succ (f : Nat → Nat) (m n : Nat) : fp_cnt (fun o => decide (f o < m + 1)) n = fp_cnt (fun o => decide (f o < m)) n + fp_cnt (fun o => decide (f o = m)) n := by
  refine fp_cnt_split (fun k _ => ?_)
  by_cases h1 : f k < m
  · have h2 : f k < m + 1 := by omega
    have h3 : ¬ f k = m := by omega
    simp [h1, h2, h3]
  · by_cases h3 : f k = m
    · simp [h3]
    · have h2 : ¬ f k < m + 1 := by omega
      simp [h1, h2, h3]
theorem fp_hit_iff {f : Nat → Nat} {n i k : Nat} : fp_hit f n i k = true ↔ fp_cnt (fun o => decide (f o < f k)) n ≤ i ∧ i < fp_cnt (fun o => decide (f o < f k + 1)) n := by
  rw [fp_cnt_succ]
  simp [fp_hit]
theorem fp_hit_one {f : Nat → Nat} {n i k m : Nat} (h : fp_hit f n i k = true) (h1 : fp_cnt (fun o => decide (f o < m)) n ≤ i) (h2 : i < fp_cnt (fun o => decide (f o < m + 1)) n) : f k = m := by
  obtain ⟨h3, h4⟩ := fp_hit_iff.mp h
  rcases Nat.lt_trichotomy (f k) m with q | q | q
  · have := fp_cnt_mono (p := fun o => decide (f o < f k + 1)) (q := fun o => decide (f o < m)) (n := n) (fun o _ ho => by simp at ho ⊢; omega)
    omega
  · exact q
  · have := fp_cnt_mono (p := fun o => decide (f o < m + 1)) (q := fun o => decide (f o < f k)) (n := n) (fun o _ ho => by simp at ho ⊢; omega)
    omega
theorem fp_mg_of {f : Nat → Nat} {n i m k0 : Nat} (h1 : fp_cnt (fun o => decide (f o < m)) n ≤ i) (h2 : i < fp_cnt (fun o => decide (f o < m + 1)) n) : ∀ (j k : Nat), k ≤ k0 → k0 < k + j → f k0 = m → fp_mg f n i k j = m
  | 0, k, a, b, _ => by omega
  | j + 1, k, a, b, e => by
    rw [fp_mg]
    by_cases h : fp_hit f n i k = true
    · rw [if_pos h]
      exact fp_hit_one h h1 h2
    · rw [if_neg h]
      have hk : k ≠ k0 := fun q => h (fp_hit_iff.mpr (by rw [q, e]; exact ⟨h1, h2⟩))
      exact fp_mg_of h1 h2 j (k + 1) (by omega) (by omega) e
/-- what makes a number the median -/
theorem fp_med_of {f : Nat → Nat} {n m : Nat} (h1 : fp_cnt (fun o => decide (f o < m)) n ≤ (n - 1) / 2) (h2 : (n - 1) / 2 < fp_cnt (fun o => decide (f o < m + 1)) n) : fp_med f n = m := by
  obtain ⟨k, hk, h3, h4⟩ := fp_cnt_ex (Nat.lt_of_le_of_lt h1 h2)
  simp only [decide_eq_false_iff_not, decide_eq_true_eq] at h3 h4
  exact fp_mg_of h1 h2 n 0 (Nat.zero_le k) (by omega) (by omega : f k = m)
theorem fp_mg_congr {f g : Nat → Nat} {n i : Nat} (h : ∀ k, k < n → f k = g k) : ∀ (j k : Nat), k + j = n → fp_mg f n i k j = fp_mg g n i k j
  | 0, k, _ => rfl
  | j + 1, k, e => by
    have hk : f k = g k := h k (by omega)
    have hh : fp_hit f n i k = fp_hit g n i k := by
      unfold fp_hit
      rw [hk, fp_cnt_congr (p := fun o => decide (f o < g k)) (q := fun o => decide (g o < g k)) (fun o ho => by simp only [h o ho]), fp_cnt_congr (p := fun o => decide (f o = g k)) (q := fun o => decide (g o = g k)) (fun o ho => by simp only [h o ho])]
    rw [fp_mg, fp_mg, hh, hk, fp_mg_congr h j (k + 1) (by omega)]
theorem fp_med_congr {f g : Nat → Nat} {n : Nat} (h : ∀ k, k < n → f k = g k) : fp_med f n = fp_med g n := fp_mg_congr h n 0 (by omega)
theorem fp_mg_le {f : Nat → Nat} {n i c : Nat} (h : ∀ k, k < n → f k ≤ c) : ∀ (j k : Nat), k + j = n → fp_mg f n i k j ≤ c
  | 0, k, _ => Nat.zero_le _
  | j + 1, k, e => by
    rw [fp_mg]
    split
    · exact h k (by omega)
    · exact fp_mg_le h j (k + 1) (by omega)
theorem fp_med_le {f : Nat → Nat} {n c : Nat} (h : ∀ k, k < n → f k ≤ c) : fp_med f n ≤ c := fp_mg_le h n 0 (by omega)
/-- a row, ascending, with the same counts: its middle is the median -/
theorem fp_med_sorted {f g : Nat → Nat} {n : Nat} (hn : 0 < n) (ha : ∀ i j, i ≤ j → j < n → g i ≤ g j) (hc : ∀ m, fp_cnt (fun o => decide (g o < m)) n = fp_cnt (fun o => decide (f o < m)) n) : fp_med f n = g ((n - 1) / 2) := by
  obtain ⟨i, hi⟩ : ∃ i, i = (n - 1) / 2 := ⟨_, rfl⟩
  have hin : i < n := by omega
  have e1 : n = i + (n - i) := by omega
  have e2 : n = (i + 1) + (n - (i + 1)) := by omega
  refine fp_med_of ?_ ?_
  · rw [← hc, ← hi]
    have h1 := fp_cnt_add (fun o => decide (g o < g i)) i (n - i)
    rw [← e1] at h1
    rw [h1, fp_cnt_none (n := n - i) (fun k hk => by have := ha i (i + k) (by omega) (by omega); simp; omega)]
    exact fp_cnt_le _ _
  · rw [← hc, ← hi]
    have h1 := fp_cnt_add (fun o => decide (g o < g i + 1)) (i + 1) (n - (i + 1))
    rw [← e2] at h1
    rw [h1, fp_cnt_all (n := i + 1) (fun k hk => by have := ha k i (by omega) (by omega); simp; omega)]
    omega
/-- x put at place p of a row of i numbers -/
def fp_ins (g : Nat → Nat) (p x : Nat) : Nat → Nat := fun j => if j < p then g j else if j = p then x else g (j - 1)
theorem fp_ins_cnt (g : Nat → Nat) (p x m : Nat) : ∀ i, p ≤ i → fp_cnt (fun o => decide (fp_ins g p x o < m)) (i + 1) = fp_cnt (fun o => decide (g o < m)) i + (if x < m then 1 else 0)
  | 0, h => by
    have hp : p = 0 := by omega
    subst hp
    simp [fp_cnt, fp_ins]
  | i + 1, h => by
    rw [fp_cnt]
    by_cases hp : p ≤ i
    · rw [fp_ins_cnt g p x m i hp, fp_cnt]
      have : fp_ins g p x (i + 1) = g i := by
        unfold fp_ins
        rw [if_neg (by omega), if_neg (by omega)]
        rfl
      simp only [this, decide_eq_true_eq]
      omega
    · have hp2 : p = i + 1 := by omega
      subst hp2
      have e1 : fp_ins g (i + 1) x (i + 1) = x := by
        unfold fp_ins
        rw [if_neg (by omega), if_pos rfl]
      rw [fp_cnt_congr (q := fun o => decide (g o < m)) (n := i + 1) (fun o ho => by
        have : fp_ins g (i + 1) x o = g o := if_pos ho
        simp only [this])]
      simp only [e1, decide_eq_true_eq]
/-! outliers -/
def fp_off (v : Nat → Nat) (lim day : Nat) : Bool := if day < 5 then false else
  decide (lim * (max 1 (fp_med (fun k => fo_ds2 (v (day - 5 + k)) (fp_med (fun k => v (day - 5 + k)) 5)) 5)) < fo_ds2 (v day) (fp_med (fun k => v (day - 5 + k)) 5))
theorem fp_off_congr {v u : Nat → Nat} {lim day : Nat} (h : ∀ k, k ≤ day → v k = u k) : fp_off v lim day = fp_off u lim day := by
  unfold fp_off
  by_cases hd : day < 5
  · rw [if_pos hd, if_pos hd]
  · rw [if_neg hd, if_neg hd]
    have e1 : fp_med (fun k => v (day - 5 + k)) 5 = fp_med (fun k => u (day - 5 + k)) 5 := fp_med_congr (fun k hk => h _ (by omega))
    rw [e1, h day (Nat.le_refl _), fp_med_congr (f := fun k => fo_ds2 (v (day - 5 + k)) (fp_med (fun k => u (day - 5 + k)) 5)) (g := fun k => fo_ds2 (u (day - 5 + k)) (fp_med (fun k => u (day - 5 + k)) 5)) (fun k hk => by rw [h _ (by omega)])]
/-! the least, the greatest, the longest rise -/
def fp_lo (v : Nat → Nat) : Nat → Nat
  | 0 => v 0
  | k + 1 => min (fp_lo v k) (v (k + 1))
def fp_hi (v : Nat → Nat) : Nat → Nat
  | 0 => v 0
  | k + 1 => max (fp_hi v k) (v (k + 1))
theorem fp_lohi (v : Nat → Nat) : ∀ k, fp_lo v k ≤ fp_hi v k
  | 0 => Nat.le_refl _
  | k + 1 => by
    have := fp_lohi v k
    rw [fp_lo, fp_hi]
    omega
theorem fp_hi_le {v : Nat → Nat} {c : Nat} : ∀ {k : Nat}, (∀ j, j ≤ k → v j ≤ c) → fp_hi v k ≤ c
  | 0, h => h 0 (Nat.le_refl 0)
  | k + 1, h => by
    have h1 := fp_hi_le (v := v) (c := c) (k := k) (fun j hj => h j (by omega))
    have h2 := h (k + 1) (Nat.le_refl _)
    rw [fp_hi]
    omega
/-- the run of rising days that ends with day k - 1, and the longest one up to there -/
def fp_run (v : Nat → Nat) : Nat → Nat
  | 0 => 0
  | k + 1 => if 0 < k ∧ v (k - 1) < v k then fp_run v k + 1 else 1
def fp_best (v : Nat → Nat) : Nat → Nat
  | 0 => 0
  | k + 1 => max (fp_best v k) (fp_run v (k + 1))
theorem fp_run_le (v : Nat → Nat) : ∀ k, fp_run v k ≤ k
  | 0 => Nat.le_refl 0
  | k + 1 => by
    have := fp_run_le v k
    rw [fp_run]
    split <;> omega
theorem fp_best_le (v : Nat → Nat) : ∀ k, fp_best v k ≤ k
  | 0 => Nat.le_refl 0
  | k + 1 => by
    have := fp_best_le v k
    have := fp_run_le v (k + 1)
    rw [fp_best]
    omega
/-! an int among the first n numbers -/
def fo_inr (x : Int32) (n : Nat) : Bool := decide (0 ≤ x.toInt ∧ x.toInt < n)
theorem fo_inr_neg {x : Int32} {n : Nat} (h : x < 0) : fo_inr x n = false := by
  have := Int32.lt_iff_toInt_lt.mp h
  rw [show (0 : Int32).toInt = 0 from rfl] at this
  exact decide_eq_false (by omega)
theorem fo_inr_ge {x : Int32} {n : Nat} (hn : n < 2 ^ 31) (h : nI n ≤ x) : fo_inr x n = false := by
  have := Int32.le_iff_toInt_le.mp h
  rw [nI_toInt hn] at this
  exact decide_eq_false (by omega)
theorem fo_inr_in {x : Int32} {n : Nat} (hn : n < 2 ^ 31) (h0 : ¬ x < 0) (h : ¬ nI n ≤ x) : fo_inr x n = true := by
  have h1 : ¬ x.toInt < 0 := fun q => h0 (Int32.lt_iff_toInt_lt.mpr q)
  have h2 : ¬ (n : Int) ≤ x.toInt := fun q => h (Int32.le_iff_toInt_le.mpr (by rw [nI_toInt hn]; exact q))
  exact decide_eq_true (by omega)
theorem fo_inr_at {x : Int32} {n : Nat} (h : fo_inr x n = true) : ∃ j, j < n ∧ j < 2 ^ 31 ∧ x = nI j := by
  have h := of_decide_eq_true h
  have hb : x.toInt < 2147483648 := by have := Int32.toInt_lt x; omega
  refine ⟨x.toInt.toNat, by omega, by omega, ?_⟩
  apply Int32.toInt_inj.mp
  rw [nI_toInt (by omega)]
  omega
theorem fo_inr_nI {j n : Nat} (h : j < n) (hj : j < 2 ^ 31) : fo_inr (nI j) n = true := by
  refine decide_eq_true ?_
  rw [nI_toInt hj]
  omega
theorem fp_ins_asc {g : Nat → Nat} {p i x : Nat} (hp : p ≤ i) (hA : ∀ q r, q ≤ r → r < i → g q ≤ g r) (hE : ∀ o, o < p → g o ≤ x) (hL : ∀ o, p ≤ o → o < i → x < g o) : ∀ q r, q ≤ r → r < i + 1 → fp_ins g p x q ≤ fp_ins g p x r := by
  intro q r hqr hr
  unfold fp_ins
  by_cases q1 : q < p
  · rw [if_pos q1]
    by_cases r1 : r < p
    · rw [if_pos r1]
      exact hA q r hqr (by omega)
    · rw [if_neg r1]
      split
      · exact hE q q1
      · exact hA q (r - 1) (by omega) (by omega)
  · rw [if_neg q1, if_neg (by omega : ¬ r < p)]
    by_cases q2 : q = p
    · rw [if_pos q2]
      split
      · exact Nat.le_refl _
      · exact Nat.le_of_lt (hL (r - 1) (by omega) (by omega))
    · rw [if_neg q2, if_neg (by omega : ¬ r = p)]
      exact hA (q - 1) (r - 1) (by omega) (by omega)
theorem fp_step_ex {g : Nat → Nat} {i : Nat} : ∀ M, g 0 ≤ i → i < g M → ∃ m, m < M ∧ g m ≤ i ∧ i < g (m + 1)
  | 0, h1, h2 => by omega
  | M + 1, h1, h2 => by
    by_cases h : i < g M
    · obtain ⟨m, h3, h4⟩ := fp_step_ex M h1 h
      exact ⟨m, by omega, h4⟩
    · exact ⟨M, by omega, by omega, h2⟩
/-- there is a median -/
theorem fp_hit_ex {f : Nat → Nat} {n B : Nat} (hn : 0 < n) (hB : ∀ k, k < n → f k ≤ B) : ∃ k, k < n ∧ fp_hit f n ((n - 1) / 2) k = true := by
  obtain ⟨m, -, h1, h2⟩ := fp_step_ex (g := fun m => fp_cnt (fun o => decide (f o < m)) n) (i := (n - 1) / 2) (B + 1) (by rw [fp_cnt_none (fun k _ => by simp)]; exact Nat.zero_le _) (by rw [fp_cnt_all (fun k hk => by have := hB k hk; simp; omega)]; omega)
  obtain ⟨k, hk, h3, h4⟩ := fp_cnt_ex (Nat.lt_of_le_of_lt h1 h2)
  simp only [decide_eq_false_iff_not, decide_eq_true_eq] at h3 h4
  have e : f k = m := by omega
  exact ⟨k, hk, fp_hit_iff.mpr (by rw [e]; exact ⟨h1, h2⟩)⟩
