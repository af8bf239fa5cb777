
/-! A STATE: what changes it -/
theorem fo_apart {a b : Nat} (ha : fo_k a = 7) (hb : fo_k b = 7) (h : a ≠ b) : a + 55 ≤ b ∨ b + 55 ≤ a := by
  have := fo_kT ha
  have := fo_kT hb
  omega
theorem fo_nsum {n : Nat → Nat} (h : fp_sum n 0 4 = 0) : ∀ k, k < 4 → n k = 0 := by
  intro k hk
  simp only [fp_sum, Nat.zero_add] at h
  have : k = 0 ∨ k = 1 ∨ k = 2 ∨ k = 3 := by omega
  rcases this with rfl | rfl | rfl | rfl <;> omega
theorem fs_enl {I Y : fo_Mi} {D E : fo_Md} {b np lim w q : Nat} {kd par n : Nat → Nat} {v : Nat → Nat → Nat} (hf : fs_F I D b np lim kd par n v) (h8 : np < 8) (h0 : fp_sum n 0 4 = 0) (hok : fp_kdok w q)
    (c1 : ∀ c, c ≠ b + 23 + 4 * np → c ≠ b + 23 + 4 * np + 1 → c ≠ b + 23 + 4 * np + 3 → Y c = I c) (c2 : ∀ c, c ≠ b + 23 + 4 * np + 2 → E c = D c) (c3 : Y (b + 23 + 4 * np) 0 = nI w) (c4 : Y (b + 23 + 4 * np) 1 = nI q)
    (c5 : ∀ k, k < 4 → Y (b + 23 + 4 * np + 1) k = nI 0 ∧ E (b + 23 + 4 * np + 2) k = FP.dconst0 ∧ Y (b + 23 + 4 * np + 3) k = nI 0) :
    fs_F (fo_r Y b (upd (Y b) 2 (nI (np + 1)))) E b (np + 1) lim (va_up kd np w) (va_up par np q) n v ∧ fs_fr b I D (fo_r Y b (upd (Y b) 2 (nI (np + 1)))) E := by
  obtain ⟨⟨hk, ⟨ho1, ho2, ho4, ho5, ho6⟩, hnp, hlim, hP, hS⟩, hC, hH⟩ := hf
  have hn := fo_nsum h0
  refine ⟨⟨⟨hk, ⟨by omega, ho2, ?_, ho5, ho6⟩, ?_, ?_, ?_, ?_⟩, ?_, ?_⟩, ?_⟩
  · intro p hp
    by_cases e : p = np
    · subst e; rw [va_up_self, va_up_self]; exact hok
    · rw [va_up_ne _ _ e, va_up_ne _ _ e]; exact ho4 p (by omega)
  · rw [fo_rs, pk_us]
  · rw [fo_rs, pk_un (by decide), c1 b (by omega) (by omega) (by omega)]; exact hlim
  · intro p hp
    rw [fo_rn _ _ (by omega)]
    by_cases e : p = np
    · subst e; rw [va_up_self, va_up_self]; exact ⟨c3, c4⟩
    · rw [va_up_ne _ _ e, va_up_ne _ _ e, c1 _ (by omega) (by omega) (by omega)]; exact hP p (by omega)
  · intro k h4
    rw [fo_rn _ _ (by omega), c1 _ (by omega) (by omega) (by omega), fo_rn _ _ (by omega), c1 _ (by omega) (by omega) (by omega)]
    exact hS k h4
  · intro p hp k h4
    rw [fo_rn _ _ (by omega), fo_rn _ _ (by omega), hn k h4]
    by_cases e : p = np
    · subst e
      obtain ⟨z1, z2, z3⟩ := c5 k h4
      exact ⟨z1.trans (congrArg nI (by omega)), z2, z3⟩
    · rw [va_up_ne _ _ e, va_up_ne _ _ e, c1 _ (by omega) (by omega) (by omega), c1 _ (by omega) (by omega) (by omega), c2 _ (by omega)]
      obtain ⟨z1, z2, z3⟩ := hC p (by omega) k h4
      rw [hn k h4] at z1 z2 z3
      exact ⟨z1, z2, z3⟩
  · intro p hp
    rw [fo_rn _ _ (by omega)]
    by_cases e : p = np
    · subst e; exact ⟨w, by have := hok.1; omega, c3⟩
    · rw [c1 _ (by omega) (by omega) (by omega)]; exact hH p hp
  · intro c hc
    rw [fo_rn _ _ (by omega), c1 _ (by omega) (by omega) (by omega), c2 _ (by omega)]
    exact ⟨rfl, rfl⟩
/-- a state under way: series k wiped, the scores of the first j prophets wiped -/
def fs_Wp (I : fo_Mi) (D : fo_Md) (b k np j : Nat) (Y : fo_Mi) (E : fo_Md) : Prop := (∀ c, (c < b + 23 ∨ b + 55 ≤ c) → c ≠ b + 3 + 5 * k → Y c = I c) ∧ (∀ c, (c < b + 23 ∨ b + 55 ≤ c) → E c = D c) ∧ Y (b + 3 + 5 * k) 1 = nI 0 ∧ (∀ p, p < 8 → Y (b + 23 + 4 * p) = I (b + 23 + 4 * p)) ∧ ∀ p, p < np → ∀ m, m < 4 → Y (b + 23 + 4 * p + 1) m = (if m = k ∧ p < j then nI 0 else I (b + 23 + 4 * p + 1) m) ∧ E (b + 23 + 4 * p + 2) m = (if m = k ∧ p < j then FP.dconst0 else D (b + 23 + 4 * p + 2) m) ∧ Y (b + 23 + 4 * p + 3) m = (if m = k ∧ p < j then nI 0 else I (b + 23 + 4 * p + 3) m)
theorem fs_Wp.init {I : fo_Mi} {D : fo_Md} {b k np : Nat} (h4 : k < 4) : fs_Wp I D b k np 0 (fo_r I (b + 3 + 5 * k) (upd (I (b + 3 + 5 * k)) 1 (nI 0))) D := by
  refine ⟨fun c h1 h2 => fo_rn _ _ h2, fun c h => rfl, by rw [fo_rs, pk_us], fun p hp => by rw [fo_rn _ _ (by omega)], fun p hp m hm => ?_⟩
  rw [fo_rn _ _ (by omega), fo_rn _ _ (by omega), if_neg (by omega), if_neg (by omega), if_neg (by omega)]
  exact ⟨rfl, rfl, rfl⟩
theorem fs_Wp.step {I Y : fo_Mi} {D E : fo_Md} {b k np j : Nat} (h : fs_Wp I D b k np j Y E) (h4 : k < 4) (h8 : np ≤ 8) (hj : j < np) :
    fs_Wp I D b k np (j + 1) (fo_r (fo_r Y (b + 23 + 4 * j + 1) (upd (Y (b + 23 + 4 * j + 1)) k (nI 0))) (b + 23 + 4 * j + 3) (upd (Y (b + 23 + 4 * j + 3)) k (nI 0))) (fo_r E (b + 23 + 4 * j + 2) (vf_upd (E (b + 23 + 4 * j + 2)) k FP.dconst0)) := by
  obtain ⟨h1, h2, h3, h5, h6⟩ := h
  refine ⟨fun c c1 c2 => ?_, fun c c1 => ?_, ?_, fun p hp => ?_, fun p hp m hm => ?_⟩
  · rw [fo_rn _ _ (by omega), fo_rn _ _ (by omega)]; exact h1 c c1 c2
  · rw [fo_rn _ _ (by omega)]; exact h2 c c1
  · rw [fo_rn _ _ (by omega), fo_rn _ _ (by omega)]; exact h3
  · rw [fo_rn _ _ (by omega), fo_rn _ _ (by omega)]; exact h5 p hp
  · obtain ⟨z1, z2, z3⟩ := h6 p hp m hm
    by_cases e : p = j
    · subst e
      rw [fo_rn _ _ (by omega), fo_rs, fo_rs, fo_rs]
      by_cases e2 : m = k
      · subst e2
        rw [pk_us, pk_us, if_pos ⟨rfl, by omega⟩, if_pos ⟨rfl, by omega⟩, if_pos ⟨rfl, by omega⟩]
        exact ⟨rfl, if_pos rfl, rfl⟩
      · rw [pk_un e2, pk_un e2, z1, z3, if_neg (by omega), if_neg (by omega), if_neg (by omega), if_neg (by omega), if_neg (by omega)]
        exact ⟨rfl, (if_neg e2).trans (z2.trans (if_neg (by omega))), rfl⟩
    · rw [fo_rn _ _ (by omega), fo_rn _ _ (by omega), fo_rn _ _ (by omega), fo_rn _ _ (by omega), fo_rn _ _ (by omega), z1, z2, z3]
      by_cases e2 : m = k ∧ p < j
      · rw [if_pos e2, if_pos e2, if_pos e2, if_pos ⟨e2.1, by omega⟩, if_pos ⟨e2.1, by omega⟩, if_pos ⟨e2.1, by omega⟩]; exact ⟨rfl, rfl, rfl⟩
      · rw [if_neg e2, if_neg e2, if_neg e2, if_neg (by omega), if_neg (by omega), if_neg (by omega)]; exact ⟨rfl, rfl, rfl⟩
theorem fs_Wp.done {I Y : fo_Mi} {D E : fo_Md} {b np lim k : Nat} {kd par n : Nat → Nat} {v : Nat → Nat → Nat} (hf : fs_F I D b np lim kd par n v) (h4 : k < 4) (h : fs_Wp I D b k np np Y E) (hout : (∀ p, np ≤ p → True)) : fs_F Y E b np lim kd par (va_up n k 0) v ∧ fs_fr b I D Y E := by
  obtain ⟨⟨hk, ⟨ho1, ho2, ho4, ho5, ho6⟩, hnp, hlim, hP, hS⟩, hC, hH⟩ := hf
  obtain ⟨h1, h2, h3, h5, h6⟩ := h
  refine ⟨⟨⟨hk, ⟨ho1, ho2, ho4, ?_, ?_⟩, ?_, ?_, ?_, ?_⟩, ?_, ?_⟩, ?_⟩
  · intro m hm
    by_cases e : m = k
    · subst e; rw [va_up_self]; omega
    · rw [va_up_ne _ _ e]; exact ho5 m hm
  · intro m hm d hd
    by_cases e : m = k
    · subst e; rw [va_up_self] at hd; omega
    · rw [va_up_ne _ _ e] at hd; exact ho6 m hm d hd
  · rw [h1 b (by omega) (by omega)]; exact hnp
  · rw [h1 b (by omega) (by omega)]; exact hlim
  · intro p hp
    rw [h5 p (by omega)]; exact hP p hp
  · intro m hm
    rw [h1 (b + 3 + 5 * m + 1) (by omega) (by omega)]
    by_cases e : m = k
    · subst e; rw [va_up_self]; exact ⟨h3, fun d hd => absurd hd (Nat.not_lt_zero _)⟩
    · rw [va_up_ne _ _ e, h1 (b + 3 + 5 * m) (by omega) (by omega)]; exact hS m hm
  · intro p hp m hm
    obtain ⟨z1, z2, z3⟩ := h6 p hp m hm
    rw [z1, z2, z3]
    by_cases e : m = k
    · subst e
      rw [va_up_self, if_pos ⟨rfl, hp⟩, if_pos ⟨rfl, hp⟩, if_pos ⟨rfl, hp⟩]
      exact ⟨congrArg nI (by omega), rfl, rfl⟩
    · rw [va_up_ne _ _ e, if_neg (fun q => e q.1), if_neg (fun q => e q.1), if_neg (fun q => e q.1)]
      exact hC p hp m hm
  · intro p hp
    rw [h5 p hp]; exact hH p hp
  · intro c hc
    exact ⟨h1 c (by omega) (by omega), h2 c (by omega)⟩
/-- a state under way: series k has one value more, the first j prophets have its errors -/
def fs_Ap (I : fo_Mi) (D : fo_Md) (b k x np : Nat) (kd par n : Nat → Nat) (v : Nat → Nat → Nat) (j : Nat) (Y : fo_Mi) (E : fo_Md) : Prop :=
  (∀ c, (c < b ∨ b + 55 ≤ c) → Y c = I c ∧ E c = D c) ∧ Y b = I b ∧ (Y (b + 3 + 5 * k) 1 = nI (n k + 1) ∧ ∀ d, d < n k + 1 → Y (b + 3 + 5 * k + 1) d = nI (va_up (v k) (n k) x d)) ∧
  (∀ m, m < 4 → m ≠ k → Y (b + 3 + 5 * m) = I (b + 3 + 5 * m) ∧ Y (b + 3 + 5 * m + 1) = I (b + 3 + 5 * m + 1)) ∧
  (∀ p, p < 8 → Y (b + 23 + 4 * p) = I (b + 23 + 4 * p) ∧ Y (b + 23 + 4 * p + 3) = I (b + 23 + 4 * p + 3)) ∧
  (∀ p, p < np → ∀ m, m < 4 → m ≠ k → Y (b + 23 + 4 * p + 1) m = I (b + 23 + 4 * p + 1) m ∧ E (b + 23 + 4 * p + 2) m = D (b + 23 + 4 * p + 2) m) ∧
  ∀ p, p < np → Y (b + 23 + 4 * p + 1) k = nI (if p < j then n k + 1 - fp_need (kd p) (par p) else n k - fp_need (kd p) (par p)) ∧ E (b + 23 + 4 * p + 2) k = (if p < j then fp_es (kd p) (par p) (va_up (v k) (n k) x) (n k + 1) else fp_es (kd p) (par p) (v k) (n k))
theorem fs_Ap.init {I : fo_Mi} {D : fo_Md} {b np lim k x : Nat} {kd par n : Nat → Nat} {v : Nat → Nat → Nat} (hf : fs_F I D b np lim kd par n v) (h4 : k < 4) :
    fs_Ap I D b k x np kd par n v 0 (fo_r (fo_r I (b + 3 + 5 * k + 1) (upd (I (b + 3 + 5 * k + 1)) (n k) (nI x))) (b + 3 + 5 * k) (upd (I (b + 3 + 5 * k)) 1 (nI (n k + 1)))) D := by
  obtain ⟨⟨hk, ⟨ho1, ho2, ho4, ho5, ho6⟩, hnp, hlim, hP, hS⟩, hC, hH⟩ := hf
  refine ⟨?_, ?_, ⟨?_, ?_⟩, ?_, ?_, ?_, ?_⟩
  · intro c hc; rw [fo_rn _ _ (by omega), fo_rn _ _ (by omega)]; exact ⟨rfl, rfl⟩
  · rw [fo_rn _ _ (by omega), fo_rn _ _ (by omega)]
  · rw [fo_rs, pk_us]
  · intro d hd
    rw [fo_rn _ _ (by omega), fo_rs]
    by_cases e : d = n k
    · subst e; rw [pk_us, va_up_self]
    · rw [pk_un e, va_up_ne _ _ e]; exact (hS k h4).2 d (by omega)
  · intro m hm hne
    rw [fo_rn _ _ (by omega), fo_rn _ _ (by omega), fo_rn _ _ (by omega), fo_rn _ _ (by omega)]; exact ⟨rfl, rfl⟩
  · intro p hp
    rw [fo_rn _ _ (by omega), fo_rn _ _ (by omega), fo_rn _ _ (by omega), fo_rn _ _ (by omega)]; exact ⟨rfl, rfl⟩
  · intro p hp m hm hne
    rw [fo_rn _ _ (by omega), fo_rn _ _ (by omega)]; exact ⟨rfl, rfl⟩
  · intro p hp
    rw [fo_rn _ _ (by omega), fo_rn _ _ (by omega), if_neg (Nat.not_lt_zero _), if_neg (Nat.not_lt_zero _)]
    exact ⟨(hC p hp k h4).1, (hC p hp k h4).2.1⟩
theorem fs_Ap.S {I Y : fo_Mi} {D E : fo_Md} {b np lim k x j : Nat} {kd par n : Nat → Nat} {v : Nat → Nat → Nat} (h : fs_Ap I D b k x np kd par n v j Y E) (hf : fs_F I D b np lim kd par n v) (h4 : k < 4) (h30 : n k < 30) (hx : x ≤ 999) : fs_S Y (b + 3 + 5 * k) (n k + 1) (va_up (v k) (n k) x) :=
  ⟨fo_TSk hf.1.1 h4, h.2.2.1.1, by omega, h.2.2.1.2, fun d hd => by
    by_cases e : d = n k
    · subst e; rw [va_up_self]; exact hx
    · rw [va_up_ne _ _ e]; exact hf.1.2.1.2.2.2.2 k h4 d (by omega)⟩
theorem fs_Ap.P {I Y : fo_Mi} {D E : fo_Md} {b np lim k x j p : Nat} {kd par n : Nat → Nat} {v : Nat → Nat → Nat} (h : fs_Ap I D b k x np kd par n v j Y E) (hf : fs_F I D b np lim kd par n v) (hp : p < np) : fs_P Y (b + 23 + 4 * p) (kd p) (par p) := by
  have h8 := hf.1.2.1.1
  obtain ⟨a1, a2, a3, a4⟩ := hf.1.P hp
  refine ⟨a1, ?_, ?_, a4⟩
  · rw [(h.2.2.2.2.1 p (by omega)).1]; exact a2
  · rw [(h.2.2.2.2.1 p (by omega)).1]; exact a3
theorem fs_Ap.skip {I Y : fo_Mi} {D E : fo_Md} {b np k x j : Nat} {kd par n : Nat → Nat} {v : Nat → Nat → Nat} (h : fs_Ap I D b k x np kd par n v j Y E) (hj : ¬ fp_need (kd j) (par j) ≤ n k) : fs_Ap I D b k x np kd par n v (j + 1) Y E := by
  obtain ⟨h1, h2, h3, h5, h6, h7, h8⟩ := h
  refine ⟨h1, h2, h3, h5, h6, h7, fun p hp => ?_⟩
  obtain ⟨z1, z2⟩ := h8 p hp
  by_cases e : p = j
  · subst e
    rw [if_neg (Nat.lt_irrefl _)] at z1 z2
    rw [if_pos (by omega), if_pos (by omega), z1, z2]
    exact ⟨congrArg nI (by omega), by rw [fp_es_0 (by omega), fp_es_0 (by omega)]⟩
  · rw [z1, z2]
    by_cases e2 : p < j
    · rw [if_pos e2, if_pos e2, if_pos (by omega), if_pos (by omega)]; exact ⟨rfl, rfl⟩
    · rw [if_neg e2, if_neg e2, if_neg (by omega), if_neg (by omega)]; exact ⟨rfl, rfl⟩
theorem fs_Ap.rd {I Y : fo_Mi} {D E : fo_Md} {b np k x j : Nat} {kd par n : Nat → Nat} {v : Nat → Nat → Nat} (h : fs_Ap I D b k x np kd par n v j Y E) (hok : fp_kdok (kd j) (par j)) (hj : j < np) : Y (b + 23 + 4 * j + 1) k = nI (n k - fp_need (kd j) (par j)) ∧ E (b + 23 + 4 * j + 2) k = fp_es (kd j) (par j) (va_up (v k) (n k) x) (n k) := by
  obtain ⟨z1, z2⟩ := h.2.2.2.2.2.2 j hj
  rw [if_neg (Nat.lt_irrefl _)] at z1 z2
  exact ⟨z1, z2.trans (fp_es_congr hok (fun i hi => by rw [va_up_ne _ _ (by omega)]))⟩
theorem fs_Ap.step {I Y : fo_Mi} {D E : fo_Md} {b np k x j : Nat} {kd par n : Nat → Nat} {v : Nat → Nat → Nat} (h : fs_Ap I D b k x np kd par n v j Y E) (hok : fp_kdok (kd j) (par j)) (h4 : k < 4) (hn8 : np ≤ 8) (hj : j < np) (hnd : fp_need (kd j) (par j) ≤ n k) :
    fs_Ap I D b k x np kd par n v (j + 1) (fo_r Y (b + 23 + 4 * j + 1) (upd (Y (b + 23 + 4 * j + 1)) k (nI (n k - fp_need (kd j) (par j) + 1)))) (fo_r E (b + 23 + 4 * j + 2) (vf_upd (E (b + 23 + 4 * j + 2)) k (FP.dadd (E (b + 23 + 4 * j + 2) k) (fp_err (kd j) (par j) (va_up (v k) (n k) x) (n k))))) := by
  have hat := h.rd hok hj
  obtain ⟨h1, h2, h3, h5, h6, h7, h8⟩ := h
  refine ⟨?_, ?_, ⟨?_, ?_⟩, ?_, ?_, ?_, ?_⟩
  · intro c hc; rw [fo_rn _ _ (by omega), fo_rn _ _ (by omega)]; exact h1 c hc
  · rw [fo_rn _ _ (by omega)]; exact h2
  · rw [fo_rn _ _ (by omega)]; exact h3.1
  · intro d hd; rw [fo_rn _ _ (by omega)]; exact h3.2 d hd
  · intro m hm hne
    rw [fo_rn _ _ (by omega), fo_rn _ _ (by omega)]; exact h5 m hm hne
  · intro p hp
    rw [fo_rn _ _ (by omega), fo_rn _ _ (by omega)]; exact h6 p hp
  · intro p hp m hm hne
    by_cases e : p = j
    · subst e; rw [fo_rs, fo_rs, pk_un hne]; exact ⟨(h7 p hp m hm hne).1, (if_neg hne).trans (h7 p hp m hm hne).2⟩
    · rw [fo_rn _ _ (by omega), fo_rn _ _ (by omega)]; exact h7 p hp m hm hne
  · intro p hp
    by_cases e : p = j
    · subst e
      rw [fo_rs, fo_rs, pk_us, if_pos (by omega), if_pos (by omega)]
      exact ⟨congrArg nI (by omega), (if_pos rfl).trans (by rw [hat.2, fp_es, if_pos hnd])⟩
    · obtain ⟨z1, z2⟩ := h8 p hp
      rw [fo_rn _ _ (by omega), fo_rn _ _ (by omega), z1, z2]
      by_cases e2 : p < j
      · rw [if_pos e2, if_pos e2, if_pos (by omega), if_pos (by omega)]; exact ⟨rfl, rfl⟩
      · rw [if_neg e2, if_neg e2, if_neg (by omega), if_neg (by omega)]; exact ⟨rfl, rfl⟩
/-- the end of a value's addition: the winner has the point -/
theorem fs_Ap.done {I Y Z : fo_Mi} {D E : fo_Md} {b np lim k x : Nat} {kd par n : Nat → Nat} {v : Nat → Nat → Nat} (hf : fs_F I D b np lim kd par n v) (h4 : k < 4) (h30 : n k < 30) (hx : x ≤ 999) (h : fs_Ap I D b k x np kd par n v np Y E)
    (z1 : ∀ c, (∀ p, p < np → c ≠ b + 23 + 4 * p + 3) → Z c = Y c) (z2 : ∀ p, p < np → ∀ m, m < 4 → Z (b + 23 + 4 * p + 3) m = if m = k ∧ fp_win np kd par (va_up (v k) (n k) x) (n k) = some p then nI (fp_pts np kd par (v k) p (n k) + 1) else Y (b + 23 + 4 * p + 3) m) :
    fs_F Z E b np lim kd par (va_up n k (n k + 1)) (va_up v k (va_up (v k) (n k) x)) ∧ fs_fr b I D Z E := by
  obtain ⟨⟨hk, ⟨ho1, ho2, ho4, ho5, ho6⟩, hnp, hlim, hP, hS⟩, hC, hH⟩ := hf
  obtain ⟨h1, h2, h3, h5, h6, h7, h8⟩ := h
  refine ⟨⟨⟨hk, ⟨ho1, ho2, ho4, ?_, ?_⟩, ?_, ?_, ?_, ?_⟩, ?_, ?_⟩, ?_⟩
  · intro m hm
    by_cases e : m = k
    · subst e; rw [va_up_self]; omega
    · rw [va_up_ne _ _ e]; exact ho5 m hm
  · intro m hm d hd
    by_cases e : m = k
    · subst e
      rw [va_up_self] at hd ⊢
      by_cases e2 : d = n m
      · subst e2; rw [va_up_self]; exact hx
      · rw [va_up_ne _ _ e2]; exact ho6 m hm d (by omega)
    · rw [va_up_ne _ _ e] at hd ⊢; exact ho6 m hm d hd
  · rw [z1 b (fun p hp => by omega), h2]; exact hnp
  · rw [z1 b (fun p hp => by omega), h2]; exact hlim
  · intro p hp
    rw [z1 _ (fun p hp => by omega), (h6 p (by omega)).1]; exact hP p hp
  · intro m hm
    rw [z1 _ (fun p hp => by omega), z1 (b + 3 + 5 * m + 1) (fun p hp => by omega)]
    by_cases e : m = k
    · subst e; rw [va_up_self, va_up_self]; exact h3
    · rw [va_up_ne _ _ e, va_up_ne _ _ e, (h5 m hm e).1, (h5 m hm e).2]; exact hS m hm
  · intro p hp m hm
    rw [z1 (b + 23 + 4 * p + 1) (fun p hp => by omega), z2 p hp m hm]
    by_cases e : m = k
    · subst e
      obtain ⟨y1, y2⟩ := h8 p hp
      rw [if_pos hp] at y1 y2
      rw [va_up_self, va_up_self]
      refine ⟨y1, y2, ?_⟩
      rw [fp_pts, ← fp_pts_congr (v := v m) (u := va_up (v m) (n m) x) ho4 (fun i hi => by rw [va_up_ne _ _ (by omega)])]
      by_cases e2 : fp_win np kd par (va_up (v m) (n m) x) (n m) = some p
      · rw [if_pos ⟨rfl, e2⟩, if_pos e2]
      · rw [if_neg (fun q => e2 q.2), if_neg e2, (h6 p (by omega)).2]; exact (hC p hp m hm).2.2
    · rw [va_up_ne _ _ e, va_up_ne _ _ e, if_neg (fun q => e q.1), (h6 p (by omega)).2, (h7 p hp m hm e).1, (h7 p hp m hm e).2]
      exact hC p hp m hm
  · intro p hp
    rw [z1 _ (fun p hp => by omega), (h6 p hp).1]; exact hH p hp
  · intro c hc
    rw [z1 c (fun p hp => by omega)]
    exact h1 c hc
/-- a state under way: the first i series and the first j prophets are another's -/
def fs_Cp (I : fo_Mi) (D : fo_Md) (b o i j : Nat) (Y : fo_Mi) (E : fo_Md) : Prop := (∀ c, (c < b ∨ b + 55 ≤ c) → Y c = I c ∧ E c = D c) ∧ (∀ m, m < i → Y (b + 3 + 5 * m) 1 = I (o + 3 + 5 * m) 1 ∧ ∀ d, d < 30 → Y (b + 3 + 5 * m + 1) d = I (o + 3 + 5 * m + 1) d) ∧ ∀ p, p < j → Y (b + 23 + 4 * p) 0 = I (o + 23 + 4 * p) 0 ∧ Y (b + 23 + 4 * p) 1 = I (o + 23 + 4 * p) 1 ∧ ∀ m, m < 4 → Y (b + 23 + 4 * p + 1) m = I (o + 23 + 4 * p + 1) m ∧ E (b + 23 + 4 * p + 2) m = D (o + 23 + 4 * p + 2) m ∧ Y (b + 23 + 4 * p + 3) m = I (o + 23 + 4 * p + 3) m
theorem fs_Cp.init {I : fo_Mi} {D : fo_Md} {b o : Nat} : fs_Cp I D b o 0 0 I D := ⟨fun _ _ => ⟨rfl, rfl⟩, fun m h => absurd h (Nat.not_lt_zero _), fun m h => absurd h (Nat.not_lt_zero _)⟩
theorem fs_Cp.series {I Y : fo_Mi} {D E : fo_Md} {b o i : Nat} (h : fs_Cp I D b o i 0 Y E) (hi : i < 4) (ha : o + 55 ≤ b ∨ b + 55 ≤ o) : fs_Cp I D b o (i + 1) 0 (fo_r (fo_r Y (b + 3 + 5 * i + 1) (va_cpy (Y (o + 3 + 5 * i + 1)) (Y (b + 3 + 5 * i + 1)) 0 0 30)) (b + 3 + 5 * i) (upd (Y (b + 3 + 5 * i)) 1 (Y (o + 3 + 5 * i) 1))) E := by
  obtain ⟨h1, h2, h3⟩ := h
  refine ⟨fun c hc => ?_, fun m hm => ?_, fun m h => absurd h (Nat.not_lt_zero _)⟩
  · rw [fo_rn _ _ (by omega), fo_rn _ _ (by omega)]; exact h1 c hc
  · by_cases e : m = i
    · subst e
      rw [fo_rs, pk_us, fo_rn _ _ (by omega), fo_rs, (h1 (o + 3 + 5 * m) (by omega)).1]
      refine ⟨rfl, fun d hd => ?_⟩
      rw [pk_cpy_in (by omega) (by omega), Nat.zero_add, Nat.sub_zero, (h1 (o + 3 + 5 * m + 1) (by omega)).1]
    · rw [fo_rn _ _ (by omega), fo_rn _ _ (by omega), fo_rn _ _ (by omega), fo_rn _ _ (by omega)]; exact h2 m (by omega)
theorem fs_Cp.prophet {I Y Z : fo_Mi} {D E F : fo_Md} {b o j : Nat} (h : fs_Cp I D b o 4 j Y E) (hj : j < 8) (ha : o + 55 ≤ b ∨ b + 55 ≤ o)
    (c1 : ∀ c, c ≠ b + 23 + 4 * j → c ≠ b + 23 + 4 * j + 1 → c ≠ b + 23 + 4 * j + 3 → Z c = Y c) (c2 : ∀ c, c ≠ b + 23 + 4 * j + 2 → F c = E c) (c3 : Z (b + 23 + 4 * j) 0 = Y (o + 23 + 4 * j) 0) (c4 : Z (b + 23 + 4 * j) 1 = Y (o + 23 + 4 * j) 1)
    (c5 : ∀ k, k < 4 → Z (b + 23 + 4 * j + 1) k = Y (o + 23 + 4 * j + 1) k ∧ F (b + 23 + 4 * j + 2) k = E (o + 23 + 4 * j + 2) k ∧ Z (b + 23 + 4 * j + 3) k = Y (o + 23 + 4 * j + 3) k) : fs_Cp I D b o 4 (j + 1) Z F := by
  obtain ⟨h1, h2, h3⟩ := h
  refine ⟨fun c hc => ?_, fun m hm => ?_, fun p hp => ?_⟩
  · rw [c1 c (by omega) (by omega) (by omega), c2 c (by omega)]; exact h1 c hc
  · rw [c1 _ (by omega) (by omega) (by omega), c1 (b + 3 + 5 * m + 1) (by omega) (by omega) (by omega)]; exact h2 m hm
  · by_cases e : p = j
    · subst e
      rw [c3, c4, (h1 (o + 23 + 4 * p) (by omega)).1]
      refine ⟨rfl, rfl, fun m hm => ?_⟩
      obtain ⟨z1, z2, z3⟩ := c5 m hm
      rw [z1, z2, z3, (h1 (o + 23 + 4 * p + 1) (by omega)).1, (h1 (o + 23 + 4 * p + 2) (by omega)).2, (h1 (o + 23 + 4 * p + 3) (by omega)).1]
      exact ⟨rfl, rfl, rfl⟩
    · rw [c1 (b + 23 + 4 * p) (by omega) (by omega) (by omega), c1 (b + 23 + 4 * p + 1) (by omega) (by omega) (by omega), c1 (b + 23 + 4 * p + 3) (by omega) (by omega) (by omega), c2 (b + 23 + 4 * p + 2) (by omega)]
      exact h3 p (by omega)
theorem fs_Cp.done {I Y : fo_Mi} {D E : fo_Md} {b o np lim : Nat} {kd par n : Nat → Nat} {v : Nat → Nat → Nat} (hf : fs_F I D o np lim kd par n v) (hb : fo_k b = 7) (h : fs_Cp I D b o 4 8 Y E) :
    fs_F (fo_r Y b (upd (upd (Y b) 2 (nI np)) 3 (nI lim))) E b np lim kd par n v ∧ fs_fr b I D (fo_r Y b (upd (upd (Y b) 2 (nI np)) 3 (nI lim))) E := by
  obtain ⟨⟨hk, ⟨ho1, ho2, ho4, ho5, ho6⟩, hnp, hlim, hP, hS⟩, hC, hH⟩ := hf
  obtain ⟨h1, h2, h3⟩ := h
  refine ⟨⟨⟨hb, ⟨ho1, ho2, ho4, ho5, ho6⟩, ?_, ?_, ?_, ?_⟩, ?_, ?_⟩, ?_⟩
  · rw [fo_rs, pk_un (by decide), pk_us]
  · rw [fo_rs, pk_us]
  · intro p hp
    rw [fo_rn _ _ (by omega), (h3 p (by omega)).1, (h3 p (by omega)).2.1]; exact hP p hp
  · intro m hm
    rw [fo_rn _ _ (by omega), fo_rn _ _ (by omega), (h2 m hm).1]
    exact ⟨(hS m hm).1, fun d hd => ((h2 m hm).2 d (by have := ho5 m hm; omega)).trans ((hS m hm).2 d hd)⟩
  · intro p hp m hm
    obtain ⟨z1, z2, z3⟩ := (h3 p (by omega)).2.2 m hm
    rw [fo_rn _ _ (by omega), fo_rn _ _ (by omega), z1, z2, z3]
    exact hC p hp m hm
  · intro p hp
    rw [fo_rn _ _ (by omega), (h3 p hp).1]; exact hH p hp
  · intro c hc
    rw [fo_rn _ _ (by omega)]; exact h1 c hc

set_option maxRecDepth 10000 in
set_option maxHeartbeats 4000000 in
theorem mX5_enlist {l : Launch} {Λ : fo_Lt} {I : fo_Mi} {D : fo_Md} {J : fo_Mj} {X : fo_Mi} {b np lim : Nat} {kd par n : Nat → Nat} {v : Nat → Nat → Nat} {w q : Nat} (hf : fs_F I D b np lim kd par n v) (h8 : np < 8) (h0 : fp_sum n 0 4 = 0) (hok : fp_kdok w q) : fk_i l yX5_enlist cX5_enlist 3 .int 2 44 Λ [.ref (Λ.2.2.1 b), .int (nI w), .int (nI q)] I D J X ((fun r I' D' J' X' => r = nI np ∧ fs_F I' D' b (np + 1) lim (va_up kd np w) (va_up par np q) n v ∧ fs_fr b I D I' D' ∧ J' = J)) := by
  obtain ⟨hk, ⟨ho1, ⟨ho2, ho3⟩, ho4, ho5, ho6⟩, hnp, hlim, hP, hS⟩ := id hf.1
  have ht := hf.1
  have hcc := hf.2.1
  refine fo_si (by decide) [(0, .ref (Λ.2.2.1 b)), (1, .int (nI w)), (2, .int (nI q))] rfl (Nat.le_of_ble_eq_true rfl) (fun K C fin => ?_)
  refine fo_aload_n C dX5_enlist_0 0 rfl rfl 1 rfl ?_
  refine fo_get C dX5_enlist_1 fK7 hk (by decide) 1 (by decide) fl_X5_19 (v := .ref (Λ.2.2.1 (b + 2))) rfl 4 rfl ?_
  refine fo_aload_n C dX5_enlist_4 0 rfl rfl 5 rfl ?_
  refine fo_get C dX5_enlist_5 fK7 hk (by decide) 2 (by decide) fl_X5_36 (v := .int (nI np)) (congrArg (fun x => some (Value.int x)) (hnp)) 8 rfl ?_
  refine fo_aaldP C dX5_enlist_8 (fo_T2k hk) (by rw [fo_T2n hk]; omega) (b + 23 + 4 * np) (by omega) 9 rfl ?_
  refine fo_iload_n C dX5_enlist_9 1 rfl rfl 10 rfl ?_
  refine fo_iload_n C dX5_enlist_10 2 rfl rfl 11 rfl ?_
  refine fo_qvv C dX5_enlist_11 (mX3_begin (fo_TPk hk (by omega)) hok) lv_X5_43 (fo_TPk hk (by omega)) rfl (by decide) rfl ⟨Nat.le_of_ble_eq_true rfl, Nat.le_of_ble_eq_true rfl⟩ ⟨Nat.le_of_ble_eq_true rfl, Nat.le_of_ble_eq_true rfl⟩ [] rfl (Nat.le_of_ble_eq_true rfl) 14 rfl (fun I2 D3 J4 X5 p6 => ?_)
  obtain ⟨c1, c2, c3, c4, c5, rfl, rfl⟩ := p6
  refine fo_aload_n C dX5_enlist_14 0 rfl rfl 15 rfl ?_
  refine fo_dup C dX5_enlist_15 rfl 16 rfl ?_
  refine fo_get C dX5_enlist_16 fK7 hk (by decide) 2 (by decide) fl_X5_36 (v := .int (nI np)) (congrArg (fun x => some (Value.int x)) ((by rw [c1 b (by omega) (by omega) (by omega)]; exact hnp))) 19 rfl ?_
  refine fo_iconst C dX5_enlist_19 (nI 1) ki_1 20 rfl ?_
  refine fo_iadd C dX5_enlist_20 (nI (np + 1)) (nI_add _ _) 21 rfl ?_
  refine fo_put C dX5_enlist_21 fK7 hk (by decide) 2 (by decide) fl_X5_36 rfl rfl rfl rfl (Nat.le_of_ble_eq_true rfl) 24 rfl ?_
  refine fo_aload_n C dX5_enlist_24 0 rfl rfl 25 rfl ?_
  refine fo_get C dX5_enlist_25 fK7 hk (by decide) 2 (by decide) fl_X5_36 (v := .int (nI (np + 1))) (congrArg (fun x => some (Value.int x)) ((by rw [fo_rs, pk_us]))) 28 rfl ?_
  refine fo_iconst C dX5_enlist_28 (nI 1) ki_1 29 rfl ?_
  refine fo_isub C dX5_enlist_29 (nI ((np + 1) - 1)) (pk_sub (by omega)) 30 rfl ?_
  exact fin dX5_enlist_30 rfl (⟨congrArg nI (by omega), (fs_enl hf h8 h0 hok c1 c2 c3 c4 c5).1, (fs_enl hf h8 h0 hok c1 c2 c3 c4 c5).2, rfl⟩)
set_option maxRecDepth 10000 in
set_option maxHeartbeats 4000000 in
theorem mX5_wipe {l : Launch} {Λ : fo_Lt} {I : fo_Mi} {D : fo_Md} {J : fo_Mj} {X : fo_Mi} {b np lim : Nat} {kd par n : Nat → Nat} {v : Nat → Nat → Nat} {k : Nat} (h4 : k < 4) (hf : fs_F I D b np lim kd par n v) : fk_v l yX5_wipe cX5_wipe 3 1 21 Λ [.ref (Λ.2.2.1 b), .int (nI k)] I D J X ((fun I' D' J' X' => fs_F I' D' b np lim kd par (va_up n k 0) v ∧ fs_fr b I D I' D' ∧ J' = J)) := by
  obtain ⟨hk, ⟨ho1, ⟨ho2, ho3⟩, ho4, ho5, ho6⟩, hnp, hlim, hP, hS⟩ := id hf.1
  have ht := hf.1
  have hcc := hf.2.1
  refine fo_sv (by decide) [(0, .ref (Λ.2.2.1 b)), (1, .int (nI k))] rfl (Nat.le_of_ble_eq_true rfl) (fun K C fin => ?_)
  refine fo_aload_n C dX5_wipe_0 0 rfl rfl 1 rfl ?_
  refine fo_get C dX5_wipe_1 fK7 hk (by decide) 0 (by decide) fl_X5_11 (v := .ref (Λ.2.2.1 (b + 1))) rfl 4 rfl ?_
  refine fo_iload_n C dX5_wipe_4 1 rfl rfl 5 rfl ?_
  refine fo_aaldS C dX5_wipe_5 (fo_T1k hk) (by rw [fo_T1n hk]; omega) (b + 3 + 5 * k) (by omega) 6 rfl ?_
  refine fo_iconst C dX5_wipe_6 (nI 0) ki_0 7 rfl ?_
  refine fo_put C dX5_wipe_7 fK6 (fo_TSk hk (by omega)) (by decide) 1 (by decide) fl_X5_67 rfl rfl rfl rfl (Nat.le_of_ble_eq_true rfl) 10 rfl ?_
  refine fo_iconst C dX5_wipe_10 (nI 0) ki_0 11 rfl ?_
  refine fo_istore_n C dX5_wipe_11 rfl [(2, .int (nI 0)), (0, .ref (Λ.2.2.1 b)), (1, .int (nI k))] rfl (by decide) 12 rfl ?_
  have hL12 : ∀ (m12 : Nat) (i : Nat) (Y : fo_Mi) (E : fo_Md), np + 1 - i < m12 → i ≤ np → fs_Wp I D b k np i Y E → fo_G l Λ { frames := 1, cells := 0, slots := 0, locals := 21 } K 0 0 12 [(2, .int (nI i)), (0, .ref (Λ.2.2.1 b)), (1, .int (nI k))] [] Y E J X := by
    intro m12
    induction m12 with
    | zero => intro i Y E hm; exact absurd hm (Nat.not_lt_zero _)
    | succ m12 ih12 =>
      intro i Y E hm12 hi hw
      refine fo_iload_n C dX5_wipe_12 0 rfl rfl 13 rfl ?_
      refine fo_aload_n C dX5_wipe_13 1 rfl rfl 14 rfl ?_
      refine fo_get C dX5_wipe_14 fK7 hk (by decide) 2 (by decide) fl_X5_36 (v := .int (nI np)) (congrArg (fun x => some (Value.int x)) ((by rw [hw.1 b (by omega) (by omega)]; exact hnp))) 17 rfl ?_
      refine fo_ncmp_ge C (by omega) (by omega) dX5_wipe_17 36 (by decide) 20 rfl (fun c1 => ?_) (fun c1 => ?_)
      · exact fin dX5_wipe_36 ((by rw [show i = np by omega] at hw; exact ⟨(fs_Wp.done hf h4 hw (fun _ _ => trivial)).1, (fs_Wp.done hf h4 hw (fun _ _ => trivial)).2, rfl⟩))
      · refine fo_aload_n C dX5_wipe_20 1 rfl rfl 21 rfl ?_
        refine fo_get C dX5_wipe_21 fK7 hk (by decide) 1 (by decide) fl_X5_19 (v := .ref (Λ.2.2.1 (b + 2))) rfl 24 rfl ?_
        refine fo_iload_n C dX5_wipe_24 0 rfl rfl 25 rfl ?_
        refine fo_aaldP C dX5_wipe_25 (fo_T2k hk) (by rw [fo_T2n hk]; omega) (b + 23 + 4 * i) (by omega) 26 rfl ?_
        refine fo_iload_n C dX5_wipe_26 2 rfl rfl 27 rfl ?_
        refine fo_qvv C dX5_wipe_27 (mX3_wipeScores (k := k) h4 (fo_TPk hk (by omega))) lv_X5_70 (fo_TPk hk (by omega)) rfl (by decide) rfl ⟨Nat.le_of_ble_eq_true rfl, Nat.le_of_ble_eq_true rfl⟩ ⟨Nat.le_of_ble_eq_true rfl, Nat.le_of_ble_eq_true rfl⟩ [] rfl (Nat.le_of_ble_eq_true rfl) 30 rfl (fo_erv ?_)
        refine fo_iinc C dX5_wipe_30 0 rfl (nI (i + 1)) (nI_inc1 _) [(2, .int (nI (i + 1))), (0, .ref (Λ.2.2.1 b)), (1, .int (nI k))] rfl (by decide) 33 rfl ?_
        refine fo_goto C dX5_wipe_33 12 (by decide) ?_
        exact ih12 (i + 1) (fo_r (fo_r Y (b + 23 + 4 * i + 1) (upd (Y (b + 23 + 4 * i + 1)) k (nI 0))) (b + 23 + 4 * i + 3) (upd (Y (b + 23 + 4 * i + 3)) k (nI 0))) (fo_r E (b + 23 + 4 * i + 2) (vf_upd (E (b + 23 + 4 * i + 2)) k FP.dconst0)) (by omega) (by omega) (hw.step h4 ho1 (by omega))
  exact hL12 (np + 1 + 1) 0 (fo_r I (b + 3 + 5 * k) (upd (I (b + 3 + 5 * k)) 1 (nI (0)))) (D) (by omega) (by omega) (fs_Wp.init h4)
set_option maxRecDepth 10000 in
set_option maxHeartbeats 4000000 in
theorem mX5_append {l : Launch} {Λ : fo_Lt} {I : fo_Mi} {D : fo_Md} {J : fo_Mj} {X : fo_Mi} {b np lim : Nat} {kd par n : Nat → Nat} {v : Nat → Nat → Nat} {k x : Nat} (h4 : k < 4) (h30 : n k < 30) (hx : x ≤ 999) (hf : fs_F I D b np lim kd par n v) : fk_i l yX5_append cX5_append 12 .int 3 72 Λ [.ref (Λ.2.2.1 b), .int (nI k), .int (nI x)] I D J X ((fun r I' D' J' X' => r = nI (n k) ∧ fs_F I' D' b np lim kd par (va_up n k (n k + 1)) (va_up v k (va_up (v k) (n k) x)) ∧ fs_fr b I D I' D' ∧ J' = J)) := by
  obtain ⟨hk, ⟨ho1, ⟨ho2, ho3⟩, ho4, ho5, ho6⟩, hnp, hlim, hP, hS⟩ := id hf.1
  have ht := hf.1
  have hcc := hf.2.1
  have hnk := ho5 k h4
  refine fo_si (by decide) [(0, .ref (Λ.2.2.1 b)), (1, .int (nI k)), (2, .int (nI x))] rfl (Nat.le_of_ble_eq_true rfl) (fun K C fin => ?_)
  refine fo_aload_n C dX5_append_0 0 rfl rfl 1 rfl ?_
  refine fo_get C dX5_append_1 fK7 hk (by decide) 0 (by decide) fl_X5_11 (v := .ref (Λ.2.2.1 (b + 1))) rfl 4 rfl ?_
  refine fo_iload_n C dX5_append_4 1 rfl rfl 5 rfl ?_
  refine fo_aaldS C dX5_append_5 (fo_T1k hk) (by rw [fo_T1n hk]; omega) (b + 3 + 5 * k) (by omega) 6 rfl ?_
  refine fo_astore_n C dX5_append_6 rfl [(3, .ref (Λ.2.2.1 (b + 3 + 5 * k))), (0, .ref (Λ.2.2.1 b)), (1, .int (nI k)), (2, .int (nI x))] rfl (by decide) 7 rfl ?_
  refine fo_aload_n C dX5_append_7 0 rfl rfl 8 rfl ?_
  refine fo_iload_n C dX5_append_8 3 rfl rfl 9 rfl ?_
  refine fo_qvi C dX5_append_9 (mX4_add (x := x) h30 (ht.S h4)) lv_X5_47 (fo_TSk hk (by omega)) rfl (by decide) rfl ⟨Nat.le_of_ble_eq_true rfl, Nat.le_of_ble_eq_true rfl⟩ ⟨Nat.le_of_ble_eq_true rfl, Nat.le_of_ble_eq_true rfl⟩ [] rfl (Nat.le_of_ble_eq_true rfl) 12 rfl (fo_er ?_)
  refine fo_istore C dX5_append_12 [(4, .int (nI (n k))), (3, .ref (Λ.2.2.1 (b + 3 + 5 * k))), (0, .ref (Λ.2.2.1 b)), (1, .int (nI k)), (2, .int (nI x))] rfl (by decide) 14 rfl ?_
  refine fo_iconst C dX5_append_14 (-1) (by decide) 15 rfl ?_
  refine fo_istore C dX5_append_15 [(5, .int (-1)), (4, .int (nI (n k))), (3, .ref (Λ.2.2.1 (b + 3 + 5 * k))), (0, .ref (Λ.2.2.1 b)), (1, .int (nI k)), (2, .int (nI x))] rfl (by decide) 17 rfl ?_
  refine fo_dconst0 C dX5_append_17 18 rfl ?_
  refine fo_dstore C dX5_append_18 [(6, .double (FP.dconst0)), (5, .int (-1)), (4, .int (nI (n k))), (3, .ref (Λ.2.2.1 (b + 3 + 5 * k))), (0, .ref (Λ.2.2.1 b)), (1, .int (nI k)), (2, .int (nI x))] rfl (by decide) 20 rfl ?_
  refine fo_iconst C dX5_append_20 (nI 0) ki_0 21 rfl ?_
  refine fo_istore C dX5_append_21 [(8, .int (nI 0)), (6, .double (FP.dconst0)), (5, .int (-1)), (4, .int (nI (n k))), (3, .ref (Λ.2.2.1 (b + 3 + 5 * k))), (0, .ref (Λ.2.2.1 b)), (1, .int (nI k)), (2, .int (nI x))] rfl (by decide) 23 rfl ?_
  have hL23 : ∀ (m23 : Nat) (j : Nat) (sm : UInt64) (Y : fo_Mi) (E : fo_Md) (Z : fo_Mi), np + 1 - j < m23 → j ≤ np → (∀ o, fp_lst (fun p => decide (fp_need (kd p) (par p) ≤ n k)) (fun p => fp_err (kd p) (par p) (va_up (v k) (n k) x) (n k)) j = some o → sm = fp_err (kd o) (par o) (va_up (v k) (n k) x) (n k)) → fs_Ap I D b k x np kd par n v j Y E → fo_G l Λ { frames := 3, cells := 0, slots := 0, locals := 72 } K 0 0 23 [(8, .int (nI j)), (6, .double (sm)), (5, .int (fo_ow (fp_lst (fun p => decide (fp_need (kd p) (par p) ≤ n k)) (fun p => fp_err (kd p) (par p) (va_up (v k) (n k) x) (n k)) j))), (4, .int (nI (n k))), (3, .ref (Λ.2.2.1 (b + 3 + 5 * k))), (0, .ref (Λ.2.2.1 b)), (1, .int (nI k)), (2, .int (nI x))] [] Y E J Z := by
    intro m23
    induction m23 with
    | zero => intro j sm Y E Z hm; exact absurd hm (Nat.not_lt_zero _)
    | succ m23 ih23 =>
      intro j sm Y E Z hm23 hj hw ha
      refine fo_iload C dX5_append_23 0 rfl 25 rfl ?_
      refine fo_aload_n C dX5_append_25 5 rfl rfl 26 rfl ?_
      refine fo_get C dX5_append_26 fK7 hk (by decide) 2 (by decide) fl_X5_36 (v := .int (nI np)) (congrArg (fun x => some (Value.int x)) ((by rw [ha.2.1]; exact hnp))) 29 rfl ?_
      refine fo_ncmp_ge C (by omega) (by omega) dX5_append_29 100 (by decide) 32 rfl (fun c7 => ?_) (fun c7 => ?_)
      · refine fo_iload C dX5_append_100 2 rfl 102 rfl ?_
        have ej : np = j := by omega
        subst ej
        rcases ho : fp_lst (fun p => decide (fp_need (kd p) (par p) ≤ n k)) (fun p => fp_err (kd p) (par p) (va_up (v k) (n k) x) (n k)) np with _ | o
        · refine fo_iconst C dX5_append_102 (-1) (by decide) 103 rfl ?_
          refine fo_icmp_eq C dX5_append_103 122 (by decide) 106 rfl (fun c8 => ?_) (fun c8 => ?_)
          · refine fo_iload C dX5_append_122 3 rfl 124 rfl ?_
            exact fin dX5_append_124 rfl ((by have hdn := fs_Ap.done hf h4 h30 hx ha (Z := Y) (fun c hc => rfl) (fun p hp m hm => by rw [if_neg (fun q => by rw [show fp_win np kd par (va_up (v k) (n k) x) (n k) = none from ho] at q; cases q.2)]); exact ⟨rfl, hdn.1, hdn.2, rfl⟩))
          · exact absurd rfl c8
        · have hoin := fp_lst_in ho
          refine fo_iconst C dX5_append_102 (-1) (by decide) 103 rfl ?_
          refine fo_icmp_eq C dX5_append_103 122 (by decide) 106 rfl (fun c9 => ?_) (fun c9 => ?_)
          · exact absurd c9 (fo_ow_ne (by have := (fp_lst_in ho).1; omega))
          · refine fo_aload_n C dX5_append_106 5 rfl rfl 107 rfl ?_
            refine fo_get C dX5_append_107 fK7 hk (by decide) 1 (by decide) fl_X5_19 (v := .ref (Λ.2.2.1 (b + 2))) rfl 110 rfl ?_
            refine fo_iload C dX5_append_110 2 rfl 112 rfl ?_
            refine fo_aaldP C dX5_append_112 (fo_T2k hk) (by rw [fo_T2n hk]; omega) (b + 23 + 4 * o) (by omega) 113 rfl ?_
            refine fo_get C dX5_append_113 fK5 (fo_TPk hk (by omega)) (by decide) 4 (by decide) fl_X5_63 (v := .ref (Λ.2.2.1 (b + 23 + 4 * o + 3))) rfl 116 rfl ?_
            refine fo_iload_n C dX5_append_116 6 rfl rfl 117 rfl ?_
            refine fo_dup2 C dX5_append_117 rfl rfl 118 rfl ?_
            refine fo_iald C dX5_append_118 (fo_P3k (fo_TPk hk (by omega))) (by rw [fo_P3n (fo_TPk hk (by omega))]; omega) (nI (fp_pts np kd par (v k) o (n k))) ((by rw [(ha.2.2.2.2.1 o (by omega)).2]; exact (hcc o (by omega) k h4).2.2)) 119 rfl ?_
            refine fo_iconst C dX5_append_119 (nI 1) ki_1 120 rfl ?_
            refine fo_iadd C dX5_append_120 (nI ((fp_pts np kd par (v k) o (n k)) + 1)) (nI_add _ _) 121 rfl ?_
            refine fo_iast C dX5_append_121 (fo_P3k (fo_TPk hk (by omega))) (by rw [fo_P3n (fo_TPk hk (by omega))]; omega) 122 rfl ?_
            refine fo_iload C dX5_append_122 3 rfl 124 rfl ?_
            exact fin dX5_append_124 rfl ((by have hdn := fs_Ap.done hf h4 h30 hx ha (Z := fo_r Y (b + 23 + 4 * o + 3) (upd (Y (b + 23 + 4 * o + 3)) (k) (nI ((fp_pts np kd par (v k) o (n k)) + 1)))) (fun c hc => fo_rn _ _ (hc o hoin.1)) (fun p hp m hm => by by_cases e1 : p = o; (subst e1; rw [fo_rs]; by_cases e2 : m = k; (rw [e2, pk_us, if_pos ⟨rfl, ho⟩]); (rw [pk_un e2, if_neg (fun q => e2 q.1)])); (rw [fo_rn _ _ (by omega), if_neg (fun q => by rw [show fp_win np kd par (va_up (v k) (n k) x) (n k) = some o from ho] at q; cases q.2; exact e1 rfl)])); exact ⟨rfl, hdn.1, hdn.2, rfl⟩))
      · refine fo_aload_n C dX5_append_32 5 rfl rfl 33 rfl ?_
        refine fo_get C dX5_append_33 fK7 hk (by decide) 1 (by decide) fl_X5_19 (v := .ref (Λ.2.2.1 (b + 2))) rfl 36 rfl ?_
        refine fo_iload C dX5_append_36 0 rfl 38 rfl ?_
        refine fo_aaldP C dX5_append_38 (fo_T2k hk) (by rw [fo_T2n hk]; omega) (b + 23 + 4 * j) (by omega) 39 rfl ?_
        refine fo_astore C dX5_append_39 [(9, .ref (Λ.2.2.1 (b + 23 + 4 * j))), (8, .int (nI j)), (6, .double (sm)), (5, .int (fo_ow (fp_lst (fun p => decide (fp_need (kd p) (par p) ≤ n k)) (fun p => fp_err (kd p) (par p) (va_up (v k) (n k) x) (n k)) j))), (4, .int (nI (n k))), (3, .ref (Λ.2.2.1 (b + 3 + 5 * k))), (0, .ref (Λ.2.2.1 b)), (1, .int (nI k)), (2, .int (nI x))] rfl (by decide) 41 rfl ?_
        refine fo_aload C dX5_append_41 0 rfl 43 rfl ?_
        refine fo_iload C dX5_append_43 4 rfl 45 rfl ?_
        refine fo_qvi C dX5_append_45 (mX3_foresees (d := n k) (by omega) (ha.P hf (by omega))) lv_X5_51 (fo_TPk hk (by omega)) rfl (by decide) rfl ⟨Nat.le_of_ble_eq_true rfl, Nat.le_of_ble_eq_true rfl⟩ ⟨Nat.le_of_ble_eq_true rfl, Nat.le_of_ble_eq_true rfl⟩ [] rfl (Nat.le_of_ble_eq_true rfl) 48 rfl (fo_er ?_)
        have hnd := fp_need_in (ho4 j (by omega))
        refine fo_bif_ne C dX5_append_48 54 (by decide) 51 rfl (fun c16 => ?_) (fun c16 => ?_)
        · have hfo : fp_need (kd j) (par j) ≤ n k := by first | exact of_decide_eq_true c16 | omega | (simp at c16; omega)
          refine fo_aload C dX5_append_54 0 rfl 56 rfl ?_
          refine fo_aload_n C dX5_append_56 5 rfl rfl 57 rfl ?_
          refine fo_iload C dX5_append_57 4 rfl 59 rfl ?_
          refine fo_qvd C dX5_append_59 (mX3_errorOn (d := n k) hfo (by omega) (ha.S hf h4 h30 hx) (ha.P hf (by omega))) lv_X5_55 (fo_TPk hk (by omega)) rfl (by decide) rfl ⟨Nat.le_of_ble_eq_true rfl, Nat.le_of_ble_eq_true rfl⟩ ⟨Nat.le_of_ble_eq_true rfl, Nat.le_of_ble_eq_true rfl⟩ [] rfl (Nat.le_of_ble_eq_true rfl) 62 rfl (fo_es (fun X21 => ?_))
          refine fo_dstore C dX5_append_62 [(10, .double (fp_err (kd j) (par j) (va_up (v k) (n k) x) (n k))), (9, .ref (Λ.2.2.1 (b + 23 + 4 * j))), (8, .int (nI j)), (6, .double (sm)), (5, .int (fo_ow (fp_lst (fun p => decide (fp_need (kd p) (par p) ≤ n k)) (fun p => fp_err (kd p) (par p) (va_up (v k) (n k) x) (n k)) j))), (4, .int (nI (n k))), (3, .ref (Λ.2.2.1 (b + 3 + 5 * k))), (0, .ref (Λ.2.2.1 b)), (1, .int (nI k)), (2, .int (nI x))] rfl (by decide) 64 rfl ?_
          refine fo_aload C dX5_append_64 1 rfl 66 rfl ?_
          refine fo_iload_n C dX5_append_66 8 rfl rfl 67 rfl ?_
          refine fo_dload C dX5_append_67 0 rfl 69 rfl ?_
          refine fo_qvv C dX5_append_69 (mX3_addError (kd := 0) (par := 0) (c := n k - fp_need (kd j) (par j)) (e := fp_err (kd j) (par j) (va_up (v k) (n k) x) (n k)) h4 (by omega) (by rw [(ha.rd (ho4 j (by omega)) (by omega)).2]; exact fd_ok (K := 1302 + 2 * (n k) + 2) (fd_add (K := 1302 + 2 * (n k)) (fd_es (ho4 j (by omega)) (va_up (v k) (n k) x) (n k) (by omega)) (fd_up (fd_err (ho4 j (by omega)) (va_up (v k) (n k) x) (by omega)) (by omega)) (by omega)) (by omega)) (fo_TPk hk (by omega)) (ha.rd (ho4 j (by omega)) (by omega)).1) lv_X5_59 (fo_TPk hk (by omega)) rfl (by decide) rfl ⟨Nat.le_of_ble_eq_true rfl, Nat.le_of_ble_eq_true rfl⟩ ⟨Nat.le_of_ble_eq_true rfl, Nat.le_of_ble_eq_true rfl⟩ [] rfl (Nat.le_of_ble_eq_true rfl) 72 rfl (fo_erv ?_)
          refine fo_iload C dX5_append_72 4 rfl 74 rfl ?_
          rcases ho : fp_lst (fun p => decide (fp_need (kd p) (par p) ≤ n k)) (fun p => fp_err (kd p) (par p) (va_up (v k) (n k) x) (n k)) j with _ | o
          · refine fo_iconst C dX5_append_74 (-1) (by decide) 75 rfl ?_
            refine fo_icmp_eq C dX5_append_75 86 (by decide) 78 rfl (fun c29 => ?_) (fun c29 => ?_)
            · refine fo_iload C dX5_append_86 2 rfl 88 rfl ?_
              refine fo_istore C dX5_append_88 [(5, .int (nI j)), (10, .double (fp_err (kd j) (par j) (va_up (v k) (n k) x) (n k))), (9, .ref (Λ.2.2.1 (b + 23 + 4 * j))), (8, .int (nI j)), (6, .double (sm)), (4, .int (nI (n k))), (3, .ref (Λ.2.2.1 (b + 3 + 5 * k))), (0, .ref (Λ.2.2.1 b)), (1, .int (nI k)), (2, .int (nI x))] rfl (by decide) 90 rfl ?_
              refine fo_dload C dX5_append_90 1 rfl 92 rfl ?_
              refine fo_dstore C dX5_append_92 [(6, .double (fp_err (kd j) (par j) (va_up (v k) (n k) x) (n k))), (5, .int (nI j)), (10, .double (fp_err (kd j) (par j) (va_up (v k) (n k) x) (n k))), (9, .ref (Λ.2.2.1 (b + 23 + 4 * j))), (8, .int (nI j)), (4, .int (nI (n k))), (3, .ref (Λ.2.2.1 (b + 3 + 5 * k))), (0, .ref (Λ.2.2.1 b)), (1, .int (nI k)), (2, .int (nI x))] rfl (by decide) 94 rfl ?_
              have e9 : fp_lst (fun p => decide (fp_need (kd p) (par p) ≤ n k)) (fun p => fp_err (kd p) (par p) (va_up (v k) (n k) x) (n k)) (j + 1) = some j := by rw [fp_lst, if_pos (decide_eq_true (by omega)), ho]
              have hw9 : ∀ o, fp_lst (fun p => decide (fp_need (kd p) (par p) ≤ n k)) (fun p => fp_err (kd p) (par p) (va_up (v k) (n k) x) (n k)) (j + 1) = some o → fp_err (kd j) (par j) (va_up (v k) (n k) x) (n k) = fp_err (kd o) (par o) (va_up (v k) (n k) x) (n k) := by rw [e9]; intro o2 h2; cases h2; rfl
              have ha9 := ha.step (ho4 j (by omega)) h4 ho1 (by omega) hfo
              refine fo_iinc C dX5_append_94 4 rfl (nI (j + 1)) (nI_inc1 _) [(8, .int (nI (j + 1))), (6, .double (fp_err (kd j) (par j) (va_up (v k) (n k) x) (n k))), (5, .int (nI j)), (10, .double (fp_err (kd j) (par j) (va_up (v k) (n k) x) (n k))), (9, .ref (Λ.2.2.1 (b + 23 + 4 * j))), (4, .int (nI (n k))), (3, .ref (Λ.2.2.1 (b + 3 + 5 * k))), (0, .ref (Λ.2.2.1 b)), (1, .int (nI k)), (2, .int (nI x))] rfl (by decide) 97 rfl ?_
              refine fo_goto C dX5_append_97 23 (by decide) ?_
              refine fo_sub C [0, 1, 2, 5, 6, 7, 8, 9] (lv' := [(8, .int (nI (j + 1))), (6, .double (fp_err (kd j) (par j) (va_up (v k) (n k) x) (n k))), (5, .int (nI j)), (4, .int (nI (n k))), (3, .ref (Λ.2.2.1 (b + 3 + 5 * k))), (0, .ref (Λ.2.2.1 b)), (1, .int (nI k)), (2, .int (nI x))]) rfl ?_
              have ih9 := ih23 (j + 1) (fp_err (kd j) (par j) (va_up (v k) (n k) x) (n k)) (fo_r Y (b + 23 + 4 * j + 1) (upd (Y (b + 23 + 4 * j + 1)) k (nI (n k - fp_need (kd j) (par j) + 1)))) (fo_r E (b + 23 + 4 * j + 2) (vf_upd (E (b + 23 + 4 * j + 2)) k (FP.dadd (E (b + 23 + 4 * j + 2) k) (fp_err (kd j) (par j) (va_up (v k) (n k) x) (n k))))) (X21) (by omega) (by omega) hw9 ha9
              rw [e9] at ih9
              exact ih9
            · exact absurd rfl c29
          · refine fo_iconst C dX5_append_74 (-1) (by decide) 75 rfl ?_
            refine fo_icmp_eq C dX5_append_75 86 (by decide) 78 rfl (fun c30 => ?_) (fun c30 => ?_)
            · exact absurd c30 (fo_ow_ne (by have := (fp_lst_in ho).1; omega))
            · refine fo_dload C dX5_append_78 0 rfl 80 rfl ?_
              refine fo_dload C dX5_append_80 3 rfl 82 rfl ?_
              refine fo_dcmp C dX5_append_82 83 rfl ?_
              refine fo_if_ge C dX5_append_83 94 (by decide) 86 rfl (fun c31 => ?_) (fun c31 => ?_)
              · have e9 : fp_lst (fun p => decide (fp_need (kd p) (par p) ≤ n k)) (fun p => fp_err (kd p) (par p) (va_up (v k) (n k) x) (n k)) (j + 1) = some o := by rw [fp_lst, if_pos (decide_eq_true (by omega)), ho]; show (if fp_lt (fp_err (kd j) (par j) (va_up (v k) (n k) x) (n k)) (fp_err (kd o) (par o) (va_up (v k) (n k) x) (n k)) = true then some j else some o) = some o; exact if_neg (by rw [← hw o ho, fp_lt_f (by assumption)]; decide)
                have hw9 : ∀ o, fp_lst (fun p => decide (fp_need (kd p) (par p) ≤ n k)) (fun p => fp_err (kd p) (par p) (va_up (v k) (n k) x) (n k)) (j + 1) = some o → sm = fp_err (kd o) (par o) (va_up (v k) (n k) x) (n k) := by rw [e9]; intro o2 h2; exact hw o2 (ho.trans h2)
                have ha9 := ha.step (ho4 j (by omega)) h4 ho1 (by omega) hfo
                refine fo_iinc C dX5_append_94 2 rfl (nI (j + 1)) (nI_inc1 _) [(8, .int (nI (j + 1))), (10, .double (fp_err (kd j) (par j) (va_up (v k) (n k) x) (n k))), (9, .ref (Λ.2.2.1 (b + 23 + 4 * j))), (6, .double (sm)), (5, .int (nI o)), (4, .int (nI (n k))), (3, .ref (Λ.2.2.1 (b + 3 + 5 * k))), (0, .ref (Λ.2.2.1 b)), (1, .int (nI k)), (2, .int (nI x))] rfl (by decide) 97 rfl ?_
                refine fo_goto C dX5_append_97 23 (by decide) ?_
                refine fo_sub C [0, 3, 4, 5, 6, 7, 8, 9] (lv' := [(8, .int (nI (j + 1))), (6, .double (sm)), (5, .int (nI o)), (4, .int (nI (n k))), (3, .ref (Λ.2.2.1 (b + 3 + 5 * k))), (0, .ref (Λ.2.2.1 b)), (1, .int (nI k)), (2, .int (nI x))]) rfl ?_
                have ih9 := ih23 (j + 1) (sm) (fo_r Y (b + 23 + 4 * j + 1) (upd (Y (b + 23 + 4 * j + 1)) k (nI (n k - fp_need (kd j) (par j) + 1)))) (fo_r E (b + 23 + 4 * j + 2) (vf_upd (E (b + 23 + 4 * j + 2)) k (FP.dadd (E (b + 23 + 4 * j + 2) k) (fp_err (kd j) (par j) (va_up (v k) (n k) x) (n k))))) (X21) (by omega) (by omega) hw9 ha9
                rw [e9] at ih9
                exact ih9
              · refine fo_iload C dX5_append_86 2 rfl 88 rfl ?_
                refine fo_istore C dX5_append_88 [(5, .int (nI j)), (10, .double (fp_err (kd j) (par j) (va_up (v k) (n k) x) (n k))), (9, .ref (Λ.2.2.1 (b + 23 + 4 * j))), (8, .int (nI j)), (6, .double (sm)), (4, .int (nI (n k))), (3, .ref (Λ.2.2.1 (b + 3 + 5 * k))), (0, .ref (Λ.2.2.1 b)), (1, .int (nI k)), (2, .int (nI x))] rfl (by decide) 90 rfl ?_
                refine fo_dload C dX5_append_90 1 rfl 92 rfl ?_
                refine fo_dstore C dX5_append_92 [(6, .double (fp_err (kd j) (par j) (va_up (v k) (n k) x) (n k))), (5, .int (nI j)), (10, .double (fp_err (kd j) (par j) (va_up (v k) (n k) x) (n k))), (9, .ref (Λ.2.2.1 (b + 23 + 4 * j))), (8, .int (nI j)), (4, .int (nI (n k))), (3, .ref (Λ.2.2.1 (b + 3 + 5 * k))), (0, .ref (Λ.2.2.1 b)), (1, .int (nI k)), (2, .int (nI x))] rfl (by decide) 94 rfl ?_
                have e9 : fp_lst (fun p => decide (fp_need (kd p) (par p) ≤ n k)) (fun p => fp_err (kd p) (par p) (va_up (v k) (n k) x) (n k)) (j + 1) = some j := by rw [fp_lst, if_pos (decide_eq_true (by omega)), ho]; show (if fp_lt (fp_err (kd j) (par j) (va_up (v k) (n k) x) (n k)) (fp_err (kd o) (par o) (va_up (v k) (n k) x) (n k)) = true then some j else some o) = some j; exact if_pos (by rw [← hw o ho]; exact fp_lt_t (by assumption))
                have hw9 : ∀ o, fp_lst (fun p => decide (fp_need (kd p) (par p) ≤ n k)) (fun p => fp_err (kd p) (par p) (va_up (v k) (n k) x) (n k)) (j + 1) = some o → fp_err (kd j) (par j) (va_up (v k) (n k) x) (n k) = fp_err (kd o) (par o) (va_up (v k) (n k) x) (n k) := by rw [e9]; intro o2 h2; cases h2; rfl
                have ha9 := ha.step (ho4 j (by omega)) h4 ho1 (by omega) hfo
                refine fo_iinc C dX5_append_94 4 rfl (nI (j + 1)) (nI_inc1 _) [(8, .int (nI (j + 1))), (6, .double (fp_err (kd j) (par j) (va_up (v k) (n k) x) (n k))), (5, .int (nI j)), (10, .double (fp_err (kd j) (par j) (va_up (v k) (n k) x) (n k))), (9, .ref (Λ.2.2.1 (b + 23 + 4 * j))), (4, .int (nI (n k))), (3, .ref (Λ.2.2.1 (b + 3 + 5 * k))), (0, .ref (Λ.2.2.1 b)), (1, .int (nI k)), (2, .int (nI x))] rfl (by decide) 97 rfl ?_
                refine fo_goto C dX5_append_97 23 (by decide) ?_
                refine fo_sub C [0, 1, 2, 5, 6, 7, 8, 9] (lv' := [(8, .int (nI (j + 1))), (6, .double (fp_err (kd j) (par j) (va_up (v k) (n k) x) (n k))), (5, .int (nI j)), (4, .int (nI (n k))), (3, .ref (Λ.2.2.1 (b + 3 + 5 * k))), (0, .ref (Λ.2.2.1 b)), (1, .int (nI k)), (2, .int (nI x))]) rfl ?_
                have ih9 := ih23 (j + 1) (fp_err (kd j) (par j) (va_up (v k) (n k) x) (n k)) (fo_r Y (b + 23 + 4 * j + 1) (upd (Y (b + 23 + 4 * j + 1)) k (nI (n k - fp_need (kd j) (par j) + 1)))) (fo_r E (b + 23 + 4 * j + 2) (vf_upd (E (b + 23 + 4 * j + 2)) k (FP.dadd (E (b + 23 + 4 * j + 2) k) (fp_err (kd j) (par j) (va_up (v k) (n k) x) (n k))))) (X21) (by omega) (by omega) hw9 ha9
                rw [e9] at ih9
                exact ih9
        · have hfo : ¬ fp_need (kd j) (par j) ≤ n k := by first | exact of_decide_eq_false c16 | omega | (simp at c16; omega)
          refine fo_goto C dX5_append_51 94 (by decide) ?_
          have e9 : fp_lst (fun p => decide (fp_need (kd p) (par p) ≤ n k)) (fun p => fp_err (kd p) (par p) (va_up (v k) (n k) x) (n k)) (j + 1) = fp_lst (fun p => decide (fp_need (kd p) (par p) ≤ n k)) (fun p => fp_err (kd p) (par p) (va_up (v k) (n k) x) (n k)) j := by rw [fp_lst, if_neg (by simp; omega)]
          have hw9 : ∀ o, fp_lst (fun p => decide (fp_need (kd p) (par p) ≤ n k)) (fun p => fp_err (kd p) (par p) (va_up (v k) (n k) x) (n k)) (j + 1) = some o → sm = fp_err (kd o) (par o) (va_up (v k) (n k) x) (n k) := by rw [e9]; exact hw
          have ha9 := ha.skip (j := j) (by omega)
          refine fo_iinc C dX5_append_94 1 rfl (nI (j + 1)) (nI_inc1 _) [(8, .int (nI (j + 1))), (9, .ref (Λ.2.2.1 (b + 23 + 4 * j))), (6, .double (sm)), (5, .int (fo_ow (fp_lst (fun p => decide (fp_need (kd p) (par p) ≤ n k)) (fun p => fp_err (kd p) (par p) (va_up (v k) (n k) x) (n k)) j))), (4, .int (nI (n k))), (3, .ref (Λ.2.2.1 (b + 3 + 5 * k))), (0, .ref (Λ.2.2.1 b)), (1, .int (nI k)), (2, .int (nI x))] rfl (by decide) 97 rfl ?_
          refine fo_goto C dX5_append_97 23 (by decide) ?_
          refine fo_sub C [0, 2, 3, 4, 5, 6, 7, 8] (lv' := [(8, .int (nI (j + 1))), (6, .double (sm)), (5, .int (fo_ow (fp_lst (fun p => decide (fp_need (kd p) (par p) ≤ n k)) (fun p => fp_err (kd p) (par p) (va_up (v k) (n k) x) (n k)) j))), (4, .int (nI (n k))), (3, .ref (Λ.2.2.1 (b + 3 + 5 * k))), (0, .ref (Λ.2.2.1 b)), (1, .int (nI k)), (2, .int (nI x))]) rfl ?_
          have ih9 := ih23 (j + 1) (sm) (Y) (E) (Z) (by omega) (by omega) hw9 ha9
          rw [e9] at ih9
          exact ih9
  exact hL23 (np + 1 + 1) 0 FP.dconst0 (fo_r (fo_r I (b + 3 + 5 * k + 1) (upd (I (b + 3 + 5 * k + 1)) (n k) (nI x))) (b + 3 + 5 * k) (upd (I (b + 3 + 5 * k)) 1 (nI (n k + 1)))) (D) (X) (by omega) (by omega) (fun o h => by cases h) (fs_Ap.init hf h4)
set_option maxRecDepth 10000 in
set_option maxHeartbeats 4000000 in
theorem mX5_copyFrom {l : Launch} {Λ : fo_Lt} {I : fo_Mi} {D : fo_Md} {J : fo_Mj} {X : fo_Mi} {b o np lim : Nat} {kd par n : Nat → Nat} {v : Nat → Nat → Nat} (hf : fs_F I D o np lim kd par n v) (hb : fo_k b = 7) (hne : o ≠ b) : fk_v l yX5_copyFrom cX5_copyFrom 3 2 101 Λ [.ref (Λ.2.2.1 b), .ref (Λ.2.2.1 o)] I D J X ((fun I' D' J' X' => fs_F I' D' b np lim kd par n v ∧ fs_fr b I D I' D' ∧ J' = J ∧ X' = X)) := by
  have hko := hf.1.1
  have hap := fo_apart hko hb hne
  obtain ⟨hk, ⟨ho1, ⟨ho2, ho3⟩, ho4, ho5, ho6⟩, hnp, hlim, hP, hS⟩ := id hf.1
  refine fo_sv (by decide) [(0, .ref (Λ.2.2.1 b)), (1, .ref (Λ.2.2.1 o))] rfl (Nat.le_of_ble_eq_true rfl) (fun K C fin => ?_)
  refine fo_iconst C dX5_copyFrom_0 (nI 0) ki_0 1 rfl ?_
  refine fo_istore_n C dX5_copyFrom_1 rfl [(2, .int (nI 0)), (0, .ref (Λ.2.2.1 b)), (1, .ref (Λ.2.2.1 o))] rfl (by decide) 2 rfl ?_
  have hL2 : ∀ (m2 : Nat) (i : Nat) (Y : fo_Mi), 5 - i < m2 → i ≤ 4 → fs_Cp I D b o i 0 Y D → fo_G l Λ { frames := 2, cells := 0, slots := 0, locals := 101 } K 0 0 2 [(2, .int (nI i)), (0, .ref (Λ.2.2.1 b)), (1, .ref (Λ.2.2.1 o))] [] Y D J X := by
    intro m2
    induction m2 with
    | zero => intro i Y hm; exact absurd hm (Nat.not_lt_zero _)
    | succ m2 ih2 =>
      intro i Y hm2 hi hc
      refine fo_iload_n C dX5_copyFrom_2 0 rfl rfl 3 rfl ?_
      refine fo_iconst C dX5_copyFrom_3 (nI 4) ki_4 4 rfl ?_
      refine fo_ncmp_ge C (by omega) (by omega) dX5_copyFrom_4 28 (by decide) 7 rfl (fun c1 => ?_) (fun c1 => ?_)
      · refine fo_iconst C dX5_copyFrom_28 (nI 0) ki_0 29 rfl ?_
        refine fo_istore_n C dX5_copyFrom_29 rfl [(2, .int (nI 0)), (0, .ref (Λ.2.2.1 b)), (1, .ref (Λ.2.2.1 o))] rfl (by decide) 30 rfl ?_
        have hL30 : ∀ (m30 : Nat) (j : Nat) (Y : fo_Mi) (E : fo_Md), 9 - j < m30 → j ≤ 8 → fs_Cp I D b o 4 j Y E → fo_G l Λ { frames := 2, cells := 0, slots := 0, locals := 101 } K 0 0 30 [(2, .int (nI j)), (0, .ref (Λ.2.2.1 b)), (1, .ref (Λ.2.2.1 o))] [] Y E J X := by
          intro m30
          induction m30 with
          | zero => intro j Y E hm; exact absurd hm (Nat.not_lt_zero _)
          | succ m30 ih30 =>
            intro j Y E hm30 hj hc
            refine fo_iload_n C dX5_copyFrom_30 0 rfl rfl 31 rfl ?_
            refine fo_bipush C dX5_copyFrom_31 (nI 8) kb_8 33 rfl ?_
            refine fo_ncmp_ge C (by omega) (by omega) dX5_copyFrom_33 57 (by decide) 36 rfl (fun c2 => ?_) (fun c2 => ?_)
            · refine fo_aload_n C dX5_copyFrom_57 1 rfl rfl 58 rfl ?_
              refine fo_aload_n C dX5_copyFrom_58 2 rfl rfl 59 rfl ?_
              refine fo_get C dX5_copyFrom_59 fK7 hko (by decide) 2 (by decide) fl_X5_36 (v := .int (nI np)) (congrArg (fun x => some (Value.int x)) ((by rw [(hc.1 o (by omega)).1]; exact hnp))) 62 rfl ?_
              refine fo_put C dX5_copyFrom_62 fK7 hb (by decide) 2 (by decide) fl_X5_36 rfl rfl rfl rfl (Nat.le_of_ble_eq_true rfl) 65 rfl ?_
              refine fo_aload_n C dX5_copyFrom_65 1 rfl rfl 66 rfl ?_
              refine fo_aload_n C dX5_copyFrom_66 2 rfl rfl 67 rfl ?_
              refine fo_get C dX5_copyFrom_67 fK7 hko (by decide) 3 (by decide) fl_X5_23 (v := .int (nI lim)) (congrArg (fun x => some (Value.int x)) ((by rw [fo_rn _ _ (by omega), (hc.1 o (by omega)).1]; exact hlim))) 70 rfl ?_
              refine fo_put C dX5_copyFrom_70 fK7 hb (by decide) 3 (by decide) fl_X5_23 rfl rfl rfl rfl (Nat.le_of_ble_eq_true rfl) 73 rfl ?_
              exact fin dX5_copyFrom_73 ((by have ej : j = 8 := (by omega); subst ej; have hdn := fs_Cp.done hf hb hc; rw [fo_rr, fo_rs]; exact ⟨hdn.1, hdn.2, rfl, rfl⟩))
            · refine fo_aload_n C dX5_copyFrom_36 1 rfl rfl 37 rfl ?_
              refine fo_get C dX5_copyFrom_37 fK7 hb (by decide) 1 (by decide) fl_X5_19 (v := .ref (Λ.2.2.1 (b + 2))) rfl 40 rfl ?_
              refine fo_iload_n C dX5_copyFrom_40 0 rfl rfl 41 rfl ?_
              refine fo_aaldP C dX5_copyFrom_41 (fo_T2k hb) (by rw [fo_T2n hb]; omega) (b + 23 + 4 * j) (by omega) 42 rfl ?_
              refine fo_aload_n C dX5_copyFrom_42 2 rfl rfl 43 rfl ?_
              refine fo_get C dX5_copyFrom_43 fK7 hko (by decide) 1 (by decide) fl_X5_19 (v := .ref (Λ.2.2.1 (o + 2))) rfl 46 rfl ?_
              refine fo_iload_n C dX5_copyFrom_46 0 rfl rfl 47 rfl ?_
              refine fo_aaldP C dX5_copyFrom_47 (fo_T2k hko) (by rw [fo_T2n hko]; omega) (o + 23 + 4 * j) (by omega) 48 rfl ?_
              refine fo_qvv C dX5_copyFrom_48 (mX3_copyFrom (fo_TPk hb (by omega)) (fo_TPk hko (by omega)) (by omega) (by rw [(hc.1 (o + 23 + 4 * j) (by omega)).1]; exact hf.2.2 j (by omega))) lv_X5_33 (fo_TPk hb (by omega)) rfl (by decide) rfl ⟨Nat.le_of_ble_eq_true rfl, Nat.le_of_ble_eq_true rfl⟩ ⟨Nat.le_of_ble_eq_true rfl, Nat.le_of_ble_eq_true rfl⟩ [] rfl (Nat.le_of_ble_eq_true rfl) 51 rfl (fun I4 D5 J6 X7 p8 => ?_)
              obtain ⟨c1, c2, c3, c4, c5, rfl, rfl⟩ := p8
              refine fo_iinc C dX5_copyFrom_51 0 rfl (nI (j + 1)) (nI_inc1 _) [(2, .int (nI (j + 1))), (0, .ref (Λ.2.2.1 b)), (1, .ref (Λ.2.2.1 o))] rfl (by decide) 54 rfl ?_
              refine fo_goto C dX5_copyFrom_54 30 (by decide) ?_
              exact ih30 (j + 1) (I4) (D5) (by omega) (by omega) (hc.prophet (by omega) hap c1 c2 c3 c4 c5)
        exact hL30 (9 + 1) 0 Y D (by omega) (by omega) (by rw [show i = 4 by omega] at hc; exact hc)
      · refine fo_aload_n C dX5_copyFrom_7 1 rfl rfl 8 rfl ?_
        refine fo_get C dX5_copyFrom_8 fK7 hb (by decide) 0 (by decide) fl_X5_11 (v := .ref (Λ.2.2.1 (b + 1))) rfl 11 rfl ?_
        refine fo_iload_n C dX5_copyFrom_11 0 rfl rfl 12 rfl ?_
        refine fo_aaldS C dX5_copyFrom_12 (fo_T1k hb) (by rw [fo_T1n hb]; omega) (b + 3 + 5 * i) (by omega) 13 rfl ?_
        refine fo_aload_n C dX5_copyFrom_13 2 rfl rfl 14 rfl ?_
        refine fo_get C dX5_copyFrom_14 fK7 hko (by decide) 0 (by decide) fl_X5_11 (v := .ref (Λ.2.2.1 (o + 1))) rfl 17 rfl ?_
        refine fo_iload_n C dX5_copyFrom_17 0 rfl rfl 18 rfl ?_
        refine fo_aaldS C dX5_copyFrom_18 (fo_T1k hko) (by rw [fo_T1n hko]; omega) (o + 3 + 5 * i) (by omega) 19 rfl ?_
        refine fo_qvv C dX5_copyFrom_19 (mX4_copyFrom (fo_TSk hb (by omega)) (fo_TSk hko (by omega)) (by omega)) lv_X5_29 (fo_TSk hb (by omega)) rfl (by decide) rfl ⟨Nat.le_of_ble_eq_true rfl, Nat.le_of_ble_eq_true rfl⟩ ⟨Nat.le_of_ble_eq_true rfl, Nat.le_of_ble_eq_true rfl⟩ [] rfl (Nat.le_of_ble_eq_true rfl) 22 rfl (fo_erv ?_)
        refine fo_iinc C dX5_copyFrom_22 0 rfl (nI (i + 1)) (nI_inc1 _) [(2, .int (nI (i + 1))), (0, .ref (Λ.2.2.1 b)), (1, .ref (Λ.2.2.1 o))] rfl (by decide) 25 rfl ?_
        refine fo_goto C dX5_copyFrom_25 2 (by decide) ?_
        exact ih2 (i + 1) (fo_r (fo_r Y (b + 3 + 5 * i + 1) (va_cpy (Y (o + 3 + 5 * i + 1)) (Y (b + 3 + 5 * i + 1)) 0 0 30)) (b + 3 + 5 * i) (upd (Y (b + 3 + 5 * i)) 1 (Y (o + 3 + 5 * i) 1))) (by omega) (by omega) (hc.series (by omega) hap)
  exact hL2 (5 + 1) 0 I (by omega) (by omega) fs_Cp.init
