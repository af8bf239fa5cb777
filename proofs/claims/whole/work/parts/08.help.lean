/-! HELP: what contracts say behind a call, constants, the layout's arithmetic -/
def fo_pr {α : Type} (v : α) (I : fo_Mi) (D : fo_Md) (J : fo_Mj) (X : fo_Mi) : α → fo_Mi → fo_Md → fo_Mj → fo_Mi → Prop := fun r I' D' J' X' => r = v ∧ I' = I ∧ D' = D ∧ J' = J ∧ X' = X
def fo_ps {α : Type} (v : α) (I : fo_Mi) (D : fo_Md) (J : fo_Mj) : α → fo_Mi → fo_Md → fo_Mj → fo_Mi → Prop := fun r I' D' J' _ => r = v ∧ I' = I ∧ D' = D ∧ J' = J
def fo_prv (I : fo_Mi) (D : fo_Md) (J : fo_Mj) (X : fo_Mi) : fo_Mi → fo_Md → fo_Mj → fo_Mi → Prop := fun I' D' J' X' => I' = I ∧ D' = D ∧ J' = J ∧ X' = X
def fo_psv (I : fo_Mi) (D : fo_Md) (J : fo_Mj) : fo_Mi → fo_Md → fo_Mj → fo_Mi → Prop := fun I' D' J' _ => I' = I ∧ D' = D ∧ J' = J
theorem fo_er {α : Type} {v : α} {I : fo_Mi} {D : fo_Md} {J : fo_Mj} {X : fo_Mi} {P : α → fo_Mi → fo_Md → fo_Mj → fo_Mi → Prop} (h : P v I D J X) : ∀ r I' D' J' X', fo_pr v I D J X r I' D' J' X' → P r I' D' J' X' := by
  intro r I' D' J' X' ⟨h1, h2, h3, h4, h5⟩
  rw [h1, h2, h3, h4, h5]
  exact h
theorem fo_es {α : Type} {v : α} {I : fo_Mi} {D : fo_Md} {J : fo_Mj} {P : α → fo_Mi → fo_Md → fo_Mj → fo_Mi → Prop} (h : ∀ X', P v I D J X') : ∀ r I' D' J' X', fo_ps v I D J r I' D' J' X' → P r I' D' J' X' := by
  intro r I' D' J' X' ⟨h1, h2, h3, h4⟩
  rw [h1, h2, h3, h4]
  exact h X'
theorem fo_erv {I : fo_Mi} {D : fo_Md} {J : fo_Mj} {X : fo_Mi} {P : fo_Mi → fo_Md → fo_Mj → fo_Mi → Prop} (h : P I D J X) : ∀ I' D' J' X', fo_prv I D J X I' D' J' X' → P I' D' J' X' := by
  intro I' D' J' X' ⟨h2, h3, h4, h5⟩
  rw [h2, h3, h4, h5]
  exact h
theorem fo_esv {I : fo_Mi} {D : fo_Md} {J : fo_Mj} {P : fo_Mi → fo_Md → fo_Mj → fo_Mi → Prop} (h : ∀ X', P I D J X') : ∀ I' D' J' X', fo_psv I D J I' D' J' X' → P I' D' J' X' := by
  intro I' D' J' X' ⟨h2, h3, h4⟩
  rw [h2, h3, h4]
  exact h X'
theorem nI_inc1 (a : Nat) : nI a + Int32.ofInt 1 = nI (a + 1) := nI_add a 1
theorem nI_inc4 (a : Nat) : nI a + Int32.ofInt 4 = nI (a + 4) := nI_add a 4
theorem nI_dec1 {a : Nat} (h : 1 ≤ a) : nI a + Int32.ofInt (-1) = nI (a - 1) := by
  obtain ⟨b, rfl⟩ : ∃ b, a = b + 1 := ⟨a - 1, by omega⟩
  exact pk_m1 b
theorem fo_nmax {a b : Nat} (ha : a < 2 ^ 31) (hb : b < 2 ^ 31) : (if nI a < nI b then nI b else nI a) = nI (max a b) := by
  by_cases h : a < b
  · rw [if_pos ((nI_ltI ha hb).mpr h), Nat.max_eq_right (Nat.le_of_lt h)]
  · rw [if_neg (fun q => h ((nI_ltI ha hb).mp q)), Nat.max_eq_left (Nat.not_lt.mp h)]
theorem fo_nmin {a b : Nat} (ha : a < 2 ^ 31) (hb : b < 2 ^ 31) : (if nI b < nI a then nI b else nI a) = nI (min a b) := by
  by_cases h : b < a
  · rw [if_pos ((nI_ltI hb ha).mpr h), Nat.min_eq_right (Nat.le_of_lt h)]
  · rw [if_neg (fun q => h ((nI_ltI hb ha).mp q)), Nat.min_eq_left (Nat.not_lt.mp h)]
/-- the distance of two numbers -/
def fo_ds2 (a b : Nat) : Nat := if a < b then b - a else a - b
theorem fo_ds2_le {a b c : Nat} (ha : a ≤ c) (hb : b ≤ c) : fo_ds2 a b ≤ c := by
  unfold fo_ds2
  split <;> omega
theorem fo_nabs {a b : Nat} (ha : a < 2 ^ 30) (hb : b < 2 ^ 30) : (if 0 ≤ nI a - nI b then nI a - nI b else 0 - (nI a - nI b)) = nI (fo_ds2 a b) := by
  unfold fo_ds2
  have hd := pk_sub_toInt (a := a) (b := b) ha hb
  by_cases h : a < b
  · rw [if_pos h, if_neg (fun q => absurd (pk_sneg hb h) (by
      intro z
      have := Int32.le_iff_toInt_le.mp q
      have := Int32.lt_iff_toInt_lt.mp z
      omega))]
    apply Int32.toInt_inj.mp
    rw [Int32.toInt_sub, hd, nI_toInt (by omega), show (0 : Int32).toInt = 0 from rfl, Int.bmod_eq_of_le (by omega) (by omega)]
    omega
  · rw [if_neg h, if_pos (Int32.le_iff_toInt_le.mpr (by rw [hd, show (0 : Int32).toInt = 0 from rfl]; omega)), pk_sub (by omega)]
theorem fo_chr {n : Nat} (h : n < 65536) : ((nI n).toUInt32 % 65536).toInt32 = nI n := by
  rw [pk_char, pk_tn (by omega), Nat.mod_eq_of_lt h]
theorem fo_chn {n : Nat} (h : n < 65536) : vp_nar .char (nI n) = nI n := by
  have := (pk_charN h).1
  unfold vp_nar
  rw [this]
theorem fo_sub {l : Launch} {Λ : fo_Lt} {R : Room} {K : fo_K} {cc : ByteArray} {own : String} {nL cs ss pc : Nat} {lv : List (Nat × Value)} {st : List Value} {I : fo_Mi} {D : fo_Md} {J : fo_Mj} {X : fo_Mi} (_ : fo_C Λ K cc own nL) (ks : List Nat) {lv' : List (Nat × Value)} (h : lv_pick lv ks = lv') (k : fo_G l Λ R K cs ss pc lv' st I D J X) : fo_G l Λ R K cs ss pc lv st I D J X :=
  fun H locs ls hP hS hl => k H locs ls hP hS (lv_sub hl ks h)
theorem fo_aaldS {l : Launch} {Λ : fo_Lt} {R : Room} {K : fo_K} {cc : ByteArray} {own : String} {nL cs ss pc id : Nat} {lv : List (Nat × Value)} {st : List Value} {I : fo_Mi} {D : fo_Md} {J : fo_Mj} {X : fo_Mi} (C : fo_C Λ K cc own nL) {i : Nat} (d : decode cc pc = .ok (.aaload, 1)) (hk : fo_k id = 25) (hi : i < fo_n id) (tg : Nat) (htg : id + 2 + 5 * i = tg) (n' : Nat) (hn : pc + 1 = n') (k : fo_G l Λ R K cs ss n' lv (.ref (Λ.2.2.1 tg) :: st) I D J X) : fo_G l Λ R K cs ss pc lv (.int (nI i) :: .ref (Λ.2.2.1 id) :: st) I D J X := fo_aald C d hk (Or.inl rfl) hi tg htg n' hn k
theorem fo_aaldP {l : Launch} {Λ : fo_Lt} {R : Room} {K : fo_K} {cc : ByteArray} {own : String} {nL cs ss pc id : Nat} {lv : List (Nat × Value)} {st : List Value} {I : fo_Mi} {D : fo_Md} {J : fo_Mj} {X : fo_Mi} (C : fo_C Λ K cc own nL) {i : Nat} (d : decode cc pc = .ok (.aaload, 1)) (hk : fo_k id = 26) (hi : i < fo_n id) (tg : Nat) (htg : id + 21 + 4 * i = tg) (n' : Nat) (hn : pc + 1 = n') (k : fo_G l Λ R K cs ss n' lv (.ref (Λ.2.2.1 tg) :: st) I D J X) : fo_G l Λ R K cs ss pc lv (.int (nI i) :: .ref (Λ.2.2.1 id) :: st) I D J X := fo_aald C d hk (Or.inr (Or.inl rfl)) hi tg htg n' hn k
theorem fo_aaldT {l : Launch} {Λ : fo_Lt} {R : Room} {K : fo_K} {cc : ByteArray} {own : String} {nL cs ss pc id : Nat} {lv : List (Nat × Value)} {st : List Value} {I : fo_Mi} {D : fo_Md} {J : fo_Mj} {X : fo_Mi} (C : fo_C Λ K cc own nL) {i : Nat} (d : decode cc pc = .ok (.aaload, 1)) (hk : fo_k id = 27) (hi : i < fo_n id) (tg : Nat) (htg : 110 + 55 * i = tg) (n' : Nat) (hn : pc + 1 = n') (k : fo_G l Λ R K cs ss n' lv (.ref (Λ.2.2.1 tg) :: st) I D J X) : fo_G l Λ R K cs ss pc lv (.int (nI i) :: .ref (Λ.2.2.1 id) :: st) I D J X := fo_aald C d hk (Or.inr (Or.inr rfl)) hi tg htg n' hn k
/-! the layout: what lies beside a series, a prophet, a state -/
theorem fo_kS {s : Nat} (h : fo_k s = 6) : s < 605 ∧ 3 ≤ s % 55 ∧ s % 55 < 23 ∧ (s % 55 - 3) % 5 = 0 := by
  rcases Nat.lt_or_ge s 605 with q | q
  · unfold fo_k at h
    rw [if_pos q] at h
    repeat' split at h
    all_goals omega
  · exfalso
    have : ∀ k, k < 26 → fo_kt.getD k 99 ≠ 6 := by decide +kernel
    rcases Nat.lt_or_ge s 631 with z | z
    · unfold fo_k at h
      rw [if_neg (by omega)] at h
      exact this _ (by omega) h
    · unfold fo_k at h
      rw [if_neg (by omega), List.getD_eq_getElem?_getD, List.getElem?_eq_none (by show 26 ≤ s - 605; omega)] at h
      cases h
theorem fo_kP {s : Nat} (h : fo_k s = 5) : s < 605 ∧ 23 ≤ s % 55 ∧ (s % 55 - 23) % 4 = 0 := by
  rcases Nat.lt_or_ge s 605 with q | q
  · unfold fo_k at h
    rw [if_pos q] at h
    repeat' split at h
    all_goals omega
  · exfalso
    have : ∀ k, k < 26 → fo_kt.getD k 99 ≠ 5 := by decide +kernel
    rcases Nat.lt_or_ge s 631 with z | z
    · unfold fo_k at h
      rw [if_neg (by omega)] at h
      exact this _ (by omega) h
    · unfold fo_k at h
      rw [if_neg (by omega), List.getD_eq_getElem?_getD, List.getElem?_eq_none (by show 26 ≤ s - 605; omega)] at h
      cases h
theorem fo_kT {s : Nat} (h : fo_k s = 7) : s < 605 ∧ s % 55 = 0 := by
  rcases Nat.lt_or_ge s 605 with q | q
  · unfold fo_k at h
    rw [if_pos q] at h
    repeat' split at h
    all_goals omega
  · exfalso
    have : ∀ k, k < 26 → fo_kt.getD k 99 ≠ 7 := by decide +kernel
    rcases Nat.lt_or_ge s 631 with z | z
    · unfold fo_k at h
      rw [if_neg (by omega)] at h
      exact this _ (by omega) h
    · unfold fo_k at h
      rw [if_neg (by omega), List.getD_eq_getElem?_getD, List.getElem?_eq_none (by show 26 ≤ s - 605; omega)] at h
      cases h
theorem fo_S1k {s : Nat} (h : fo_k s = 6) : fo_k (s + 1) = 20 := by
  obtain ⟨h1, h2, h3, h4⟩ := fo_kS h
  have e1 : (s + 1) % 55 = s % 55 + (1) := by omega
  have e2 : s + 1 < 605 := by omega
  unfold fo_k
  rw [if_pos e2, e1]
  generalize s % 55 = r at *
  clear e1 h
  repeat' split
  all_goals omega
theorem fo_S1n {s : Nat} (h : fo_k s = 6) : fo_n (s + 1) = 30 := by
  obtain ⟨h1, h2, h3, h4⟩ := fo_kS h
  have e1 : (s + 1) % 55 = s % 55 + (1) := by omega
  have e2 : s + 1 < 605 := by omega
  unfold fo_n
  rw [if_pos e2, e1]
  generalize s % 55 = r at *
  clear e1 h
  repeat' split
  all_goals omega
theorem fo_S2k {s : Nat} (h : fo_k s = 6) : fo_k (s + 2) = 21 := by
  obtain ⟨h1, h2, h3, h4⟩ := fo_kS h
  have e1 : (s + 2) % 55 = s % 55 + (2) := by omega
  have e2 : s + 2 < 605 := by omega
  unfold fo_k
  rw [if_pos e2, e1]
  generalize s % 55 = r at *
  clear e1 h
  repeat' split
  all_goals omega
theorem fo_S2n {s : Nat} (h : fo_k s = 6) : fo_n (s + 2) = 30 := by
  obtain ⟨h1, h2, h3, h4⟩ := fo_kS h
  have e1 : (s + 2) % 55 = s % 55 + (2) := by omega
  have e2 : s + 2 < 605 := by omega
  unfold fo_n
  rw [if_pos e2, e1]
  generalize s % 55 = r at *
  clear e1 h
  repeat' split
  all_goals omega
theorem fo_S3k {s : Nat} (h : fo_k s = 6) : fo_k (s + 3) = 21 := by
  obtain ⟨h1, h2, h3, h4⟩ := fo_kS h
  have e1 : (s + 3) % 55 = s % 55 + (3) := by omega
  have e2 : s + 3 < 605 := by omega
  unfold fo_k
  rw [if_pos e2, e1]
  generalize s % 55 = r at *
  clear e1 h
  repeat' split
  all_goals omega
theorem fo_S3n {s : Nat} (h : fo_k s = 6) : fo_n (s + 3) = 5 := by
  obtain ⟨h1, h2, h3, h4⟩ := fo_kS h
  have e1 : (s + 3) % 55 = s % 55 + (3) := by omega
  have e2 : s + 3 < 605 := by omega
  unfold fo_n
  rw [if_pos e2, e1]
  generalize s % 55 = r at *
  clear e1 h
  repeat' split
  all_goals omega
theorem fo_S4k {s : Nat} (h : fo_k s = 6) : fo_k (s + 4) = 21 := by
  obtain ⟨h1, h2, h3, h4⟩ := fo_kS h
  have e1 : (s + 4) % 55 = s % 55 + (4) := by omega
  have e2 : s + 4 < 605 := by omega
  unfold fo_k
  rw [if_pos e2, e1]
  generalize s % 55 = r at *
  clear e1 h
  repeat' split
  all_goals omega
theorem fo_S4n {s : Nat} (h : fo_k s = 6) : fo_n (s + 4) = 31 := by
  obtain ⟨h1, h2, h3, h4⟩ := fo_kS h
  have e1 : (s + 4) % 55 = s % 55 + (4) := by omega
  have e2 : s + 4 < 605 := by omega
  unfold fo_n
  rw [if_pos e2, e1]
  generalize s % 55 = r at *
  clear e1 h
  repeat' split
  all_goals omega
theorem fo_P1k {s : Nat} (h : fo_k s = 5) : fo_k (s + 1) = 20 := by
  obtain ⟨h1, h2, h3⟩ := fo_kP h
  have e1 : (s + 1) % 55 = s % 55 + (1) := by omega
  have e2 : s + 1 < 605 := by omega
  unfold fo_k
  rw [if_pos e2, e1]
  generalize s % 55 = r at *
  clear e1 h
  repeat' split
  all_goals omega
theorem fo_P1n {s : Nat} (h : fo_k s = 5) : fo_n (s + 1) = 4 := by
  obtain ⟨h1, h2, h3⟩ := fo_kP h
  have e1 : (s + 1) % 55 = s % 55 + (1) := by omega
  have e2 : s + 1 < 605 := by omega
  unfold fo_n
  rw [if_pos e2, e1]
  generalize s % 55 = r at *
  clear e1 h
  repeat' split
  all_goals omega
theorem fo_P2k {s : Nat} (h : fo_k s = 5) : fo_k (s + 2) = 22 := by
  obtain ⟨h1, h2, h3⟩ := fo_kP h
  have e1 : (s + 2) % 55 = s % 55 + (2) := by omega
  have e2 : s + 2 < 605 := by omega
  unfold fo_k
  rw [if_pos e2, e1]
  generalize s % 55 = r at *
  clear e1 h
  repeat' split
  all_goals omega
theorem fo_P2n {s : Nat} (h : fo_k s = 5) : fo_n (s + 2) = 4 := by
  obtain ⟨h1, h2, h3⟩ := fo_kP h
  have e1 : (s + 2) % 55 = s % 55 + (2) := by omega
  have e2 : s + 2 < 605 := by omega
  unfold fo_n
  rw [if_pos e2, e1]
  generalize s % 55 = r at *
  clear e1 h
  repeat' split
  all_goals omega
theorem fo_P3k {s : Nat} (h : fo_k s = 5) : fo_k (s + 3) = 20 := by
  obtain ⟨h1, h2, h3⟩ := fo_kP h
  have e1 : (s + 3) % 55 = s % 55 + (3) := by omega
  have e2 : s + 3 < 605 := by omega
  unfold fo_k
  rw [if_pos e2, e1]
  generalize s % 55 = r at *
  clear e1 h
  repeat' split
  all_goals omega
theorem fo_P3n {s : Nat} (h : fo_k s = 5) : fo_n (s + 3) = 4 := by
  obtain ⟨h1, h2, h3⟩ := fo_kP h
  have e1 : (s + 3) % 55 = s % 55 + (3) := by omega
  have e2 : s + 3 < 605 := by omega
  unfold fo_n
  rw [if_pos e2, e1]
  generalize s % 55 = r at *
  clear e1 h
  repeat' split
  all_goals omega
theorem fo_T1k {s : Nat} (h : fo_k s = 7) : fo_k (s + 1) = 25 := by
  obtain ⟨h1, h2⟩ := fo_kT h
  have e1 : (s + 1) % 55 = s % 55 + (1) := by omega
  have e2 : s + 1 < 605 := by omega
  unfold fo_k
  rw [if_pos e2, e1]
  generalize s % 55 = r at *
  clear e1 h
  repeat' split
  all_goals omega
theorem fo_T1n {s : Nat} (h : fo_k s = 7) : fo_n (s + 1) = 4 := by
  obtain ⟨h1, h2⟩ := fo_kT h
  have e1 : (s + 1) % 55 = s % 55 + (1) := by omega
  have e2 : s + 1 < 605 := by omega
  unfold fo_n
  rw [if_pos e2, e1]
  generalize s % 55 = r at *
  clear e1 h
  repeat' split
  all_goals omega
theorem fo_T2k {s : Nat} (h : fo_k s = 7) : fo_k (s + 2) = 26 := by
  obtain ⟨h1, h2⟩ := fo_kT h
  have e1 : (s + 2) % 55 = s % 55 + (2) := by omega
  have e2 : s + 2 < 605 := by omega
  unfold fo_k
  rw [if_pos e2, e1]
  generalize s % 55 = r at *
  clear e1 h
  repeat' split
  all_goals omega
theorem fo_T2n {s : Nat} (h : fo_k s = 7) : fo_n (s + 2) = 8 := by
  obtain ⟨h1, h2⟩ := fo_kT h
  have e1 : (s + 2) % 55 = s % 55 + (2) := by omega
  have e2 : s + 2 < 605 := by omega
  unfold fo_n
  rw [if_pos e2, e1]
  generalize s % 55 = r at *
  clear e1 h
  repeat' split
  all_goals omega
theorem fo_TSk {s j : Nat} (h : fo_k s = 7) (hj : j < 4) : fo_k (s + 3 + 5 * j) = 6 := by
  obtain ⟨h1, h2⟩ := fo_kT h
  have e1 : (s + 3 + 5 * j) % 55 = s % 55 + (3 + 5 * j) := by omega
  have e2 : s + 3 + 5 * j < 605 := by omega
  unfold fo_k
  rw [if_pos e2, e1]
  generalize s % 55 = r at *
  clear e1 h
  repeat' split
  all_goals omega
theorem fo_TPk {s j : Nat} (h : fo_k s = 7) (hj : j < 8) : fo_k (s + 23 + 4 * j) = 5 := by
  obtain ⟨h1, h2⟩ := fo_kT h
  have e1 : (s + 23 + 4 * j) % 55 = s % 55 + (23 + 4 * j) := by omega
  have e2 : s + 23 + 4 * j < 605 := by omega
  unfold fo_k
  rw [if_pos e2, e1]
  generalize s % 55 = r at *
  clear e1 h
  repeat' split
  all_goals omega
theorem fo_T55 {i : Nat} (h : i < 11) : fo_k (55 * i) = 7 := by
  unfold fo_k
  rw [if_pos (by omega), if_pos (by omega)]
theorem fo_T110 {i : Nat} (h : i < 9) : fo_k (110 + 55 * i) = 7 := by
  unfold fo_k
  rw [if_pos (by omega), if_pos (by omega)]
theorem ki_0 : Int32.ofInt 0 = nI 0 := by decide
theorem ki_1 : Int32.ofInt 1 = nI 1 := by decide
theorem ki_2 : Int32.ofInt 2 = nI 2 := by decide
theorem ki_3 : Int32.ofInt 3 = nI 3 := by decide
theorem ki_4 : Int32.ofInt 4 = nI 4 := by decide
theorem ki_5 : Int32.ofInt 5 = nI 5 := by decide
theorem kb_6 : (Int8.ofInt 6).toInt32 = nI 6 := by decide
theorem kb_7 : (Int8.ofInt 7).toInt32 = nI 7 := by decide
theorem kb_8 : (Int8.ofInt 8).toInt32 = nI 8 := by decide
theorem kb_9 : (Int8.ofInt 9).toInt32 = nI 9 := by decide
theorem kb_10 : (Int8.ofInt 10).toInt32 = nI 10 := by decide
theorem kb_11 : (Int8.ofInt 11).toInt32 = nI 11 := by decide
theorem kb_12 : (Int8.ofInt 12).toInt32 = nI 12 := by decide
theorem kb_13 : (Int8.ofInt 13).toInt32 = nI 13 := by decide
theorem kb_14 : (Int8.ofInt 14).toInt32 = nI 14 := by decide
theorem kb_15 : (Int8.ofInt 15).toInt32 = nI 15 := by decide
theorem kb_16 : (Int8.ofInt 16).toInt32 = nI 16 := by decide
theorem kb_17 : (Int8.ofInt 17).toInt32 = nI 17 := by decide
theorem kb_18 : (Int8.ofInt 18).toInt32 = nI 18 := by decide
theorem kb_19 : (Int8.ofInt 19).toInt32 = nI 19 := by decide
theorem kb_20 : (Int8.ofInt 20).toInt32 = nI 20 := by decide
theorem kb_21 : (Int8.ofInt 21).toInt32 = nI 21 := by decide
theorem kb_22 : (Int8.ofInt 22).toInt32 = nI 22 := by decide
theorem kb_23 : (Int8.ofInt 23).toInt32 = nI 23 := by decide
theorem kb_24 : (Int8.ofInt 24).toInt32 = nI 24 := by decide
theorem kb_25 : (Int8.ofInt 25).toInt32 = nI 25 := by decide
theorem kb_26 : (Int8.ofInt 26).toInt32 = nI 26 := by decide
theorem kb_27 : (Int8.ofInt 27).toInt32 = nI 27 := by decide
theorem kb_28 : (Int8.ofInt 28).toInt32 = nI 28 := by decide
theorem kb_29 : (Int8.ofInt 29).toInt32 = nI 29 := by decide
theorem kb_30 : (Int8.ofInt 30).toInt32 = nI 30 := by decide
theorem kb_31 : (Int8.ofInt 31).toInt32 = nI 31 := by decide
theorem kb_32 : (Int8.ofInt 32).toInt32 = nI 32 := by decide
theorem kb_33 : (Int8.ofInt 33).toInt32 = nI 33 := by decide
theorem kb_34 : (Int8.ofInt 34).toInt32 = nI 34 := by decide
theorem kb_35 : (Int8.ofInt 35).toInt32 = nI 35 := by decide
theorem kb_36 : (Int8.ofInt 36).toInt32 = nI 36 := by decide
theorem kb_37 : (Int8.ofInt 37).toInt32 = nI 37 := by decide
theorem kb_38 : (Int8.ofInt 38).toInt32 = nI 38 := by decide
theorem kb_39 : (Int8.ofInt 39).toInt32 = nI 39 := by decide
theorem kb_40 : (Int8.ofInt 40).toInt32 = nI 40 := by decide
theorem kb_41 : (Int8.ofInt 41).toInt32 = nI 41 := by decide
theorem kb_42 : (Int8.ofInt 42).toInt32 = nI 42 := by decide
theorem kb_43 : (Int8.ofInt 43).toInt32 = nI 43 := by decide
theorem kb_44 : (Int8.ofInt 44).toInt32 = nI 44 := by decide
theorem kb_45 : (Int8.ofInt 45).toInt32 = nI 45 := by decide
theorem kb_46 : (Int8.ofInt 46).toInt32 = nI 46 := by decide
theorem kb_47 : (Int8.ofInt 47).toInt32 = nI 47 := by decide
theorem kb_48 : (Int8.ofInt 48).toInt32 = nI 48 := by decide
theorem kb_49 : (Int8.ofInt 49).toInt32 = nI 49 := by decide
theorem kb_50 : (Int8.ofInt 50).toInt32 = nI 50 := by decide
theorem kb_51 : (Int8.ofInt 51).toInt32 = nI 51 := by decide
theorem kb_52 : (Int8.ofInt 52).toInt32 = nI 52 := by decide
theorem kb_53 : (Int8.ofInt 53).toInt32 = nI 53 := by decide
theorem kb_54 : (Int8.ofInt 54).toInt32 = nI 54 := by decide
theorem kb_55 : (Int8.ofInt 55).toInt32 = nI 55 := by decide
theorem kb_56 : (Int8.ofInt 56).toInt32 = nI 56 := by decide
theorem kb_57 : (Int8.ofInt 57).toInt32 = nI 57 := by decide
theorem kb_58 : (Int8.ofInt 58).toInt32 = nI 58 := by decide
theorem kb_59 : (Int8.ofInt 59).toInt32 = nI 59 := by decide
theorem kb_60 : (Int8.ofInt 60).toInt32 = nI 60 := by decide
theorem kb_61 : (Int8.ofInt 61).toInt32 = nI 61 := by decide
theorem kb_62 : (Int8.ofInt 62).toInt32 = nI 62 := by decide
theorem kb_63 : (Int8.ofInt 63).toInt32 = nI 63 := by decide
theorem kb_64 : (Int8.ofInt 64).toInt32 = nI 64 := by decide
theorem kb_65 : (Int8.ofInt 65).toInt32 = nI 65 := by decide
theorem kb_66 : (Int8.ofInt 66).toInt32 = nI 66 := by decide
theorem kb_67 : (Int8.ofInt 67).toInt32 = nI 67 := by decide
theorem kb_68 : (Int8.ofInt 68).toInt32 = nI 68 := by decide
theorem kb_69 : (Int8.ofInt 69).toInt32 = nI 69 := by decide
theorem kb_70 : (Int8.ofInt 70).toInt32 = nI 70 := by decide
theorem kb_71 : (Int8.ofInt 71).toInt32 = nI 71 := by decide
theorem kb_72 : (Int8.ofInt 72).toInt32 = nI 72 := by decide
theorem kb_73 : (Int8.ofInt 73).toInt32 = nI 73 := by decide
theorem kb_74 : (Int8.ofInt 74).toInt32 = nI 74 := by decide
theorem kb_75 : (Int8.ofInt 75).toInt32 = nI 75 := by decide
theorem kb_76 : (Int8.ofInt 76).toInt32 = nI 76 := by decide
theorem kb_77 : (Int8.ofInt 77).toInt32 = nI 77 := by decide
theorem kb_78 : (Int8.ofInt 78).toInt32 = nI 78 := by decide
theorem kb_79 : (Int8.ofInt 79).toInt32 = nI 79 := by decide
theorem kb_80 : (Int8.ofInt 80).toInt32 = nI 80 := by decide
theorem kb_81 : (Int8.ofInt 81).toInt32 = nI 81 := by decide
theorem kb_82 : (Int8.ofInt 82).toInt32 = nI 82 := by decide
theorem kb_83 : (Int8.ofInt 83).toInt32 = nI 83 := by decide
theorem kb_84 : (Int8.ofInt 84).toInt32 = nI 84 := by decide
theorem kb_85 : (Int8.ofInt 85).toInt32 = nI 85 := by decide
theorem kb_86 : (Int8.ofInt 86).toInt32 = nI 86 := by decide
theorem kb_87 : (Int8.ofInt 87).toInt32 = nI 87 := by decide
theorem kb_88 : (Int8.ofInt 88).toInt32 = nI 88 := by decide
theorem kb_89 : (Int8.ofInt 89).toInt32 = nI 89 := by decide
theorem kb_90 : (Int8.ofInt 90).toInt32 = nI 90 := by decide
theorem kb_91 : (Int8.ofInt 91).toInt32 = nI 91 := by decide
theorem kb_92 : (Int8.ofInt 92).toInt32 = nI 92 := by decide
theorem kb_93 : (Int8.ofInt 93).toInt32 = nI 93 := by decide
theorem kb_94 : (Int8.ofInt 94).toInt32 = nI 94 := by decide
theorem kb_95 : (Int8.ofInt 95).toInt32 = nI 95 := by decide
theorem kb_96 : (Int8.ofInt 96).toInt32 = nI 96 := by decide
theorem kb_97 : (Int8.ofInt 97).toInt32 = nI 97 := by decide
theorem kb_98 : (Int8.ofInt 98).toInt32 = nI 98 := by decide
theorem kb_99 : (Int8.ofInt 99).toInt32 = nI 99 := by decide
theorem kb_100 : (Int8.ofInt 100).toInt32 = nI 100 := by decide
theorem kb_101 : (Int8.ofInt 101).toInt32 = nI 101 := by decide
theorem kb_102 : (Int8.ofInt 102).toInt32 = nI 102 := by decide
theorem kb_103 : (Int8.ofInt 103).toInt32 = nI 103 := by decide
theorem kb_104 : (Int8.ofInt 104).toInt32 = nI 104 := by decide
theorem kb_105 : (Int8.ofInt 105).toInt32 = nI 105 := by decide
theorem kb_106 : (Int8.ofInt 106).toInt32 = nI 106 := by decide
theorem kb_107 : (Int8.ofInt 107).toInt32 = nI 107 := by decide
theorem kb_108 : (Int8.ofInt 108).toInt32 = nI 108 := by decide
theorem kb_109 : (Int8.ofInt 109).toInt32 = nI 109 := by decide
theorem kb_110 : (Int8.ofInt 110).toInt32 = nI 110 := by decide
theorem kb_111 : (Int8.ofInt 111).toInt32 = nI 111 := by decide
theorem kb_112 : (Int8.ofInt 112).toInt32 = nI 112 := by decide
theorem kb_113 : (Int8.ofInt 113).toInt32 = nI 113 := by decide
theorem kb_114 : (Int8.ofInt 114).toInt32 = nI 114 := by decide
theorem kb_115 : (Int8.ofInt 115).toInt32 = nI 115 := by decide
theorem kb_116 : (Int8.ofInt 116).toInt32 = nI 116 := by decide
theorem kb_117 : (Int8.ofInt 117).toInt32 = nI 117 := by decide
theorem kb_118 : (Int8.ofInt 118).toInt32 = nI 118 := by decide
theorem kb_119 : (Int8.ofInt 119).toInt32 = nI 119 := by decide
theorem kb_120 : (Int8.ofInt 120).toInt32 = nI 120 := by decide
theorem kb_121 : (Int8.ofInt 121).toInt32 = nI 121 := by decide
theorem kb_122 : (Int8.ofInt 122).toInt32 = nI 122 := by decide
theorem kb_123 : (Int8.ofInt 123).toInt32 = nI 123 := by decide
theorem kb_124 : (Int8.ofInt 124).toInt32 = nI 124 := by decide
theorem kb_125 : (Int8.ofInt 125).toInt32 = nI 125 := by decide
theorem kb_126 : (Int8.ofInt 126).toInt32 = nI 126 := by decide
theorem kb_127 : (Int8.ofInt 127).toInt32 = nI 127 := by decide
theorem ks_128 : (Int16.ofInt 128).toInt32 = nI 128 := by decide
theorem ks_150 : (Int16.ofInt 150).toInt32 = nI 150 := by decide
theorem ks_152 : (Int16.ofInt 152).toInt32 = nI 152 := by decide
theorem ks_160 : (Int16.ofInt 160).toInt32 = nI 160 := by decide
theorem ks_255 : (Int16.ofInt 255).toInt32 = nI 255 := by decide
theorem ks_999 : (Int16.ofInt 999).toInt32 = nI 999 := by decide
theorem ks_605 : (Int16.ofInt 605).toInt32 = nI 605 := by decide
theorem ks_1200 : (Int16.ofInt 1200).toInt32 = nI 1200 := by decide
theorem fo_nb (c : Bool) : narrow .boolean (.int (fo_b c)) = .int (fo_b c) := by cases c <;> rfl
theorem fo_b1 {c : Bool} (h : c = true) : (nI 1 : Int32) = fo_b c := by rw [h]; rfl
theorem fo_b0 {c : Bool} (h : c = false) : (nI 0 : Int32) = fo_b c := by rw [h]; rfl
theorem fo_d1 {p : Prop} [Decidable p] (h : p) : (nI 1 : Int32) = fo_b (decide p) := fo_b1 (decide_eq_true h)
theorem fo_d0 {p : Prop} [Decidable p] (h : ¬ p) : (nI 0 : Int32) = fo_b (decide p) := fo_b0 (decide_eq_false h)
/-- a series: its number of values, and the values -/
def fs_S (I : fo_Mi) (s n : Nat) (v : Nat → Nat) : Prop := fo_k s = 6 ∧ I s 1 = nI n ∧ n ≤ 30 ∧ (∀ d, d < n → I (s + 1) d = nI (v d)) ∧ ∀ d, d < n → v d ≤ 999
