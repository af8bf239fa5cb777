
/-! THE PROGRAM: its text, its steps -/
abbrev fq_s : Type := Nat × Nat × Nat × Nat
abbrev fq_r : Type := Option (List fq_s) × Nat
def fq_at (n : Nat) (t : Nat → Nat) (p c : Nat) : Bool := decide (p < n ∧ t p = c)
def fq_dg (n : Nat) (t : Nat → Nat) (p : Nat) : Bool := decide (p < n ∧ 48 ≤ t p ∧ t p ≤ 57)
def fq_nm (n : Nat) (t : Nat → Nat) : Nat → Nat → Nat → Nat × Nat
  | 0, v, p => (v, p)
  | m + 1, v, p => if fq_dg n t p then fq_nm n t m (v * 10 + (t p - 48)) (p + 1) else (v, p)
def fq_num (n : Nat) (t : Nat → Nat) (p : Nat) : Nat × Nat := fq_nm n t 2 (t p - 48) (p + 1)
theorem fq_dg_in {n : Nat} {t : Nat → Nat} {p : Nat} (h : fq_dg n t p = true) : p < n ∧ t p - 48 ≤ 9 ∧ 48 ≤ t p ∧ t p ≤ 57 := by
  have := of_decide_eq_true h
  omega
theorem fq_at_in {n : Nat} {t : Nat → Nat} {p c : Nat} (h : fq_at n t p c = true) : p < n ∧ t p = c := of_decide_eq_true h
theorem fq_nm_in {n : Nat} {t : Nat → Nat} : ∀ {m v p : Nat}, p ≤ n → p ≤ (fq_nm n t m v p).2 ∧ (fq_nm n t m v p).2 ≤ n ∧ (fq_nm n t m v p).1 + 1 ≤ (v + 1) * 10 ^ m
  | 0, v, p, h => ⟨Nat.le_refl _, h, by simp [fq_nm]⟩
  | m + 1, v, p, h => by
    rw [fq_nm]
    cases hd : fq_dg n t p with
    | false =>
      rw [if_neg (by decide)]
      refine ⟨Nat.le_refl _, h, Nat.le_mul_of_pos_right _ (Nat.pow_pos (by decide))⟩
    | true =>
      rw [if_pos rfl]
      have hh := fq_dg_in hd
      obtain ⟨a, b, c⟩ := fq_nm_in (n := n) (m := m) (v := v * 10 + (t p - 48)) (p := p + 1) (by omega)
      refine ⟨by omega, b, Nat.le_trans c ?_⟩
      rw [Nat.pow_succ, Nat.mul_comm (10 ^ m) 10, ← Nat.mul_assoc]
      exact Nat.mul_le_mul_right _ (by omega)
theorem fq_num_in {n : Nat} {t : Nat → Nat} {p : Nat} (h : fq_dg n t p = true) : p + 1 ≤ (fq_num n t p).2 ∧ (fq_num n t p).2 ≤ n ∧ (fq_num n t p).1 ≤ 999 := by
  have hh := fq_dg_in h
  obtain ⟨a, b, c⟩ := fq_nm_in (n := n) (t := t) (m := 2) (v := t p - 48) (p := p + 1) (by omega)
  exact ⟨a, b, by unfold fq_num; omega⟩
/-- the parts of a command, behind its word -/
def fq_pd (n : Nat) (t : Nat → Nat) (w o p : Nat) : fq_r := if fq_dg n t p then (some [(w, t p - 48, 0, o)], p + 1) else (none, p)
def fq_tk (n : Nat) (t : Nat → Nat) (p : Nat) : Bool := fq_at n t p 109 || fq_at n t p 100 || fq_at n t p 115
def fq_pp (n : Nat) (t : Nat → Nat) (o p : Nat) : fq_r := if fq_tk n t p then (if fq_dg n t (p + 1) then (some [(112, t p, t (p + 1) - 48, o)], p + 2) else (none, p + 1)) else if fq_at n t p 108 || fq_at n t p 116 then (some [(112, t p, 1, o)], p + 1) else (none, p)
def fq_ac (l : List fq_s) (r : fq_r) : fq_r := (r.1.map (fun x => l ++ x), r.2)
theorem fq_ac_nil (r : fq_r) : fq_ac [] r = r := by
  obtain ⟨a, b⟩ := r
  cases a <;> rfl
theorem fq_ac_ac (l m : List fq_s) (r : fq_r) : fq_ac l (fq_ac m r) = fq_ac (l ++ m) r := by
  obtain ⟨a, b⟩ := r
  cases a <;> simp [fq_ac]
def fq_vs (n : Nat) (t : Nat → Nat) (a o : Nat) : Nat → Nat → fq_r
  | 0, p => (none, p)
  | f + 1, p => if fq_dg n t p then (if fq_at n t (fq_num n t p).2 44 then fq_ac [(115, a, (fq_num n t p).1, o)] (fq_vs n t a o f ((fq_num n t p).2 + 1)) else (some [(115, a, (fq_num n t p).1, o)], (fq_num n t p).2)) else (none, p)
def fq_ps (n : Nat) (t : Nat → Nat) (o p : Nat) : fq_r := if fq_dg n t p then (if fq_at n t (p + 1) 61 then fq_vs n t (t p - 48) o 60 (p + 2) else (none, p + 1)) else (none, p)
/-- the program's text, of n characters -/
def fs_Q (I : fo_Mi) (n : Nat) (t : Nat → Nat) : Prop := n ≤ 60 ∧ I 608 1 = nI n ∧ ∀ j, j < n → I 609 j = nI (t j) ∧ t j < 65536
def fq_ok (q : fq_s) : Prop := q.1 < 65536 ∧ q.2.1 < 65536 ∧ q.2.2.1 ≤ 999 ∧ q.2.2.2 ≤ 60
theorem fq_ok_of {c a x o : Nat} (h1 : c < 65536) (h2 : a < 65536) (h3 : x ≤ 999) (h4 : o ≤ 60) : fq_ok (c, a, x, o) := ⟨h1, h2, h3, h4⟩
/-- the parser at position p, in command o, with the steps st -/
def fs_V (I : fo_Mi) (n : Nat) (t : Nat → Nat) (p o : Nat) (st : List fq_s) : Prop := fs_Q I n t ∧ p ≤ n ∧ o ≤ p ∧ st.length ≤ p ∧ I 608 2 = nI p ∧ I 608 3 = nI o ∧ I 608 8 = nI st.length ∧ ∀ j q, st[j]? = some q → I 610 j = nI q.1 ∧ I 611 j = nI q.2.1 ∧ I 612 j = nI q.2.2.1 ∧ I 613 j = nI q.2.2.2 ∧ fq_ok q
def fs_vf (I I' : fo_Mi) : Prop := ∀ b, b ≠ 608 → b ≠ 610 → b ≠ 611 → b ≠ 612 → b ≠ 613 → I' b = I b
theorem fs_V.pos {I : fo_Mi} {n : Nat} {t : Nat → Nat} {p o : Nat} {st : List fq_s} (h : fs_V I n t p o st) (hp : p < n) : fs_V (fo_r I 608 (upd (I 608) 2 (nI (p + 1)))) n t (p + 1) o st := by
  obtain ⟨⟨a1, a2, a3⟩, h1, h2, h3, h4, h5, h6, h7⟩ := h
  refine ⟨⟨a1, by rw [fo_rs, pk_un (by decide)]; exact a2, fun j hj => by rw [fo_rn _ _ (by decide)]; exact a3 j hj⟩, hp, by omega, by omega, by rw [fo_rs, pk_us], by rw [fo_rs, pk_un (by decide)]; exact h5, by rw [fo_rs, pk_un (by decide)]; exact h6, fun j q hq => ?_⟩
  rw [fo_rn _ _ (by decide), fo_rn _ _ (by decide), fo_rn _ _ (by decide), fo_rn _ _ (by decide)]
  exact h7 j q hq
theorem fs_vf.pos {I : fo_Mi} {f : Nat → Int32} : fs_vf I (fo_r I 608 f) := fun b h _ _ _ _ => fo_rn _ _ h
theorem fs_vf.rfl {I : fo_Mi} : fs_vf I I := fun _ _ _ _ _ _ => Eq.refl _
theorem fs_vf.trans {I I' I2 : fo_Mi} (h : fs_vf I I') (h2 : fs_vf I' I2) : fs_vf I I2 := fun b a1 a2 a3 a4 a5 => (h2 b a1 a2 a3 a4 a5).trans (h b a1 a2 a3 a4 a5)
theorem fs_V.add {I : fo_Mi} {n : Nat} {t : Nat → Nat} {p o : Nat} {st : List fq_s} {w a x : Nat} (h : fs_V I n t p o st) (hp : st.length < p) (hq : fq_ok (w, a, x, o)) :
    fs_V (fo_r (fo_r (fo_r (fo_r (fo_r I 610 (upd (I 610) st.length (nI w))) 611 (upd (I 611) st.length (nI a))) 612 (upd (I 612) st.length (nI x))) 613 (upd (I 613) st.length (nI o))) 608 (upd (I 608) 8 (nI (st.length + 1)))) n t p o (st ++ [(w, a, x, o)]) := by
  obtain ⟨⟨a1, a2, a3⟩, h1, h2, h3, h4, h5, h6, h7⟩ := h
  refine ⟨⟨a1, by rw [fo_rs, pk_un (by decide)]; exact a2, fun j hj => by rw [fo_rn _ _ (by decide), fo_rn _ _ (by decide), fo_rn _ _ (by decide), fo_rn _ _ (by decide), fo_rn _ _ (by decide)]; exact a3 j hj⟩, h1, h2, by rw [List.length_append]; exact hp, by rw [fo_rs, pk_un (by decide)]; exact h4, by rw [fo_rs, pk_un (by decide)]; exact h5, by rw [fo_rs, pk_us, List.length_append]; rfl, fun j q hj => ?_⟩
  rw [fo_rn _ _ (by decide), fo_rn _ _ (by decide), fo_rn _ _ (by decide), fo_rn _ _ (by decide), fo_rs, fo_rn _ _ (by decide), fo_rn _ _ (by decide), fo_rn _ _ (by decide), fo_rs, fo_rn _ _ (by decide), fo_rn _ _ (by decide), fo_rs, fo_rn _ _ (by decide), fo_rs]
  by_cases e : j = st.length
  · subst e
    rw [List.getElem?_append_right (Nat.le_refl _), Nat.sub_self] at hj
    cases hj
    rw [pk_us, pk_us, pk_us, pk_us]
    exact ⟨rfl, rfl, rfl, rfl, hq⟩
  · have hl : j < st.length := by
      have := (List.getElem?_eq_some_iff.mp hj).1
      rw [List.length_append] at this
      have : [(w, a, x, o)].length = 1 := rfl
      omega
    rw [List.getElem?_append_left hl] at hj
    rw [pk_un e, pk_un e, pk_un e, pk_un e]
    exact h7 j q hj
/-- what a parsing method leaves: with the result r -/
def fs_R (I : fo_Mi) (n : Nat) (t : Nat → Nat) (o : Nat) (st : List fq_s) (r : fq_r) (I' : fo_Mi) : Prop := (∃ s2, fs_V I' n t r.2 o s2 ∧ ∀ q, r.1 = some q → s2 = st ++ q) ∧ fs_vf I I'

set_option maxRecDepth 10000 in
set_option maxHeartbeats 4000000 in
theorem mX2_append {l : Launch} {Λ : fo_Lt} {I : fo_Mi} {D : fo_Md} {J : fo_Mj} {X : fo_Mi} {n : Nat} {t : Nat → Nat} {c : Nat} (h : fs_Q I n t) (h60 : n < 60) (hc : c < 65536) : fk_i l yX2_append cX2_append 2 .int 0 0 Λ [.ref (Λ.2.2.1 608), .int (nI c)] I D J X ((fun r I' D' J' X' => r = nI (n + 1) ∧ fs_Q I' (n + 1) (va_up t n c) ∧ (∀ b, b ≠ 608 → b ≠ 609 → I' b = I b) ∧ D' = D ∧ J' = J ∧ X' = X)) := by
  refine fo_si (by decide) [(0, .ref (Λ.2.2.1 608)), (1, .int (nI c))] rfl (Nat.le_of_ble_eq_true rfl) (fun K C fin => ?_)
  refine fo_aload_n C dX2_append_0 0 rfl rfl 1 rfl ?_
  refine fo_get C dX2_append_1 fK4 (by decide : fo_k 608 = 4) (by decide) 0 (by decide) fl_X2_9 (v := .ref (Λ.2.2.1 609)) rfl 4 rfl ?_
  refine fo_aload_n C dX2_append_4 0 rfl rfl 5 rfl ?_
  refine fo_get C dX2_append_5 fK4 (by decide : fo_k 608 = 4) (by decide) 1 (by decide) fl_X2_28 (v := .int (nI n)) (congrArg (fun x => some (Value.int x)) (h.2.1)) 8 rfl ?_
  refine fo_iload_n C dX2_append_8 1 rfl rfl 9 rfl ?_
  refine fo_cast C dX2_append_9 (by decide) (by rw [(show fo_n 609 = 60 from rfl)]; omega) (Value.int.inj (pk_charN hc).1) 10 rfl ?_
  refine fo_aload_n C dX2_append_10 0 rfl rfl 11 rfl ?_
  refine fo_dup C dX2_append_11 rfl 12 rfl ?_
  refine fo_get C dX2_append_12 fK4 (by decide : fo_k 608 = 4) (by decide) 1 (by decide) fl_X2_28 (v := .int (nI n)) (congrArg (fun x => some (Value.int x)) ((by rw [fo_rn _ _ (by decide)]; exact h.2.1))) 15 rfl ?_
  refine fo_iconst C dX2_append_15 (nI 1) ki_1 16 rfl ?_
  refine fo_iadd C dX2_append_16 (nI (n + 1)) (nI_add _ _) 17 rfl ?_
  refine fo_put C dX2_append_17 fK4 (by decide : fo_k 608 = 4) (by decide) 1 (by decide) fl_X2_28 rfl rfl rfl rfl (Nat.le_of_ble_eq_true rfl) 20 rfl ?_
  refine fo_aload_n C dX2_append_20 0 rfl rfl 21 rfl ?_
  refine fo_get C dX2_append_21 fK4 (by decide : fo_k 608 = 4) (by decide) 1 (by decide) fl_X2_28 (v := .int (nI (n + 1))) (congrArg (fun x => some (Value.int x)) ((by rw [fo_rs, pk_us]))) 24 rfl ?_
  exact fin dX2_append_24 rfl (⟨rfl, ⟨by omega, by rw [fo_rs, pk_us], fun j hj => by rw [fo_rn _ _ (by decide), fo_rs]; by_cases e : j = n; (subst e; rw [pk_us, va_up_self]; exact ⟨rfl, hc⟩); (rw [pk_un e, va_up_ne _ _ e]; exact h.2.2 j (by omega))⟩, fun b h1 h2 => by rw [fo_rn _ _ h1, fo_rn _ _ h2], rfl, rfl, rfl⟩)
set_option maxRecDepth 10000 in
set_option maxHeartbeats 4000000 in
theorem mX2_isAt {l : Launch} {Λ : fo_Lt} {I : fo_Mi} {D : fo_Md} {J : fo_Mj} {X : fo_Mi} {n : Nat} {t : Nat → Nat} {p o : Nat} {st : List fq_s} {c : Nat} (hc : c < 65536) (h : fs_V I n t p o st) : fk_i l yX2_isAt cX2_isAt 2 .boolean 0 0 Λ [.ref (Λ.2.2.1 608), .int (nI c)] I D J X (fo_pr (fo_b (fq_at n t p c)) I D J X) := by
  have hb60 := h.1.1
  have hpn := h.2.1
  have hst := h.2.2.2.1
  have hop := h.2.2.1
  refine fo_si (by decide) [(0, .ref (Λ.2.2.1 608)), (1, .int (nI c))] rfl (Nat.le_of_ble_eq_true rfl) (fun K C fin => ?_)
  refine fo_aload_n C dX2_isAt_0 0 rfl rfl 1 rfl ?_
  refine fo_get C dX2_isAt_1 fK4 (by decide : fo_k 608 = 4) (by decide) 2 (by decide) fl_X2_32 (v := .int (nI p)) (congrArg (fun x => some (Value.int x)) (h.2.2.2.2.1)) 4 rfl ?_
  refine fo_aload_n C dX2_isAt_4 0 rfl rfl 5 rfl ?_
  refine fo_get C dX2_isAt_5 fK4 (by decide : fo_k 608 = 4) (by decide) 1 (by decide) fl_X2_28 (v := .int (nI n)) (congrArg (fun x => some (Value.int x)) (h.1.2.1)) 8 rfl ?_
  refine fo_ncmp_ge C (by omega) (by omega) dX2_isAt_8 28 (by decide) 11 rfl (fun c1 => ?_) (fun c1 => ?_)
  · refine fo_iconst C dX2_isAt_28 (nI 0) ki_0 29 rfl ?_
    exact fin dX2_isAt_29 (by first | rfl | exact fo_nb _) (⟨fo_b0 (decide_eq_false (by omega)), rfl, rfl, rfl, rfl⟩)
  · refine fo_aload_n C dX2_isAt_11 0 rfl rfl 12 rfl ?_
    refine fo_get C dX2_isAt_12 fK4 (by decide : fo_k 608 = 4) (by decide) 0 (by decide) fl_X2_9 (v := .ref (Λ.2.2.1 609)) rfl 15 rfl ?_
    refine fo_aload_n C dX2_isAt_15 0 rfl rfl 16 rfl ?_
    refine fo_get C dX2_isAt_16 fK4 (by decide : fo_k 608 = 4) (by decide) 2 (by decide) fl_X2_32 (v := .int (nI p)) (congrArg (fun x => some (Value.int x)) (h.2.2.2.2.1)) 19 rfl ?_
    have q2 := (h.1.2.2 (p) (by omega)).2
    refine fo_cald C dX2_isAt_19 (by decide) (by rw [(show fo_n 609 = 60 from rfl)]; omega) (nI (t p)) ((h.1.2.2 _ (by omega)).1) 20 rfl ?_
    refine fo_iload_n C dX2_isAt_20 1 rfl rfl 21 rfl ?_
    refine fo_ncmp_ne C (by omega) (by omega) dX2_isAt_21 28 (by decide) 24 rfl (fun c3 => ?_) (fun c3 => ?_)
    · refine fo_iconst C dX2_isAt_28 (nI 0) ki_0 29 rfl ?_
      exact fin dX2_isAt_29 (by first | rfl | exact fo_nb _) (⟨fo_b0 (decide_eq_false (by omega)), rfl, rfl, rfl, rfl⟩)
    · refine fo_iconst C dX2_isAt_24 (nI 1) ki_1 25 rfl ?_
      refine fo_goto C dX2_isAt_25 29 (by decide) ?_
      exact fin dX2_isAt_29 (by first | rfl | exact fo_nb _) (⟨fo_b1 (decide_eq_true (by omega)), rfl, rfl, rfl, rfl⟩)
set_option maxRecDepth 10000 in
set_option maxHeartbeats 4000000 in
theorem mX2_isAtDigit {l : Launch} {Λ : fo_Lt} {I : fo_Mi} {D : fo_Md} {J : fo_Mj} {X : fo_Mi} {n : Nat} {t : Nat → Nat} {p o : Nat} {st : List fq_s} (h : fs_V I n t p o st) : fk_i l yX2_isAtDigit cX2_isAtDigit 1 .boolean 0 0 Λ [.ref (Λ.2.2.1 608)] I D J X (fo_pr (fo_b (fq_dg n t p)) I D J X) := by
  have hb60 := h.1.1
  have hpn := h.2.1
  have hst := h.2.2.2.1
  have hop := h.2.2.1
  refine fo_si (by decide) [(0, .ref (Λ.2.2.1 608))] rfl (Nat.le_of_ble_eq_true rfl) (fun K C fin => ?_)
  refine fo_aload_n C dX2_isAtDigit_0 0 rfl rfl 1 rfl ?_
  refine fo_get C dX2_isAtDigit_1 fK4 (by decide : fo_k 608 = 4) (by decide) 2 (by decide) fl_X2_32 (v := .int (nI p)) (congrArg (fun x => some (Value.int x)) (h.2.2.2.2.1)) 4 rfl ?_
  refine fo_aload_n C dX2_isAtDigit_4 0 rfl rfl 5 rfl ?_
  refine fo_get C dX2_isAtDigit_5 fK4 (by decide : fo_k 608 = 4) (by decide) 1 (by decide) fl_X2_28 (v := .int (nI n)) (congrArg (fun x => some (Value.int x)) (h.1.2.1)) 8 rfl ?_
  refine fo_ncmp_ge C (by omega) (by omega) dX2_isAtDigit_8 43 (by decide) 11 rfl (fun c1 => ?_) (fun c1 => ?_)
  · refine fo_iconst C dX2_isAtDigit_43 (nI 0) ki_0 44 rfl ?_
    exact fin dX2_isAtDigit_44 (by first | rfl | exact fo_nb _) (⟨fo_b0 (decide_eq_false (by omega)), rfl, rfl, rfl, rfl⟩)
  · refine fo_aload_n C dX2_isAtDigit_11 0 rfl rfl 12 rfl ?_
    refine fo_get C dX2_isAtDigit_12 fK4 (by decide : fo_k 608 = 4) (by decide) 0 (by decide) fl_X2_9 (v := .ref (Λ.2.2.1 609)) rfl 15 rfl ?_
    refine fo_aload_n C dX2_isAtDigit_15 0 rfl rfl 16 rfl ?_
    refine fo_get C dX2_isAtDigit_16 fK4 (by decide : fo_k 608 = 4) (by decide) 2 (by decide) fl_X2_32 (v := .int (nI p)) (congrArg (fun x => some (Value.int x)) (h.2.2.2.2.1)) 19 rfl ?_
    have q2 := (h.1.2.2 (p) (by omega)).2
    refine fo_cald C dX2_isAtDigit_19 (by decide) (by rw [(show fo_n 609 = 60 from rfl)]; omega) (nI (t p)) ((h.1.2.2 _ (by omega)).1) 20 rfl ?_
    refine fo_bipush C dX2_isAtDigit_20 (nI 48) kb_48 22 rfl ?_
    refine fo_ncmp_lt C (by omega) (by omega) dX2_isAtDigit_22 43 (by decide) 25 rfl (fun c3 => ?_) (fun c3 => ?_)
    · refine fo_iconst C dX2_isAtDigit_43 (nI 0) ki_0 44 rfl ?_
      exact fin dX2_isAtDigit_44 (by first | rfl | exact fo_nb _) (⟨fo_b0 (decide_eq_false (by omega)), rfl, rfl, rfl, rfl⟩)
    · refine fo_aload_n C dX2_isAtDigit_25 0 rfl rfl 26 rfl ?_
      refine fo_get C dX2_isAtDigit_26 fK4 (by decide : fo_k 608 = 4) (by decide) 0 (by decide) fl_X2_9 (v := .ref (Λ.2.2.1 609)) rfl 29 rfl ?_
      refine fo_aload_n C dX2_isAtDigit_29 0 rfl rfl 30 rfl ?_
      refine fo_get C dX2_isAtDigit_30 fK4 (by decide : fo_k 608 = 4) (by decide) 2 (by decide) fl_X2_32 (v := .int (nI p)) (congrArg (fun x => some (Value.int x)) (h.2.2.2.2.1)) 33 rfl ?_
      have q4 := (h.1.2.2 (p) (by omega)).2
      refine fo_cald C dX2_isAtDigit_33 (by decide) (by rw [(show fo_n 609 = 60 from rfl)]; omega) (nI (t p)) ((h.1.2.2 _ (by omega)).1) 34 rfl ?_
      refine fo_bipush C dX2_isAtDigit_34 (nI 57) kb_57 36 rfl ?_
      refine fo_ncmp_gt C (by omega) (by omega) dX2_isAtDigit_36 43 (by decide) 39 rfl (fun c5 => ?_) (fun c5 => ?_)
      · refine fo_iconst C dX2_isAtDigit_43 (nI 0) ki_0 44 rfl ?_
        exact fin dX2_isAtDigit_44 (by first | rfl | exact fo_nb _) (⟨fo_b0 (decide_eq_false (by omega)), rfl, rfl, rfl, rfl⟩)
      · refine fo_iconst C dX2_isAtDigit_39 (nI 1) ki_1 40 rfl ?_
        refine fo_goto C dX2_isAtDigit_40 44 (by decide) ?_
        exact fin dX2_isAtDigit_44 (by first | rfl | exact fo_nb _) (⟨fo_b1 (decide_eq_true (by omega)), rfl, rfl, rfl, rfl⟩)
set_option maxRecDepth 10000 in
set_option maxHeartbeats 4000000 in
theorem mX2_accepts {l : Launch} {Λ : fo_Lt} {I : fo_Mi} {D : fo_Md} {J : fo_Mj} {X : fo_Mi} {n : Nat} {t : Nat → Nat} {p o : Nat} {st : List fq_s} {c : Nat} (hc : c < 65536) (h : fs_V I n t p o st) : fk_i l yX2_accepts cX2_accepts 2 .boolean 1 21 Λ [.ref (Λ.2.2.1 608), .int (nI c)] I D J X ((fun r I' D' J' X' => r = fo_b (fq_at n t p c) ∧ fs_V I' n t (if fq_at n t p c = true then p + 1 else p) o st ∧ fs_vf I I' ∧ D' = D ∧ J' = J ∧ X' = X)) := by
  have hb60 := h.1.1
  have hpn := h.2.1
  have hst := h.2.2.2.1
  have hop := h.2.2.1
  refine fo_si (by decide) [(0, .ref (Λ.2.2.1 608)), (1, .int (nI c))] rfl (Nat.le_of_ble_eq_true rfl) (fun K C fin => ?_)
  refine fo_aload_n C dX2_accepts_0 0 rfl rfl 1 rfl ?_
  refine fo_iload_n C dX2_accepts_1 1 rfl rfl 2 rfl ?_
  refine fo_qvi C dX2_accepts_2 (mX2_isAt (c := c) (by omega) h) lv_X2_49 (by decide : fo_k 608 = 4) rfl (by decide) rfl ⟨Nat.le_of_ble_eq_true rfl, Nat.le_of_ble_eq_true rfl⟩ ⟨Nat.le_of_ble_eq_true rfl, Nat.le_of_ble_eq_true rfl⟩ [] rfl (Nat.le_of_ble_eq_true rfl) 5 rfl (fo_er ?_)
  refine fo_bif_ne C dX2_accepts_5 10 (by decide) 8 rfl (fun c7 => ?_) (fun c7 => ?_)
  · refine fo_aload_n C dX2_accepts_10 0 rfl rfl 11 rfl ?_
    refine fo_dup C dX2_accepts_11 rfl 12 rfl ?_
    refine fo_get C dX2_accepts_12 fK4 (by decide : fo_k 608 = 4) (by decide) 2 (by decide) fl_X2_32 (v := .int (nI p)) (congrArg (fun x => some (Value.int x)) (h.2.2.2.2.1)) 15 rfl ?_
    refine fo_iconst C dX2_accepts_15 (nI 1) ki_1 16 rfl ?_
    refine fo_iadd C dX2_accepts_16 (nI (p + 1)) (nI_add _ _) 17 rfl ?_
    refine fo_put C dX2_accepts_17 fK4 (by decide : fo_k 608 = 4) (by decide) 2 (by decide) fl_X2_32 rfl rfl rfl rfl (Nat.le_of_ble_eq_true rfl) 20 rfl ?_
    refine fo_iconst C dX2_accepts_20 (nI 1) ki_1 21 rfl ?_
    exact fin dX2_accepts_21 (by first | rfl | exact fo_nb _) (⟨fo_b1 (by assumption), by rw [if_pos (by assumption)]; exact h.pos (fq_at_in (by assumption)).1, fs_vf.pos, rfl, rfl, rfl⟩)
  · refine fo_iconst C dX2_accepts_8 (nI 0) ki_0 9 rfl ?_
    exact fin dX2_accepts_9 (by first | rfl | exact fo_nb _) (⟨fo_b0 (by first | assumption | (rename_i z; cases hz : fq_at n t p c <;> simp_all)), by rw [if_neg (by first | assumption | simp_all)]; exact h, fs_vf.rfl, rfl, rfl, rfl⟩)
set_option maxRecDepth 10000 in
set_option maxHeartbeats 4000000 in
theorem mX2_readDigit {l : Launch} {Λ : fo_Lt} {I : fo_Mi} {D : fo_Md} {J : fo_Mj} {X : fo_Mi} {n : Nat} {t : Nat → Nat} {p o : Nat} {st : List fq_s} (hd : fq_dg n t p = true) (h : fs_V I n t p o st) : fk_i l yX2_readDigit cX2_readDigit 2 .int 0 0 Λ [.ref (Λ.2.2.1 608)] I D J X ((fun r I' D' J' X' => r = nI (t p - 48) ∧ fs_V I' n t (p + 1) o st ∧ fs_vf I I' ∧ D' = D ∧ J' = J ∧ X' = X)) := by
  have hb60 := h.1.1
  have hpn := h.2.1
  have hst := h.2.2.2.1
  have hop := h.2.2.1
  have hdi := fq_dg_in hd
  refine fo_si (by decide) [(0, .ref (Λ.2.2.1 608))] rfl (Nat.le_of_ble_eq_true rfl) (fun K C fin => ?_)
  refine fo_aload_n C dX2_readDigit_0 0 rfl rfl 1 rfl ?_
  refine fo_get C dX2_readDigit_1 fK4 (by decide : fo_k 608 = 4) (by decide) 0 (by decide) fl_X2_9 (v := .ref (Λ.2.2.1 609)) rfl 4 rfl ?_
  refine fo_aload_n C dX2_readDigit_4 0 rfl rfl 5 rfl ?_
  refine fo_get C dX2_readDigit_5 fK4 (by decide : fo_k 608 = 4) (by decide) 2 (by decide) fl_X2_32 (v := .int (nI p)) (congrArg (fun x => some (Value.int x)) (h.2.2.2.2.1)) 8 rfl ?_
  have q1 := (h.1.2.2 (p) (by omega)).2
  refine fo_cald C dX2_readDigit_8 (by decide) (by rw [(show fo_n 609 = 60 from rfl)]; omega) (nI (t p)) ((h.1.2.2 _ (by omega)).1) 9 rfl ?_
  refine fo_bipush C dX2_readDigit_9 (nI 48) kb_48 11 rfl ?_
  refine fo_isub C dX2_readDigit_11 (nI ((t p) - 48)) (pk_sub (by omega)) 12 rfl ?_
  refine fo_istore_n C dX2_readDigit_12 rfl [(1, .int (nI ((t p) - 48))), (0, .ref (Λ.2.2.1 608))] rfl (by decide) 13 rfl ?_
  refine fo_aload_n C dX2_readDigit_13 1 rfl rfl 14 rfl ?_
  refine fo_dup C dX2_readDigit_14 rfl 15 rfl ?_
  refine fo_get C dX2_readDigit_15 fK4 (by decide : fo_k 608 = 4) (by decide) 2 (by decide) fl_X2_32 (v := .int (nI p)) (congrArg (fun x => some (Value.int x)) (h.2.2.2.2.1)) 18 rfl ?_
  refine fo_iconst C dX2_readDigit_18 (nI 1) ki_1 19 rfl ?_
  refine fo_iadd C dX2_readDigit_19 (nI (p + 1)) (nI_add _ _) 20 rfl ?_
  refine fo_put C dX2_readDigit_20 fK4 (by decide : fo_k 608 = 4) (by decide) 2 (by decide) fl_X2_32 rfl rfl rfl rfl (Nat.le_of_ble_eq_true rfl) 23 rfl ?_
  refine fo_iload_n C dX2_readDigit_23 0 rfl rfl 24 rfl ?_
  exact fin dX2_readDigit_24 rfl (⟨rfl, h.pos hdi.1, fs_vf.pos, rfl, rfl, rfl⟩)
set_option maxRecDepth 10000 in
set_option maxHeartbeats 4000000 in
theorem mX2_readNumber {l : Launch} {Λ : fo_Lt} {I : fo_Mi} {D : fo_Md} {J : fo_Mj} {X : fo_Mi} {n : Nat} {t : Nat → Nat} {p o : Nat} {st : List fq_s} (hd : fq_dg n t p = true) (h : fs_V I n t p o st) : fk_i l yX2_readNumber cX2_readNumber 3 .int 1 21 Λ [.ref (Λ.2.2.1 608)] I D J X ((fun r I' D' J' X' => r = nI (fq_num n t p).1 ∧ fs_V I' n t (fq_num n t p).2 o st ∧ fs_vf I I' ∧ D' = D ∧ J' = J ∧ X' = X)) := by
  have hb60 := h.1.1
  have hpn := h.2.1
  have hst := h.2.2.2.1
  have hop := h.2.2.1
  have hdi := fq_dg_in hd
  refine fo_si (by decide) [(0, .ref (Λ.2.2.1 608))] rfl (Nat.le_of_ble_eq_true rfl) (fun K C fin => ?_)
  refine fo_aload_n C dX2_readNumber_0 0 rfl rfl 1 rfl ?_
  refine fo_qvi C dX2_readNumber_1 (mX2_readDigit (by assumption) h) lv_X2_76 (by decide : fo_k 608 = 4) rfl (by decide) rfl ⟨Nat.le_of_ble_eq_true rfl, Nat.le_of_ble_eq_true rfl⟩ ⟨Nat.le_of_ble_eq_true rfl, Nat.le_of_ble_eq_true rfl⟩ [] rfl (Nat.le_of_ble_eq_true rfl) 4 rfl (fun r1 I2 D3 J4 X5 p6 => ?_)
  obtain ⟨rfl, g7, f8, z9⟩ := p6
  obtain ⟨rfl, rfl, rfl⟩ := fo_sym3 z9
  refine fo_istore_n C dX2_readNumber_4 rfl [(1, .int (nI (t p - 48))), (0, .ref (Λ.2.2.1 608))] rfl (by decide) 5 rfl ?_
  refine fo_iconst C dX2_readNumber_5 (nI 0) ki_0 6 rfl ?_
  refine fo_istore_n C dX2_readNumber_6 rfl [(2, .int (nI 0)), (1, .int (nI (t p - 48))), (0, .ref (Λ.2.2.1 608))] rfl (by decide) 7 rfl ?_
  have hL7 : ∀ (m7 : Nat) (m u q : Nat) (Y : fo_Mi), 3 - m < m7 → m ≤ 2 → (fq_nm n t (2 - m) u q = fq_num n t p) → fs_V Y n t q o st → fs_vf I Y → (u + 1 ≤ 10 ^ (m + 1)) → fo_G l Λ { frames := 1, cells := 0, slots := 0, locals := 21 } K 0 0 7 [(2, .int (nI m)), (1, .int (nI u)), (0, .ref (Λ.2.2.1 608))] [] Y D J X := by
    intro m7
    induction m7 with
    | zero => intro m u q Y hm; exact absurd hm (Nat.not_lt_zero _)
    | succ m7 ih7 =>
      intro m u q Y hm7 hm2 hR hY hF hu
      have hub : 10 ^ (m + 1) ≤ 1000 := Nat.le_trans (Nat.pow_le_pow_right (n := 10) (by decide) (show m + 1 ≤ 3 by omega)) (by decide)
      refine fo_iload_n C dX2_readNumber_7 0 rfl rfl 8 rfl ?_
      refine fo_iconst C dX2_readNumber_8 (nI 2) ki_2 9 rfl ?_
      refine fo_ncmp_ge C (by omega) (by omega) dX2_readNumber_9 35 (by decide) 12 rfl (fun c9 => ?_) (fun c9 => ?_)
      · refine fo_iload_n C dX2_readNumber_35 1 rfl rfl 36 rfl ?_
        exact fin dX2_readNumber_36 rfl ((by have e9 : (u, q) = fq_num n t p := (by rw [← hR]; rcases Nat.lt_or_ge m 2 with z | z; (first | omega | (rw [show 2 - m = (2 - (m + 1)) + 1 by omega, fq_nm, if_neg (by simp_all)])); (rw [show 2 - m = 0 by omega, fq_nm])); exact ⟨by rw [← e9], by rw [← e9]; exact hY, hF, rfl, rfl, rfl⟩))
      · refine fo_aload_n C dX2_readNumber_12 2 rfl rfl 13 rfl ?_
        refine fo_qvi C dX2_readNumber_13 (mX2_isAtDigit hY) lv_X2_73 (by decide : fo_k 608 = 4) rfl (by decide) rfl ⟨Nat.le_of_ble_eq_true rfl, Nat.le_of_ble_eq_true rfl⟩ ⟨Nat.le_of_ble_eq_true rfl, Nat.le_of_ble_eq_true rfl⟩ [] rfl (Nat.le_of_ble_eq_true rfl) 16 rfl (fo_er ?_)
        refine fo_bif_eq C dX2_readNumber_16 35 (by decide) 19 rfl (fun c16 => ?_) (fun c16 => ?_)
        · refine fo_iload_n C dX2_readNumber_35 1 rfl rfl 36 rfl ?_
          exact fin dX2_readNumber_36 rfl ((by have e9 : (u, q) = fq_num n t p := (by rw [← hR]; rcases Nat.lt_or_ge m 2 with z | z; (first | omega | (rw [show 2 - m = (2 - (m + 1)) + 1 by omega, fq_nm, if_neg (by simp_all)])); (rw [show 2 - m = 0 by omega, fq_nm])); exact ⟨by rw [← e9], by rw [← e9]; exact hY, hF, rfl, rfl, rfl⟩))
        · refine fo_iload_n C dX2_readNumber_19 1 rfl rfl 20 rfl ?_
          refine fo_bipush C dX2_readNumber_20 (nI 10) kb_10 22 rfl ?_
          refine fo_imul C dX2_readNumber_22 (nI (u * 10)) (pk_mul _ _) 23 rfl ?_
          refine fo_aload_n C dX2_readNumber_23 2 rfl rfl 24 rfl ?_
          refine fo_qvi C dX2_readNumber_24 (mX2_readDigit (by assumption) hY) lv_X2_76 (by decide : fo_k 608 = 4) rfl (by decide) rfl ⟨Nat.le_of_ble_eq_true rfl, Nat.le_of_ble_eq_true rfl⟩ ⟨Nat.le_of_ble_eq_true rfl, Nat.le_of_ble_eq_true rfl⟩ [.int (nI (u * 10))] rfl (Nat.le_of_ble_eq_true rfl) 27 rfl (fun r17 I18 D19 J20 X21 p22 => ?_)
          obtain ⟨rfl, g23, f24, z9⟩ := p22
          obtain ⟨rfl, rfl, rfl⟩ := fo_sym3 z9
          refine fo_iadd C dX2_readNumber_27 (nI ((u * 10) + (t q - 48))) (nI_add _ _) 28 rfl ?_
          refine fo_istore_n C dX2_readNumber_28 rfl [(1, .int (nI ((u * 10) + (t q - 48)))), (2, .int (nI m)), (0, .ref (Λ.2.2.1 608))] rfl (by decide) 29 rfl ?_
          refine fo_iinc C dX2_readNumber_29 1 rfl (nI (m + 1)) (nI_inc1 _) [(2, .int (nI (m + 1))), (1, .int (nI ((u * 10) + (t q - 48)))), (0, .ref (Λ.2.2.1 608))] rfl (by decide) 32 rfl ?_
          refine fo_goto C dX2_readNumber_32 7 (by decide) ?_
          exact ih7 (m + 1) (u * 10 + (t q - 48)) (q + 1) I18 (by omega) (by omega) (by rw [← hR, show 2 - m = (2 - (m + 1)) + 1 by omega, fq_nm, if_pos (by assumption)]) g23 (hF.trans f24) (by have := fq_dg_in (n := n) (t := t) (p := q) (by assumption); have e9 : 10 ^ (m + 1 + 1) = 10 * 10 ^ (m + 1) := (by rw [Nat.pow_succ, Nat.mul_comm]); omega)
  exact hL7 (3 + 1) 0 (t p - 48) (p + 1) I2 (by omega) (by omega) rfl g7 f8 (by have := fq_dg_in hd; omega)
set_option maxRecDepth 10000 in
set_option maxHeartbeats 4000000 in
theorem mX2_addStep {l : Launch} {Λ : fo_Lt} {I : fo_Mi} {D : fo_Md} {J : fo_Mj} {X : fo_Mi} {n : Nat} {t : Nat → Nat} {p o : Nat} {st : List fq_s} {c a x : Nat} (hq : fq_ok (c, a, x, o)) (hl : st.length < p) (h : fs_V I n t p o st) : fk_v l yX2_addStep cX2_addStep 4 0 0 Λ [.ref (Λ.2.2.1 608), .int (nI c), .int (nI a), .int (nI x)] I D J X ((fun I' D' J' X' => fs_V I' n t p o (st ++ [(c, a, x, o)]) ∧ fs_vf I I' ∧ D' = D ∧ J' = J ∧ X' = X)) := by
  have hb60 := h.1.1
  have hpn := h.2.1
  have hst := h.2.2.2.1
  have hop := h.2.2.1
  refine fo_sv (by decide) [(0, .ref (Λ.2.2.1 608)), (1, .int (nI c)), (2, .int (nI a)), (3, .int (nI x))] rfl (Nat.le_of_ble_eq_true rfl) (fun K C fin => ?_)
  refine fo_aload_n C dX2_addStep_0 0 rfl rfl 1 rfl ?_
  refine fo_get C dX2_addStep_1 fK4 (by decide : fo_k 608 = 4) (by decide) 8 (by decide) fl_X2_38 (v := .int (nI (st.length))) (congrArg (fun x => some (Value.int x)) (h.2.2.2.2.2.2.1)) 4 rfl ?_
  refine fo_bipush C dX2_addStep_4 (nI 60) kb_60 6 rfl ?_
  refine fo_ncmp_lt C (by omega) (by omega) dX2_addStep_6 10 (by decide) 9 rfl (fun c1 => ?_) (fun c1 => ?_)
  · refine fo_aload_n C dX2_addStep_10 0 rfl rfl 11 rfl ?_
    refine fo_get C dX2_addStep_11 fK4 (by decide : fo_k 608 = 4) (by decide) 4 (by decide) fl_X2_15 (v := .ref (Λ.2.2.1 610)) rfl 14 rfl ?_
    refine fo_aload_n C dX2_addStep_14 0 rfl rfl 15 rfl ?_
    refine fo_get C dX2_addStep_15 fK4 (by decide : fo_k 608 = 4) (by decide) 8 (by decide) fl_X2_38 (v := .int (nI (st.length))) (congrArg (fun x => some (Value.int x)) (h.2.2.2.2.2.2.1)) 18 rfl ?_
    refine fo_iload_n C dX2_addStep_18 1 rfl rfl 19 rfl ?_
    refine fo_cast C dX2_addStep_19 (by decide) (by rw [(show fo_n 610 = 60 from rfl)]; omega) (Value.int.inj (pk_charN hq.1).1) 20 rfl ?_
    refine fo_aload_n C dX2_addStep_20 0 rfl rfl 21 rfl ?_
    refine fo_get C dX2_addStep_21 fK4 (by decide : fo_k 608 = 4) (by decide) 5 (by decide) fl_X2_18 (v := .ref (Λ.2.2.1 611)) rfl 24 rfl ?_
    refine fo_aload_n C dX2_addStep_24 0 rfl rfl 25 rfl ?_
    refine fo_get C dX2_addStep_25 fK4 (by decide : fo_k 608 = 4) (by decide) 8 (by decide) fl_X2_38 (v := .int (nI (st.length))) (congrArg (fun x => some (Value.int x)) ((by rw [fo_rn _ _ (by decide)]; exact h.2.2.2.2.2.2.1))) 28 rfl ?_
    refine fo_iload_n C dX2_addStep_28 2 rfl rfl 29 rfl ?_
    refine fo_iast C dX2_addStep_29 (by decide) (by rw [(show fo_n 611 = 60 from rfl)]; omega) 30 rfl ?_
    refine fo_aload_n C dX2_addStep_30 0 rfl rfl 31 rfl ?_
    refine fo_get C dX2_addStep_31 fK4 (by decide : fo_k 608 = 4) (by decide) 6 (by decide) fl_X2_22 (v := .ref (Λ.2.2.1 612)) rfl 34 rfl ?_
    refine fo_aload_n C dX2_addStep_34 0 rfl rfl 35 rfl ?_
    refine fo_get C dX2_addStep_35 fK4 (by decide : fo_k 608 = 4) (by decide) 8 (by decide) fl_X2_38 (v := .int (nI (st.length))) (congrArg (fun x => some (Value.int x)) ((by rw [fo_rn _ _ (by decide), fo_rn _ _ (by decide)]; exact h.2.2.2.2.2.2.1))) 38 rfl ?_
    refine fo_iload_n C dX2_addStep_38 3 rfl rfl 39 rfl ?_
    refine fo_iast C dX2_addStep_39 (by decide) (by rw [(show fo_n 612 = 60 from rfl)]; omega) 40 rfl ?_
    refine fo_aload_n C dX2_addStep_40 0 rfl rfl 41 rfl ?_
    refine fo_get C dX2_addStep_41 fK4 (by decide : fo_k 608 = 4) (by decide) 7 (by decide) fl_X2_25 (v := .ref (Λ.2.2.1 613)) rfl 44 rfl ?_
    refine fo_aload_n C dX2_addStep_44 0 rfl rfl 45 rfl ?_
    refine fo_get C dX2_addStep_45 fK4 (by decide : fo_k 608 = 4) (by decide) 8 (by decide) fl_X2_38 (v := .int (nI (st.length))) (congrArg (fun x => some (Value.int x)) ((by rw [fo_rn _ _ (by decide), fo_rn _ _ (by decide), fo_rn _ _ (by decide)]; exact h.2.2.2.2.2.2.1))) 48 rfl ?_
    refine fo_aload_n C dX2_addStep_48 0 rfl rfl 49 rfl ?_
    refine fo_get C dX2_addStep_49 fK4 (by decide : fo_k 608 = 4) (by decide) 3 (by decide) fl_X2_35 (v := .int (nI o)) (congrArg (fun x => some (Value.int x)) ((by rw [fo_rn _ _ (by decide), fo_rn _ _ (by decide), fo_rn _ _ (by decide)]; exact h.2.2.2.2.2.1))) 52 rfl ?_
    refine fo_iast C dX2_addStep_52 (by decide) (by rw [(show fo_n 613 = 60 from rfl)]; omega) 53 rfl ?_
    refine fo_aload_n C dX2_addStep_53 0 rfl rfl 54 rfl ?_
    refine fo_dup C dX2_addStep_54 rfl 55 rfl ?_
    refine fo_get C dX2_addStep_55 fK4 (by decide : fo_k 608 = 4) (by decide) 8 (by decide) fl_X2_38 (v := .int (nI (st.length))) (congrArg (fun x => some (Value.int x)) ((by rw [fo_rn _ _ (by decide), fo_rn _ _ (by decide), fo_rn _ _ (by decide), fo_rn _ _ (by decide)]; exact h.2.2.2.2.2.2.1))) 58 rfl ?_
    refine fo_iconst C dX2_addStep_58 (nI 1) ki_1 59 rfl ?_
    refine fo_iadd C dX2_addStep_59 (nI (st.length + 1)) (nI_add _ _) 60 rfl ?_
    refine fo_put C dX2_addStep_60 fK4 (by decide : fo_k 608 = 4) (by decide) 8 (by decide) fl_X2_38 rfl rfl rfl rfl (Nat.le_of_ble_eq_true rfl) 63 rfl ?_
    exact fin dX2_addStep_63 ((by rw [fo_rn _ _ (by decide : (608 : Nat) ≠ 613), fo_rn _ _ (by decide : (608 : Nat) ≠ 612), fo_rn _ _ (by decide : (608 : Nat) ≠ 611), fo_rn _ _ (by decide : (608 : Nat) ≠ 610), fo_rn _ _ (by decide : (613 : Nat) ≠ 612), fo_rn _ _ (by decide : (613 : Nat) ≠ 611), fo_rn _ _ (by decide : (613 : Nat) ≠ 610), fo_rn _ _ (by decide : (612 : Nat) ≠ 611), fo_rn _ _ (by decide : (612 : Nat) ≠ 610), fo_rn _ _ (by decide : (611 : Nat) ≠ 610)]; exact ⟨h.add hl hq, fun b h1 h2 h3 h4 h5 => by rw [fo_rn _ _ h1, fo_rn _ _ h5, fo_rn _ _ h4, fo_rn _ _ h3, fo_rn _ _ h2], rfl, rfl, rfl⟩))
  · omega
set_option maxRecDepth 10000 in
set_option maxHeartbeats 4000000 in
theorem mX2_parseDigit {l : Launch} {Λ : fo_Lt} {I : fo_Mi} {D : fo_Md} {J : fo_Mj} {X : fo_Mi} {n : Nat} {t : Nat → Nat} {p o : Nat} {st : List fq_s} {c : Nat} (hc : c < 65536) (h : fs_V I n t p o st) : fk_i l yX2_parseDigit cX2_parseDigit 2 .boolean 1 23 Λ [.ref (Λ.2.2.1 608), .int (nI c)] I D J X ((fun r I' D' J' X' => r = fo_b (fq_pd n t c o p).1.isSome ∧ fs_R I n t o st (fq_pd n t c o p) I' ∧ D' = D ∧ J' = J ∧ X' = X)) := by
  have hb60 := h.1.1
  have hpn := h.2.1
  have hst := h.2.2.2.1
  have hop := h.2.2.1
  refine fo_si (by decide) [(0, .ref (Λ.2.2.1 608)), (1, .int (nI c))] rfl (Nat.le_of_ble_eq_true rfl) (fun K C fin => ?_)
  refine fo_aload_n C dX2_parseDigit_0 0 rfl rfl 1 rfl ?_
  refine fo_qvi C dX2_parseDigit_1 (mX2_isAtDigit h) lv_X2_73 (by decide : fo_k 608 = 4) rfl (by decide) rfl ⟨Nat.le_of_ble_eq_true rfl, Nat.le_of_ble_eq_true rfl⟩ ⟨Nat.le_of_ble_eq_true rfl, Nat.le_of_ble_eq_true rfl⟩ [] rfl (Nat.le_of_ble_eq_true rfl) 4 rfl (fo_er ?_)
  refine fo_bif_ne C dX2_parseDigit_4 9 (by decide) 7 rfl (fun c7 => ?_) (fun c7 => ?_)
  · have hdi8 := fq_dg_in (n := n) (t := t) (p := p) c7
    refine fo_aload_n C dX2_parseDigit_9 0 rfl rfl 10 rfl ?_
    refine fo_iload_n C dX2_parseDigit_10 1 rfl rfl 11 rfl ?_
    refine fo_aload_n C dX2_parseDigit_11 0 rfl rfl 12 rfl ?_
    refine fo_qvi C dX2_parseDigit_12 (mX2_readDigit (by assumption) h) lv_X2_76 (by decide : fo_k 608 = 4) rfl (by decide) rfl ⟨Nat.le_of_ble_eq_true rfl, Nat.le_of_ble_eq_true rfl⟩ ⟨Nat.le_of_ble_eq_true rfl, Nat.le_of_ble_eq_true rfl⟩ [.int (nI c), .ref (Λ.2.2.1 608)] rfl (Nat.le_of_ble_eq_true rfl) 15 rfl (fun r9 I10 D11 J12 X13 p14 => ?_)
    obtain ⟨rfl, g15, f16, z9⟩ := p14
    obtain ⟨rfl, rfl, rfl⟩ := fo_sym3 z9
    refine fo_iconst C dX2_parseDigit_15 (nI 0) ki_0 16 rfl ?_
    refine fo_qvv C dX2_parseDigit_16 (mX2_addStep (c := c) (a := t p - 48) (x := 0) (fq_ok_of (by omega) (by omega) (by omega) (by omega)) (by omega) g15) lv_X2_80 (by decide : fo_k 608 = 4) rfl (by decide) rfl ⟨Nat.le_of_ble_eq_true rfl, Nat.le_of_ble_eq_true rfl⟩ ⟨Nat.le_of_ble_eq_true rfl, Nat.le_of_ble_eq_true rfl⟩ [] rfl (Nat.le_of_ble_eq_true rfl) 19 rfl (fun I18 D19 J20 X21 p22 => ?_)
    obtain ⟨g23, f24, z9⟩ := p22
    obtain ⟨rfl, rfl, rfl⟩ := fo_sym3 z9
    refine fo_iconst C dX2_parseDigit_19 (nI 1) ki_1 20 rfl ?_
    exact fin dX2_parseDigit_20 (by first | rfl | exact fo_nb _) ((by rw [fq_pd, if_pos (by assumption)]; exact ⟨rfl, ⟨⟨_, g23, fun q hq => by cases hq; rfl⟩, (f16.trans f24)⟩, rfl, rfl, rfl⟩))
  · refine fo_iconst C dX2_parseDigit_7 (nI 0) ki_0 8 rfl ?_
    exact fin dX2_parseDigit_8 (by first | rfl | exact fo_nb _) ((by rw [fq_pd, if_neg (by simp_all)]; exact ⟨rfl, ⟨⟨st, h, fun q hq => by cases hq⟩, fs_vf.rfl⟩, rfl, rfl, rfl⟩))
set_option maxRecDepth 10000 in
set_option maxHeartbeats 4000000 in
theorem mX2_parseSee {l : Launch} {Λ : fo_Lt} {I : fo_Mi} {D : fo_Md} {J : fo_Mj} {X : fo_Mi} {n : Nat} {t : Nat → Nat} {p o : Nat} {st : List fq_s} (h : fs_V I n t p o st) : fk_i l yX2_parseSee cX2_parseSee 3 .boolean 2 43 Λ [.ref (Λ.2.2.1 608)] I D J X ((fun r I' D' J' X' => r = fo_b (fq_ps n t o p).1.isSome ∧ fs_R I n t o st (fq_ps n t o p) I' ∧ D' = D ∧ J' = J ∧ X' = X)) := by
  have hb60 := h.1.1
  have hpn := h.2.1
  have hst := h.2.2.2.1
  have hop := h.2.2.1
  refine fo_si (by decide) [(0, .ref (Λ.2.2.1 608))] rfl (Nat.le_of_ble_eq_true rfl) (fun K C fin => ?_)
  refine fo_aload_n C dX2_parseSee_0 0 rfl rfl 1 rfl ?_
  refine fo_qvi C dX2_parseSee_1 (mX2_isAtDigit h) lv_X2_73 (by decide : fo_k 608 = 4) rfl (by decide) rfl ⟨Nat.le_of_ble_eq_true rfl, Nat.le_of_ble_eq_true rfl⟩ ⟨Nat.le_of_ble_eq_true rfl, Nat.le_of_ble_eq_true rfl⟩ [] rfl (Nat.le_of_ble_eq_true rfl) 4 rfl (fo_er ?_)
  refine fo_bif_ne C dX2_parseSee_4 9 (by decide) 7 rfl (fun c7 => ?_) (fun c7 => ?_)
  · have hdi8 := fq_dg_in (n := n) (t := t) (p := p) c7
    refine fo_aload_n C dX2_parseSee_9 0 rfl rfl 10 rfl ?_
    refine fo_qvi C dX2_parseSee_10 (mX2_readDigit (by assumption) h) lv_X2_76 (by decide : fo_k 608 = 4) rfl (by decide) rfl ⟨Nat.le_of_ble_eq_true rfl, Nat.le_of_ble_eq_true rfl⟩ ⟨Nat.le_of_ble_eq_true rfl, Nat.le_of_ble_eq_true rfl⟩ [] rfl (Nat.le_of_ble_eq_true rfl) 13 rfl (fun r9 I10 D11 J12 X13 p14 => ?_)
    obtain ⟨rfl, g15, f16, z9⟩ := p14
    obtain ⟨rfl, rfl, rfl⟩ := fo_sym3 z9
    refine fo_istore_n C dX2_parseSee_13 rfl [(1, .int (nI (t p - 48))), (0, .ref (Λ.2.2.1 608))] rfl (by decide) 14 rfl ?_
    refine fo_aload_n C dX2_parseSee_14 1 rfl rfl 15 rfl ?_
    refine fo_bipush C dX2_parseSee_15 (nI 61) kb_61 17 rfl ?_
    refine fo_qvi C dX2_parseSee_17 (mX2_accepts (c := 61) (by omega) g15) lv_X2_45 (by decide : fo_k 608 = 4) rfl (by decide) rfl ⟨Nat.le_of_ble_eq_true rfl, Nat.le_of_ble_eq_true rfl⟩ ⟨Nat.le_of_ble_eq_true rfl, Nat.le_of_ble_eq_true rfl⟩ [] rfl (Nat.le_of_ble_eq_true rfl) 20 rfl (fun r17 I18 D19 J20 X21 p22 => ?_)
    obtain ⟨rfl, g23, f24, z9⟩ := p22
    obtain ⟨rfl, rfl, rfl⟩ := fo_sym3 z9
    refine fo_bif_ne C dX2_parseSee_20 25 (by decide) 23 rfl (fun c25 => ?_) (fun c25 => ?_)
    · have hai26 := fq_at_in (n := n) (t := t) (p := p + 1) (c := 61) c25
      rw [if_pos c25] at g23
      refine fo_iconst C dX2_parseSee_25 (nI 0) ki_0 26 rfl ?_
      refine fo_istore_n C dX2_parseSee_26 rfl [(2, .int (nI 0)), (1, .int (nI (t p - 48))), (0, .ref (Λ.2.2.1 608))] rfl (by decide) 27 rfl ?_
      have hL27 : ∀ (m27 : Nat) (i q : Nat) (Y : fo_Mi) (vl : List fq_s), 61 - i < m27 → i ≤ 60 → fs_V Y n t q o (st ++ vl) → fs_vf I Y → fq_ps n t o p = fq_ac vl (fq_vs n t (t p - 48) o (60 - i) q) → ((st ++ vl).length < q) → fo_G l Λ { frames := 2, cells := 0, slots := 0, locals := 43 } K 0 0 27 [(2, .int (nI i)), (1, .int (nI (t p - 48))), (0, .ref (Λ.2.2.1 608))] [] Y D J X := by
        intro m27
        induction m27 with
        | zero => intro i q Y vl hm; exact absurd hm (Nat.not_lt_zero _)
        | succ m27 ih27 =>
          intro i q Y vl hm27 hi hY hF hR hlq
          have hqn := hY.2.1
          have hoq := hY.2.2.1
          refine fo_iload_n C dX2_parseSee_27 0 rfl rfl 28 rfl ?_
          refine fo_bipush C dX2_parseSee_28 (nI 60) kb_60 30 rfl ?_
          refine fo_ncmp_ge C (by omega) (by omega) dX2_parseSee_30 70 (by decide) 33 rfl (fun c27 => ?_) (fun c27 => ?_)
          · refine fo_iconst C dX2_parseSee_70 (nI 0) ki_0 71 rfl ?_
            exact fin dX2_parseSee_71 (by first | rfl | exact fo_nb _) ((by rw [hR, show 60 - i = 0 by omega, fq_vs]; exact ⟨rfl, ⟨⟨_, hY, fun q hq => by cases hq⟩, hF⟩, rfl, rfl, rfl⟩))
          · refine fo_aload_n C dX2_parseSee_33 2 rfl rfl 34 rfl ?_
            refine fo_qvi C dX2_parseSee_34 (mX2_isAtDigit hY) lv_X2_73 (by decide : fo_k 608 = 4) rfl (by decide) rfl ⟨Nat.le_of_ble_eq_true rfl, Nat.le_of_ble_eq_true rfl⟩ ⟨Nat.le_of_ble_eq_true rfl, Nat.le_of_ble_eq_true rfl⟩ [] rfl (Nat.le_of_ble_eq_true rfl) 37 rfl (fo_er ?_)
            refine fo_bif_ne C dX2_parseSee_37 42 (by decide) 40 rfl (fun c34 => ?_) (fun c34 => ?_)
            · have hdi35 := fq_dg_in (n := n) (t := t) (p := q) c34
              refine fo_aload_n C dX2_parseSee_42 2 rfl rfl 43 rfl ?_
              refine fo_bipush C dX2_parseSee_43 (nI 115) kb_115 45 rfl ?_
              refine fo_iload_n C dX2_parseSee_45 1 rfl rfl 46 rfl ?_
              refine fo_aload_n C dX2_parseSee_46 2 rfl rfl 47 rfl ?_
              refine fo_qvi C dX2_parseSee_47 (mX2_readNumber (by assumption) hY) lv_X2_84 (by decide : fo_k 608 = 4) rfl (by decide) rfl ⟨Nat.le_of_ble_eq_true rfl, Nat.le_of_ble_eq_true rfl⟩ ⟨Nat.le_of_ble_eq_true rfl, Nat.le_of_ble_eq_true rfl⟩ [.int (nI (t p - 48)), .int (nI 115), .ref (Λ.2.2.1 608)] rfl (Nat.le_of_ble_eq_true rfl) 50 rfl (fun r36 I37 D38 J39 X40 p41 => ?_)
              obtain ⟨rfl, g42, f43, z9⟩ := p41
              obtain ⟨rfl, rfl, rfl⟩ := fo_sym3 z9
              have hni := fq_num_in (n := n) (t := t) (p := q) (by assumption)
              refine fo_qvv C dX2_parseSee_50 (mX2_addStep (c := 115) (a := t p - 48) (x := (fq_num n t q).1) (fq_ok_of (by omega) (by omega) (by omega) (by omega)) (by omega) g42) lv_X2_80 (by decide : fo_k 608 = 4) rfl (by decide) rfl ⟨Nat.le_of_ble_eq_true rfl, Nat.le_of_ble_eq_true rfl⟩ ⟨Nat.le_of_ble_eq_true rfl, Nat.le_of_ble_eq_true rfl⟩ [] rfl (Nat.le_of_ble_eq_true rfl) 53 rfl (fun I45 D46 J47 X48 p49 => ?_)
              obtain ⟨g50, f51, z9⟩ := p49
              obtain ⟨rfl, rfl, rfl⟩ := fo_sym3 z9
              refine fo_aload_n C dX2_parseSee_53 2 rfl rfl 54 rfl ?_
              refine fo_bipush C dX2_parseSee_54 (nI 44) kb_44 56 rfl ?_
              refine fo_qvi C dX2_parseSee_56 (mX2_accepts (c := 44) (by omega) g50) lv_X2_45 (by decide : fo_k 608 = 4) rfl (by decide) rfl ⟨Nat.le_of_ble_eq_true rfl, Nat.le_of_ble_eq_true rfl⟩ ⟨Nat.le_of_ble_eq_true rfl, Nat.le_of_ble_eq_true rfl⟩ [] rfl (Nat.le_of_ble_eq_true rfl) 59 rfl (fun r52 I53 D54 J55 X56 p57 => ?_)
              obtain ⟨rfl, g58, f59, z9⟩ := p57
              obtain ⟨rfl, rfl, rfl⟩ := fo_sym3 z9
              refine fo_bif_ne C dX2_parseSee_59 64 (by decide) 62 rfl (fun c60 => ?_) (fun c60 => ?_)
              · have hai61 := fq_at_in (n := n) (t := t) (p := (fq_num n t q).2) (c := 44) c60
                rw [if_pos c60] at g58
                refine fo_iinc C dX2_parseSee_64 0 rfl (nI (i + 1)) (nI_inc1 _) [(2, .int (nI (i + 1))), (1, .int (nI (t p - 48))), (0, .ref (Λ.2.2.1 608))] rfl (by decide) 67 rfl ?_
                refine fo_goto C dX2_parseSee_67 27 (by decide) ?_
                exact ih27 (i + 1) ((fq_num n t q).2 + 1) I53 (vl ++ [(115, t p - 48, (fq_num n t q).1, o)]) (by omega) (by omega) (by rw [← List.append_assoc]; exact g58) (hF.trans ((f43.trans f51).trans f59)) (by rw [hR, show 60 - i = (60 - (i + 1)) + 1 by omega, fq_vs, if_pos (by assumption), if_pos (by assumption), fq_ac_ac]) (by rw [← List.append_assoc, List.length_append]; have e8 : [(115, t p - 48, (fq_num n t q).1, o)].length = 1 := rfl; omega)
              · rw [if_neg (by simp_all)] at g58
                refine fo_iconst C dX2_parseSee_62 (nI 1) ki_1 63 rfl ?_
                exact fin dX2_parseSee_63 (by first | rfl | exact fo_nb _) ((by rw [hR, show 60 - i = (60 - (i + 1)) + 1 by omega, fq_vs, if_pos (by assumption), if_neg (by simp_all)]; exact ⟨rfl, ⟨⟨_, g58, fun q hq => by cases hq; rw [List.append_assoc]⟩, (hF.trans ((f43.trans f51).trans f59))⟩, rfl, rfl, rfl⟩))
            · refine fo_iconst C dX2_parseSee_40 (nI 0) ki_0 41 rfl ?_
              exact fin dX2_parseSee_41 (by first | rfl | exact fo_nb _) ((by rw [hR, show 60 - i = (60 - (i + 1)) + 1 by omega, fq_vs, if_neg (by simp_all)]; exact ⟨rfl, ⟨⟨_, hY, fun q hq => by cases hq⟩, hF⟩, rfl, rfl, rfl⟩))
      exact hL27 (61 + 1) 0 (p + 1 + 1) I18 [] (by omega) (by omega) (by rw [List.append_nil]; exact g23) (f16.trans f24) (by rw [fq_ac_nil, fq_ps, if_pos (by assumption), if_pos (by assumption)]) (by rw [List.append_nil]; omega)
    · rw [if_neg (by simp_all)] at g23
      refine fo_iconst C dX2_parseSee_23 (nI 0) ki_0 24 rfl ?_
      exact fin dX2_parseSee_24 (by first | rfl | exact fo_nb _) ((by rw [fq_ps, if_pos (by assumption), if_neg (by simp_all)]; exact ⟨rfl, ⟨⟨st, g23, fun q hq => by cases hq⟩, (f16.trans f24)⟩, rfl, rfl, rfl⟩))
  · refine fo_iconst C dX2_parseSee_7 (nI 0) ki_0 8 rfl ?_
    exact fin dX2_parseSee_8 (by first | rfl | exact fo_nb _) ((by rw [fq_ps, if_neg (by simp_all)]; exact ⟨rfl, ⟨⟨st, h, fun q hq => by cases hq⟩, fs_vf.rfl⟩, rfl, rfl, rfl⟩))
set_option maxRecDepth 10000 in
set_option maxHeartbeats 4000000 in
theorem mX2_parseProphet {l : Launch} {Λ : fo_Lt} {I : fo_Mi} {D : fo_Md} {J : fo_Mj} {X : fo_Mi} {n : Nat} {t : Nat → Nat} {p o : Nat} {st : List fq_s} (h : fs_V I n t p o st) : fk_i l yX2_parseProphet cX2_parseProphet 3 .boolean 1 23 Λ [.ref (Λ.2.2.1 608)] I D J X ((fun r I' D' J' X' => r = fo_b (fq_pp n t o p).1.isSome ∧ fs_R I n t o st (fq_pp n t o p) I' ∧ D' = D ∧ J' = J ∧ X' = X)) := by
  have hb60 := h.1.1
  have hpn := h.2.1
  have hst := h.2.2.2.1
  have hop := h.2.2.1
  refine fo_si (by decide) [(0, .ref (Λ.2.2.1 608))] rfl (Nat.le_of_ble_eq_true rfl) (fun K C fin => ?_)
  refine fo_aload_n C dX2_parseProphet_0 0 rfl rfl 1 rfl ?_
  refine fo_bipush C dX2_parseProphet_1 (nI 109) kb_109 3 rfl ?_
  refine fo_qvi C dX2_parseProphet_3 (mX2_isAt (c := 109) (by omega) h) lv_X2_49 (by decide : fo_k 608 = 4) rfl (by decide) rfl ⟨Nat.le_of_ble_eq_true rfl, Nat.le_of_ble_eq_true rfl⟩ ⟨Nat.le_of_ble_eq_true rfl, Nat.le_of_ble_eq_true rfl⟩ [] rfl (Nat.le_of_ble_eq_true rfl) 6 rfl (fo_er ?_)
  refine fo_bif_ne C dX2_parseProphet_6 27 (by decide) 9 rfl (fun c7 => ?_) (fun c7 => ?_)
  · refine fo_iconst C dX2_parseProphet_27 (nI 1) ki_1 28 rfl ?_
    refine fo_goto C dX2_parseProphet_28 32 (by decide) ?_
    refine fo_istore_n C dX2_parseProphet_32 rfl [(1, .int (nI 1)), (0, .ref (Λ.2.2.1 608))] rfl (by decide) 33 rfl ?_
    refine fo_iload_n C dX2_parseProphet_33 0 rfl rfl 34 rfl ?_
    refine fo_nif_ne C (by omega) dX2_parseProphet_34 57 (by decide) 37 rfl (fun c8 => ?_) (fun c8 => ?_)
    · have hpl : p < n := by first | exact (fq_at_in (c := 109) (by assumption)).1 | exact (fq_at_in (c := 100) (by assumption)).1 | exact (fq_at_in (c := 115) (by assumption)).1 | exact (fq_at_in (c := 108) (by assumption)).1 | exact (fq_at_in (c := 116) (by assumption)).1
      refine fo_aload_n C dX2_parseProphet_57 1 rfl rfl 58 rfl ?_
      refine fo_get C dX2_parseProphet_58 fK4 (by decide : fo_k 608 = 4) (by decide) 0 (by decide) fl_X2_9 (v := .ref (Λ.2.2.1 609)) rfl 61 rfl ?_
      refine fo_aload_n C dX2_parseProphet_61 1 rfl rfl 62 rfl ?_
      refine fo_get C dX2_parseProphet_62 fK4 (by decide : fo_k 608 = 4) (by decide) 2 (by decide) fl_X2_32 (v := .int (nI p)) (congrArg (fun x => some (Value.int x)) (h.2.2.2.2.1)) 65 rfl ?_
      have q9 := (h.1.2.2 (p) (by omega)).2
      refine fo_cald C dX2_parseProphet_65 (by decide) (by rw [(show fo_n 609 = 60 from rfl)]; omega) (nI (t p)) ((h.1.2.2 _ (by omega)).1) 66 rfl ?_
      refine fo_istore_n C dX2_parseProphet_66 rfl [(2, .int (nI (t p))), (1, .int (nI 1)), (0, .ref (Λ.2.2.1 608))] rfl (by decide) 67 rfl ?_
      refine fo_aload_n C dX2_parseProphet_67 2 rfl rfl 68 rfl ?_
      refine fo_dup C dX2_parseProphet_68 rfl 69 rfl ?_
      refine fo_get C dX2_parseProphet_69 fK4 (by decide : fo_k 608 = 4) (by decide) 2 (by decide) fl_X2_32 (v := .int (nI p)) (congrArg (fun x => some (Value.int x)) (h.2.2.2.2.1)) 72 rfl ?_
      refine fo_iconst C dX2_parseProphet_72 (nI 1) ki_1 73 rfl ?_
      refine fo_iadd C dX2_parseProphet_73 (nI (p + 1)) (nI_add _ _) 74 rfl ?_
      refine fo_put C dX2_parseProphet_74 fK4 (by decide : fo_k 608 = 4) (by decide) 2 (by decide) fl_X2_32 rfl rfl rfl rfl (Nat.le_of_ble_eq_true rfl) 77 rfl ?_
      have h77 := h.pos hpl
      have f77 : fs_vf I (fo_r I 608 (upd (I 608) 2 (nI (p + 1)))) := fs_vf.pos
      refine fo_iload_n C dX2_parseProphet_77 1 rfl rfl 78 rfl ?_
      refine fo_nif_eq C (by omega) dX2_parseProphet_78 90 (by decide) 81 rfl (fun c10 => ?_) (fun c10 => ?_)
      · omega
      · refine fo_aload_n C dX2_parseProphet_81 2 rfl rfl 82 rfl ?_
        refine fo_qvi C dX2_parseProphet_82 (mX2_isAtDigit h77) lv_X2_73 (by decide : fo_k 608 = 4) rfl (by decide) rfl ⟨Nat.le_of_ble_eq_true rfl, Nat.le_of_ble_eq_true rfl⟩ ⟨Nat.le_of_ble_eq_true rfl, Nat.le_of_ble_eq_true rfl⟩ [] rfl (Nat.le_of_ble_eq_true rfl) 85 rfl (fo_er ?_)
        refine fo_bif_ne C dX2_parseProphet_85 90 (by decide) 88 rfl (fun c17 => ?_) (fun c17 => ?_)
        · have hdi18 := fq_dg_in (n := n) (t := t) (p := p + 1) c17
          refine fo_aload_n C dX2_parseProphet_90 2 rfl rfl 91 rfl ?_
          refine fo_bipush C dX2_parseProphet_91 (nI 112) kb_112 93 rfl ?_
          refine fo_iload_n C dX2_parseProphet_93 0 rfl rfl 94 rfl ?_
          refine fo_iload_n C dX2_parseProphet_94 1 rfl rfl 95 rfl ?_
          refine fo_nif_eq C (by omega) dX2_parseProphet_95 105 (by decide) 98 rfl (fun c19 => ?_) (fun c19 => ?_)
          · omega
          · refine fo_aload_n C dX2_parseProphet_98 2 rfl rfl 99 rfl ?_
            refine fo_qvi C dX2_parseProphet_99 (mX2_readDigit (by assumption) h77) lv_X2_76 (by decide : fo_k 608 = 4) rfl (by decide) rfl ⟨Nat.le_of_ble_eq_true rfl, Nat.le_of_ble_eq_true rfl⟩ ⟨Nat.le_of_ble_eq_true rfl, Nat.le_of_ble_eq_true rfl⟩ [.int (nI (t p)), .int (nI 112), .ref (Λ.2.2.1 608)] rfl (Nat.le_of_ble_eq_true rfl) 102 rfl (fun r20 I21 D22 J23 X24 p25 => ?_)
            obtain ⟨rfl, g26, f27, z9⟩ := p25
            obtain ⟨rfl, rfl, rfl⟩ := fo_sym3 z9
            refine fo_goto C dX2_parseProphet_102 106 (by decide) ?_
            refine fo_qvv C dX2_parseProphet_106 (mX2_addStep (c := 112) (a := t p) (x := t (p + 1) - 48) (fq_ok_of (by omega) (by omega) (by omega) (by omega)) (by omega) g26) lv_X2_80 (by decide : fo_k 608 = 4) rfl (by decide) rfl ⟨Nat.le_of_ble_eq_true rfl, Nat.le_of_ble_eq_true rfl⟩ ⟨Nat.le_of_ble_eq_true rfl, Nat.le_of_ble_eq_true rfl⟩ [] rfl (Nat.le_of_ble_eq_true rfl) 109 rfl (fun I29 D30 J31 X32 p33 => ?_)
            obtain ⟨g34, f35, z9⟩ := p33
            obtain ⟨rfl, rfl, rfl⟩ := fo_sym3 z9
            refine fo_iconst C dX2_parseProphet_109 (nI 1) ki_1 110 rfl ?_
            exact fin dX2_parseProphet_110 (by first | rfl | exact fo_nb _) ((by rw [fq_pp, if_pos (by simp_all [fq_tk]), if_pos (by assumption)]; exact ⟨rfl, ⟨⟨_, g34, fun q hq => by cases hq; rfl⟩, ((f77.trans f27).trans f35)⟩, rfl, rfl, rfl⟩))
        · refine fo_iconst C dX2_parseProphet_88 (nI 0) ki_0 89 rfl ?_
          exact fin dX2_parseProphet_89 (by first | rfl | exact fo_nb _) ((by rw [fq_pp, if_pos (by simp_all [fq_tk]), if_neg (by simp_all)]; exact ⟨rfl, ⟨⟨st, h77, fun q hq => by cases hq⟩, f77⟩, rfl, rfl, rfl⟩))
    · omega
  · refine fo_aload_n C dX2_parseProphet_9 0 rfl rfl 10 rfl ?_
    refine fo_bipush C dX2_parseProphet_10 (nI 100) kb_100 12 rfl ?_
    refine fo_qvi C dX2_parseProphet_12 (mX2_isAt (c := 100) (by omega) h) lv_X2_49 (by decide : fo_k 608 = 4) rfl (by decide) rfl ⟨Nat.le_of_ble_eq_true rfl, Nat.le_of_ble_eq_true rfl⟩ ⟨Nat.le_of_ble_eq_true rfl, Nat.le_of_ble_eq_true rfl⟩ [] rfl (Nat.le_of_ble_eq_true rfl) 15 rfl (fo_er ?_)
    refine fo_bif_ne C dX2_parseProphet_15 27 (by decide) 18 rfl (fun c42 => ?_) (fun c42 => ?_)
    · refine fo_iconst C dX2_parseProphet_27 (nI 1) ki_1 28 rfl ?_
      refine fo_goto C dX2_parseProphet_28 32 (by decide) ?_
      refine fo_istore_n C dX2_parseProphet_32 rfl [(1, .int (nI 1)), (0, .ref (Λ.2.2.1 608))] rfl (by decide) 33 rfl ?_
      refine fo_iload_n C dX2_parseProphet_33 0 rfl rfl 34 rfl ?_
      refine fo_nif_ne C (by omega) dX2_parseProphet_34 57 (by decide) 37 rfl (fun c43 => ?_) (fun c43 => ?_)
      · have hpl : p < n := by first | exact (fq_at_in (c := 109) (by assumption)).1 | exact (fq_at_in (c := 100) (by assumption)).1 | exact (fq_at_in (c := 115) (by assumption)).1 | exact (fq_at_in (c := 108) (by assumption)).1 | exact (fq_at_in (c := 116) (by assumption)).1
        refine fo_aload_n C dX2_parseProphet_57 1 rfl rfl 58 rfl ?_
        refine fo_get C dX2_parseProphet_58 fK4 (by decide : fo_k 608 = 4) (by decide) 0 (by decide) fl_X2_9 (v := .ref (Λ.2.2.1 609)) rfl 61 rfl ?_
        refine fo_aload_n C dX2_parseProphet_61 1 rfl rfl 62 rfl ?_
        refine fo_get C dX2_parseProphet_62 fK4 (by decide : fo_k 608 = 4) (by decide) 2 (by decide) fl_X2_32 (v := .int (nI p)) (congrArg (fun x => some (Value.int x)) (h.2.2.2.2.1)) 65 rfl ?_
        have q44 := (h.1.2.2 (p) (by omega)).2
        refine fo_cald C dX2_parseProphet_65 (by decide) (by rw [(show fo_n 609 = 60 from rfl)]; omega) (nI (t p)) ((h.1.2.2 _ (by omega)).1) 66 rfl ?_
        refine fo_istore_n C dX2_parseProphet_66 rfl [(2, .int (nI (t p))), (1, .int (nI 1)), (0, .ref (Λ.2.2.1 608))] rfl (by decide) 67 rfl ?_
        refine fo_aload_n C dX2_parseProphet_67 2 rfl rfl 68 rfl ?_
        refine fo_dup C dX2_parseProphet_68 rfl 69 rfl ?_
        refine fo_get C dX2_parseProphet_69 fK4 (by decide : fo_k 608 = 4) (by decide) 2 (by decide) fl_X2_32 (v := .int (nI p)) (congrArg (fun x => some (Value.int x)) (h.2.2.2.2.1)) 72 rfl ?_
        refine fo_iconst C dX2_parseProphet_72 (nI 1) ki_1 73 rfl ?_
        refine fo_iadd C dX2_parseProphet_73 (nI (p + 1)) (nI_add _ _) 74 rfl ?_
        refine fo_put C dX2_parseProphet_74 fK4 (by decide : fo_k 608 = 4) (by decide) 2 (by decide) fl_X2_32 rfl rfl rfl rfl (Nat.le_of_ble_eq_true rfl) 77 rfl ?_
        have h77 := h.pos hpl
        have f77 : fs_vf I (fo_r I 608 (upd (I 608) 2 (nI (p + 1)))) := fs_vf.pos
        refine fo_iload_n C dX2_parseProphet_77 1 rfl rfl 78 rfl ?_
        refine fo_nif_eq C (by omega) dX2_parseProphet_78 90 (by decide) 81 rfl (fun c45 => ?_) (fun c45 => ?_)
        · omega
        · refine fo_aload_n C dX2_parseProphet_81 2 rfl rfl 82 rfl ?_
          refine fo_qvi C dX2_parseProphet_82 (mX2_isAtDigit h77) lv_X2_73 (by decide : fo_k 608 = 4) rfl (by decide) rfl ⟨Nat.le_of_ble_eq_true rfl, Nat.le_of_ble_eq_true rfl⟩ ⟨Nat.le_of_ble_eq_true rfl, Nat.le_of_ble_eq_true rfl⟩ [] rfl (Nat.le_of_ble_eq_true rfl) 85 rfl (fo_er ?_)
          refine fo_bif_ne C dX2_parseProphet_85 90 (by decide) 88 rfl (fun c52 => ?_) (fun c52 => ?_)
          · have hdi53 := fq_dg_in (n := n) (t := t) (p := p + 1) c52
            refine fo_aload_n C dX2_parseProphet_90 2 rfl rfl 91 rfl ?_
            refine fo_bipush C dX2_parseProphet_91 (nI 112) kb_112 93 rfl ?_
            refine fo_iload_n C dX2_parseProphet_93 0 rfl rfl 94 rfl ?_
            refine fo_iload_n C dX2_parseProphet_94 1 rfl rfl 95 rfl ?_
            refine fo_nif_eq C (by omega) dX2_parseProphet_95 105 (by decide) 98 rfl (fun c54 => ?_) (fun c54 => ?_)
            · omega
            · refine fo_aload_n C dX2_parseProphet_98 2 rfl rfl 99 rfl ?_
              refine fo_qvi C dX2_parseProphet_99 (mX2_readDigit (by assumption) h77) lv_X2_76 (by decide : fo_k 608 = 4) rfl (by decide) rfl ⟨Nat.le_of_ble_eq_true rfl, Nat.le_of_ble_eq_true rfl⟩ ⟨Nat.le_of_ble_eq_true rfl, Nat.le_of_ble_eq_true rfl⟩ [.int (nI (t p)), .int (nI 112), .ref (Λ.2.2.1 608)] rfl (Nat.le_of_ble_eq_true rfl) 102 rfl (fun r55 I56 D57 J58 X59 p60 => ?_)
              obtain ⟨rfl, g61, f62, z9⟩ := p60
              obtain ⟨rfl, rfl, rfl⟩ := fo_sym3 z9
              refine fo_goto C dX2_parseProphet_102 106 (by decide) ?_
              refine fo_qvv C dX2_parseProphet_106 (mX2_addStep (c := 112) (a := t p) (x := t (p + 1) - 48) (fq_ok_of (by omega) (by omega) (by omega) (by omega)) (by omega) g61) lv_X2_80 (by decide : fo_k 608 = 4) rfl (by decide) rfl ⟨Nat.le_of_ble_eq_true rfl, Nat.le_of_ble_eq_true rfl⟩ ⟨Nat.le_of_ble_eq_true rfl, Nat.le_of_ble_eq_true rfl⟩ [] rfl (Nat.le_of_ble_eq_true rfl) 109 rfl (fun I64 D65 J66 X67 p68 => ?_)
              obtain ⟨g69, f70, z9⟩ := p68
              obtain ⟨rfl, rfl, rfl⟩ := fo_sym3 z9
              refine fo_iconst C dX2_parseProphet_109 (nI 1) ki_1 110 rfl ?_
              exact fin dX2_parseProphet_110 (by first | rfl | exact fo_nb _) ((by rw [fq_pp, if_pos (by simp_all [fq_tk]), if_pos (by assumption)]; exact ⟨rfl, ⟨⟨_, g69, fun q hq => by cases hq; rfl⟩, ((f77.trans f62).trans f70)⟩, rfl, rfl, rfl⟩))
          · refine fo_iconst C dX2_parseProphet_88 (nI 0) ki_0 89 rfl ?_
            exact fin dX2_parseProphet_89 (by first | rfl | exact fo_nb _) ((by rw [fq_pp, if_pos (by simp_all [fq_tk]), if_neg (by simp_all)]; exact ⟨rfl, ⟨⟨st, h77, fun q hq => by cases hq⟩, f77⟩, rfl, rfl, rfl⟩))
      · omega
    · refine fo_aload_n C dX2_parseProphet_18 0 rfl rfl 19 rfl ?_
      refine fo_bipush C dX2_parseProphet_19 (nI 115) kb_115 21 rfl ?_
      refine fo_qvi C dX2_parseProphet_21 (mX2_isAt (c := 115) (by omega) h) lv_X2_49 (by decide : fo_k 608 = 4) rfl (by decide) rfl ⟨Nat.le_of_ble_eq_true rfl, Nat.le_of_ble_eq_true rfl⟩ ⟨Nat.le_of_ble_eq_true rfl, Nat.le_of_ble_eq_true rfl⟩ [] rfl (Nat.le_of_ble_eq_true rfl) 24 rfl (fo_er ?_)
      refine fo_bif_eq C dX2_parseProphet_24 31 (by decide) 27 rfl (fun c77 => ?_) (fun c77 => ?_)
      · refine fo_iconst C dX2_parseProphet_31 (nI 0) ki_0 32 rfl ?_
        refine fo_istore_n C dX2_parseProphet_32 rfl [(1, .int (nI 0)), (0, .ref (Λ.2.2.1 608))] rfl (by decide) 33 rfl ?_
        refine fo_iload_n C dX2_parseProphet_33 0 rfl rfl 34 rfl ?_
        refine fo_nif_ne C (by omega) dX2_parseProphet_34 57 (by decide) 37 rfl (fun c78 => ?_) (fun c78 => ?_)
        · omega
        · refine fo_aload_n C dX2_parseProphet_37 1 rfl rfl 38 rfl ?_
          refine fo_bipush C dX2_parseProphet_38 (nI 108) kb_108 40 rfl ?_
          refine fo_qvi C dX2_parseProphet_40 (mX2_isAt (c := 108) (by omega) h) lv_X2_49 (by decide : fo_k 608 = 4) rfl (by decide) rfl ⟨Nat.le_of_ble_eq_true rfl, Nat.le_of_ble_eq_true rfl⟩ ⟨Nat.le_of_ble_eq_true rfl, Nat.le_of_ble_eq_true rfl⟩ [] rfl (Nat.le_of_ble_eq_true rfl) 43 rfl (fo_er ?_)
          refine fo_bif_ne C dX2_parseProphet_43 57 (by decide) 46 rfl (fun c85 => ?_) (fun c85 => ?_)
          · have hpl : p < n := by first | exact (fq_at_in (c := 109) (by assumption)).1 | exact (fq_at_in (c := 100) (by assumption)).1 | exact (fq_at_in (c := 115) (by assumption)).1 | exact (fq_at_in (c := 108) (by assumption)).1 | exact (fq_at_in (c := 116) (by assumption)).1
            refine fo_aload_n C dX2_parseProphet_57 1 rfl rfl 58 rfl ?_
            refine fo_get C dX2_parseProphet_58 fK4 (by decide : fo_k 608 = 4) (by decide) 0 (by decide) fl_X2_9 (v := .ref (Λ.2.2.1 609)) rfl 61 rfl ?_
            refine fo_aload_n C dX2_parseProphet_61 1 rfl rfl 62 rfl ?_
            refine fo_get C dX2_parseProphet_62 fK4 (by decide : fo_k 608 = 4) (by decide) 2 (by decide) fl_X2_32 (v := .int (nI p)) (congrArg (fun x => some (Value.int x)) (h.2.2.2.2.1)) 65 rfl ?_
            have q86 := (h.1.2.2 (p) (by omega)).2
            refine fo_cald C dX2_parseProphet_65 (by decide) (by rw [(show fo_n 609 = 60 from rfl)]; omega) (nI (t p)) ((h.1.2.2 _ (by omega)).1) 66 rfl ?_
            refine fo_istore_n C dX2_parseProphet_66 rfl [(2, .int (nI (t p))), (1, .int (nI 0)), (0, .ref (Λ.2.2.1 608))] rfl (by decide) 67 rfl ?_
            refine fo_aload_n C dX2_parseProphet_67 2 rfl rfl 68 rfl ?_
            refine fo_dup C dX2_parseProphet_68 rfl 69 rfl ?_
            refine fo_get C dX2_parseProphet_69 fK4 (by decide : fo_k 608 = 4) (by decide) 2 (by decide) fl_X2_32 (v := .int (nI p)) (congrArg (fun x => some (Value.int x)) (h.2.2.2.2.1)) 72 rfl ?_
            refine fo_iconst C dX2_parseProphet_72 (nI 1) ki_1 73 rfl ?_
            refine fo_iadd C dX2_parseProphet_73 (nI (p + 1)) (nI_add _ _) 74 rfl ?_
            refine fo_put C dX2_parseProphet_74 fK4 (by decide : fo_k 608 = 4) (by decide) 2 (by decide) fl_X2_32 rfl rfl rfl rfl (Nat.le_of_ble_eq_true rfl) 77 rfl ?_
            have h77 := h.pos hpl
            have f77 : fs_vf I (fo_r I 608 (upd (I 608) 2 (nI (p + 1)))) := fs_vf.pos
            refine fo_iload_n C dX2_parseProphet_77 1 rfl rfl 78 rfl ?_
            refine fo_nif_eq C (by omega) dX2_parseProphet_78 90 (by decide) 81 rfl (fun c87 => ?_) (fun c87 => ?_)
            · refine fo_aload_n C dX2_parseProphet_90 2 rfl rfl 91 rfl ?_
              refine fo_bipush C dX2_parseProphet_91 (nI 112) kb_112 93 rfl ?_
              refine fo_iload_n C dX2_parseProphet_93 0 rfl rfl 94 rfl ?_
              refine fo_iload_n C dX2_parseProphet_94 1 rfl rfl 95 rfl ?_
              refine fo_nif_eq C (by omega) dX2_parseProphet_95 105 (by decide) 98 rfl (fun c88 => ?_) (fun c88 => ?_)
              · refine fo_iconst C dX2_parseProphet_105 (nI 1) ki_1 106 rfl ?_
                refine fo_qvv C dX2_parseProphet_106 (mX2_addStep (c := 112) (a := t p) (x := 1) (fq_ok_of (by omega) (by omega) (by omega) (by omega)) (by omega) h77) lv_X2_80 (by decide : fo_k 608 = 4) rfl (by decide) rfl ⟨Nat.le_of_ble_eq_true rfl, Nat.le_of_ble_eq_true rfl⟩ ⟨Nat.le_of_ble_eq_true rfl, Nat.le_of_ble_eq_true rfl⟩ [] rfl (Nat.le_of_ble_eq_true rfl) 109 rfl (fun I90 D91 J92 X93 p94 => ?_)
                obtain ⟨g95, f96, z9⟩ := p94
                obtain ⟨rfl, rfl, rfl⟩ := fo_sym3 z9
                refine fo_iconst C dX2_parseProphet_109 (nI 1) ki_1 110 rfl ?_
                exact fin dX2_parseProphet_110 (by first | rfl | exact fo_nb _) ((by rw [fq_pp, if_neg (by simp_all [fq_tk]), if_pos (by simp_all)]; exact ⟨rfl, ⟨⟨_, g95, fun q hq => by cases hq; rfl⟩, (f77.trans f96)⟩, rfl, rfl, rfl⟩))
              · omega
            · omega
          · refine fo_aload_n C dX2_parseProphet_46 1 rfl rfl 47 rfl ?_
            refine fo_bipush C dX2_parseProphet_47 (nI 116) kb_116 49 rfl ?_
            refine fo_qvi C dX2_parseProphet_49 (mX2_isAt (c := 116) (by omega) h) lv_X2_49 (by decide : fo_k 608 = 4) rfl (by decide) rfl ⟨Nat.le_of_ble_eq_true rfl, Nat.le_of_ble_eq_true rfl⟩ ⟨Nat.le_of_ble_eq_true rfl, Nat.le_of_ble_eq_true rfl⟩ [] rfl (Nat.le_of_ble_eq_true rfl) 52 rfl (fo_er ?_)
            refine fo_bif_ne C dX2_parseProphet_52 57 (by decide) 55 rfl (fun c103 => ?_) (fun c103 => ?_)
            · have hpl : p < n := by first | exact (fq_at_in (c := 109) (by assumption)).1 | exact (fq_at_in (c := 100) (by assumption)).1 | exact (fq_at_in (c := 115) (by assumption)).1 | exact (fq_at_in (c := 108) (by assumption)).1 | exact (fq_at_in (c := 116) (by assumption)).1
              refine fo_aload_n C dX2_parseProphet_57 1 rfl rfl 58 rfl ?_
              refine fo_get C dX2_parseProphet_58 fK4 (by decide : fo_k 608 = 4) (by decide) 0 (by decide) fl_X2_9 (v := .ref (Λ.2.2.1 609)) rfl 61 rfl ?_
              refine fo_aload_n C dX2_parseProphet_61 1 rfl rfl 62 rfl ?_
              refine fo_get C dX2_parseProphet_62 fK4 (by decide : fo_k 608 = 4) (by decide) 2 (by decide) fl_X2_32 (v := .int (nI p)) (congrArg (fun x => some (Value.int x)) (h.2.2.2.2.1)) 65 rfl ?_
              have q104 := (h.1.2.2 (p) (by omega)).2
              refine fo_cald C dX2_parseProphet_65 (by decide) (by rw [(show fo_n 609 = 60 from rfl)]; omega) (nI (t p)) ((h.1.2.2 _ (by omega)).1) 66 rfl ?_
              refine fo_istore_n C dX2_parseProphet_66 rfl [(2, .int (nI (t p))), (1, .int (nI 0)), (0, .ref (Λ.2.2.1 608))] rfl (by decide) 67 rfl ?_
              refine fo_aload_n C dX2_parseProphet_67 2 rfl rfl 68 rfl ?_
              refine fo_dup C dX2_parseProphet_68 rfl 69 rfl ?_
              refine fo_get C dX2_parseProphet_69 fK4 (by decide : fo_k 608 = 4) (by decide) 2 (by decide) fl_X2_32 (v := .int (nI p)) (congrArg (fun x => some (Value.int x)) (h.2.2.2.2.1)) 72 rfl ?_
              refine fo_iconst C dX2_parseProphet_72 (nI 1) ki_1 73 rfl ?_
              refine fo_iadd C dX2_parseProphet_73 (nI (p + 1)) (nI_add _ _) 74 rfl ?_
              refine fo_put C dX2_parseProphet_74 fK4 (by decide : fo_k 608 = 4) (by decide) 2 (by decide) fl_X2_32 rfl rfl rfl rfl (Nat.le_of_ble_eq_true rfl) 77 rfl ?_
              have h77 := h.pos hpl
              have f77 : fs_vf I (fo_r I 608 (upd (I 608) 2 (nI (p + 1)))) := fs_vf.pos
              refine fo_iload_n C dX2_parseProphet_77 1 rfl rfl 78 rfl ?_
              refine fo_nif_eq C (by omega) dX2_parseProphet_78 90 (by decide) 81 rfl (fun c105 => ?_) (fun c105 => ?_)
              · refine fo_aload_n C dX2_parseProphet_90 2 rfl rfl 91 rfl ?_
                refine fo_bipush C dX2_parseProphet_91 (nI 112) kb_112 93 rfl ?_
                refine fo_iload_n C dX2_parseProphet_93 0 rfl rfl 94 rfl ?_
                refine fo_iload_n C dX2_parseProphet_94 1 rfl rfl 95 rfl ?_
                refine fo_nif_eq C (by omega) dX2_parseProphet_95 105 (by decide) 98 rfl (fun c106 => ?_) (fun c106 => ?_)
                · refine fo_iconst C dX2_parseProphet_105 (nI 1) ki_1 106 rfl ?_
                  refine fo_qvv C dX2_parseProphet_106 (mX2_addStep (c := 112) (a := t p) (x := 1) (fq_ok_of (by omega) (by omega) (by omega) (by omega)) (by omega) h77) lv_X2_80 (by decide : fo_k 608 = 4) rfl (by decide) rfl ⟨Nat.le_of_ble_eq_true rfl, Nat.le_of_ble_eq_true rfl⟩ ⟨Nat.le_of_ble_eq_true rfl, Nat.le_of_ble_eq_true rfl⟩ [] rfl (Nat.le_of_ble_eq_true rfl) 109 rfl (fun I108 D109 J110 X111 p112 => ?_)
                  obtain ⟨g113, f114, z9⟩ := p112
                  obtain ⟨rfl, rfl, rfl⟩ := fo_sym3 z9
                  refine fo_iconst C dX2_parseProphet_109 (nI 1) ki_1 110 rfl ?_
                  exact fin dX2_parseProphet_110 (by first | rfl | exact fo_nb _) ((by rw [fq_pp, if_neg (by simp_all [fq_tk]), if_pos (by simp_all)]; exact ⟨rfl, ⟨⟨_, g113, fun q hq => by cases hq; rfl⟩, (f77.trans f114)⟩, rfl, rfl, rfl⟩))
                · omega
              · omega
            · refine fo_iconst C dX2_parseProphet_55 (nI 0) ki_0 56 rfl ?_
              exact fin dX2_parseProphet_56 (by first | rfl | exact fo_nb _) ((by rw [fq_pp, if_neg (by simp_all [fq_tk]), if_neg (by simp_all)]; exact ⟨rfl, ⟨⟨st, h, fun q hq => by cases hq⟩, fs_vf.rfl⟩, rfl, rfl, rfl⟩))
      · refine fo_iconst C dX2_parseProphet_27 (nI 1) ki_1 28 rfl ?_
        refine fo_goto C dX2_parseProphet_28 32 (by decide) ?_
        refine fo_istore_n C dX2_parseProphet_32 rfl [(1, .int (nI 1)), (0, .ref (Λ.2.2.1 608))] rfl (by decide) 33 rfl ?_
        refine fo_iload_n C dX2_parseProphet_33 0 rfl rfl 34 rfl ?_
        refine fo_nif_ne C (by omega) dX2_parseProphet_34 57 (by decide) 37 rfl (fun c115 => ?_) (fun c115 => ?_)
        · have hpl : p < n := by first | exact (fq_at_in (c := 109) (by assumption)).1 | exact (fq_at_in (c := 100) (by assumption)).1 | exact (fq_at_in (c := 115) (by assumption)).1 | exact (fq_at_in (c := 108) (by assumption)).1 | exact (fq_at_in (c := 116) (by assumption)).1
          refine fo_aload_n C dX2_parseProphet_57 1 rfl rfl 58 rfl ?_
          refine fo_get C dX2_parseProphet_58 fK4 (by decide : fo_k 608 = 4) (by decide) 0 (by decide) fl_X2_9 (v := .ref (Λ.2.2.1 609)) rfl 61 rfl ?_
          refine fo_aload_n C dX2_parseProphet_61 1 rfl rfl 62 rfl ?_
          refine fo_get C dX2_parseProphet_62 fK4 (by decide : fo_k 608 = 4) (by decide) 2 (by decide) fl_X2_32 (v := .int (nI p)) (congrArg (fun x => some (Value.int x)) (h.2.2.2.2.1)) 65 rfl ?_
          have q116 := (h.1.2.2 (p) (by omega)).2
          refine fo_cald C dX2_parseProphet_65 (by decide) (by rw [(show fo_n 609 = 60 from rfl)]; omega) (nI (t p)) ((h.1.2.2 _ (by omega)).1) 66 rfl ?_
          refine fo_istore_n C dX2_parseProphet_66 rfl [(2, .int (nI (t p))), (1, .int (nI 1)), (0, .ref (Λ.2.2.1 608))] rfl (by decide) 67 rfl ?_
          refine fo_aload_n C dX2_parseProphet_67 2 rfl rfl 68 rfl ?_
          refine fo_dup C dX2_parseProphet_68 rfl 69 rfl ?_
          refine fo_get C dX2_parseProphet_69 fK4 (by decide : fo_k 608 = 4) (by decide) 2 (by decide) fl_X2_32 (v := .int (nI p)) (congrArg (fun x => some (Value.int x)) (h.2.2.2.2.1)) 72 rfl ?_
          refine fo_iconst C dX2_parseProphet_72 (nI 1) ki_1 73 rfl ?_
          refine fo_iadd C dX2_parseProphet_73 (nI (p + 1)) (nI_add _ _) 74 rfl ?_
          refine fo_put C dX2_parseProphet_74 fK4 (by decide : fo_k 608 = 4) (by decide) 2 (by decide) fl_X2_32 rfl rfl rfl rfl (Nat.le_of_ble_eq_true rfl) 77 rfl ?_
          have h77 := h.pos hpl
          have f77 : fs_vf I (fo_r I 608 (upd (I 608) 2 (nI (p + 1)))) := fs_vf.pos
          refine fo_iload_n C dX2_parseProphet_77 1 rfl rfl 78 rfl ?_
          refine fo_nif_eq C (by omega) dX2_parseProphet_78 90 (by decide) 81 rfl (fun c117 => ?_) (fun c117 => ?_)
          · omega
          · refine fo_aload_n C dX2_parseProphet_81 2 rfl rfl 82 rfl ?_
            refine fo_qvi C dX2_parseProphet_82 (mX2_isAtDigit h77) lv_X2_73 (by decide : fo_k 608 = 4) rfl (by decide) rfl ⟨Nat.le_of_ble_eq_true rfl, Nat.le_of_ble_eq_true rfl⟩ ⟨Nat.le_of_ble_eq_true rfl, Nat.le_of_ble_eq_true rfl⟩ [] rfl (Nat.le_of_ble_eq_true rfl) 85 rfl (fo_er ?_)
            refine fo_bif_ne C dX2_parseProphet_85 90 (by decide) 88 rfl (fun c124 => ?_) (fun c124 => ?_)
            · have hdi125 := fq_dg_in (n := n) (t := t) (p := p + 1) c124
              refine fo_aload_n C dX2_parseProphet_90 2 rfl rfl 91 rfl ?_
              refine fo_bipush C dX2_parseProphet_91 (nI 112) kb_112 93 rfl ?_
              refine fo_iload_n C dX2_parseProphet_93 0 rfl rfl 94 rfl ?_
              refine fo_iload_n C dX2_parseProphet_94 1 rfl rfl 95 rfl ?_
              refine fo_nif_eq C (by omega) dX2_parseProphet_95 105 (by decide) 98 rfl (fun c126 => ?_) (fun c126 => ?_)
              · omega
              · refine fo_aload_n C dX2_parseProphet_98 2 rfl rfl 99 rfl ?_
                refine fo_qvi C dX2_parseProphet_99 (mX2_readDigit (by assumption) h77) lv_X2_76 (by decide : fo_k 608 = 4) rfl (by decide) rfl ⟨Nat.le_of_ble_eq_true rfl, Nat.le_of_ble_eq_true rfl⟩ ⟨Nat.le_of_ble_eq_true rfl, Nat.le_of_ble_eq_true rfl⟩ [.int (nI (t p)), .int (nI 112), .ref (Λ.2.2.1 608)] rfl (Nat.le_of_ble_eq_true rfl) 102 rfl (fun r127 I128 D129 J130 X131 p132 => ?_)
                obtain ⟨rfl, g133, f134, z9⟩ := p132
                obtain ⟨rfl, rfl, rfl⟩ := fo_sym3 z9
                refine fo_goto C dX2_parseProphet_102 106 (by decide) ?_
                refine fo_qvv C dX2_parseProphet_106 (mX2_addStep (c := 112) (a := t p) (x := t (p + 1) - 48) (fq_ok_of (by omega) (by omega) (by omega) (by omega)) (by omega) g133) lv_X2_80 (by decide : fo_k 608 = 4) rfl (by decide) rfl ⟨Nat.le_of_ble_eq_true rfl, Nat.le_of_ble_eq_true rfl⟩ ⟨Nat.le_of_ble_eq_true rfl, Nat.le_of_ble_eq_true rfl⟩ [] rfl (Nat.le_of_ble_eq_true rfl) 109 rfl (fun I136 D137 J138 X139 p140 => ?_)
                obtain ⟨g141, f142, z9⟩ := p140
                obtain ⟨rfl, rfl, rfl⟩ := fo_sym3 z9
                refine fo_iconst C dX2_parseProphet_109 (nI 1) ki_1 110 rfl ?_
                exact fin dX2_parseProphet_110 (by first | rfl | exact fo_nb _) ((by rw [fq_pp, if_pos (by simp_all [fq_tk]), if_pos (by assumption)]; exact ⟨rfl, ⟨⟨_, g141, fun q hq => by cases hq; rfl⟩, ((f77.trans f134).trans f142)⟩, rfl, rfl, rfl⟩))
            · refine fo_iconst C dX2_parseProphet_88 (nI 0) ki_0 89 rfl ?_
              exact fin dX2_parseProphet_89 (by first | rfl | exact fo_nb _) ((by rw [fq_pp, if_pos (by simp_all [fq_tk]), if_neg (by simp_all)]; exact ⟨rfl, ⟨⟨st, h77, fun q hq => by cases hq⟩, f77⟩, rfl, rfl, rfl⟩))
        · omega
