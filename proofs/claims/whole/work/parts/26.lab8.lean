
/-! THE LABORATORY: what the parser's steps are -/
def fq_lk (l : List fq_s) : Prop := ∀ q, q ∈ l → fq_kk q.1 q.2.1 q.2.2.1
theorem fq_lk_app {l m : List fq_s} (h1 : fq_lk l) (h2 : fq_lk m) : fq_lk (l ++ m) := fun q hq => (List.mem_append.mp hq).elim (h1 q) (h2 q)
theorem fq_lk_one {w a x o : Nat} (h : fq_kk w a x) : fq_lk [(w, a, x, o)] := fun q hq => by
  rw [List.mem_singleton] at hq
  subst hq
  exact h
def fq_rk (r : fq_r) : Prop := ∀ l, r.1 = some l → fq_lk l
theorem fq_rk_none {p : Nat} : fq_rk (none, p) := fun l h => by cases h
theorem fq_rk_one {w a x o p : Nat} (h : fq_kk w a x) : fq_rk (some [(w, a, x, o)], p) := fun l hl => by cases hl; exact fq_lk_one h
theorem fq_pd_kk {n : Nat} {t : Nat → Nat} {w o p : Nat} (hw : w = 108 ∨ w = 102) : fq_rk (fq_pd n t w o p) := by
  unfold fq_pd
  split
  · rename_i h
    have hd := fq_dg_in h
    exact fq_rk_one ⟨by omega, fun q => by omega, by omega, by omega⟩
  · exact fq_rk_none
theorem fq_vs_kk {n : Nat} {t : Nat → Nat} {a o : Nat} (ha : a < 65536) : ∀ {f p : Nat}, fq_rk (fq_vs n t a o f p)
  | 0, p => fq_rk_none
  | f + 1, p => by
    rw [fq_vs]
    split
    · rename_i h
      have hn := fq_num_in h
      have hk : fq_kk 115 a (fq_num n t p).1 := ⟨by omega, fun q => by omega, ha, hn.2.2⟩
      split
      · intro l hl
        have ih := fq_vs_kk (n := n) (t := t) (o := o) ha (f := f) (p := (fq_num n t p).2 + 1)
        unfold fq_ac at hl
        cases hz : (fq_vs n t a o f ((fq_num n t p).2 + 1)).1 with
        | none => rw [hz] at hl; cases hl
        | some m => rw [hz] at hl; cases hl; exact fq_lk_app (fq_lk_one hk) (ih m hz)
      · exact fq_rk_one hk
    · exact fq_rk_none
theorem fq_ps_kk {n : Nat} {t : Nat → Nat} {o p : Nat} : fq_rk (fq_ps n t o p) := by
  unfold fq_ps
  split
  · rename_i h
    have hd := fq_dg_in h
    split
    · exact fq_vs_kk (by omega)
    · exact fq_rk_none
  · exact fq_rk_none
theorem fq_pp_kk {n : Nat} {t : Nat → Nat} {o p : Nat} : fq_rk (fq_pp n t o p) := by
  unfold fq_pp
  split
  · rename_i h
    have hk : t p = 109 ∨ t p = 100 ∨ t p = 115 := by
      simp only [fq_tk, Bool.or_eq_true] at h
      rcases h with (h | h) | h
      · exact Or.inl (fq_at_in h).2
      · exact Or.inr (Or.inl (fq_at_in h).2)
      · exact Or.inr (Or.inr (fq_at_in h).2)
    split
    · rename_i h2
      have hd := fq_dg_in h2
      exact fq_rk_one ⟨by omega, fun q => by omega, by omega, by omega⟩
    · exact fq_rk_none
  · split
    · rename_i h
      have hk : t p = 108 ∨ t p = 116 := by
        simp only [Bool.or_eq_true] at h
        rcases h with h | h
        · exact Or.inl (fq_at_in h).2
        · exact Or.inr (fq_at_in h).2
      exact fq_rk_one ⟨by omega, fun q => by omega, by omega, by omega⟩
    · exact fq_rk_none
theorem fq_th_kk {w : Bool × Nat} {f : Nat → fq_r} (h : ∀ p, fq_rk (f p)) : fq_rk (fq_th w f) := by
  unfold fq_th
  split
  · exact h _
  · exact fq_rk_none
theorem fq_pc_kk {n : Nat} {t : Nat → Nat} {o p : Nat} : fq_rk (fq_pc n t o p) := by
  unfold fq_pc
  split
  · exact fq_th_kk (fun _ => fq_pp_kk)
  · split
    · exact fq_th_kk (fun _ => fq_ps_kk)
    · split
      · exact fq_th_kk (fun _ => fq_pd_kk (Or.inl rfl))
      · exact fq_th_kk (fun _ => fq_pd_kk (Or.inr rfl))
theorem fq_all_kk {n : Nat} {t : Nat → Nat} : ∀ {f o p : Nat} {x : List fq_s × Nat}, (fq_all n t f o p).1 = some x → fq_lk x.1
  | 0, o, p, x, h => by cases h
  | f + 1, o, p, x, h => by
    cases hz : (fq_pc n t o p).1 with
    | none => rw [fq_all_none (by rw [hz]; rfl)] at h; cases h
    | some l =>
      rw [fq_all_some hz] at h
      have hl := fq_pc_kk l hz
      by_cases c1 : fq_at n t (fq_pc n t o p).2 59 = true
      · rw [if_pos c1] at h
        unfold fq_aq at h
        cases hy : (fq_all n t f (o + 1) ((fq_pc n t o p).2 + 1)).1 with
        | none => rw [hy] at h; cases h
        | some y => rw [hy] at h; cases h; exact fq_lk_app hl (fq_all_kk hy)
      · rw [if_neg c1] at h
        by_cases c2 : (fq_pc n t o p).2 = n
        · rw [if_pos c2] at h; cases h; exact hl
        · rw [if_neg c2] at h; cases h

