
/-! THE WORLD: the cells that the constructors lay, by their numbers -/
def wI : fo_Mi := fun id j => if id < 605 then (if id % 55 = 0 ∧ j = 3 then nI 3 else 0) else if id = 605 then (if j = 6 then -1 else if j = 7 then -1 else 0) else if id = 616 then (if j = 7 then -1 else if j = 8 then -1 else 0) else if id = 617 then upd (fun _ => 0) 1 (nI 3) j else 0
def wq (Δ : gn_D) (a : Nat) (e e' : va_E) : Prop := ∀ H, va_at Δ.1 vwCl (a, e) H → va_at Δ.1 vwCl (a, e') H
theorem wq.trans {Δ : gn_D} {a : Nat} {e e' e2 : va_E} (h : wq Δ a e e') (h2 : wq Δ a e' e2) : wq Δ a e e2 := fun H q => h2 H (h H q)
theorem arrV_cg {c : ClassId} {n : Nat} {f g : Nat → Value} (h : ∀ j, j < n → f j = g j) : arrV c n f = arrV c n g := by
  have e : (fun j : Fin n => f j.val) = (fun j : Fin n => g j.val) := funext fun j => h j.val j.isLt
  unfold arrV
  rw [e]
theorem wq_rf {Δ : gn_D} {a : Nat} {c : ClassId} {n : Nat} {f g : Nat → Option Nat} (h : ∀ j, j < n → f j = g j) : wq Δ a (.inl (c, n, .inr (.inr (.inr (.inr f))))) (.inl (c, n, .inr (.inr (.inr (.inr g))))) := by
  intro H hh
  have h1 : H[a]? = some (arrV c n (fun j => va_rf (f j))) := hh
  show H[a]? = some (arrV c n (fun j => va_rf (g j)))
  rw [h1, arrV_cg (fun j hj => by rw [h j hj])]
def wc (Δ : gn_D) (s : Nat → Nat) (r : Nat) : va_E := fo_c (Δ.1, Δ.2, s, 0) (fo_k r) r (wI r) (fun _ => 0) (fun _ => 0) (fun _ => 0)
def wl (Δ : gn_D) (s : Nat → Nat) (u : va_W) : Prop := u.length = 55 ∧ ∀ r, r < 55 → ∃ e, u[r]? = some (s r, e) ∧ wq Δ (s r) e (wc Δ s r)
def wsa (a : Nat → Nat) (g1 g2 : Nat → Nat → Nat) : Nat → Nat := fun r => if r < 3 then a r else if r < 23 then g1 ((r - 3) / 5) ((r - 3) % 5) else g2 ((r - 23) / 4) ((r - 23) % 4)
set_option maxRecDepth 10000 in
set_option maxHeartbeats 4000000 in
theorem wl_of {Δ : gn_D} {a : Nat → Nat} {u : va_W} (h : gSt Δ a u) : ∃ s : Nat → Nat, s 0 = a 0 ∧ wl Δ s u := by
  obtain ⟨f1, f2, B1, B2, rfl, ⟨g1, v1, rfl, h1⟩, ⟨g2, v2, rfl, h2⟩⟩ := h
  have e1 : gB v1 4 = gS Δ (g1 0) ++ (gS Δ (g1 1) ++ (gS Δ (g1 2) ++ (gS Δ (g1 3) ++ []))) := by
    have e : gB v1 4 = v1 0 ++ (v1 1 ++ (v1 2 ++ (v1 3 ++ []))) := rfl
    rw [e, (h1 0 (by decide)).2, (h1 1 (by decide)).2, (h1 2 (by decide)).2, (h1 3 (by decide)).2]
  have e2 : gB v2 8 = gP Δ (g2 0) ++ (gP Δ (g2 1) ++ (gP Δ (g2 2) ++ (gP Δ (g2 3) ++ (gP Δ (g2 4) ++ (gP Δ (g2 5) ++ (gP Δ (g2 6) ++ (gP Δ (g2 7) ++ []))))))) := by
    have e : gB v2 8 = v2 0 ++ (v2 1 ++ (v2 2 ++ (v2 3 ++ (v2 4 ++ (v2 5 ++ (v2 6 ++ (v2 7 ++ []))))))) := rfl
    rw [e, (h2 0 (by decide)).2, (h2 1 (by decide)).2, (h2 2 (by decide)).2, (h2 3 (by decide)).2, (h2 4 (by decide)).2, (h2 5 (by decide)).2, (h2 6 (by decide)).2, (h2 7 (by decide)).2]
  rw [e1, e2]
  refine ⟨wsa a g1 g2, rfl, rfl, fun r hr => ?_⟩
  match r, hr with
  | 0, _ => exact ⟨_, rfl, fun H h => h⟩
  | 1, _ =>
    refine ⟨_, rfl, wq_rf (fun j hj => (h1 j hj).1.trans ?_)⟩
    have hj9 : j < 4 := hj
    have hj4 : j = 0 ∨ j = 1 ∨ j = 2 ∨ j = 3 := by omega
    rcases hj4 with rfl | rfl | rfl | rfl <;> rfl
  | 2, _ =>
    refine ⟨_, rfl, wq_rf (fun j hj => (h2 j hj).1.trans ?_)⟩
    have hj9 : j < 8 := hj
    have hj4 : j = 0 ∨ j = 1 ∨ j = 2 ∨ j = 3 ∨ j = 4 ∨ j = 5 ∨ j = 6 ∨ j = 7 := by omega
    rcases hj4 with rfl | rfl | rfl | rfl | rfl | rfl | rfl | rfl <;> rfl
  | 3, _ => exact ⟨_, rfl, fun H h => h⟩
  | 4, _ => exact ⟨_, rfl, fun H h => h⟩
  | 5, _ => exact ⟨_, rfl, fun H h => h⟩
  | 6, _ => exact ⟨_, rfl, fun H h => h⟩
  | 7, _ => exact ⟨_, rfl, fun H h => h⟩
  | 8, _ => exact ⟨_, rfl, fun H h => h⟩
  | 9, _ => exact ⟨_, rfl, fun H h => h⟩
  | 10, _ => exact ⟨_, rfl, fun H h => h⟩
  | 11, _ => exact ⟨_, rfl, fun H h => h⟩
  | 12, _ => exact ⟨_, rfl, fun H h => h⟩
  | 13, _ => exact ⟨_, rfl, fun H h => h⟩
  | 14, _ => exact ⟨_, rfl, fun H h => h⟩
  | 15, _ => exact ⟨_, rfl, fun H h => h⟩
  | 16, _ => exact ⟨_, rfl, fun H h => h⟩
  | 17, _ => exact ⟨_, rfl, fun H h => h⟩
  | 18, _ => exact ⟨_, rfl, fun H h => h⟩
  | 19, _ => exact ⟨_, rfl, fun H h => h⟩
  | 20, _ => exact ⟨_, rfl, fun H h => h⟩
  | 21, _ => exact ⟨_, rfl, fun H h => h⟩
  | 22, _ => exact ⟨_, rfl, fun H h => h⟩
  | 23, _ => exact ⟨_, rfl, fun H h => h⟩
  | 24, _ => exact ⟨_, rfl, fun H h => h⟩
  | 25, _ => exact ⟨_, rfl, fun H h => h⟩
  | 26, _ => exact ⟨_, rfl, fun H h => h⟩
  | 27, _ => exact ⟨_, rfl, fun H h => h⟩
  | 28, _ => exact ⟨_, rfl, fun H h => h⟩
  | 29, _ => exact ⟨_, rfl, fun H h => h⟩
  | 30, _ => exact ⟨_, rfl, fun H h => h⟩
  | 31, _ => exact ⟨_, rfl, fun H h => h⟩
  | 32, _ => exact ⟨_, rfl, fun H h => h⟩
  | 33, _ => exact ⟨_, rfl, fun H h => h⟩
  | 34, _ => exact ⟨_, rfl, fun H h => h⟩
  | 35, _ => exact ⟨_, rfl, fun H h => h⟩
  | 36, _ => exact ⟨_, rfl, fun H h => h⟩
  | 37, _ => exact ⟨_, rfl, fun H h => h⟩
  | 38, _ => exact ⟨_, rfl, fun H h => h⟩
  | 39, _ => exact ⟨_, rfl, fun H h => h⟩
  | 40, _ => exact ⟨_, rfl, fun H h => h⟩
  | 41, _ => exact ⟨_, rfl, fun H h => h⟩
  | 42, _ => exact ⟨_, rfl, fun H h => h⟩
  | 43, _ => exact ⟨_, rfl, fun H h => h⟩
  | 44, _ => exact ⟨_, rfl, fun H h => h⟩
  | 45, _ => exact ⟨_, rfl, fun H h => h⟩
  | 46, _ => exact ⟨_, rfl, fun H h => h⟩
  | 47, _ => exact ⟨_, rfl, fun H h => h⟩
  | 48, _ => exact ⟨_, rfl, fun H h => h⟩
  | 49, _ => exact ⟨_, rfl, fun H h => h⟩
  | 50, _ => exact ⟨_, rfl, fun H h => h⟩
  | 51, _ => exact ⟨_, rfl, fun H h => h⟩
  | 52, _ => exact ⟨_, rfl, fun H h => h⟩
  | 53, _ => exact ⟨_, rfl, fun H h => h⟩
  | 54, _ => exact ⟨_, rfl, fun H h => h⟩
  | r + 55, h9 => exact absurd h9 (by omega)
section
variable {Δ : gn_D} {ad s : Nat → Nat} {i r a z : Nat}
theorem wk (hi : i < 11) (hr : r < 55) : fo_k (55 * i + r) = fo_k r ∧ fo_n (55 * i + r) = fo_n r ∧ wI (55 * i + r) = wI r := by
  have e1 : (55 * i + r) % 55 = r := by omega
  have e2 : r % 55 = r := Nat.mod_eq_of_lt hr
  refine ⟨?_, ?_, ?_⟩
  · unfold fo_k
    rw [if_pos (by omega), if_pos (by omega : r < 605), e1, e2]
  · unfold fo_n
    rw [if_pos (by omega), if_pos (by omega : r < 605), e1, e2]
  · funext j
    unfold wI
    rw [if_pos (by omega), if_pos (by omega : r < 605), e1, e2]
set_option maxRecDepth 20000 in
theorem wk_k (hr : r < 55) : (fo_k r = 7 ∧ r + 2 < 55) ∨ (fo_k r = 25 ∧ r = 1 ∧ fo_n r = 4) ∨ (fo_k r = 26 ∧ r = 2 ∧ fo_n r = 8) ∨ (fo_k r = 6 ∧ r + 4 < 55) ∨ fo_k r = 20 ∨ fo_k r = 21 ∨ (fo_k r = 5 ∧ r + 3 < 55) ∨ fo_k r = 22 := by
  revert r
  decide
theorem wg (hi : i < 11) (hr : r < 55) (hs : ∀ x, x < 55 → ad (55 * i + x) = s x) : wq Δ a (wc Δ s r) (fo_c (Δ.1, Δ.2, ad, z) (fo_k (55 * i + r)) (55 * i + r) (wI (55 * i + r)) (fun _ => 0) (fun _ => 0) (fun _ => 0)) := by
  obtain ⟨e1, e2, e3⟩ := wk hi hr
  unfold wc
  rw [e1, e3]
  rcases wk_k hr with ⟨h, h2⟩ | ⟨h, h2, h3⟩ | ⟨h, h2, h3⟩ | ⟨h, h2⟩ | h | h | ⟨h, h2⟩ | h
  · rw [h]
    intro H hh
    show va_at _ _ (a, .inr (7, [.ref (ad (55 * i + (r + 1))), .ref (ad (55 * i + (r + 2))), .int (wI r 2), .int (wI r 3)])) H
    rw [hs (r + 1) (by omega), hs (r + 2) (by omega)]
    exact hh
  · rw [h]
    show wq Δ a (.inl (Δ.2 4, fo_n r, .inr (.inr (.inr (.inr (fun j => some (s (r + 2 + 5 * j)))))))) (.inl (Δ.2 4, fo_n (55 * i + r), .inr (.inr (.inr (.inr (fun j => some (ad (55 * i + r + 2 + 5 * j))))))))
    rw [e2]
    refine wq_rf (fun j hj => ?_)
    rw [← hs (r + 2 + 5 * j) (by omega), show 55 * i + r + 2 + 5 * j = 55 * i + (r + 2 + 5 * j) by omega]
  · rw [h]
    show wq Δ a (.inl (Δ.2 5, fo_n r, .inr (.inr (.inr (.inr (fun j => some (s (r + 21 + 4 * j)))))))) (.inl (Δ.2 5, fo_n (55 * i + r), .inr (.inr (.inr (.inr (fun j => some (ad (55 * i + r + 21 + 4 * j))))))))
    rw [e2]
    refine wq_rf (fun j hj => ?_)
    rw [← hs (r + 21 + 4 * j) (by omega), show 55 * i + r + 21 + 4 * j = 55 * i + (r + 21 + 4 * j) by omega]
  · rw [h]
    intro H hh
    show va_at _ _ (a, .inr (6, [.ref (ad (55 * i + (r + 1))), .int (wI r 1), .ref (ad (55 * i + (r + 2))), .ref (ad (55 * i + (r + 3))), .ref (ad (55 * i + (r + 4)))])) H
    rw [hs (r + 1) (by omega), hs (r + 2) (by omega), hs (r + 3) (by omega), hs (r + 4) (by omega)]
    exact hh
  · rw [h]
    intro H hh
    show va_at _ _ (a, .inl (Δ.2 2, fo_n (55 * i + r), .inl (wI r))) H
    rw [e2]
    exact hh
  · rw [h]
    intro H hh
    show va_at _ _ (a, .inl (Δ.2 2, fo_n (55 * i + r), .inl (fun _ => 0))) H
    rw [e2]
    exact hh
  · rw [h]
    intro H hh
    show va_at _ _ (a, .inr (5, [.int (wI r 0), .int (wI r 1), .ref (ad (55 * i + (r + 1))), .ref (ad (55 * i + (r + 2))), .ref (ad (55 * i + (r + 3)))])) H
    rw [hs (r + 1) (by omega), hs (r + 2) (by omega), hs (r + 3) (by omega)]
    exact hh
  · rw [h]
    intro H hh
    show va_at _ _ (a, .inl (Δ.2 1, fo_n (55 * i + r), .inr (.inr (.inr (.inl (fun _ => 0)))))) H
    rw [e2]
    exact hh
end
theorem gB_len {v : Nat → va_W} : ∀ {n : Nat}, (∀ i, i < n → (v i).length = 55) → (gB v n).length = 55 * n
  | 0, _ => rfl
  | n + 1, h => by rw [gB_succ, List.length_append, gB_len (fun i hi => h i (by omega)), h n (by omega)]; omega
theorem gB_at {v : Nat → va_W} {X : va_W} {k r : Nat} (hr : r < 55) : ∀ {n : Nat}, (∀ i, i < n → (v i).length = 55) → k < n → (gB v n ++ X)[55 * k + r]? = (v k)[r]?
  | 0, _, hk => absurd hk (Nat.not_lt_zero _)
  | n + 1, h, hk => by
    have hl := gB_len (v := v) (n := n) (fun i hi => h i (by omega))
    rw [gB_succ, List.append_assoc]
    by_cases e : k = n
    · subst e
      rw [List.getElem?_append_right (by omega), hl, show 55 * k + r - 55 * k = r by omega, List.getElem?_append_left (by rw [h k (by omega)]; exact hr)]
    · have := gB_at (v := v) (X := v n ++ X) (k := k) (r := r) hr (n := n) (fun i hi => h i (by omega)) (by omega)
      exact this

