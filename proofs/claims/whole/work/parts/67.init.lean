
/-! THE START: what the laboratory and the model tell of the fresh cells -/
def ws0 : fa_S := (0, 3, fun _ => 0, fun _ => 0, fun _ => 0, fun _ _ => 0)
theorem wok0 : fa_ok 0 3 (fun _ => 0) (fun _ => 0) (fun _ => 0) (fun _ _ => 0) := ⟨by decide, ⟨by decide, by decide⟩, fun p hp => absurd hp (Nat.not_lt_zero p), fun k _ => Nat.zero_le _, fun k _ d hd => absurd hd (Nat.not_lt_zero d)⟩
theorem wI0 {id j : Nat} (h : id < 605) (h2 : ¬ (id % 55 = 0 ∧ j = 3)) : wI id j = nI 0 := by
  unfold wI
  rw [if_pos h, if_neg h2]
  rfl
theorem w_ll : ll wI (fun _ _ => 0) ws0 [] none [] 0 (fun _ => 0) (-1) (-1) := by
  refine ⟨⟨⟨rfl, wok0, rfl, rfl, fun p hp => absurd hp (Nat.not_lt_zero p), fun k hk => ⟨wI0 (by omega) (by omega), fun d hd => absurd hd (Nat.not_lt_zero d)⟩⟩, fun p hp => absurd hp (Nat.not_lt_zero p), fun p hp => ⟨0, by decide, wI0 (by omega) (by omega)⟩⟩, ⟨0, by decide, rfl, rfl, by decide, fun j s h => by cases h⟩, ⟨rfl, fun s h => by cases h⟩, ⟨by decide, rfl, fun j c h => by cases h⟩, ⟨by decide, rfl, fun j hj => absurd hj (Nat.not_lt_zero j)⟩, rfl, rfl⟩
theorem w_mm : fm_M wI ws0 [] none [] 0 (fun _ => 0) (-1) (-1) := by
  refine ⟨⟨wok0, rfl, rfl, fun p hp => absurd hp (Nat.not_lt_zero p), fun k hk => ⟨?_, fun d hd => absurd hd (Nat.not_lt_zero d)⟩⟩, ⟨rfl, by decide, fun j s h => by cases h⟩, ⟨rfl, fun s h => by cases h⟩, ⟨by decide, rfl, fun j c h => by cases h⟩, ⟨by decide, rfl, fun j hj => absurd hj (Nat.not_lt_zero j)⟩, rfl, rfl⟩
  show upd (fun _ => 0) 1 (nI 3) (18 + k) = nI 0
  rw [pk_un (by omega)]
  rfl

