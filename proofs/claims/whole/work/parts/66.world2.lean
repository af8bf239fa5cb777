
/-! THE WORLD, WHOLE -/
def wad (S : Nat → Nat → Nat) (T : List Nat) (E : Nat → Nat) : Nat → Nat := fun id => if id < 605 then S (id / 55) (id % 55) else if id < 631 then T.getD (id - 605) 0 else E id
theorem wad_s {S : Nat → Nat → Nat} {T : List Nat} {E : Nat → Nat} {i x : Nat} (hi : i < 11) (hx : x < 55) : wad S T E (55 * i + x) = S i x := by
  unfold wad
  rw [if_pos (by omega), show (55 * i + x) / 55 = i by omega, show (55 * i + x) % 55 = x by omega]
def wps (id : Nat) : Nat := if id < 110 then id + 1 else if id < 605 then id + 3 else if id = 605 then 0 else if id = 606 then 111 else if id = 607 then 112 else id
theorem wps_c (i : Nat) : (i < 110 ∧ wps i = i + 1) ∨ (110 ≤ i ∧ i < 605 ∧ wps i = i + 3) ∨ (i = 605 ∧ wps i = 0) ∨ (i = 606 ∧ wps i = 111) ∨ (i = 607 ∧ wps i = 112) ∨ (608 ≤ i ∧ wps i = i) := by
  unfold wps
  by_cases h1 : i < 110
  · rw [if_pos h1]; omega
  rw [if_neg h1]
  by_cases h2 : i < 605
  · rw [if_pos h2]; omega
  rw [if_neg h2]
  by_cases h3 : i = 605
  · rw [if_pos h3]; omega
  rw [if_neg h3]
  by_cases h4 : i = 606
  · rw [if_pos h4]; omega
  rw [if_neg h4]
  by_cases h5 : i = 607
  · rw [if_pos h5]; omega
  rw [if_neg h5]; omega
theorem wps_inj {i j : Nat} (h : wps i = wps j) (hi : i < 631) (hj : j < 631) : i = j := by
  have h1 := wps_c i
  have h2 := wps_c j
  omega
abbrev oL (Δ : gn_D) : va_E := .inl (Δ.2 3, 1, .inr (.inl (fun _ => 0)))
abbrev oD (Δ : gn_D) : va_E := .inl (Δ.2 1, 1, .inr (.inr (.inr (.inl (fun _ => 0)))))
def wS (s0 s1 : Nat → Nat) (sp : Nat → Nat → Nat) : Nat → Nat → Nat := fun i => if i = 0 then s0 else if i = 1 then s1 else sp (i - 2)
abbrev wZ (Δ : gn_D) (ad : Nat → Nat) (z : Nat) : fo_Lt := (Δ.1, Δ.2, ad, z)
set_option maxRecDepth 20000 in
set_option maxHeartbeats 4000000 in
theorem w_all {Δ : gn_D} {z : Nat} {A : Nat → Prop} {a m : Nat → Nat} {ul : va_W} {q1 q2 : Nat} (E : Nat → Nat) (h : gLa Δ a ul) : ∃ ad : Nat → Nat, (ad 605 = a 0 ∧ ad 616 = m 0 ∧ ad 629 = q1 ∧ ad 630 = q2) ∧ (∀ j, 631 ≤ j → ad j = E j) ∧ ∀ H, va_P Δ.1 vwCl (((ul ++ gM Δ m) ++ [(q1, oL Δ)]) ++ [(q2, oD Δ)]) H → va_D A (((ul ++ gM Δ m) ++ [(q1, oL Δ)]) ++ [(q2, oD Δ)]) → va_P Δ.1 vwCl (fo_w (wZ Δ ad z) wI (fun _ _ => 0) (fun _ _ => 0) (fun _ _ => 0)) H ∧ (∀ i j, i < 631 → j < 631 → ad i = ad j → i = j) ∧ ∀ i, i < 631 → A (ad i) := by
  obtain ⟨b0, b1, b2, b3, b4, u0, u1, u2, u3, u4, rfl, h0, h1, ⟨f, B, rfl, ⟨g, v, rfl, hv⟩⟩, rfl, rfl⟩ := h
  obtain ⟨s0, h00, l0⟩ := wl_of h0
  obtain ⟨s1, h10, l1⟩ := wl_of h1
  have hsp0 : ∀ i, ∃ s : Nat → Nat, i < 9 → s 0 = g i 0 ∧ wl Δ s (v i) := fun i => by
    by_cases hi : i < 9
    · obtain ⟨s, h2, h3⟩ := wl_of (hv i hi).2
      exact ⟨s, fun _ => ⟨h2, h3⟩⟩
    · exact ⟨fun _ => 0, fun h => absurd h hi⟩
  obtain ⟨sp, hsp⟩ := Classical.axiomOfChoice hsp0
  have hvl : ∀ i, i < 9 → (v i).length = 55 := fun i hi => (hsp i hi).2.1
  refine ⟨wad (wS s0 s1 sp) [a 0, b2 0, b2 1, b3 0, b3 1, b3 2, b3 3, b3 4, b3 5, b4 0, b4 1, m 0, m 1, m 2, m 3, m 4, m 5, m 6, m 7, m 8, m 9, m 10, m 11, m 12, q1, q2] E, ⟨rfl, rfl, rfl, rfl⟩, fun j hj => ?_, fun H hP hD => ?_⟩
  · unfold wad
    rw [if_neg (by omega), if_neg (by omega)]
  generalize had : wad (wS s0 s1 sp) [a 0, b2 0, b2 1, b3 0, b3 1, b3 2, b3 3, b3 4, b3 5, b4 0, b4 1, m 0, m 1, m 2, m 3, m 4, m 5, m 6, m 7, m 8, m 9, m 10, m 11, m 12, q1, q2] E = ad
  have hs : ∀ i x, i < 11 → x < 55 → ad (55 * i + x) = wS s0 s1 sp i x := fun i x hi hx => by rw [← had]; exact wad_s hi hx
  generalize htl : gG Δ b3 ++ (gL Δ b4 ++ (gM Δ m ++ [(q1, oL Δ), (q2, oD Δ)])) = tl at *
  generalize hl0 : ((a 0, (Sum.inr (8, [.ref (b0 0), .ref (b1 0), .ref (b2 0), .ref (b3 0), .ref (b4 0), .int 0, .int (-1), .int (-1)]) : va_E))) = c0 at *
  generalize hp0 : ((b2 0, (Sum.inr (3, [.ref (b2 1), .int 0, .int 0]) : va_E))) = c1 at *
  generalize hp1 : (b2 1, gQ Δ 6 9 f) = c2 at *
  have hW : (((c0 :: (u0 ++ (u1 ++ ((c1 :: c2 :: gB v 9) ++ (gG Δ b3 ++ gL Δ b4))))) ++ gM Δ m) ++ [(q1, oL Δ)]) ++ [(q2, oD Δ)] = c0 :: (u0 ++ (u1 ++ (c1 :: c2 :: (gB v 9 ++ tl)))) := by
    rw [← htl]
    simp only [List.cons_append, List.append_assoc, List.nil_append]
  rw [hW] at hP hD
  generalize hWW : c0 :: (u0 ++ (u1 ++ (c1 :: c2 :: (gB v 9 ++ tl)))) = W at *
  have A0 : W[0]? = some c0 := by rw [← hWW]; rfl
  have A1 : ∀ r, r < 55 → W[1 + r]? = u0[r]? := fun r hr => by
    rw [← hWW, Nat.add_comm, List.getElem?_cons_succ, List.getElem?_append_left (by rw [l0.1]; exact hr)]
  have A2 : ∀ r, W[56 + r]? = (u1 ++ (c1 :: c2 :: (gB v 9 ++ tl)))[r]? := fun r => by
    rw [← hWW, show 56 + r = (55 + r) + 1 by omega, List.getElem?_cons_succ, List.getElem?_append_right (by rw [l0.1]; omega), l0.1, show 55 + r - 55 = r by omega]
  have A3 : ∀ r, W[111 + r]? = (c1 :: c2 :: (gB v 9 ++ tl))[r]? := fun r => by
    rw [show 111 + r = 56 + (55 + r) by omega, A2, List.getElem?_append_right (by rw [l1.1]; omega), l1.1, show 55 + r - 55 = r by omega]
  have A4 : ∀ k r, k < 9 → r < 55 → W[113 + (55 * k + r)]? = (v k)[r]? := fun k r hk hr => by
    rw [show 113 + (55 * k + r) = 111 + (55 * k + r + 1 + 1) by omega, A3, List.getElem?_cons_succ, List.getElem?_cons_succ, gB_at hr hvl hk]
  have A5 : ∀ j, W[608 + j]? = tl[j]? := fun j => by
    have hl := gB_len hvl
    rw [show 608 + j = 111 + (495 + j + 1 + 1) by omega, A3, List.getElem?_cons_succ, List.getElem?_cons_succ, List.getElem?_append_right (by omega), hl, show 495 + j - 55 * 9 = j by omega]
  have hbl : ∀ i r, i < 11 → r < 55 → ∃ u, wl Δ (wS s0 s1 sp i) u ∧ W[wps (55 * i + r)]? = u[r]? := fun i r hi hr => by
    by_cases e0 : i = 0
    · subst e0
      exact ⟨u0, l0, by rw [show wps (55 * 0 + r) = 1 + r by unfold wps; rw [if_pos (by omega)]; omega]; exact A1 r hr⟩
    · by_cases e1 : i = 1
      · subst e1
        refine ⟨u1, l1, ?_⟩
        rw [show wps (55 * 1 + r) = 56 + r by unfold wps; rw [if_pos (by omega)]; omega, A2 r, List.getElem?_append_left (by rw [l1.1]; exact hr)]
      · have e2 : wS s0 s1 sp i = sp (i - 2) := by unfold wS; rw [if_neg e0, if_neg e1]
        refine ⟨v (i - 2), by rw [e2]; exact (hsp (i - 2) (by omega)).2, ?_⟩
        rw [show wps (55 * i + r) = 113 + (55 * (i - 2) + r) by unfold wps; rw [if_neg (by omega), if_pos (by omega)]; omega]
        exact A4 _ _ (by omega) hr
  have hat : ∀ id, id < 631 → ∃ e, W[wps id]? = some (ad id, e) ∧ wq Δ (ad id) e (fo_c (wZ Δ ad z) (fo_k id) id (wI id) (fun _ => 0) (fun _ => 0) (fun _ => 0)) := fun id hid => by
    by_cases hlt : id < 605
    · obtain ⟨i, r, hi, hr, rfl⟩ : ∃ i r, i < 11 ∧ r < 55 ∧ id = 55 * i + r := ⟨id / 55, id % 55, by omega, by omega, by omega⟩
      obtain ⟨u, hu, hg⟩ := hbl i r hi hr
      obtain ⟨e, he, hq⟩ := hu.2 r hr
      rw [hs i r hi hr]
      exact ⟨e, hg.trans he, hq.trans (wg hi hr (fun x hx => hs i x hi hx))⟩
    · obtain ⟨j, rfl⟩ : ∃ j, id = 605 + j := ⟨id - 605, by omega⟩
      match j, hid with
      | 0, _ => subst had; subst hl0; exact ⟨_, A0, fun H h => by rw [← h00, ← h10] at h; exact h⟩
      | 1, _ => subst had; subst hp0; exact ⟨_, A3 0, fun H h => h⟩
      | 2, _ =>
        subst hp1
        have e607 : ad (605 + 2) = b2 1 := by rw [← had]; rfl
        rw [e607]
        refine ⟨_, A3 1, wq_rf (fun j hj => (hv j hj).1.trans ?_)⟩
        have e9 := hs (j + 2) 0 (by omega) (by omega)
        have e8 : wS s0 s1 sp (j + 2) = sp j := by unfold wS; rw [if_neg (by omega), if_neg (by omega)]; rfl
        rw [e8, (hsp j hj).1] at e9
        rw [← e9, show 55 * (j + 2) + 0 = 110 + 55 * j by omega]
      | 3, _ => subst had; subst htl; exact ⟨_, A5 0, fun H h => h⟩
      | 4, _ => subst had; subst htl; exact ⟨_, A5 1, fun H h => h⟩
      | 5, _ => subst had; subst htl; exact ⟨_, A5 2, fun H h => h⟩
      | 6, _ => subst had; subst htl; exact ⟨_, A5 3, fun H h => h⟩
      | 7, _ => subst had; subst htl; exact ⟨_, A5 4, fun H h => h⟩
      | 8, _ => subst had; subst htl; exact ⟨_, A5 5, fun H h => h⟩
      | 9, _ => subst had; subst htl; exact ⟨_, A5 6, fun H h => h⟩
      | 10, _ => subst had; subst htl; exact ⟨_, A5 7, fun H h => h⟩
      | 11, _ => subst had; subst htl; exact ⟨_, A5 8, fun H h => h⟩
      | 12, _ => subst had; subst htl; exact ⟨_, A5 9, fun H h => h⟩
      | 13, _ => subst had; subst htl; exact ⟨_, A5 10, fun H h => h⟩
      | 14, _ => subst had; subst htl; exact ⟨_, A5 11, fun H h => h⟩
      | 15, _ => subst had; subst htl; exact ⟨_, A5 12, fun H h => h⟩
      | 16, _ => subst had; subst htl; exact ⟨_, A5 13, fun H h => h⟩
      | 17, _ => subst had; subst htl; exact ⟨_, A5 14, fun H h => h⟩
      | 18, _ => subst had; subst htl; exact ⟨_, A5 15, fun H h => h⟩
      | 19, _ => subst had; subst htl; exact ⟨_, A5 16, fun H h => h⟩
      | 20, _ => subst had; subst htl; exact ⟨_, A5 17, fun H h => h⟩
      | 21, _ => subst had; subst htl; exact ⟨_, A5 18, fun H h => h⟩
      | 22, _ => subst had; subst htl; exact ⟨_, A5 19, fun H h => h⟩
      | 23, _ => subst had; subst htl; exact ⟨_, A5 20, fun H h => h⟩
      | 24, _ => subst had; subst htl; exact ⟨_, A5 21, fun H h => h⟩
      | 25, _ => subst had; subst htl; exact ⟨_, A5 22, fun H h => h⟩
      | j + 26, h9 => exact absurd h9 (by omega)
  refine ⟨fun k q hk => ?_, fun i j hi hj hij => ?_, fun i hi => ?_⟩
  · unfold fo_w at hk
    rw [List.getElem?_map] at hk
    by_cases h6 : k < 631
    · rw [List.getElem?_range h6] at hk
      cases hk
      obtain ⟨e, he, hq⟩ := hat k h6
      exact hq H (hP _ _ he)
    · rw [List.getElem?_eq_none (by rw [List.length_range]; omega)] at hk
      cases hk
  · obtain ⟨e, he, -⟩ := hat i hi
    obtain ⟨e', he', -⟩ := hat j hj
    exact wps_inj (hD.1 _ _ _ _ he he' hij) hi hj
  · obtain ⟨e, he, -⟩ := hat i hi
    exact hD.2 _ _ he

