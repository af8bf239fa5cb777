
/-! THE WALK FROM THE ENTRY -/
section GNS
variable {l : Launch} {Δ : gn_D} {A : Nat → Prop} {R : Room} {K : fo_K} {cc : ByteArray} {own : String} {nL cs ss pc : Nat} {lv : List (Nat × Value)} {st : List Value} {ws : va_W}
theorem gn_astore_n (C : gn_C Δ A K cc own nL) {q : Fin 4} {x : Nat} {i : Nat} (d : decode cc pc = .ok (.astore_n q, 1)) (hi : (q : Nat) = i) (lv' : List (Nat × Value)) (hl' : (i, Value.ref x) :: lv.filter (fun q => !(q.1 == i) && !(q.1 + 1 == i && q.2.category == 2)) = lv') (hb : i < nL) (n' : Nat) (hn : pc + 1 = n') (k : gn_G l Δ A R K cs ss n' lv' st ws) : gn_G l Δ A R K cs ss pc lv (Value.ref x :: st) ws := by
  intro H locs ls hP hD hS hl
  subst hn
  exact lv_astore_n C.1 C.2.1 d hi hl (by rw [C.nl]; exact hb) hl' (fun ls' h' => k H locs ls' hP hD hS h')
end GNS
set_option maxRecDepth 20000 in
set_option maxHeartbeats 4000000 in
/-- from the entry to the loop and to its end -/
theorem w_walk {l : Launch} {K : fo_K} {b Ls : Nat} {xs : Nat → Int32} (hfl : l.stackTraces = false) (hx : K.1.tables.exec = Jvm.exec) (hcc : K.2.2.2.2.2.2.2.1.code = cL_law) (hml : K.2.2.2.2.2.2.2.1.maxLocals = 9) (hn9 : K.2.2.2.2.2.2.2.2.1 = 9) (hown : K.2.2.1.vm.findClass RL = some K.2.2.2.1.cls) (hts : ∀ w ∈ lw_tbl, w.before K.2.2.2.2.1 K.2.2.1 = true) (hb4 : (Jvm.Cond.and given_1 narrow_1).before K.2.2.2.2.1 K.2.2.1 = true) (hX : va_X b Ls xs K.2.2.1 K.2.2.1.heap) (hbl : b < K.2.2.1.heap.size) (hLs : Ls ≤ 2048)
    (kend : ∀ Λ : fo_Lt, Λ.2.2.2 = K.2.2.1.heap.size → ∀ (cs ss : Nat) (lv : List (Nat × Value)) (I : fo_Mi) (D : fo_Md) (J : fo_Mj) (X : fo_Mi), cs ≤ 603072 → ss ≤ 7211114 → fo_G l Λ room_1 K cs ss 2690 lv [.int (nI 1)] I D J X) :
    ∃ Δ : gn_D, gn_G l Δ (fun q => K.2.2.1.heap.size ≤ q) room_1 K 0 0 0 [(0, .ref b)] [] [] := by
  obtain ⟨Δ, hK⟩ := w_cls hts
  have hA : ∀ a : Nat, a < K.2.2.1.heap.size → ¬ K.2.2.1.heap.size ≤ a := fun a h => Nat.not_le.mpr h
  have hZ0 : fo_Z0 (Δ.1, Δ.2, (fun _ => 0), K.2.2.1.heap.size) K.2.2.1 := w_z0 rfl hts hb4
  have hgz : gn_Z K.2.2.1 := ⟨hZ0.2.2.2.2.1, va_AO.of (hts _ (wt_in 113 (by decide +kernel))), va_AO.of (hts _ (wt_in 115 (by decide +kernel))), va_AO.of (hts _ (wt_in 199 (by decide +kernel)))⟩
  have hw0 : ∀ w ∈ fo_W0, w.before K.2.2.2.2.1 K.2.2.1 = true := fun w h => hts w (wt_0 h)
  have C : gn_C Δ (fun q => K.2.2.1.heap.size ≤ q) K cL_law RL 9 := ⟨hx, hcc, hml, hown, hw0, hK, fun q h => h, hgz, hn9⟩
  obtain ⟨adK, adV, hL1, hL2⟩ := w_lit (A := fun q => K.2.2.1.heap.size ≤ q) hA hb4
  refine ⟨Δ, ?_⟩
  refine gn_new C dL_law_0 fK8 gw_cl_L_8 gw_is_X6 fi_X6 (fs := [.null, .null, .null, .null, .null, .int 0, .int 0, .int 0]) (fun j hj => by (obtain rfl | rfl | rfl | rfl | rfl | rfl | rfl | rfl : j = 0 ∨ j = 1 ∨ j = 2 ∨ j = 3 ∨ j = 4 ∨ j = 5 ∨ j = 6 ∨ j = 7 := by omega) <;> rfl) (Nat.le_of_ble_eq_true rfl) (Nat.le_of_ble_eq_true rfl) 3 rfl (fun q6 => ?_)
  refine gn_dup C dL_law_3 rfl 4 rfl ?_
  refine gn_init C dL_law_4 mX6_init gl_L_144 ⟨(Nat.le_of_ble_eq_true rfl), (Nat.le_of_ble_eq_true rfl)⟩ ⟨(Nat.le_of_ble_eq_true rfl), (Nat.le_of_ble_eq_true rfl)⟩ (Nat.le_of_ble_eq_true rfl) 7 rfl (fun ul hul => ?_)
  obtain ⟨a, ha, hul⟩ := hul
  subst ha
  refine gn_astore_n C dL_law_7 rfl [(1, .ref (a 0)), (0, .ref b)] rfl (by decide) 8 rfl ?_
  refine gn_new C dL_law_8 fK9 gw_cl_L_145 gw_is_X7 fi_X7 (fs := [.null, .null, .null, .null, .null, .int 0, .int 0, .int 0, .int 0, .int 0, .null, .int 0, .null, .null, .null, .null, .null, .null, .int 0, .int 0, .int 0, .int 0, .int 0, .int 0]) (fun j hj => by (obtain rfl | rfl | rfl | rfl | rfl | rfl | rfl | rfl | rfl | rfl | rfl | rfl | rfl | rfl | rfl | rfl | rfl | rfl | rfl | rfl | rfl | rfl | rfl | rfl : j = 0 ∨ j = 1 ∨ j = 2 ∨ j = 3 ∨ j = 4 ∨ j = 5 ∨ j = 6 ∨ j = 7 ∨ j = 8 ∨ j = 9 ∨ j = 10 ∨ j = 11 ∨ j = 12 ∨ j = 13 ∨ j = 14 ∨ j = 15 ∨ j = 16 ∨ j = 17 ∨ j = 18 ∨ j = 19 ∨ j = 20 ∨ j = 21 ∨ j = 22 ∨ j = 23 := by omega) <;> rfl) (Nat.le_of_ble_eq_true rfl) (Nat.le_of_ble_eq_true rfl) 11 rfl (fun q7 => ?_)
  refine gn_dup C dL_law_11 rfl 12 rfl ?_
  refine gn_init C dL_law_12 mX7_init gl_L_147 ⟨(Nat.le_of_ble_eq_true rfl), (Nat.le_of_ble_eq_true rfl)⟩ ⟨(Nat.le_of_ble_eq_true rfl), (Nat.le_of_ble_eq_true rfl)⟩ (Nat.le_of_ble_eq_true rfl) 15 rfl (fun um hum => ?_)
  obtain ⟨m, hm, rfl⟩ := hum
  subst hm
  refine gn_astore_n C dL_law_15 rfl [(2, .ref (m 0)), (1, .ref (a 0)), (0, .ref b)] rfl (by decide) 16 rfl ?_
  refine gn_iconst C dL_law_16 (nI 1) ki_1 17 rfl ?_
  refine gn_newa C (a0 := (1, .inr (.inl (fun _ => 0)))) dL_law_17 rfl gw_a_long 3 rfl (fun cA => rfl) (by decide) (by decide) (Nat.le_of_ble_eq_true rfl) (Nat.le_of_ble_eq_true rfl) 19 rfl (fun q1 => ?_)
  refine gn_astore_n C dL_law_19 rfl [(3, .ref q1), (2, .ref (m 0)), (1, .ref (a 0)), (0, .ref b)] rfl (by decide) 20 rfl ?_
  refine gn_iconst C dL_law_20 (nI 1) ki_1 21 rfl ?_
  refine gn_newa C (a0 := (1, .inr (.inr (.inr (.inl (fun _ => 0)))))) dL_law_21 rfl gw_a_double 1 rfl (fun cA => rfl) (by decide) (by decide) (Nat.le_of_ble_eq_true rfl) (Nat.le_of_ble_eq_true rfl) 23 rfl (fun q2 => ?_)
  obtain ⟨ad, ⟨g1, g2, g3, g4⟩, g5, g6⟩ := w_all (Δ := Δ) (z := K.2.2.1.heap.size) (A := fun q => K.2.2.1.heap.size ≤ q) (m := m) (q1 := q1) (q2 := q2) (fun j => if j < 710 then adK (j - 700) else adV (j - 710)) hul
  intro H locs ls hP hD hS hl
  rw [List.nil_append] at hP hD
  obtain ⟨p1, p2, p3⟩ := g6 H hP hD
  have hO : fo_O (wZ Δ ad K.2.2.1.heap.size) := ⟨p2, p3⟩
  have e1 : ∀ i, i < 4 → ad (700 + i) = adK i := fun i hi => by
    rw [g5 _ (by omega), if_pos (by omega), show 700 + i - 700 = i by omega]
  have e2 : ∀ i, i < 4 → ad (710 + i) = adV i := fun i hi => by
    rw [g5 _ (by omega), if_neg (by omega), show 710 + i - 710 = i by omega]
  have CF : fo_C (wZ Δ ad K.2.2.1.heap.size) K cL_law RL 9 := ⟨hx, hcc, hml, hown, hw0, hK, hO, ⟨w_z0 rfl hts hb4, w_zs rfl hts hb4 hL1 hL2 e1 e2⟩, hn9⟩
  have hgo : fo_G l (wZ Δ ad K.2.2.1.heap.size) room_1 K 631 8713 23 [(3, .ref q1), (2, .ref (m 0)), (1, .ref (a 0)), (0, .ref b)] [.ref q2] wI (fun _ _ => 0) (fun _ _ => 0) (fun _ _ => 0) := by
    refine fo_astore CF dL_law_23 [(4, .ref q2), (3, .ref q1), (2, .ref (m 0)), (1, .ref (a 0)), (0, .ref b)] rfl (by decide) 25 rfl ?_
    refine fo_iconst CF dL_law_25 (nI 0) ki_0 26 rfl ?_
    refine fo_istore CF dL_law_26 [(5, .int (nI 0)), (4, .ref q2), (3, .ref q1), (2, .ref (m 0)), (1, .ref (a 0)), (0, .ref b)] rfl (by decide) 28 rfl ?_
    refine fo_sub CF [0, 5, 4, 3, 2, 1] (lv' := [(5, .int (nI 0)), (0, .ref b), (1, .ref (a 0)), (2, .ref (m 0)), (3, .ref q1), (4, .ref q2)]) rfl ?_
    rw [← g1, ← g2, ← g3, ← g4]
    exact lw_lp hfl CF hX hbl hLs (kend _ rfl) (Ls + 5) 0 631 8713 wI (fun _ _ => 0) (fun _ _ => 0) (fun _ _ => 0) ws0 [] none [] 0 (fun _ => 0) (-1) (-1) (by omega) (by omega) (by omega) (by omega) w_ll w_mm (Or.inl rfl) (Or.inl rfl)
  exact hgo H locs ls p1 hS hl

