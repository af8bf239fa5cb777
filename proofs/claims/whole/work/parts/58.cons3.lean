
/-! CONSTRUCTORS: a state, the past, the laboratory -/
theorem gn_at {α : Type} (p x : List α) (k : Nat) : (p ++ x)[p.length + k]? = x[k]? := by
  rw [List.getElem?_append_right (Nat.le_add_right _ _), Nat.add_sub_cancel_left]
/-- blocks, one behind another -/
def gB (f : Nat → va_W) (k : Nat) : va_W := (List.range k).flatMap f
theorem gB_succ (f : Nat → va_W) (k : Nat) : gB f (k + 1) = gB f k ++ f k := by
  unfold gB
  rw [List.range_succ, List.flatMap_append, List.flatMap_cons, List.flatMap_nil, List.append_nil]
theorem gB_up (f : Nat → va_W) (k : Nat) (u : va_W) : gB (va_up f k u) k = gB f k := by
  unfold gB
  have h : ∀ i ∈ List.range k, va_up f k u i = f i := fun i hi => by
    have := List.mem_range.mp hi
    exact if_neg (by omega)
  rw [List.flatMap_def, List.flatMap_def, List.map_congr_left h]
theorem gB_add (f : Nat → va_W) (k : Nat) (u : va_W) : gB (va_up f k u) (k + 1) = gB f k ++ u := by
  rw [gB_succ, gB_up]
  exact congrArg (gB f k ++ ·) (if_pos rfl)
/-- blocks of a kind: each has an address function, its first cell is what the row holds -/
def gBk (T : (Nat → Nat) → va_W → Prop) (k : Nat) (f : Nat → Option Nat) (B : va_W) : Prop := ∃ (g : Nat → Nat → Nat) (v : Nat → va_W), B = gB v k ∧ ∀ i, i < k → f i = some (g i 0) ∧ T (g i) (v i)
theorem gBk.zero {T : (Nat → Nat) → va_W → Prop} {f : Nat → Option Nat} : gBk T 0 f [] := ⟨fun _ _ => 0, fun _ => [], rfl, fun i h => absurd h (Nat.not_lt_zero i)⟩
theorem gBk.add {T : (Nat → Nat) → va_W → Prop} {k q : Nat} {f : Nat → Option Nat} {B u : va_W} {a : Nat → Nat} (h : gBk T k f B) (ha : a 0 = q) (hu : T a u) : gBk T (k + 1) (va_up f k (some q)) (B ++ u) := by
  obtain ⟨g, v, h1, h2⟩ := h
  refine ⟨va_up g k a, va_up v k u, by rw [gB_add, h1], fun i hi => ?_⟩
  unfold va_up
  by_cases e : i = k
  · rw [if_pos e, if_pos e, if_pos e, ha]; exact ⟨rfl, hu⟩
  · rw [if_neg e, if_neg e, if_neg e]; exact h2 i (by omega)
def gSt (Δ : gn_D) (a : Nat → Nat) (u : va_W) : Prop := ∃ f1 f2 B1 B2, u = ((a 0, (Sum.inr (7, [.ref (a 1), .ref (a 2), .int 0, .int (nI 3)]) : va_E)) :: (a 1, gQ Δ 4 4 f1) :: (a 2, gQ Δ 5 8 f2) :: (B1 ++ B2)) ∧ gBk (fun b v => v = gS Δ b) 4 f1 B1 ∧ gBk (fun b v => v = gP Δ b) 8 f2 B2
def gPa (Δ : gn_D) (a : Nat → Nat) (u : va_W) : Prop := ∃ f B, u = ((a 0, (Sum.inr (3, [.ref (a 1), .int 0, .int 0]) : va_E)) :: (a 1, gQ Δ 6 9 f) :: B) ∧ gBk (gSt Δ) 9 f B
def gLa (Δ : gn_D) (a : Nat → Nat) (u : va_W) : Prop := ∃ b0 b1 b2 b3 b4 u0 u1 u2 u3 u4, u = ((a 0, (Sum.inr (8, [.ref (b0 0), .ref (b1 0), .ref (b2 0), .ref (b3 0), .ref (b4 0), .int 0, .int (-1), .int (-1)]) : va_E)) :: (u0 ++ (u1 ++ (u2 ++ (u3 ++ u4))))) ∧ gSt Δ b0 u0 ∧ gSt Δ b1 u1 ∧ gPa Δ b2 u2 ∧ u3 = gG Δ b3 ∧ u4 = gL Δ b4

set_option maxRecDepth 10000 in
set_option maxHeartbeats 4000000 in
theorem mX5_init {l : Launch} {Δ : gn_D} : gk l yX5_init cX5_init 2 2 60 54 552 Δ 7 [.null, .null, .int 0, .int 0] (fun h0 u => ∃ a : Nat → Nat, a 0 = h0 ∧ gSt Δ a u) := by
  refine gn_sv (by decide) rfl (by decide) (fun h0 A K C hin fin => ?_)
  refine gn_aload_n C dX5_init_0 0 rfl rfl 1 rfl ?_
  refine gn_obj C dX5_init_1 gw_ol_X5 gw_oi gw_oc ⟨(Nat.le_of_ble_eq_true rfl), (Nat.le_of_ble_eq_true rfl)⟩ 4 rfl ?_
  refine gn_aload_n C dX5_init_4 0 rfl rfl 5 rfl ?_
  refine gn_iconst C dX5_init_5 (nI 4) ki_4 6 rfl ?_
  refine gn_newq C dX5_init_6 gw_cl_X5_9 C.zz.2.1 4 rfl (by decide) (Nat.le_of_ble_eq_true rfl) (Nat.le_of_ble_eq_true rfl) 9 rfl (fun q1 => ?_)
  refine gn_putF C hin dX5_init_9 fK7 0 rfl 0 (by decide) fl_X5_11 rfl rfl rfl rfl (Nat.le_of_ble_eq_true rfl) [(h0, (Sum.inr (7, [.ref q1, .null, .int 0, .int 0]) : va_E)), (q1, gQ Δ 4 4 (fun _ => none))] rfl 12 rfl ?_
  refine gn_aload_n C dX5_init_12 0 rfl rfl 13 rfl ?_
  refine gn_bipush C dX5_init_13 (nI 8) kb_8 15 rfl ?_
  refine gn_newq C dX5_init_15 gw_cl_X5_17 C.zz.2.2.1 5 rfl (by decide) (Nat.le_of_ble_eq_true rfl) (Nat.le_of_ble_eq_true rfl) 18 rfl (fun q2 => ?_)
  refine gn_putF C hin dX5_init_18 fK7 0 rfl 1 (by decide) fl_X5_19 rfl rfl rfl rfl (Nat.le_of_ble_eq_true rfl) [(h0, (Sum.inr (7, [.ref q1, .ref q2, .int 0, .int 0]) : va_E)), (q1, gQ Δ 4 4 (fun _ => none)), (q2, gQ Δ 5 8 (fun _ => none))] rfl 21 rfl ?_
  refine gn_aload_n C dX5_init_21 0 rfl rfl 22 rfl ?_
  refine gn_iconst C dX5_init_22 (nI 3) ki_3 23 rfl ?_
  refine gn_put C dX5_init_23 fK7 0 rfl 3 (by decide) fl_X5_23 rfl rfl rfl (Nat.le_of_ble_eq_true rfl) [(h0, (Sum.inr (7, [.ref q1, .ref q2, .int 0, .int (nI 3)]) : va_E)), (q1, gQ Δ 4 4 (fun _ => none)), (q2, gQ Δ 5 8 (fun _ => none))] rfl 26 rfl ?_
  refine gn_iconst C dX5_init_26 (nI 0) ki_0 27 rfl ?_
  refine gn_istore_n C dX5_init_27 rfl [(1, .int (nI 0)), (0, .ref h0)] rfl (by decide) 28 rfl ?_
  have hL54 : ∀ (f1 : Nat → Option Nat) (B1 : va_W) (m54 k cs ss : Nat) (f : Nat → Option Nat) (B : va_W), gBk (fun b v => v = gS Δ b) 4 f1 B1 → 9 - k < m54 → k ≤ 8 → cs = 22 + 4 * k → ss = 416 + 17 * k → gBk (fun b v => v = gP Δ b) k f B → gn_G l Δ A { frames := 2, cells := 54, slots := 552, locals := 60 } K cs ss 54 [(1, .int (nI k)), (0, .ref h0)] [] ((h0, (Sum.inr (7, [.ref q1, .ref q2, .int 0, .int (nI 3)]) : va_E)) :: (q1, gQ Δ 4 4 f1) :: (q2, gQ Δ 5 8 f) :: (B1 ++ B)) := by
    intro f1 B1 m54
    induction m54 with
    | zero => intro k cs ss f B _ hm; exact absurd hm (Nat.not_lt_zero _)
    | succ m54 ih =>
      intro k cs ss f B hB1 hm hk hcs hss hB
      refine gn_iload_n C dX5_init_54 0 rfl rfl 55 rfl ?_
      refine gn_bipush C dX5_init_55 (nI 8) kb_8 57 rfl ?_
      refine gn_ncmp_ge C (by omega) (by omega) dX5_init_57 79 (by decide) 60 rfl (fun c1 => ?_) (fun c1 => ?_)
      · have e8 : k = 8 := by omega
        subst e8
        exact fin dX5_init_79 ⟨fun j => [h0, q1, q2].getD j 0, rfl, f1, f, B1, B, rfl, hB1, hB⟩ (by omega) (by omega)
      · refine gn_aload_n C dX5_init_60 1 rfl rfl 61 rfl ?_
        refine gn_get C dX5_init_61 fK7 0 rfl 1 (by decide) fl_X5_19 (.ref q2) rfl 64 rfl ?_
        refine gn_iload_n C dX5_init_64 0 rfl rfl 65 rfl ?_
        refine gn_new C dX5_init_65 fK5 gw_cl_X5_17 gw_is_X3 fi_X3 (fs := [.int 0, .int 0, .null, .null, .null]) (fun j hj => by (obtain rfl | rfl | rfl | rfl | rfl : j = 0 ∨ j = 1 ∨ j = 2 ∨ j = 3 ∨ j = 4 := by omega) <;> rfl) (by show cs + 1 ≤ 54; omega) (by show ss + 5 ≤ 552; omega) 68 rfl (fun q => ?_)
        refine gn_dup C dX5_init_68 rfl 69 rfl ?_
        refine gn_initN C dX5_init_69 mX3_init gl_X5_28 ⟨(Nat.le_of_ble_eq_true rfl), (Nat.le_of_ble_eq_true rfl)⟩ ⟨(by show cs + 1 + 3 ≤ 54; omega), (by show ss + 5 + 12 ≤ 552; omega)⟩ (Nat.le_of_ble_eq_true rfl) 72 rfl (fun u hu => ?_)
        obtain ⟨a, ha, rfl⟩ := hu
        subst ha
        refine gn_astq C dX5_init_72 2 5 ((h0, (Sum.inr (7, [.ref q1, .ref q2, .int 0, .int (nI 3)]) : va_E)) :: (q1, gQ Δ 4 4 f1) :: (q2, gQ Δ 5 8 f) :: (B1 ++ B)).length rfl rfl (gn_at ((h0, (Sum.inr (7, [.ref q1, .ref q2, .int 0, .int (nI 3)]) : va_E)) :: (q1, gQ Δ 4 4 f1) :: (q2, gQ Δ 5 8 f) :: (B1 ++ B)) (gP Δ a) 0) rfl (by omega) (by decide) ((h0, (Sum.inr (7, [.ref q1, .ref q2, .int 0, .int (nI 3)]) : va_E)) :: (q1, gQ Δ 4 4 f1) :: (q2, gQ Δ 5 8 (va_up f k (some (a 0)))) :: (B1 ++ (B ++ gP Δ a))) (by rw [← List.append_assoc]; rfl) 73 rfl ?_
        refine gn_iinc C dX5_init_73 0 rfl (nI (k + 1)) (nI_inc1 _) [(1, .int (nI (k + 1))), (0, .ref h0)] rfl (by decide) 76 rfl ?_
        refine gn_goto C dX5_init_76 54 (by decide) ?_
        exact ih (k + 1) _ _ _ _ hB1 (by omega) (by omega) (by omega) (by omega) (hB.add rfl rfl)
  have hL28 : ∀ (m28 k cs ss : Nat) (f : Nat → Option Nat) (B : va_W), 5 - k < m28 → k ≤ 4 → cs = 2 + 5 * k → ss = 12 + 101 * k → gBk (fun b v => v = gS Δ b) k f B → gn_G l Δ A { frames := 2, cells := 54, slots := 552, locals := 60 } K cs ss 28 [(1, .int (nI k)), (0, .ref h0)] [] ((h0, (Sum.inr (7, [.ref q1, .ref q2, .int 0, .int (nI 3)]) : va_E)) :: (q1, gQ Δ 4 4 f) :: (q2, gQ Δ 5 8 (fun _ => none)) :: B) := by
    intro m28
    induction m28 with
    | zero => intro k cs ss f B hm; exact absurd hm (Nat.not_lt_zero _)
    | succ m28 ih =>
      intro k cs ss f B hm hk hcs hss hB
      refine gn_iload_n C dX5_init_28 0 rfl rfl 29 rfl ?_
      refine gn_iconst C dX5_init_29 (nI 4) ki_4 30 rfl ?_
      refine gn_ncmp_ge C (by omega) (by omega) dX5_init_30 52 (by decide) 33 rfl (fun c1 => ?_) (fun c1 => ?_)
      · have e8 : k = 4 := by omega
        subst e8
        refine gn_iconst C dX5_init_52 (nI 0) ki_0 53 rfl ?_
        refine gn_istore_n C dX5_init_53 rfl [(1, .int (nI 0)), (0, .ref h0)] rfl (by decide) 54 rfl ?_
        have h9 := hL54 f B 10 0 cs ss (fun _ => none) [] hB (by omega) (by omega) (by omega) (by omega) gBk.zero
        rw [List.append_nil] at h9
        exact h9
      · refine gn_aload_n C dX5_init_33 1 rfl rfl 34 rfl ?_
        refine gn_get C dX5_init_34 fK7 0 rfl 0 (by decide) fl_X5_11 (.ref q1) rfl 37 rfl ?_
        refine gn_iload_n C dX5_init_37 0 rfl rfl 38 rfl ?_
        refine gn_new C dX5_init_38 fK6 gw_cl_X5_9 gw_is_X4 fi_X4 (fs := [.null, .int 0, .null, .null, .null]) (fun j hj => by (obtain rfl | rfl | rfl | rfl | rfl : j = 0 ∨ j = 1 ∨ j = 2 ∨ j = 3 ∨ j = 4 := by omega) <;> rfl) (by show cs + 1 ≤ 54; omega) (by show ss + 5 ≤ 552; omega) 41 rfl (fun q => ?_)
        refine gn_dup C dX5_init_41 rfl 42 rfl ?_
        refine gn_initN C dX5_init_42 mX4_init gl_X5_27 ⟨(Nat.le_of_ble_eq_true rfl), (Nat.le_of_ble_eq_true rfl)⟩ ⟨(by show cs + 1 + 4 ≤ 54; omega), (by show ss + 5 + 96 ≤ 552; omega)⟩ (Nat.le_of_ble_eq_true rfl) 45 rfl (fun u hu => ?_)
        obtain ⟨a, ha, rfl⟩ := hu
        subst ha
        refine gn_astq C dX5_init_45 1 4 ((h0, (Sum.inr (7, [.ref q1, .ref q2, .int 0, .int (nI 3)]) : va_E)) :: (q1, gQ Δ 4 4 f) :: (q2, gQ Δ 5 8 (fun _ => none)) :: B).length rfl rfl (gn_at ((h0, (Sum.inr (7, [.ref q1, .ref q2, .int 0, .int (nI 3)]) : va_E)) :: (q1, gQ Δ 4 4 f) :: (q2, gQ Δ 5 8 (fun _ => none)) :: B) (gS Δ a) 0) rfl (by omega) (by decide) ((h0, (Sum.inr (7, [.ref q1, .ref q2, .int 0, .int (nI 3)]) : va_E)) :: (q1, gQ Δ 4 4 (va_up f k (some (a 0)))) :: (q2, gQ Δ 5 8 (fun _ => none)) :: (B ++ gS Δ a)) rfl 46 rfl ?_
        refine gn_iinc C dX5_init_46 0 rfl (nI (k + 1)) (nI_inc1 _) [(1, .int (nI (k + 1))), (0, .ref h0)] rfl (by decide) 49 rfl ?_
        refine gn_goto C dX5_init_49 28 (by decide) ?_
        exact ih (k + 1) _ _ _ _ (by omega) (by omega) (by omega) (by omega) (hB.add rfl rfl)
  exact hL28 6 0 2 12 (fun _ => none) [] (by omega) (by omega) rfl rfl gBk.zero
set_option maxRecDepth 10000 in
set_option maxHeartbeats 4000000 in
theorem mX1_init {l : Launch} {Δ : gn_D} : gk l yX1_init cX1_init 2 3 100 496 5013 Δ 3 [.null, .int 0, .int 0] (fun h0 u => ∃ a : Nat → Nat, a 0 = h0 ∧ gPa Δ a u) := by
  refine gn_sv (by decide) rfl (by decide) (fun h0 A K C hin fin => ?_)
  refine gn_aload_n C dX1_init_0 0 rfl rfl 1 rfl ?_
  refine gn_obj C dX1_init_1 gw_ol_X1 gw_oi gw_oc ⟨(Nat.le_of_ble_eq_true rfl), (Nat.le_of_ble_eq_true rfl)⟩ 4 rfl ?_
  refine gn_aload_n C dX1_init_4 0 rfl rfl 5 rfl ?_
  refine gn_bipush C dX1_init_5 (nI 9) kb_9 7 rfl ?_
  refine gn_newq C dX1_init_7 gw_cl_X1_11 C.zz.2.2.2 6 rfl (by decide) (Nat.le_of_ble_eq_true rfl) (Nat.le_of_ble_eq_true rfl) 10 rfl (fun q1 => ?_)
  refine gn_putF C hin dX1_init_10 fK3 0 rfl 0 (by decide) fl_X1_13 rfl rfl rfl rfl (Nat.le_of_ble_eq_true rfl) [(h0, (Sum.inr (3, [.ref q1, .int 0, .int 0]) : va_E)), (q1, gQ Δ 6 9 (fun _ => none))] rfl 13 rfl ?_
  refine gn_iconst C dX1_init_13 (nI 0) ki_0 14 rfl ?_
  refine gn_istore_n C dX1_init_14 rfl [(1, .int (nI 0)), (0, .ref h0)] rfl (by decide) 15 rfl ?_
  have hL15 : ∀ (m15 k cs ss : Nat) (f : Nat → Option Nat) (B : va_W), 10 - k < m15 → k ≤ 9 → cs = 1 + 55 * k → ss = 9 + 556 * k → gBk (gSt Δ) k f B → gn_G l Δ A { frames := 3, cells := 496, slots := 5013, locals := 100 } K cs ss 15 [(1, .int (nI k)), (0, .ref h0)] [] ((h0, (Sum.inr (3, [.ref q1, .int 0, .int 0]) : va_E)) :: (q1, gQ Δ 6 9 f) :: B) := by
    intro m15
    induction m15 with
    | zero => intro k cs ss f B hm; exact absurd hm (Nat.not_lt_zero _)
    | succ m15 ih =>
      intro k cs ss f B hm hk hcs hss hB
      refine gn_iload_n C dX1_init_15 0 rfl rfl 16 rfl ?_
      refine gn_bipush C dX1_init_16 (nI 9) kb_9 18 rfl ?_
      refine gn_ncmp_ge C (by omega) (by omega) dX1_init_18 40 (by decide) 21 rfl (fun c1 => ?_) (fun c1 => ?_)
      · have e8 : k = 9 := by omega
        subst e8
        exact fin dX1_init_40 ⟨fun j => [h0, q1].getD j 0, rfl, f, B, rfl, hB⟩ (by omega) (by omega)
      · refine gn_aload_n C dX1_init_21 1 rfl rfl 22 rfl ?_
        refine gn_get C dX1_init_22 fK3 0 rfl 0 (by decide) fl_X1_13 (.ref q1) rfl 25 rfl ?_
        refine gn_iload_n C dX1_init_25 0 rfl rfl 26 rfl ?_
        refine gn_new C dX1_init_26 fK7 gw_cl_X1_11 gw_is_X5 fi_X5 (fs := [.null, .null, .int 0, .int 0]) (fun j hj => by (obtain rfl | rfl | rfl | rfl : j = 0 ∨ j = 1 ∨ j = 2 ∨ j = 3 := by omega) <;> rfl) (by show cs + 1 ≤ 496; omega) (by show ss + 4 ≤ 5013; omega) 29 rfl (fun q => ?_)
        refine gn_dup C dX1_init_29 rfl 30 rfl ?_
        refine gn_init C dX1_init_30 mX5_init gl_X1_17 ⟨(Nat.le_of_ble_eq_true rfl), (Nat.le_of_ble_eq_true rfl)⟩ ⟨(by show cs + 1 + 54 ≤ 496; omega), (by show ss + 4 + 552 ≤ 5013; omega)⟩ (Nat.le_of_ble_eq_true rfl) 33 rfl (fun u hu => ?_)
        obtain ⟨a, ha, hu⟩ := hu
        subst ha
        have hu0 : ∃ fs, u[0]? = some (a 0, .inr (7, fs)) := by obtain ⟨_, _, _, _, rfl, _, _⟩ := hu; exact ⟨_, rfl⟩
        obtain ⟨fs0, hu0⟩ := hu0
        refine gn_astq C dX1_init_33 1 6 ((h0, (Sum.inr (3, [.ref q1, .int 0, .int 0]) : va_E)) :: (q1, gQ Δ 6 9 f) :: B).length rfl rfl ((gn_at ((h0, (Sum.inr (3, [.ref q1, .int 0, .int 0]) : va_E)) :: (q1, gQ Δ 6 9 f) :: B) u 0).trans hu0) rfl (by omega) (by decide) ((h0, (Sum.inr (3, [.ref q1, .int 0, .int 0]) : va_E)) :: (q1, gQ Δ 6 9 (va_up f k (some (a 0)))) :: (B ++ u)) rfl 34 rfl ?_
        refine gn_iinc C dX1_init_34 0 rfl (nI (k + 1)) (nI_inc1 _) [(1, .int (nI (k + 1))), (0, .ref h0)] rfl (by decide) 37 rfl ?_
        refine gn_goto C dX1_init_37 15 (by decide) ?_
        exact ih (k + 1) _ _ _ _ (by omega) (by omega) (by omega) (by omega) (hB.add rfl hu)
  exact hL15 11 0 1 9 (fun _ => none) [] (by omega) (by omega) rfl rfl gBk.zero
set_option maxRecDepth 10000 in
set_option maxHeartbeats 4000000 in
theorem mX6_init {l : Launch} {Δ : gn_D} : gk l yX6_init cX6_init 1 4 160 615 6591 Δ 8 [.null, .null, .null, .null, .null, .int 0, .int 0, .int 0] (fun h0 u => ∃ a : Nat → Nat, a 0 = h0 ∧ gLa Δ a u) := by
  refine gn_sv (by decide) rfl (by decide) (fun h0 A K C hin fin => ?_)
  refine gn_aload_n C dX6_init_0 0 rfl rfl 1 rfl ?_
  refine gn_obj C dX6_init_1 gw_ol_X6 gw_oi gw_oc ⟨(Nat.le_of_ble_eq_true rfl), (Nat.le_of_ble_eq_true rfl)⟩ 4 rfl ?_
  refine gn_aload_n C dX6_init_4 0 rfl rfl 5 rfl ?_
  refine gn_new C dX6_init_5 fK7 gw_cl_X6_9 gw_is_X5 fi_X5 (fs := [.null, .null, .int 0, .int 0]) (fun j hj => by (obtain rfl | rfl | rfl | rfl : j = 0 ∨ j = 1 ∨ j = 2 ∨ j = 3 := by omega) <;> rfl) (Nat.le_of_ble_eq_true rfl) (Nat.le_of_ble_eq_true rfl) 8 rfl (fun q0 => ?_)
  refine gn_dup C dX6_init_8 rfl 9 rfl ?_
  refine gn_init C dX6_init_9 mX5_init gl_X6_11 ⟨(Nat.le_of_ble_eq_true rfl), (Nat.le_of_ble_eq_true rfl)⟩ ⟨(Nat.le_of_ble_eq_true rfl), (Nat.le_of_ble_eq_true rfl)⟩ (Nat.le_of_ble_eq_true rfl) 12 rfl (fun u0 hu0 => ?_)
  obtain ⟨b0, hb0, hu0⟩ := hu0
  subst hb0
  refine gn_putF C hin dX6_init_12 fK8 0 rfl 0 (by decide) fl_X6_12 rfl rfl rfl rfl (Nat.le_of_ble_eq_true rfl) ([(h0, (Sum.inr (8, [.ref (b0 0), .null, .null, .null, .null, .int 0, .int 0, .int 0]) : va_E))] ++ u0) rfl 15 rfl ?_
  refine gn_aload_n C dX6_init_15 0 rfl rfl 16 rfl ?_
  refine gn_new C dX6_init_16 fK7 gw_cl_X6_9 gw_is_X5 fi_X5 (fs := [.null, .null, .int 0, .int 0]) (fun j hj => by (obtain rfl | rfl | rfl | rfl : j = 0 ∨ j = 1 ∨ j = 2 ∨ j = 3 := by omega) <;> rfl) (Nat.le_of_ble_eq_true rfl) (Nat.le_of_ble_eq_true rfl) 19 rfl (fun q1 => ?_)
  refine gn_dup C dX6_init_19 rfl 20 rfl ?_
  refine gn_init C dX6_init_20 mX5_init gl_X6_11 ⟨(Nat.le_of_ble_eq_true rfl), (Nat.le_of_ble_eq_true rfl)⟩ ⟨(Nat.le_of_ble_eq_true rfl), (Nat.le_of_ble_eq_true rfl)⟩ (Nat.le_of_ble_eq_true rfl) 23 rfl (fun u1 hu1 => ?_)
  obtain ⟨b1, hb1, hu1⟩ := hu1
  subst hb1
  refine gn_putF C hin dX6_init_23 fK8 0 rfl 1 (by decide) fl_X6_16 rfl rfl rfl rfl (Nat.le_of_ble_eq_true rfl) (([(h0, (Sum.inr (8, [.ref (b0 0), .ref (b1 0), .null, .null, .null, .int 0, .int 0, .int 0]) : va_E))] ++ u0) ++ u1) rfl 26 rfl ?_
  refine gn_aload_n C dX6_init_26 0 rfl rfl 27 rfl ?_
  refine gn_new C dX6_init_27 fK3 gw_cl_X6_19 gw_is_X1 fi_X1 (fs := [.null, .int 0, .int 0]) (fun j hj => by (obtain rfl | rfl | rfl : j = 0 ∨ j = 1 ∨ j = 2 := by omega) <;> rfl) (Nat.le_of_ble_eq_true rfl) (Nat.le_of_ble_eq_true rfl) 30 rfl (fun q2 => ?_)
  refine gn_dup C dX6_init_30 rfl 31 rfl ?_
  refine gn_init C dX6_init_31 mX1_init gl_X6_21 ⟨(Nat.le_of_ble_eq_true rfl), (Nat.le_of_ble_eq_true rfl)⟩ ⟨(Nat.le_of_ble_eq_true rfl), (Nat.le_of_ble_eq_true rfl)⟩ (Nat.le_of_ble_eq_true rfl) 34 rfl (fun u2 hu2 => ?_)
  obtain ⟨b2, hb2, hu2⟩ := hu2
  subst hb2
  refine gn_putF C hin dX6_init_34 fK8 0 rfl 2 (by decide) fl_X6_22 rfl rfl rfl rfl (Nat.le_of_ble_eq_true rfl) ((([(h0, (Sum.inr (8, [.ref (b0 0), .ref (b1 0), .ref (b2 0), .null, .null, .int 0, .int 0, .int 0]) : va_E))] ++ u0) ++ u1) ++ u2) rfl 37 rfl ?_
  refine gn_aload_n C dX6_init_37 0 rfl rfl 38 rfl ?_
  refine gn_new C dX6_init_38 fK4 gw_cl_X6_26 gw_is_X2 fi_X2 (fs := [.null, .int 0, .int 0, .int 0, .null, .null, .null, .null, .int 0]) (fun j hj => by (obtain rfl | rfl | rfl | rfl | rfl | rfl | rfl | rfl | rfl : j = 0 ∨ j = 1 ∨ j = 2 ∨ j = 3 ∨ j = 4 ∨ j = 5 ∨ j = 6 ∨ j = 7 ∨ j = 8 := by omega) <;> rfl) (Nat.le_of_ble_eq_true rfl) (Nat.le_of_ble_eq_true rfl) 41 rfl (fun q3 => ?_)
  refine gn_dup C dX6_init_41 rfl 42 rfl ?_
  refine gn_initN C dX6_init_42 mX2_init gl_X6_28 ⟨(Nat.le_of_ble_eq_true rfl), (Nat.le_of_ble_eq_true rfl)⟩ ⟨(Nat.le_of_ble_eq_true rfl), (Nat.le_of_ble_eq_true rfl)⟩ (Nat.le_of_ble_eq_true rfl) 45 rfl (fun u3 hu3 => ?_)
  obtain ⟨b3, hb3, hu3⟩ := hu3
  subst hb3
  refine gn_putF C hin dX6_init_45 fK8 0 rfl 3 (by decide) fl_X6_29 rfl rfl rfl rfl (Nat.le_of_ble_eq_true rfl) (((([(h0, (Sum.inr (8, [.ref (b0 0), .ref (b1 0), .ref (b2 0), .ref (b3 0), .null, .int 0, .int 0, .int 0]) : va_E))] ++ u0) ++ u1) ++ u2) ++ u3) rfl 48 rfl ?_
  refine gn_aload_n C dX6_init_48 0 rfl rfl 49 rfl ?_
  refine gn_new C dX6_init_49 fK2 gw_cl_X6_33 gw_is_X0 fi_X0 (fs := [.null, .int 0]) (fun j hj => by (obtain rfl | rfl : j = 0 ∨ j = 1 := by omega) <;> rfl) (Nat.le_of_ble_eq_true rfl) (Nat.le_of_ble_eq_true rfl) 52 rfl (fun q4 => ?_)
  refine gn_dup C dX6_init_52 rfl 53 rfl ?_
  refine gn_initN C dX6_init_53 mX0_init gl_X6_35 ⟨(Nat.le_of_ble_eq_true rfl), (Nat.le_of_ble_eq_true rfl)⟩ ⟨(Nat.le_of_ble_eq_true rfl), (Nat.le_of_ble_eq_true rfl)⟩ (Nat.le_of_ble_eq_true rfl) 56 rfl (fun u4 hu4 => ?_)
  obtain ⟨b4, hb4, hu4⟩ := hu4
  subst hb4
  refine gn_putF C hin dX6_init_56 fK8 0 rfl 4 (by decide) fl_X6_36 rfl rfl rfl rfl (Nat.le_of_ble_eq_true rfl) ((((([(h0, (Sum.inr (8, [.ref (b0 0), .ref (b1 0), .ref (b2 0), .ref (b3 0), .ref (b4 0), .int 0, .int 0, .int 0]) : va_E))] ++ u0) ++ u1) ++ u2) ++ u3) ++ u4) rfl 59 rfl ?_
  refine gn_aload_n C dX6_init_59 0 rfl rfl 60 rfl ?_
  refine gn_iconst C dX6_init_60 (-1) (by decide) 61 rfl ?_
  refine gn_put C dX6_init_61 fK8 0 rfl 6 (by decide) fl_X6_40 rfl rfl rfl (Nat.le_of_ble_eq_true rfl) ((((([(h0, (Sum.inr (8, [.ref (b0 0), .ref (b1 0), .ref (b2 0), .ref (b3 0), .ref (b4 0), .int 0, .int (-1), .int 0]) : va_E))] ++ u0) ++ u1) ++ u2) ++ u3) ++ u4) rfl 64 rfl ?_
  refine gn_aload_n C dX6_init_64 0 rfl rfl 65 rfl ?_
  refine gn_iconst C dX6_init_65 (-1) (by decide) 66 rfl ?_
  refine gn_put C dX6_init_66 fK8 0 rfl 7 (by decide) fl_X6_44 rfl rfl rfl (Nat.le_of_ble_eq_true rfl) ((((([(h0, (Sum.inr (8, [.ref (b0 0), .ref (b1 0), .ref (b2 0), .ref (b3 0), .ref (b4 0), .int 0, .int (-1), .int (-1)]) : va_E))] ++ u0) ++ u1) ++ u2) ++ u3) ++ u4) rfl 69 rfl ?_
  exact fin dX6_init_69 ⟨fun _ => h0, rfl, b0, b1, b2, b3, b4, u0, u1, u2, u3, u4, by simp only [List.cons_append, List.nil_append, List.append_assoc], hu0, hu1, hu2, hu3, hu4⟩ (Nat.le_of_ble_eq_true rfl) (Nat.le_of_ble_eq_true rfl)
