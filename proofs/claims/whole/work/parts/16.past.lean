
/-! THE PAST, THE LINE -/
theorem fo_sym3 {α β γ : Type} {a a' : α} {b b' : β} {c c' : γ} (h : a' = a ∧ b' = b ∧ c' = c) : a = a' ∧ b = b' ∧ c = c' := ⟨h.1.symm, h.2.1.symm, h.2.2.symm⟩
/-- the line holds these characters -/
def fs_L (I : fo_Mi) (L : List Nat) : Prop := L.length ≤ 152 ∧ I 614 1 = nI L.length ∧ ∀ j c, L[j]? = some c → I 615 j = nI c ∧ c < 65536
theorem fs_L.put {I : fo_Mi} {L : List Nat} {c : Nat} (h : fs_L I L) (h1 : L.length < 152) (hc : c < 65536) : fs_L (fo_r (fo_r I 615 (upd (I 615) L.length (nI c))) 614 (upd (I 614) 1 (nI (L.length + 1)))) (L ++ [c]) := by
  obtain ⟨a1, a2, a3⟩ := h
  refine ⟨by rw [List.length_append]; exact h1, by rw [fo_rs, pk_us, List.length_append]; rfl, fun j d hd => ?_⟩
  rw [fo_rn _ _ (by decide), fo_rs]
  by_cases e : j = L.length
  · subst e
    rw [List.getElem?_append_right (Nat.le_refl _), Nat.sub_self] at hd
    cases hd
    exact ⟨pk_us, hc⟩
  · have hj : j < L.length := by
      have := (List.getElem?_eq_some_iff.mp hd).1
      rw [List.length_append] at this
      have : [c].length = 1 := rfl
      omega
    rw [List.getElem?_append_left hj] at hd
    rw [pk_un e]
    exact a3 j d hd
/-- all but the line as before -/
def fs_lf (I : fo_Mi) (I' : fo_Mi) : Prop := ∀ b, b ≠ 614 → b ≠ 615 → I' b = I b
/-- the digits of a number less than 1000 -/
def fp_dig (x : Nat) : List Nat := (if 100 ≤ x then [48 + x / 100 % 10] else []) ++ ((if 10 ≤ x then [48 + x / 10 % 10] else []) ++ [48 + x % 10])
theorem fp_dig_len (x : Nat) : (fp_dig x).length ≤ 3 ∧ 1 ≤ (fp_dig x).length := by
  unfold fp_dig
  by_cases h1 : 100 ≤ x <;> by_cases h2 : 10 ≤ x <;> simp [h1, h2]

set_option maxRecDepth 10000 in
set_option maxHeartbeats 4000000 in
theorem mX1_write {l : Launch} {Λ : fo_Lt} {I : fo_Mi} {D : fo_Md} {J : fo_Mj} {X : fo_Mi} {b x np lim : Nat} {kd par n : Nat → Nat} {v : Nat → Nat → Nat} (hf : fs_F I D b np lim kd par n v) (hx : x < 9) (hn : I 606 1 = nI x) (hne : b ≠ 110 + 55 * x) : fk_v l yX1_write cX1_write 2 3 123 Λ [.ref (Λ.2.2.1 606), .ref (Λ.2.2.1 b)] I D J X ((fun I' D' J' X' => fs_F I' D' (110 + 55 * x) np lim kd par n v ∧ fs_fr (110 + 55 * x) I D I' D' ∧ J' = J ∧ X' = X)) := by
  refine fo_sv (by decide) [(0, .ref (Λ.2.2.1 606)), (1, .ref (Λ.2.2.1 b))] rfl (Nat.le_of_ble_eq_true rfl) (fun K C fin => ?_)
  refine fo_aload_n C dX1_write_0 0 rfl rfl 1 rfl ?_
  refine fo_get C dX1_write_1 fK3 (by decide : fo_k 606 = 3) (by decide) 0 (by decide) fl_X1_13 (v := .ref (Λ.2.2.1 607)) rfl 4 rfl ?_
  refine fo_aload_n C dX1_write_4 0 rfl rfl 5 rfl ?_
  refine fo_get C dX1_write_5 fK3 (by decide : fo_k 606 = 3) (by decide) 1 (by decide) fl_X1_18 (v := .int (nI x)) (congrArg (fun x => some (Value.int x)) (hn)) 8 rfl ?_
  refine fo_aaldT C dX1_write_8 (by decide) (by rw [(show fo_n 607 = 9 from rfl)]; omega) (110 + 55 * x) (by omega) 9 rfl ?_
  refine fo_aload_n C dX1_write_9 1 rfl rfl 10 rfl ?_
  refine fo_qvv C dX1_write_10 (mX5_copyFrom hf (by first | exact fo_T110 hx | exact hb) (by first | exact hne | exact fun q => hne q.symm)) lv_X1_22 (fo_T110 hx) rfl (by decide) rfl ⟨Nat.le_of_ble_eq_true rfl, Nat.le_of_ble_eq_true rfl⟩ ⟨Nat.le_of_ble_eq_true rfl, Nat.le_of_ble_eq_true rfl⟩ [] rfl (Nat.le_of_ble_eq_true rfl) 13 rfl (fun I2 D3 J4 X5 p6 => ?_)
  exact fin dX1_write_13 (p6)
set_option maxRecDepth 10000 in
set_option maxHeartbeats 4000000 in
theorem mX1_read {l : Launch} {Λ : fo_Lt} {I : fo_Mi} {D : fo_Md} {J : fo_Mj} {X : fo_Mi} {b x np lim : Nat} {kd par n : Nat → Nat} {v : Nat → Nat → Nat} (hf : fs_F I D (110 + 55 * x) np lim kd par n v) (hx : x < 9) (hn : I 606 1 = nI x) (hb : fo_k b = 7) (hne : 110 + 55 * x ≠ b) : fk_v l yX1_read cX1_read 2 3 123 Λ [.ref (Λ.2.2.1 606), .ref (Λ.2.2.1 b)] I D J X ((fun I' D' J' X' => fs_F I' D' b np lim kd par n v ∧ fs_fr b I D I' D' ∧ J' = J ∧ X' = X)) := by
  refine fo_sv (by decide) [(0, .ref (Λ.2.2.1 606)), (1, .ref (Λ.2.2.1 b))] rfl (Nat.le_of_ble_eq_true rfl) (fun K C fin => ?_)
  refine fo_aload_n C dX1_read_0 1 rfl rfl 1 rfl ?_
  refine fo_aload_n C dX1_read_1 0 rfl rfl 2 rfl ?_
  refine fo_get C dX1_read_2 fK3 (by decide : fo_k 606 = 3) (by decide) 0 (by decide) fl_X1_13 (v := .ref (Λ.2.2.1 607)) rfl 5 rfl ?_
  refine fo_aload_n C dX1_read_5 0 rfl rfl 6 rfl ?_
  refine fo_get C dX1_read_6 fK3 (by decide : fo_k 606 = 3) (by decide) 1 (by decide) fl_X1_18 (v := .int (nI x)) (congrArg (fun x => some (Value.int x)) (hn)) 9 rfl ?_
  refine fo_aaldT C dX1_read_9 (by decide) (by rw [(show fo_n 607 = 9 from rfl)]; omega) (110 + 55 * x) (by omega) 10 rfl ?_
  refine fo_qvv C dX1_read_10 (mX5_copyFrom hf (by first | exact fo_T110 hx | exact hb) (by first | exact hne | exact fun q => hne q.symm)) lv_X1_22 hb rfl (by decide) rfl ⟨Nat.le_of_ble_eq_true rfl, Nat.le_of_ble_eq_true rfl⟩ ⟨Nat.le_of_ble_eq_true rfl, Nat.le_of_ble_eq_true rfl⟩ [] rfl (Nat.le_of_ble_eq_true rfl) 13 rfl (fun I2 D3 J4 X5 p6 => ?_)
  exact fin dX1_read_13 (p6)
set_option maxRecDepth 10000 in
set_option maxHeartbeats 4000000 in
theorem mX1_advance {l : Launch} {Λ : fo_Lt} {I : fo_Mi} {D : fo_Md} {J : fo_Mj} {X : fo_Mi} {x c : Nat} (hx : x < 9) (h8 : c ≤ 8) (hn : I 606 1 = nI x) (hc : I 606 2 = nI c) : fk_v l yX1_advance cX1_advance 1 0 0 Λ [.ref (Λ.2.2.1 606)] I D J X ((fun I' D' J' X' => I' 606 1 = nI (if x + 1 < 9 then x + 1 else 0) ∧ I' 606 2 = nI (if c < 8 then c + 1 else c) ∧ (∀ b, b ≠ 606 → I' b = I b) ∧ D' = D ∧ J' = J ∧ X' = X)) := by
  refine fo_sv (by decide) [(0, .ref (Λ.2.2.1 606))] rfl (Nat.le_of_ble_eq_true rfl) (fun K C fin => ?_)
  refine fo_aload_n C dX1_advance_0 0 rfl rfl 1 rfl ?_
  refine fo_aload_n C dX1_advance_1 0 rfl rfl 2 rfl ?_
  refine fo_get C dX1_advance_2 fK3 (by decide : fo_k 606 = 3) (by decide) 1 (by decide) fl_X1_18 (v := .int (nI x)) (congrArg (fun x => some (Value.int x)) (hn)) 5 rfl ?_
  refine fo_iconst C dX1_advance_5 (nI 1) ki_1 6 rfl ?_
  refine fo_iadd C dX1_advance_6 (nI (x + 1)) (nI_add _ _) 7 rfl ?_
  refine fo_bipush C dX1_advance_7 (nI 9) kb_9 9 rfl ?_
  refine fo_ncmp_ge C (by omega) (by omega) dX1_advance_9 21 (by decide) 12 rfl (fun c1 => ?_) (fun c1 => ?_)
  · refine fo_iconst C dX1_advance_21 (nI 0) ki_0 22 rfl ?_
    refine fo_ti (b := nI (if x + 1 < 9 then x + 1 else 0)) (congrArg nI (by first | rw [if_pos (by omega)] | rw [if_neg (by omega)])) ?_
    refine fo_put C dX1_advance_22 fK3 (by decide : fo_k 606 = 3) (by decide) 1 (by decide) fl_X1_18 rfl rfl rfl rfl (Nat.le_of_ble_eq_true rfl) 25 rfl ?_
    refine fo_aload_n C dX1_advance_25 0 rfl rfl 26 rfl ?_
    refine fo_get C dX1_advance_26 fK3 (by decide : fo_k 606 = 3) (by decide) 2 (by decide) fl_X1_26 (v := .int (nI c)) (congrArg (fun x => some (Value.int x)) ((by rw [fo_rs, pk_un (by decide)]; exact hc))) 29 rfl ?_
    refine fo_bipush C dX1_advance_29 (nI 8) kb_8 31 rfl ?_
    refine fo_ncmp_ge C (by omega) (by omega) dX1_advance_31 44 (by decide) 34 rfl (fun c2 => ?_) (fun c2 => ?_)
    · exact fin dX1_advance_44 (⟨by rw [fo_rs, pk_us], by rw [fo_rs, pk_un (by decide), if_neg (by omega)]; exact hc, fun b hb => by rw [fo_rn _ _ hb], rfl, rfl, rfl⟩)
    · refine fo_aload_n C dX1_advance_34 0 rfl rfl 35 rfl ?_
      refine fo_dup C dX1_advance_35 rfl 36 rfl ?_
      refine fo_get C dX1_advance_36 fK3 (by decide : fo_k 606 = 3) (by decide) 2 (by decide) fl_X1_26 (v := .int (nI c)) (congrArg (fun x => some (Value.int x)) ((by rw [fo_rs, pk_un (by decide)]; exact hc))) 39 rfl ?_
      refine fo_iconst C dX1_advance_39 (nI 1) ki_1 40 rfl ?_
      refine fo_iadd C dX1_advance_40 (nI (c + 1)) (nI_add _ _) 41 rfl ?_
      refine fo_put C dX1_advance_41 fK3 (by decide : fo_k 606 = 3) (by decide) 2 (by decide) fl_X1_26 rfl rfl rfl rfl (Nat.le_of_ble_eq_true rfl) 44 rfl ?_
      exact fin dX1_advance_44 (⟨by rw [fo_rs, pk_un (by decide), fo_rs, pk_us], by rw [fo_rs, pk_us, if_pos (by omega)], fun b hb => by rw [fo_rn _ _ hb, fo_rn _ _ hb], rfl, rfl, rfl⟩)
  · refine fo_aload_n C dX1_advance_12 0 rfl rfl 13 rfl ?_
    refine fo_get C dX1_advance_13 fK3 (by decide : fo_k 606 = 3) (by decide) 1 (by decide) fl_X1_18 (v := .int (nI x)) (congrArg (fun x => some (Value.int x)) (hn)) 16 rfl ?_
    refine fo_iconst C dX1_advance_16 (nI 1) ki_1 17 rfl ?_
    refine fo_iadd C dX1_advance_17 (nI (x + 1)) (nI_add _ _) 18 rfl ?_
    refine fo_goto C dX1_advance_18 22 (by decide) ?_
    refine fo_ti (b := nI (if x + 1 < 9 then x + 1 else 0)) (congrArg nI (by first | rw [if_pos (by omega)] | rw [if_neg (by omega)])) ?_
    refine fo_put C dX1_advance_22 fK3 (by decide : fo_k 606 = 3) (by decide) 1 (by decide) fl_X1_18 rfl rfl rfl rfl (Nat.le_of_ble_eq_true rfl) 25 rfl ?_
    refine fo_aload_n C dX1_advance_25 0 rfl rfl 26 rfl ?_
    refine fo_get C dX1_advance_26 fK3 (by decide : fo_k 606 = 3) (by decide) 2 (by decide) fl_X1_26 (v := .int (nI c)) (congrArg (fun x => some (Value.int x)) ((by rw [fo_rs, pk_un (by decide)]; exact hc))) 29 rfl ?_
    refine fo_bipush C dX1_advance_29 (nI 8) kb_8 31 rfl ?_
    refine fo_ncmp_ge C (by omega) (by omega) dX1_advance_31 44 (by decide) 34 rfl (fun c3 => ?_) (fun c3 => ?_)
    · exact fin dX1_advance_44 (⟨by rw [fo_rs, pk_us], by rw [fo_rs, pk_un (by decide), if_neg (by omega)]; exact hc, fun b hb => by rw [fo_rn _ _ hb], rfl, rfl, rfl⟩)
    · refine fo_aload_n C dX1_advance_34 0 rfl rfl 35 rfl ?_
      refine fo_dup C dX1_advance_35 rfl 36 rfl ?_
      refine fo_get C dX1_advance_36 fK3 (by decide : fo_k 606 = 3) (by decide) 2 (by decide) fl_X1_26 (v := .int (nI c)) (congrArg (fun x => some (Value.int x)) ((by rw [fo_rs, pk_un (by decide)]; exact hc))) 39 rfl ?_
      refine fo_iconst C dX1_advance_39 (nI 1) ki_1 40 rfl ?_
      refine fo_iadd C dX1_advance_40 (nI (c + 1)) (nI_add _ _) 41 rfl ?_
      refine fo_put C dX1_advance_41 fK3 (by decide : fo_k 606 = 3) (by decide) 2 (by decide) fl_X1_26 rfl rfl rfl rfl (Nat.le_of_ble_eq_true rfl) 44 rfl ?_
      exact fin dX1_advance_44 (⟨by rw [fo_rs, pk_un (by decide), fo_rs, pk_us], by rw [fo_rs, pk_us, if_pos (by omega)], fun b hb => by rw [fo_rn _ _ hb, fo_rn _ _ hb], rfl, rfl, rfl⟩)
set_option maxRecDepth 10000 in
set_option maxHeartbeats 4000000 in
theorem mX1_stepBack {l : Launch} {Λ : fo_Lt} {I : fo_Mi} {D : fo_Md} {J : fo_Mj} {X : fo_Mi} {x c : Nat} (hx : x < 9) (h8 : c ≤ 8) (h1 : 1 ≤ c) (hn : I 606 1 = nI x) (hc : I 606 2 = nI c) : fk_v l yX1_stepBack cX1_stepBack 1 0 0 Λ [.ref (Λ.2.2.1 606)] I D J X ((fun I' D' J' X' => I' 606 1 = nI (if 0 < x then x - 1 else 8) ∧ I' 606 2 = nI (c - 1) ∧ (∀ b, b ≠ 606 → I' b = I b) ∧ D' = D ∧ J' = J ∧ X' = X)) := by
  refine fo_sv (by decide) [(0, .ref (Λ.2.2.1 606))] rfl (Nat.le_of_ble_eq_true rfl) (fun K C fin => ?_)
  refine fo_aload_n C dX1_stepBack_0 0 rfl rfl 1 rfl ?_
  refine fo_aload_n C dX1_stepBack_1 0 rfl rfl 2 rfl ?_
  refine fo_get C dX1_stepBack_2 fK3 (by decide : fo_k 606 = 3) (by decide) 1 (by decide) fl_X1_18 (v := .int (nI x)) (congrArg (fun x => some (Value.int x)) (hn)) 5 rfl ?_
  refine fo_nif_le C (by omega) dX1_stepBack_5 17 (by decide) 8 rfl (fun c1 => ?_) (fun c1 => ?_)
  · refine fo_bipush C dX1_stepBack_17 (nI 8) kb_8 19 rfl ?_
    refine fo_ti (b := nI (if 0 < x then x - 1 else 8)) (congrArg nI (by first | rw [if_pos (by omega)] | rw [if_neg (by omega)])) ?_
    refine fo_put C dX1_stepBack_19 fK3 (by decide : fo_k 606 = 3) (by decide) 1 (by decide) fl_X1_18 rfl rfl rfl rfl (Nat.le_of_ble_eq_true rfl) 22 rfl ?_
    refine fo_aload_n C dX1_stepBack_22 0 rfl rfl 23 rfl ?_
    refine fo_dup C dX1_stepBack_23 rfl 24 rfl ?_
    refine fo_get C dX1_stepBack_24 fK3 (by decide : fo_k 606 = 3) (by decide) 2 (by decide) fl_X1_26 (v := .int (nI c)) (congrArg (fun x => some (Value.int x)) ((by rw [fo_rs, pk_un (by decide)]; exact hc))) 27 rfl ?_
    refine fo_iconst C dX1_stepBack_27 (nI 1) ki_1 28 rfl ?_
    refine fo_isub C dX1_stepBack_28 (nI (c - 1)) (pk_sub (by omega)) 29 rfl ?_
    refine fo_put C dX1_stepBack_29 fK3 (by decide : fo_k 606 = 3) (by decide) 2 (by decide) fl_X1_26 rfl rfl rfl rfl (Nat.le_of_ble_eq_true rfl) 32 rfl ?_
    exact fin dX1_stepBack_32 (⟨by rw [fo_rs, pk_un (by decide), fo_rs, pk_us], by rw [fo_rs, pk_us], fun b hb => by rw [fo_rn _ _ hb, fo_rn _ _ hb], rfl, rfl, rfl⟩)
  · refine fo_aload_n C dX1_stepBack_8 0 rfl rfl 9 rfl ?_
    refine fo_get C dX1_stepBack_9 fK3 (by decide : fo_k 606 = 3) (by decide) 1 (by decide) fl_X1_18 (v := .int (nI x)) (congrArg (fun x => some (Value.int x)) (hn)) 12 rfl ?_
    refine fo_iconst C dX1_stepBack_12 (nI 1) ki_1 13 rfl ?_
    refine fo_isub C dX1_stepBack_13 (nI (x - 1)) (pk_sub (by omega)) 14 rfl ?_
    refine fo_goto C dX1_stepBack_14 19 (by decide) ?_
    refine fo_ti (b := nI (if 0 < x then x - 1 else 8)) (congrArg nI (by first | rw [if_pos (by omega)] | rw [if_neg (by omega)])) ?_
    refine fo_put C dX1_stepBack_19 fK3 (by decide : fo_k 606 = 3) (by decide) 1 (by decide) fl_X1_18 rfl rfl rfl rfl (Nat.le_of_ble_eq_true rfl) 22 rfl ?_
    refine fo_aload_n C dX1_stepBack_22 0 rfl rfl 23 rfl ?_
    refine fo_dup C dX1_stepBack_23 rfl 24 rfl ?_
    refine fo_get C dX1_stepBack_24 fK3 (by decide : fo_k 606 = 3) (by decide) 2 (by decide) fl_X1_26 (v := .int (nI c)) (congrArg (fun x => some (Value.int x)) ((by rw [fo_rs, pk_un (by decide)]; exact hc))) 27 rfl ?_
    refine fo_iconst C dX1_stepBack_27 (nI 1) ki_1 28 rfl ?_
    refine fo_isub C dX1_stepBack_28 (nI (c - 1)) (pk_sub (by omega)) 29 rfl ?_
    refine fo_put C dX1_stepBack_29 fK3 (by decide : fo_k 606 = 3) (by decide) 2 (by decide) fl_X1_26 rfl rfl rfl rfl (Nat.le_of_ble_eq_true rfl) 32 rfl ?_
    exact fin dX1_stepBack_32 (⟨by rw [fo_rs, pk_un (by decide), fo_rs, pk_us], by rw [fo_rs, pk_us], fun b hb => by rw [fo_rn _ _ hb, fo_rn _ _ hb], rfl, rfl, rfl⟩)
set_option maxRecDepth 10000 in
set_option maxHeartbeats 4000000 in
theorem mX0_clear {l : Launch} {Λ : fo_Lt} {I : fo_Mi} {D : fo_Md} {J : fo_Mj} {X : fo_Mi}   : fk_v l yX0_clear cX0_clear 1 0 0 Λ [.ref (Λ.2.2.1 614)] I D J X ((fun I' D' J' X' => fs_L I' ([]) ∧ fs_lf I I' ∧ D' = D ∧ J' = J ∧ X' = X)) := by
  refine fo_sv (by decide) [(0, .ref (Λ.2.2.1 614))] rfl (Nat.le_of_ble_eq_true rfl) (fun K C fin => ?_)
  refine fo_aload_n C dX0_clear_0 0 rfl rfl 1 rfl ?_
  refine fo_iconst C dX0_clear_1 (nI 0) ki_0 2 rfl ?_
  refine fo_put C dX0_clear_2 fK2 (by decide : fo_k 614 = 2) (by decide) 1 (by decide) fl_X0_15 rfl rfl rfl rfl (Nat.le_of_ble_eq_true rfl) 5 rfl ?_
  exact fin dX0_clear_5 (⟨⟨Nat.zero_le _, by rw [fo_rs, pk_us]; rfl, fun j c hq => by cases hq⟩, fun b h1 h2 => fo_rn _ _ h1, rfl, rfl, rfl⟩)
set_option maxRecDepth 10000 in
set_option maxHeartbeats 4000000 in
theorem mX0_put {l : Launch} {Λ : fo_Lt} {I : fo_Mi} {D : fo_Md} {J : fo_Mj} {X : fo_Mi} {L : List Nat} {c : Nat} (h : fs_L I L) (h1 : L.length < 152) (hc : c < 65536) : fk_v l yX0_put cX0_put 2 0 0 Λ [.ref (Λ.2.2.1 614), .int (nI c)] I D J X ((fun I' D' J' X' => fs_L I' (L ++ [c]) ∧ fs_lf I I' ∧ D' = D ∧ J' = J ∧ X' = X)) := by
  refine fo_sv (by decide) [(0, .ref (Λ.2.2.1 614)), (1, .int (nI c))] rfl (Nat.le_of_ble_eq_true rfl) (fun K C fin => ?_)
  refine fo_aload_n C dX0_put_0 0 rfl rfl 1 rfl ?_
  refine fo_get C dX0_put_1 fK2 (by decide : fo_k 614 = 2) (by decide) 1 (by decide) fl_X0_15 (v := .int (nI (L.length))) (congrArg (fun x => some (Value.int x)) (h.2.1)) 4 rfl ?_
  refine fo_sipush C dX0_put_4 (nI 152) ks_152 7 rfl ?_
  refine fo_ncmp_lt C (by omega) (by omega) dX0_put_7 11 (by decide) 10 rfl (fun c1 => ?_) (fun c1 => ?_)
  · refine fo_aload_n C dX0_put_11 0 rfl rfl 12 rfl ?_
    refine fo_get C dX0_put_12 fK2 (by decide : fo_k 614 = 2) (by decide) 0 (by decide) fl_X0_9 (v := .ref (Λ.2.2.1 615)) rfl 15 rfl ?_
    refine fo_aload_n C dX0_put_15 0 rfl rfl 16 rfl ?_
    refine fo_get C dX0_put_16 fK2 (by decide : fo_k 614 = 2) (by decide) 1 (by decide) fl_X0_15 (v := .int (nI (L.length))) (congrArg (fun x => some (Value.int x)) (h.2.1)) 19 rfl ?_
    refine fo_iload_n C dX0_put_19 1 rfl rfl 20 rfl ?_
    refine fo_cast C dX0_put_20 (by decide) (by rw [(show fo_n 615 = 152 from rfl)]; omega) (Value.int.inj (pk_charN hc).1) 21 rfl ?_
    refine fo_aload_n C dX0_put_21 0 rfl rfl 22 rfl ?_
    refine fo_dup C dX0_put_22 rfl 23 rfl ?_
    refine fo_get C dX0_put_23 fK2 (by decide : fo_k 614 = 2) (by decide) 1 (by decide) fl_X0_15 (v := .int (nI (L.length))) (congrArg (fun x => some (Value.int x)) ((by rw [fo_rn _ _ (by decide)]; exact h.2.1))) 26 rfl ?_
    refine fo_iconst C dX0_put_26 (nI 1) ki_1 27 rfl ?_
    refine fo_iadd C dX0_put_27 (nI (L.length + 1)) (nI_add _ _) 28 rfl ?_
    refine fo_put C dX0_put_28 fK2 (by decide : fo_k 614 = 2) (by decide) 1 (by decide) fl_X0_15 rfl rfl rfl rfl (Nat.le_of_ble_eq_true rfl) 31 rfl ?_
    exact fin dX0_put_31 (⟨by have := h.put h1 hc; rw [fo_rn I _ (by decide : (614 : Nat) ≠ 615)]; exact this, fun b h1 h2 => by rw [fo_rn _ _ h1, fo_rn _ _ h2], rfl, rfl, rfl⟩)
  · omega
set_option maxRecDepth 10000 in
set_option maxHeartbeats 4000000 in
theorem mX0_digitOf {l : Launch} {Λ : fo_Lt} {I : fo_Mi} {D : fo_Md} {J : fo_Mj} {X : fo_Mi} {c : Nat} (hc : c < 1000) : fk_i l yX0_digitOf cX0_digitOf 1 .char 0 0 Λ [.int (nI c)] I D J X (fo_pr (nI (48 + c % 10)) I D J X) := by
  refine fo_si (by decide) [(0, .int (nI c))] rfl (Nat.le_of_ble_eq_true rfl) (fun K C fin => ?_)
  refine fo_bipush C dX0_digitOf_0 (nI 48) kb_48 2 rfl ?_
  refine fo_iload_n C dX0_digitOf_2 0 rfl rfl 3 rfl ?_
  refine fo_bipush C dX0_digitOf_3 (nI 10) kb_10 5 rfl ?_
  refine fo_irem C dX0_digitOf_5 (nI_ne0 (by omega) (by omega)) (nI (c % 10)) (pk_rem (by omega) (by omega) (by omega)) 6 rfl ?_
  refine fo_iadd C dX0_digitOf_6 (nI (48 + (c % 10))) (nI_add _ _) 7 rfl ?_
  refine fo_i2c C dX0_digitOf_7 (nI (48 + (c % 10))) (fo_chr (by omega)) 8 rfl ?_
  exact fin dX0_digitOf_8 (by first | exact (pk_charN (by omega)).1 | rfl) (⟨rfl, rfl, rfl, rfl, rfl⟩)
set_option maxRecDepth 10000 in
set_option maxHeartbeats 4000000 in
theorem mX0_putNumber {l : Launch} {Λ : fo_Lt} {I : fo_Mi} {D : fo_Md} {J : fo_Mj} {X : fo_Mi} {L : List Nat} {x : Nat} (h : fs_L I L) (h1 : L.length + 3 ≤ 152) (hx : x ≤ 999) : fk_v l yX0_putNumber cX0_putNumber 2 1 21 Λ [.ref (Λ.2.2.1 614), .int (nI x)] I D J X ((fun I' D' J' X' => fs_L I' (L ++ fp_dig x) ∧ fs_lf I I' ∧ D' = D ∧ J' = J ∧ X' = X)) := by
  refine fo_sv (by decide) [(0, .ref (Λ.2.2.1 614)), (1, .int (nI x))] rfl (Nat.le_of_ble_eq_true rfl) (fun K C fin => ?_)
  refine fo_iload_n C dX0_putNumber_0 1 rfl rfl 1 rfl ?_
  refine fo_bipush C dX0_putNumber_1 (nI 100) kb_100 3 rfl ?_
  refine fo_ncmp_lt C (by omega) (by omega) dX0_putNumber_3 17 (by decide) 6 rfl (fun c1 => ?_) (fun c1 => ?_)
  · refine fo_iload_n C dX0_putNumber_17 1 rfl rfl 18 rfl ?_
    refine fo_bipush C dX0_putNumber_18 (nI 10) kb_10 20 rfl ?_
    refine fo_ncmp_lt C (by omega) (by omega) dX0_putNumber_20 34 (by decide) 23 rfl (fun c2 => ?_) (fun c2 => ?_)
    · refine fo_aload_n C dX0_putNumber_34 0 rfl rfl 35 rfl ?_
      refine fo_iload_n C dX0_putNumber_35 1 rfl rfl 36 rfl ?_
      refine fo_qsi C dX0_putNumber_36 (mX0_digitOf (c := x) (by omega)) ls_X0_19 rfl ⟨Nat.le_of_ble_eq_true rfl, Nat.le_of_ble_eq_true rfl⟩ ⟨Nat.le_of_ble_eq_true rfl, Nat.le_of_ble_eq_true rfl⟩ [.ref (Λ.2.2.1 614)] rfl (Nat.le_of_ble_eq_true rfl) 39 rfl (fo_er ?_)
      refine fo_qvv C dX0_putNumber_39 (mX0_put h (by first | omega | (simp only [List.length_append, List.length_cons, List.length_nil]; omega)) (by omega)) lv_X0_23 (by decide : fo_k 614 = 2) rfl (by decide) rfl ⟨Nat.le_of_ble_eq_true rfl, Nat.le_of_ble_eq_true rfl⟩ ⟨Nat.le_of_ble_eq_true rfl, Nat.le_of_ble_eq_true rfl⟩ [] rfl (Nat.le_of_ble_eq_true rfl) 42 rfl (fun I10 D11 J12 X13 p14 => ?_)
      obtain ⟨g15, f16, z9⟩ := p14
      obtain ⟨rfl, rfl, rfl⟩ := fo_sym3 z9
      have e9 : L ++ [48 + x % 10] = L ++ fp_dig x := by unfold fp_dig; rw [if_neg (by omega), if_neg (by omega)]; simp only [List.append_assoc, List.nil_append, List.cons_append]
      exact fin dX0_putNumber_42 (⟨by rw [← e9]; exact g15, fun b h1 h2 => f16 b h1 h2, rfl, rfl, rfl⟩)
    · refine fo_aload_n C dX0_putNumber_23 0 rfl rfl 24 rfl ?_
      refine fo_iload_n C dX0_putNumber_24 1 rfl rfl 25 rfl ?_
      refine fo_bipush C dX0_putNumber_25 (nI 10) kb_10 27 rfl ?_
      refine fo_idiv C dX0_putNumber_27 (nI_ne0 (by omega) (by omega)) (nI (x / 10)) (pk_div (by omega) (by omega) (by omega)) 28 rfl ?_
      refine fo_qsi C dX0_putNumber_28 (mX0_digitOf (c := x / 10) (by omega)) ls_X0_19 rfl ⟨Nat.le_of_ble_eq_true rfl, Nat.le_of_ble_eq_true rfl⟩ ⟨Nat.le_of_ble_eq_true rfl, Nat.le_of_ble_eq_true rfl⟩ [.ref (Λ.2.2.1 614)] rfl (Nat.le_of_ble_eq_true rfl) 31 rfl (fo_er ?_)
      refine fo_qvv C dX0_putNumber_31 (mX0_put h (by first | omega | (simp only [List.length_append, List.length_cons, List.length_nil]; omega)) (by omega)) lv_X0_23 (by decide : fo_k 614 = 2) rfl (by decide) rfl ⟨Nat.le_of_ble_eq_true rfl, Nat.le_of_ble_eq_true rfl⟩ ⟨Nat.le_of_ble_eq_true rfl, Nat.le_of_ble_eq_true rfl⟩ [] rfl (Nat.le_of_ble_eq_true rfl) 34 rfl (fun I24 D25 J26 X27 p28 => ?_)
      obtain ⟨g29, f30, z9⟩ := p28
      obtain ⟨rfl, rfl, rfl⟩ := fo_sym3 z9
      refine fo_aload_n C dX0_putNumber_34 0 rfl rfl 35 rfl ?_
      refine fo_iload_n C dX0_putNumber_35 1 rfl rfl 36 rfl ?_
      refine fo_qsi C dX0_putNumber_36 (mX0_digitOf (c := x) (by omega)) ls_X0_19 rfl ⟨Nat.le_of_ble_eq_true rfl, Nat.le_of_ble_eq_true rfl⟩ ⟨Nat.le_of_ble_eq_true rfl, Nat.le_of_ble_eq_true rfl⟩ [.ref (Λ.2.2.1 614)] rfl (Nat.le_of_ble_eq_true rfl) 39 rfl (fo_er ?_)
      refine fo_qvv C dX0_putNumber_39 (mX0_put g29 (by first | omega | (simp only [List.length_append, List.length_cons, List.length_nil]; omega)) (by omega)) lv_X0_23 (by decide : fo_k 614 = 2) rfl (by decide) rfl ⟨Nat.le_of_ble_eq_true rfl, Nat.le_of_ble_eq_true rfl⟩ ⟨Nat.le_of_ble_eq_true rfl, Nat.le_of_ble_eq_true rfl⟩ [] rfl (Nat.le_of_ble_eq_true rfl) 42 rfl (fun I38 D39 J40 X41 p42 => ?_)
      obtain ⟨g43, f44, z9⟩ := p42
      obtain ⟨rfl, rfl, rfl⟩ := fo_sym3 z9
      have e9 : L ++ [48 + (x / 10) % 10] ++ [48 + x % 10] = L ++ fp_dig x := by unfold fp_dig; rw [if_neg (by omega), if_pos (by omega)]; simp only [List.append_assoc, List.nil_append, List.cons_append]
      exact fin dX0_putNumber_42 (⟨by rw [← e9]; exact g43, fun b h1 h2 => (f44 b h1 h2).trans (f30 b h1 h2), rfl, rfl, rfl⟩)
  · refine fo_aload_n C dX0_putNumber_6 0 rfl rfl 7 rfl ?_
    refine fo_iload_n C dX0_putNumber_7 1 rfl rfl 8 rfl ?_
    refine fo_bipush C dX0_putNumber_8 (nI 100) kb_100 10 rfl ?_
    refine fo_idiv C dX0_putNumber_10 (nI_ne0 (by omega) (by omega)) (nI (x / 100)) (pk_div (by omega) (by omega) (by omega)) 11 rfl ?_
    refine fo_qsi C dX0_putNumber_11 (mX0_digitOf (c := x / 100) (by omega)) ls_X0_19 rfl ⟨Nat.le_of_ble_eq_true rfl, Nat.le_of_ble_eq_true rfl⟩ ⟨Nat.le_of_ble_eq_true rfl, Nat.le_of_ble_eq_true rfl⟩ [.ref (Λ.2.2.1 614)] rfl (Nat.le_of_ble_eq_true rfl) 14 rfl (fo_er ?_)
    refine fo_qvv C dX0_putNumber_14 (mX0_put h (by first | omega | (simp only [List.length_append, List.length_cons, List.length_nil]; omega)) (by omega)) lv_X0_23 (by decide : fo_k 614 = 2) rfl (by decide) rfl ⟨Nat.le_of_ble_eq_true rfl, Nat.le_of_ble_eq_true rfl⟩ ⟨Nat.le_of_ble_eq_true rfl, Nat.le_of_ble_eq_true rfl⟩ [] rfl (Nat.le_of_ble_eq_true rfl) 17 rfl (fun I52 D53 J54 X55 p56 => ?_)
    obtain ⟨g57, f58, z9⟩ := p56
    obtain ⟨rfl, rfl, rfl⟩ := fo_sym3 z9
    refine fo_iload_n C dX0_putNumber_17 1 rfl rfl 18 rfl ?_
    refine fo_bipush C dX0_putNumber_18 (nI 10) kb_10 20 rfl ?_
    refine fo_ncmp_lt C (by omega) (by omega) dX0_putNumber_20 34 (by decide) 23 rfl (fun c59 => ?_) (fun c59 => ?_)
    · omega
    · refine fo_aload_n C dX0_putNumber_23 0 rfl rfl 24 rfl ?_
      refine fo_iload_n C dX0_putNumber_24 1 rfl rfl 25 rfl ?_
      refine fo_bipush C dX0_putNumber_25 (nI 10) kb_10 27 rfl ?_
      refine fo_idiv C dX0_putNumber_27 (nI_ne0 (by omega) (by omega)) (nI (x / 10)) (pk_div (by omega) (by omega) (by omega)) 28 rfl ?_
      refine fo_qsi C dX0_putNumber_28 (mX0_digitOf (c := x / 10) (by omega)) ls_X0_19 rfl ⟨Nat.le_of_ble_eq_true rfl, Nat.le_of_ble_eq_true rfl⟩ ⟨Nat.le_of_ble_eq_true rfl, Nat.le_of_ble_eq_true rfl⟩ [.ref (Λ.2.2.1 614)] rfl (Nat.le_of_ble_eq_true rfl) 31 rfl (fo_er ?_)
      refine fo_qvv C dX0_putNumber_31 (mX0_put g57 (by first | omega | (simp only [List.length_append, List.length_cons, List.length_nil]; omega)) (by omega)) lv_X0_23 (by decide : fo_k 614 = 2) rfl (by decide) rfl ⟨Nat.le_of_ble_eq_true rfl, Nat.le_of_ble_eq_true rfl⟩ ⟨Nat.le_of_ble_eq_true rfl, Nat.le_of_ble_eq_true rfl⟩ [] rfl (Nat.le_of_ble_eq_true rfl) 34 rfl (fun I67 D68 J69 X70 p71 => ?_)
      obtain ⟨g72, f73, z9⟩ := p71
      obtain ⟨rfl, rfl, rfl⟩ := fo_sym3 z9
      refine fo_aload_n C dX0_putNumber_34 0 rfl rfl 35 rfl ?_
      refine fo_iload_n C dX0_putNumber_35 1 rfl rfl 36 rfl ?_
      refine fo_qsi C dX0_putNumber_36 (mX0_digitOf (c := x) (by omega)) ls_X0_19 rfl ⟨Nat.le_of_ble_eq_true rfl, Nat.le_of_ble_eq_true rfl⟩ ⟨Nat.le_of_ble_eq_true rfl, Nat.le_of_ble_eq_true rfl⟩ [.ref (Λ.2.2.1 614)] rfl (Nat.le_of_ble_eq_true rfl) 39 rfl (fo_er ?_)
      refine fo_qvv C dX0_putNumber_39 (mX0_put g72 (by first | omega | (simp only [List.length_append, List.length_cons, List.length_nil]; omega)) (by omega)) lv_X0_23 (by decide : fo_k 614 = 2) rfl (by decide) rfl ⟨Nat.le_of_ble_eq_true rfl, Nat.le_of_ble_eq_true rfl⟩ ⟨Nat.le_of_ble_eq_true rfl, Nat.le_of_ble_eq_true rfl⟩ [] rfl (Nat.le_of_ble_eq_true rfl) 42 rfl (fun I81 D82 J83 X84 p85 => ?_)
      obtain ⟨g86, f87, z9⟩ := p85
      obtain ⟨rfl, rfl, rfl⟩ := fo_sym3 z9
      have e9 : L ++ [48 + (x / 100) % 10] ++ [48 + (x / 10) % 10] ++ [48 + x % 10] = L ++ fp_dig x := by unfold fp_dig; rw [if_pos (by omega), if_pos (by omega)]; simp only [List.append_assoc, List.nil_append, List.cons_append]
      exact fin dX0_putNumber_42 (⟨by rw [← e9]; exact g86, fun b h1 h2 => (f87 b h1 h2).trans ((f73 b h1 h2).trans (f58 b h1 h2)), rfl, rfl, rfl⟩)
