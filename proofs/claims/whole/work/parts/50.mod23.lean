
/-! THE MODEL: its parser, whole -/
def fm_all (o : Nat) : List fm_c → List fq_s
  | [] => []
  | c :: r => fm_sc o c ++ fm_all (o + 1) r
theorem fm_all_add (c : fm_c) : ∀ (o : Nat) (Cs : List fm_c), fm_all o (Cs ++ [c]) = fm_all o Cs ++ fm_sc (o + Cs.length) c
  | o, [] => by show fm_sc o c ++ [] = [] ++ fm_sc (o + 0) c; rw [List.append_nil, List.nil_append, Nat.add_zero]
  | o, d :: r => by
    show fm_sc o d ++ fm_all (o + 1) (r ++ [c]) = (fm_sc o d ++ fm_all (o + 1) r) ++ fm_sc (o + (r.length + 1)) c
    rw [fm_all_add c (o + 1) r, List.append_assoc, show o + 1 + r.length = o + (r.length + 1) by omega]
def fm_zf (I I' : fo_Mi) : Prop := (∀ b, b ≠ 616 → (b < 624 ∨ 628 < b) → I' b = I b) ∧ ∀ j, (j < 18 ∨ 23 < j) → I' 616 j = I 616 j
theorem fm_zf.c {I I1 I2 : fo_Mi} (h : fm_zf I I1) (g : fm_cf I1 I2) : fm_zf I I2 := ⟨fun b a c => (g.1 b a c).trans (h.1 b a c), fun j a => (g.2 j (by omega)).trans (h.2 j a)⟩
/-- what the parser leaves -/
def fm_pr (I' : fo_Mi) (n : Nat) (t : Nat → Nat) (r : fq_q) : Prop := (r.1 = none → fm_V I' n t true r.2) ∧ ∀ x, r.1 = some x → ∃ Cs : List fm_c, fm_all 0 Cs = x.1 ∧ x.2 = Cs.length ∧ (∀ c, c ∈ Cs → fm_ck c) ∧ Cs.length ≤ 30 ∧ (fm_fv Cs).length ≤ 60 ∧ fm_V I' n t false r.2 ∧ fm_C I' Cs ∧ fm_U I' (fm_fv Cs)
theorem fm_C.pf {I I' : fo_Mi} {Cs : List fm_c} (h : fm_C I Cs) (g : fm_pf I I') : fm_C I' Cs := ⟨(g.2 21 (by decide) (by decide)).trans h.1, fun j c hj => by rw [g.1 624 (by decide), g.1 625 (by decide), g.1 626 (by decide), g.1 627 (by decide)]; exact h.2 j c hj⟩
theorem fm_pf.c {I I' : fo_Mi} (h : fm_pf I I') : fm_cf I I' := h.q.c

set_option maxRecDepth 10000 in
set_option maxHeartbeats 4000000 in
theorem mX7_parse {l : Launch} {Λ : fo_Lt} {I : fo_Mi} {D : fo_Md} {J : fo_Mj} {X : fo_Mi}  {n : Nat} {t : Nat → Nat} (hQ : fm_Q I n t) : fk_v l yX7_parse cX7_parse 1 4 94 Λ [.ref (Λ.2.2.1 616)] I D J X ((fun I' D' J' X' => fm_pr I' n t (fq_all n t 60 0 0) ∧ fm_zf I I' ∧ I' 616 18 = nI 0 ∧ D' = D ∧ J' = J ∧ X' = X)) := by
  have hn60 := hQ.1
  refine fo_sv (by decide) [(0, .ref (Λ.2.2.1 616))] rfl (Nat.le_of_ble_eq_true rfl) (fun K C fin => ?_)
  refine fo_aload_n C dX7_parse_0 0 rfl rfl 1 rfl ?_
  refine fo_aload_n C dX7_parse_1 0 rfl rfl 2 rfl ?_
  refine fo_get C dX7_parse_2 fK9 (by decide : fo_k 616 = 9) (by decide) 18 (by decide) fl_X7_66 (v := .int (nI n)) (congrArg (fun x => some (Value.int x)) (hQ.2.1)) 5 rfl ?_
  refine fo_put C dX7_parse_5 fK9 (by decide : fo_k 616 = 9) (by decide) 19 (by decide) fl_X7_69 rfl rfl rfl rfl (Nat.le_of_ble_eq_true rfl) 8 rfl ?_
  refine fo_aload_n C dX7_parse_8 0 rfl rfl 9 rfl ?_
  refine fo_iconst C dX7_parse_9 (nI 0) ki_0 10 rfl ?_
  refine fo_put C dX7_parse_10 fK9 (by decide : fo_k 616 = 9) (by decide) 18 (by decide) fl_X7_66 rfl rfl rfl rfl (Nat.le_of_ble_eq_true rfl) 13 rfl ?_
  refine fo_aload_n C dX7_parse_13 0 rfl rfl 14 rfl ?_
  refine fo_iconst C dX7_parse_14 (nI 0) ki_0 15 rfl ?_
  refine fo_put C dX7_parse_15 fK9 (by decide : fo_k 616 = 9) (by decide) 20 (by decide) fl_X7_72 rfl rfl rfl rfl (Nat.le_of_ble_eq_true rfl) 18 rfl ?_
  refine fo_aload_n C dX7_parse_18 0 rfl rfl 19 rfl ?_
  refine fo_iconst C dX7_parse_19 (nI 0) ki_0 20 rfl ?_
  refine fo_put C dX7_parse_20 fK9 (by decide : fo_k 616 = 9) (by decide) 21 (by decide) fl_X7_75 rfl rfl rfl rfl (Nat.le_of_ble_eq_true rfl) 23 rfl ?_
  refine fo_aload_n C dX7_parse_23 0 rfl rfl 24 rfl ?_
  refine fo_iconst C dX7_parse_24 (nI 0) ki_0 25 rfl ?_
  refine fo_put C dX7_parse_25 fK9 (by decide : fo_k 616 = 9) (by decide) 22 (by decide) fl_X7_78 rfl rfl rfl rfl (Nat.le_of_ble_eq_true rfl) 28 rfl ?_
  refine fo_aload_n C dX7_parse_28 0 rfl rfl 29 rfl ?_
  refine fo_iconst C dX7_parse_29 (nI 0) ki_0 30 rfl ?_
  refine fo_put C dX7_parse_30 fK9 (by decide : fo_k 616 = 9) (by decide) 23 (by decide) fl_X7_81 rfl (by first | rfl | exact fo_nb _) (by first | rfl | exact fo_fb _) rfl (Nat.le_of_ble_eq_true rfl) 33 rfl ?_
  have hV0 : fm_V (fo_r (fo_r (fo_r (fo_r (fo_r (fo_r I 616 (upd (I 616) 19 (nI (n)))) 616 (upd ((fo_r I 616 (upd (I 616) 19 (nI (n)))) 616) 18 (nI (0)))) 616 (upd ((fo_r (fo_r I 616 (upd (I 616) 19 (nI (n)))) 616 (upd ((fo_r I 616 (upd (I 616) 19 (nI (n)))) 616) 18 (nI (0)))) 616) 20 (nI (0)))) 616 (upd ((fo_r (fo_r (fo_r I 616 (upd (I 616) 19 (nI (n)))) 616 (upd ((fo_r I 616 (upd (I 616) 19 (nI (n)))) 616) 18 (nI (0)))) 616 (upd ((fo_r (fo_r I 616 (upd (I 616) 19 (nI (n)))) 616 (upd ((fo_r I 616 (upd (I 616) 19 (nI (n)))) 616) 18 (nI (0)))) 616) 20 (nI (0)))) 616) 21 (nI (0)))) 616 (upd ((fo_r (fo_r (fo_r (fo_r I 616 (upd (I 616) 19 (nI (n)))) 616 (upd ((fo_r I 616 (upd (I 616) 19 (nI (n)))) 616) 18 (nI (0)))) 616 (upd ((fo_r (fo_r I 616 (upd (I 616) 19 (nI (n)))) 616 (upd ((fo_r I 616 (upd (I 616) 19 (nI (n)))) 616) 18 (nI (0)))) 616) 20 (nI (0)))) 616 (upd ((fo_r (fo_r (fo_r I 616 (upd (I 616) 19 (nI (n)))) 616 (upd ((fo_r I 616 (upd (I 616) 19 (nI (n)))) 616) 18 (nI (0)))) 616 (upd ((fo_r (fo_r I 616 (upd (I 616) 19 (nI (n)))) 616 (upd ((fo_r I 616 (upd (I 616) 19 (nI (n)))) 616) 18 (nI (0)))) 616) 20 (nI (0)))) 616) 21 (nI (0)))) 616) 22 (nI (0)))) 616 (upd ((fo_r (fo_r (fo_r (fo_r (fo_r I 616 (upd (I 616) 19 (nI (n)))) 616 (upd ((fo_r I 616 (upd (I 616) 19 (nI (n)))) 616) 18 (nI (0)))) 616 (upd ((fo_r (fo_r I 616 (upd (I 616) 19 (nI (n)))) 616 (upd ((fo_r I 616 (upd (I 616) 19 (nI (n)))) 616) 18 (nI (0)))) 616) 20 (nI (0)))) 616 (upd ((fo_r (fo_r (fo_r I 616 (upd (I 616) 19 (nI (n)))) 616 (upd ((fo_r I 616 (upd (I 616) 19 (nI (n)))) 616) 18 (nI (0)))) 616 (upd ((fo_r (fo_r I 616 (upd (I 616) 19 (nI (n)))) 616 (upd ((fo_r I 616 (upd (I 616) 19 (nI (n)))) 616) 18 (nI (0)))) 616) 20 (nI (0)))) 616) 21 (nI (0)))) 616 (upd ((fo_r (fo_r (fo_r (fo_r I 616 (upd (I 616) 19 (nI (n)))) 616 (upd ((fo_r I 616 (upd (I 616) 19 (nI (n)))) 616) 18 (nI (0)))) 616 (upd ((fo_r (fo_r I 616 (upd (I 616) 19 (nI (n)))) 616 (upd ((fo_r I 616 (upd (I 616) 19 (nI (n)))) 616) 18 (nI (0)))) 616) 20 (nI (0)))) 616 (upd ((fo_r (fo_r (fo_r I 616 (upd (I 616) 19 (nI (n)))) 616 (upd ((fo_r I 616 (upd (I 616) 19 (nI (n)))) 616) 18 (nI (0)))) 616 (upd ((fo_r (fo_r I 616 (upd (I 616) 19 (nI (n)))) 616 (upd ((fo_r I 616 (upd (I 616) 19 (nI (n)))) 616) 18 (nI (0)))) 616) 20 (nI (0)))) 616) 21 (nI (0)))) 616) 22 (nI (0)))) 616) 23 (nI (0)))) n t false 0 := ⟨hQ.1, Nat.zero_le _, (by rw [fo_rs, pk_un (by decide), fo_rs, pk_un (by decide), fo_rs, pk_un (by decide), fo_rs, pk_un (by decide), fo_rs, pk_un (by decide), fo_rs, pk_us] <;> rfl), (by rw [fo_rs, pk_un (by decide), fo_rs, pk_un (by decide), fo_rs, pk_un (by decide), fo_rs, pk_us] <;> rfl), (by rw [fo_rs, pk_us] <;> rfl), hQ.2.2⟩
  have hC0 : fm_C (fo_r (fo_r (fo_r (fo_r (fo_r (fo_r I 616 (upd (I 616) 19 (nI (n)))) 616 (upd ((fo_r I 616 (upd (I 616) 19 (nI (n)))) 616) 18 (nI (0)))) 616 (upd ((fo_r (fo_r I 616 (upd (I 616) 19 (nI (n)))) 616 (upd ((fo_r I 616 (upd (I 616) 19 (nI (n)))) 616) 18 (nI (0)))) 616) 20 (nI (0)))) 616 (upd ((fo_r (fo_r (fo_r I 616 (upd (I 616) 19 (nI (n)))) 616 (upd ((fo_r I 616 (upd (I 616) 19 (nI (n)))) 616) 18 (nI (0)))) 616 (upd ((fo_r (fo_r I 616 (upd (I 616) 19 (nI (n)))) 616 (upd ((fo_r I 616 (upd (I 616) 19 (nI (n)))) 616) 18 (nI (0)))) 616) 20 (nI (0)))) 616) 21 (nI (0)))) 616 (upd ((fo_r (fo_r (fo_r (fo_r I 616 (upd (I 616) 19 (nI (n)))) 616 (upd ((fo_r I 616 (upd (I 616) 19 (nI (n)))) 616) 18 (nI (0)))) 616 (upd ((fo_r (fo_r I 616 (upd (I 616) 19 (nI (n)))) 616 (upd ((fo_r I 616 (upd (I 616) 19 (nI (n)))) 616) 18 (nI (0)))) 616) 20 (nI (0)))) 616 (upd ((fo_r (fo_r (fo_r I 616 (upd (I 616) 19 (nI (n)))) 616 (upd ((fo_r I 616 (upd (I 616) 19 (nI (n)))) 616) 18 (nI (0)))) 616 (upd ((fo_r (fo_r I 616 (upd (I 616) 19 (nI (n)))) 616 (upd ((fo_r I 616 (upd (I 616) 19 (nI (n)))) 616) 18 (nI (0)))) 616) 20 (nI (0)))) 616) 21 (nI (0)))) 616) 22 (nI (0)))) 616 (upd ((fo_r (fo_r (fo_r (fo_r (fo_r I 616 (upd (I 616) 19 (nI (n)))) 616 (upd ((fo_r I 616 (upd (I 616) 19 (nI (n)))) 616) 18 (nI (0)))) 616 (upd ((fo_r (fo_r I 616 (upd (I 616) 19 (nI (n)))) 616 (upd ((fo_r I 616 (upd (I 616) 19 (nI (n)))) 616) 18 (nI (0)))) 616) 20 (nI (0)))) 616 (upd ((fo_r (fo_r (fo_r I 616 (upd (I 616) 19 (nI (n)))) 616 (upd ((fo_r I 616 (upd (I 616) 19 (nI (n)))) 616) 18 (nI (0)))) 616 (upd ((fo_r (fo_r I 616 (upd (I 616) 19 (nI (n)))) 616 (upd ((fo_r I 616 (upd (I 616) 19 (nI (n)))) 616) 18 (nI (0)))) 616) 20 (nI (0)))) 616) 21 (nI (0)))) 616 (upd ((fo_r (fo_r (fo_r (fo_r I 616 (upd (I 616) 19 (nI (n)))) 616 (upd ((fo_r I 616 (upd (I 616) 19 (nI (n)))) 616) 18 (nI (0)))) 616 (upd ((fo_r (fo_r I 616 (upd (I 616) 19 (nI (n)))) 616 (upd ((fo_r I 616 (upd (I 616) 19 (nI (n)))) 616) 18 (nI (0)))) 616) 20 (nI (0)))) 616 (upd ((fo_r (fo_r (fo_r I 616 (upd (I 616) 19 (nI (n)))) 616 (upd ((fo_r I 616 (upd (I 616) 19 (nI (n)))) 616) 18 (nI (0)))) 616 (upd ((fo_r (fo_r I 616 (upd (I 616) 19 (nI (n)))) 616 (upd ((fo_r I 616 (upd (I 616) 19 (nI (n)))) 616) 18 (nI (0)))) 616) 20 (nI (0)))) 616) 21 (nI (0)))) 616) 22 (nI (0)))) 616) 23 (nI (0)))) [] := ⟨(by rw [fo_rs, pk_un (by decide), fo_rs, pk_un (by decide), fo_rs, pk_us] <;> rfl), fun j c hj => by cases hj⟩
  have hU0 : fm_U (fo_r (fo_r (fo_r (fo_r (fo_r (fo_r I 616 (upd (I 616) 19 (nI (n)))) 616 (upd ((fo_r I 616 (upd (I 616) 19 (nI (n)))) 616) 18 (nI (0)))) 616 (upd ((fo_r (fo_r I 616 (upd (I 616) 19 (nI (n)))) 616 (upd ((fo_r I 616 (upd (I 616) 19 (nI (n)))) 616) 18 (nI (0)))) 616) 20 (nI (0)))) 616 (upd ((fo_r (fo_r (fo_r I 616 (upd (I 616) 19 (nI (n)))) 616 (upd ((fo_r I 616 (upd (I 616) 19 (nI (n)))) 616) 18 (nI (0)))) 616 (upd ((fo_r (fo_r I 616 (upd (I 616) 19 (nI (n)))) 616 (upd ((fo_r I 616 (upd (I 616) 19 (nI (n)))) 616) 18 (nI (0)))) 616) 20 (nI (0)))) 616) 21 (nI (0)))) 616 (upd ((fo_r (fo_r (fo_r (fo_r I 616 (upd (I 616) 19 (nI (n)))) 616 (upd ((fo_r I 616 (upd (I 616) 19 (nI (n)))) 616) 18 (nI (0)))) 616 (upd ((fo_r (fo_r I 616 (upd (I 616) 19 (nI (n)))) 616 (upd ((fo_r I 616 (upd (I 616) 19 (nI (n)))) 616) 18 (nI (0)))) 616) 20 (nI (0)))) 616 (upd ((fo_r (fo_r (fo_r I 616 (upd (I 616) 19 (nI (n)))) 616 (upd ((fo_r I 616 (upd (I 616) 19 (nI (n)))) 616) 18 (nI (0)))) 616 (upd ((fo_r (fo_r I 616 (upd (I 616) 19 (nI (n)))) 616 (upd ((fo_r I 616 (upd (I 616) 19 (nI (n)))) 616) 18 (nI (0)))) 616) 20 (nI (0)))) 616) 21 (nI (0)))) 616) 22 (nI (0)))) 616 (upd ((fo_r (fo_r (fo_r (fo_r (fo_r I 616 (upd (I 616) 19 (nI (n)))) 616 (upd ((fo_r I 616 (upd (I 616) 19 (nI (n)))) 616) 18 (nI (0)))) 616 (upd ((fo_r (fo_r I 616 (upd (I 616) 19 (nI (n)))) 616 (upd ((fo_r I 616 (upd (I 616) 19 (nI (n)))) 616) 18 (nI (0)))) 616) 20 (nI (0)))) 616 (upd ((fo_r (fo_r (fo_r I 616 (upd (I 616) 19 (nI (n)))) 616 (upd ((fo_r I 616 (upd (I 616) 19 (nI (n)))) 616) 18 (nI (0)))) 616 (upd ((fo_r (fo_r I 616 (upd (I 616) 19 (nI (n)))) 616 (upd ((fo_r I 616 (upd (I 616) 19 (nI (n)))) 616) 18 (nI (0)))) 616) 20 (nI (0)))) 616) 21 (nI (0)))) 616 (upd ((fo_r (fo_r (fo_r (fo_r I 616 (upd (I 616) 19 (nI (n)))) 616 (upd ((fo_r I 616 (upd (I 616) 19 (nI (n)))) 616) 18 (nI (0)))) 616 (upd ((fo_r (fo_r I 616 (upd (I 616) 19 (nI (n)))) 616 (upd ((fo_r I 616 (upd (I 616) 19 (nI (n)))) 616) 18 (nI (0)))) 616) 20 (nI (0)))) 616 (upd ((fo_r (fo_r (fo_r I 616 (upd (I 616) 19 (nI (n)))) 616 (upd ((fo_r I 616 (upd (I 616) 19 (nI (n)))) 616) 18 (nI (0)))) 616 (upd ((fo_r (fo_r I 616 (upd (I 616) 19 (nI (n)))) 616 (upd ((fo_r I 616 (upd (I 616) 19 (nI (n)))) 616) 18 (nI (0)))) 616) 20 (nI (0)))) 616) 21 (nI (0)))) 616) 22 (nI (0)))) 616) 23 (nI (0)))) (fm_fv []) := ⟨(by rw [fo_rs, pk_un (by decide), fo_rs, pk_us] <;> rfl), fun j c hj => by cases hj⟩
  have hz0 : fm_zf I (fo_r (fo_r (fo_r (fo_r (fo_r (fo_r I 616 (upd (I 616) 19 (nI (n)))) 616 (upd ((fo_r I 616 (upd (I 616) 19 (nI (n)))) 616) 18 (nI (0)))) 616 (upd ((fo_r (fo_r I 616 (upd (I 616) 19 (nI (n)))) 616 (upd ((fo_r I 616 (upd (I 616) 19 (nI (n)))) 616) 18 (nI (0)))) 616) 20 (nI (0)))) 616 (upd ((fo_r (fo_r (fo_r I 616 (upd (I 616) 19 (nI (n)))) 616 (upd ((fo_r I 616 (upd (I 616) 19 (nI (n)))) 616) 18 (nI (0)))) 616 (upd ((fo_r (fo_r I 616 (upd (I 616) 19 (nI (n)))) 616 (upd ((fo_r I 616 (upd (I 616) 19 (nI (n)))) 616) 18 (nI (0)))) 616) 20 (nI (0)))) 616) 21 (nI (0)))) 616 (upd ((fo_r (fo_r (fo_r (fo_r I 616 (upd (I 616) 19 (nI (n)))) 616 (upd ((fo_r I 616 (upd (I 616) 19 (nI (n)))) 616) 18 (nI (0)))) 616 (upd ((fo_r (fo_r I 616 (upd (I 616) 19 (nI (n)))) 616 (upd ((fo_r I 616 (upd (I 616) 19 (nI (n)))) 616) 18 (nI (0)))) 616) 20 (nI (0)))) 616 (upd ((fo_r (fo_r (fo_r I 616 (upd (I 616) 19 (nI (n)))) 616 (upd ((fo_r I 616 (upd (I 616) 19 (nI (n)))) 616) 18 (nI (0)))) 616 (upd ((fo_r (fo_r I 616 (upd (I 616) 19 (nI (n)))) 616 (upd ((fo_r I 616 (upd (I 616) 19 (nI (n)))) 616) 18 (nI (0)))) 616) 20 (nI (0)))) 616) 21 (nI (0)))) 616) 22 (nI (0)))) 616 (upd ((fo_r (fo_r (fo_r (fo_r (fo_r I 616 (upd (I 616) 19 (nI (n)))) 616 (upd ((fo_r I 616 (upd (I 616) 19 (nI (n)))) 616) 18 (nI (0)))) 616 (upd ((fo_r (fo_r I 616 (upd (I 616) 19 (nI (n)))) 616 (upd ((fo_r I 616 (upd (I 616) 19 (nI (n)))) 616) 18 (nI (0)))) 616) 20 (nI (0)))) 616 (upd ((fo_r (fo_r (fo_r I 616 (upd (I 616) 19 (nI (n)))) 616 (upd ((fo_r I 616 (upd (I 616) 19 (nI (n)))) 616) 18 (nI (0)))) 616 (upd ((fo_r (fo_r I 616 (upd (I 616) 19 (nI (n)))) 616 (upd ((fo_r I 616 (upd (I 616) 19 (nI (n)))) 616) 18 (nI (0)))) 616) 20 (nI (0)))) 616) 21 (nI (0)))) 616 (upd ((fo_r (fo_r (fo_r (fo_r I 616 (upd (I 616) 19 (nI (n)))) 616 (upd ((fo_r I 616 (upd (I 616) 19 (nI (n)))) 616) 18 (nI (0)))) 616 (upd ((fo_r (fo_r I 616 (upd (I 616) 19 (nI (n)))) 616 (upd ((fo_r I 616 (upd (I 616) 19 (nI (n)))) 616) 18 (nI (0)))) 616) 20 (nI (0)))) 616 (upd ((fo_r (fo_r (fo_r I 616 (upd (I 616) 19 (nI (n)))) 616 (upd ((fo_r I 616 (upd (I 616) 19 (nI (n)))) 616) 18 (nI (0)))) 616 (upd ((fo_r (fo_r I 616 (upd (I 616) 19 (nI (n)))) 616 (upd ((fo_r I 616 (upd (I 616) 19 (nI (n)))) 616) 18 (nI (0)))) 616) 20 (nI (0)))) 616) 21 (nI (0)))) 616) 22 (nI (0)))) 616) 23 (nI (0)))) := ⟨fun b hb _ => by rw [fo_rn _ _ hb, fo_rn _ _ hb, fo_rn _ _ hb, fo_rn _ _ hb, fo_rn _ _ hb, fo_rn _ _ hb], fun j hj => by rw [fo_rs, pk_un (by omega), fo_rs, pk_un (by omega), fo_rs, pk_un (by omega), fo_rs, pk_un (by omega), fo_rs, pk_un (by omega), fo_rs, pk_un (by omega)]⟩
  have he0 : (fo_r (fo_r (fo_r (fo_r (fo_r (fo_r I 616 (upd (I 616) 19 (nI (n)))) 616 (upd ((fo_r I 616 (upd (I 616) 19 (nI (n)))) 616) 18 (nI (0)))) 616 (upd ((fo_r (fo_r I 616 (upd (I 616) 19 (nI (n)))) 616 (upd ((fo_r I 616 (upd (I 616) 19 (nI (n)))) 616) 18 (nI (0)))) 616) 20 (nI (0)))) 616 (upd ((fo_r (fo_r (fo_r I 616 (upd (I 616) 19 (nI (n)))) 616 (upd ((fo_r I 616 (upd (I 616) 19 (nI (n)))) 616) 18 (nI (0)))) 616 (upd ((fo_r (fo_r I 616 (upd (I 616) 19 (nI (n)))) 616 (upd ((fo_r I 616 (upd (I 616) 19 (nI (n)))) 616) 18 (nI (0)))) 616) 20 (nI (0)))) 616) 21 (nI (0)))) 616 (upd ((fo_r (fo_r (fo_r (fo_r I 616 (upd (I 616) 19 (nI (n)))) 616 (upd ((fo_r I 616 (upd (I 616) 19 (nI (n)))) 616) 18 (nI (0)))) 616 (upd ((fo_r (fo_r I 616 (upd (I 616) 19 (nI (n)))) 616 (upd ((fo_r I 616 (upd (I 616) 19 (nI (n)))) 616) 18 (nI (0)))) 616) 20 (nI (0)))) 616 (upd ((fo_r (fo_r (fo_r I 616 (upd (I 616) 19 (nI (n)))) 616 (upd ((fo_r I 616 (upd (I 616) 19 (nI (n)))) 616) 18 (nI (0)))) 616 (upd ((fo_r (fo_r I 616 (upd (I 616) 19 (nI (n)))) 616 (upd ((fo_r I 616 (upd (I 616) 19 (nI (n)))) 616) 18 (nI (0)))) 616) 20 (nI (0)))) 616) 21 (nI (0)))) 616) 22 (nI (0)))) 616 (upd ((fo_r (fo_r (fo_r (fo_r (fo_r I 616 (upd (I 616) 19 (nI (n)))) 616 (upd ((fo_r I 616 (upd (I 616) 19 (nI (n)))) 616) 18 (nI (0)))) 616 (upd ((fo_r (fo_r I 616 (upd (I 616) 19 (nI (n)))) 616 (upd ((fo_r I 616 (upd (I 616) 19 (nI (n)))) 616) 18 (nI (0)))) 616) 20 (nI (0)))) 616 (upd ((fo_r (fo_r (fo_r I 616 (upd (I 616) 19 (nI (n)))) 616 (upd ((fo_r I 616 (upd (I 616) 19 (nI (n)))) 616) 18 (nI (0)))) 616 (upd ((fo_r (fo_r I 616 (upd (I 616) 19 (nI (n)))) 616 (upd ((fo_r I 616 (upd (I 616) 19 (nI (n)))) 616) 18 (nI (0)))) 616) 20 (nI (0)))) 616) 21 (nI (0)))) 616 (upd ((fo_r (fo_r (fo_r (fo_r I 616 (upd (I 616) 19 (nI (n)))) 616 (upd ((fo_r I 616 (upd (I 616) 19 (nI (n)))) 616) 18 (nI (0)))) 616 (upd ((fo_r (fo_r I 616 (upd (I 616) 19 (nI (n)))) 616 (upd ((fo_r I 616 (upd (I 616) 19 (nI (n)))) 616) 18 (nI (0)))) 616) 20 (nI (0)))) 616 (upd ((fo_r (fo_r (fo_r I 616 (upd (I 616) 19 (nI (n)))) 616 (upd ((fo_r I 616 (upd (I 616) 19 (nI (n)))) 616) 18 (nI (0)))) 616 (upd ((fo_r (fo_r I 616 (upd (I 616) 19 (nI (n)))) 616 (upd ((fo_r I 616 (upd (I 616) 19 (nI (n)))) 616) 18 (nI (0)))) 616) 20 (nI (0)))) 616) 21 (nI (0)))) 616) 22 (nI (0)))) 616) 23 (nI (0)))) 616 18 = nI 0 := (by rw [fo_rs, pk_un (by decide), fo_rs, pk_un (by decide), fo_rs, pk_un (by decide), fo_rs, pk_un (by decide), fo_rs, pk_us] <;> rfl)
  refine fo_aload_n C dX7_parse_33 0 rfl rfl 34 rfl ?_
  refine fo_qvv C dX7_parse_34 (mX7_command hV0 hC0 hU0 (by decide) (by exact Nat.zero_le _)) lv_X7_262 (by decide : fo_k 616 = 9) rfl (by decide) rfl ⟨Nat.le_of_ble_eq_true rfl, Nat.le_of_ble_eq_true rfl⟩ ⟨Nat.le_of_ble_eq_true rfl, Nat.le_of_ble_eq_true rfl⟩ [] rfl (Nat.le_of_ble_eq_true rfl) 37 rfl (fun I2 D3 J4 X5 p6 => ?_)
  obtain ⟨hr7, f7, z3, z4, z5⟩ := p6
  obtain rfl := z3.symm
  obtain rfl := z4.symm
  obtain rfl := z5.symm
  have z7 := hz0.c f7
  have e7 := (f7.2 18 (by decide)).trans he0
  rcases hp7 : fq_pc n t (([] : List fm_c)).length (0) with ⟨_ | ql, e2⟩
  · have v7 := hr7.1 (by rw [hp7])
    rw [hp7] at v7
    replace v7 : fm_V I2 n t true e2 := v7
    have hA : fq_all n t 60 0 0 = (none, e2) := by rw [show (60 : Nat) = 59 + 1 from rfl, fq_all_none (by rw [show fq_pc n t 0 0 = (none, e2) from hp7]; rfl), show fq_pc n t 0 0 = (none, e2) from hp7]
    refine fo_aload_n C dX7_parse_37 0 rfl rfl 38 rfl ?_
    refine fo_qvi C dX7_parse_38 (mX7_mark_w v7) lv_X7_237 (by decide : fo_k 616 = 9) rfl (by decide) rfl ⟨Nat.le_of_ble_eq_true rfl, Nat.le_of_ble_eq_true rfl⟩ ⟨Nat.le_of_ble_eq_true rfl, Nat.le_of_ble_eq_true rfl⟩ [] rfl (Nat.le_of_ble_eq_true rfl) 41 rfl (fo_er ?_)
    refine fo_bipush C dX7_parse_41 (nI 59) kb_59 43 rfl ?_
    refine fo_icmp_ne C dX7_parse_43 63 (by decide) 46 rfl (fun c14 => ?_) (fun c14 => ?_)
    · have hn9 := v7.1
      have hp9 := v7.2.1
      refine fo_aload_n C dX7_parse_63 0 rfl rfl 64 rfl ?_
      refine fo_dup C dX7_parse_64 rfl 65 rfl ?_
      refine fo_get C dX7_parse_65 fK9 (by decide : fo_k 616 = 9) (by decide) 23 (by decide) fl_X7_81 (v := .int (fo_b (true))) (congrArg (fun x => some (Value.int x)) (v7.2.2.2.2.1)) 68 rfl ?_
      refine fo_aload_n C dX7_parse_68 0 rfl rfl 69 rfl ?_
      refine fo_get C dX7_parse_69 fK9 (by decide : fo_k 616 = 9) (by decide) 20 (by decide) fl_X7_72 (v := .int (nI e2)) (congrArg (fun x => some (Value.int x)) (v7.2.2.2.1)) 72 rfl ?_
      refine fo_aload_n C dX7_parse_72 0 rfl rfl 73 rfl ?_
      refine fo_get C dX7_parse_73 fK9 (by decide : fo_k 616 = 9) (by decide) 19 (by decide) fl_X7_69 (v := .int (nI n)) (congrArg (fun x => some (Value.int x)) (v7.2.2.1)) 76 rfl ?_
      refine fo_ncmp_ge C (by omega) (by omega) dX7_parse_76 83 (by decide) 79 rfl (fun c15 => ?_) (fun c15 => ?_)
      · refine fo_iconst C dX7_parse_83 (nI 0) ki_0 84 rfl ?_
        refine fo_ior C dX7_parse_84 (fo_b true) (by decide) 85 rfl ?_
        refine fo_put C dX7_parse_85 fK9 (by decide : fo_k 616 = 9) (by decide) 23 (by decide) fl_X7_81 rfl (by first | rfl | exact fo_nb _) (by first | rfl | exact fo_fb _) rfl (Nat.le_of_ble_eq_true rfl) 88 rfl ?_
        exact fin dX7_parse_88 ((by rw [hA]; exact ⟨⟨fun _ => v7.to v7.2.1 (by rw [fo_rs, pk_un (by decide)]) (by rw [fo_rs, pk_un (by decide)]; exact v7.2.2.2.1) (by rw [fo_rs, pk_us]) rfl, fun x h => by cases h⟩, z7.c (show fm_pf I2 _ from ⟨fun b hb => by rw [fo_rn _ _ hb], fun j a b => by rw [fo_rs, pk_un b]⟩).c, (by rw [fo_rs, pk_un (by decide)]; exact e7), rfl, rfl, rfl⟩))
      · refine fo_iconst C dX7_parse_79 (nI 1) ki_1 80 rfl ?_
        refine fo_goto C dX7_parse_80 84 (by decide) ?_
        refine fo_ior C dX7_parse_84 (fo_b true) (by decide) 85 rfl ?_
        refine fo_put C dX7_parse_85 fK9 (by decide : fo_k 616 = 9) (by decide) 23 (by decide) fl_X7_81 rfl (by first | rfl | exact fo_nb _) (by first | rfl | exact fo_fb _) rfl (Nat.le_of_ble_eq_true rfl) 88 rfl ?_
        exact fin dX7_parse_88 ((by rw [hA]; exact ⟨⟨fun _ => v7.to v7.2.1 (by rw [fo_rs, pk_un (by decide)]) (by rw [fo_rs, pk_un (by decide)]; exact v7.2.2.2.1) (by rw [fo_rs, pk_us]) rfl, fun x h => by cases h⟩, z7.c (show fm_pf I2 _ from ⟨fun b hb => by rw [fo_rn _ _ hb], fun j a b => by rw [fo_rs, pk_un b]⟩).c, (by rw [fo_rs, pk_un (by decide)]; exact e7), rfl, rfl, rfl⟩))
    · exact absurd c14 (fm_nn (by decide))
  · have q7 := hr7.2 ql (by rw [hp7])
    rw [hp7] at q7
    obtain ⟨c, hsc, hck, v7, c7, u7, hl7⟩ := q7
    replace v7 : fm_V I2 n t false e2 := v7
    replace hl7 : 0 + 2 + c.2.2.2.length ≤ e2 := hl7
    have hL37 : ∀ (m37 : Nat) (Cs : List fm_c) (f e : Nat) (Y : fo_Mi), 61 - e < m37 → e ≤ n → 61 ≤ f + e → 2 * Cs.length ≤ e → (fm_fv Cs).length ≤ e → (∀ c, c ∈ Cs → fm_ck c) → (fq_all n t 60 0 0 = if fq_at n t e 59 then fq_aq (fm_all 0 Cs) (fq_all n t f Cs.length (e + 1)) else if e = n then (some (fm_all 0 Cs, Cs.length), e) else (none, e)) → fm_V Y n t false e → fm_C Y Cs → fm_U Y (fm_fv Cs) → fm_zf I Y → Y 616 18 = nI 0 → fo_G l Λ { frames := 4, cells := 0, slots := 0, locals := 94 } K 0 0 37 [(0, .ref (Λ.2.2.1 616))] [] Y D J X := by
      intro m37
      induction m37 with
      | zero => intro Cs f e Y hm; exact absurd hm (Nat.not_lt_zero _)
      | succ m37 ih37 =>
        intro Cs f e Y hm37 hen hfe h2c hvl hcks hinv hY hCY hUY hzY heY
        rcases hsm : fq_at n t e 59 with _ | _
        · skip
          refine fo_aload_n C dX7_parse_37 0 rfl rfl 38 rfl ?_
          refine fo_qvi C dX7_parse_38 (mX7_mark hY) lv_X7_237 (by decide : fo_k 616 = 9) rfl (by decide) rfl ⟨Nat.le_of_ble_eq_true rfl, Nat.le_of_ble_eq_true rfl⟩ ⟨Nat.le_of_ble_eq_true rfl, Nat.le_of_ble_eq_true rfl⟩ [] rfl (Nat.le_of_ble_eq_true rfl) 41 rfl (fo_er ?_)
          refine fo_bipush C dX7_parse_41 (nI 59) kb_59 43 rfl ?_
          refine fo_icmp_ne C dX7_parse_43 63 (by decide) 46 rfl (fun c22 => ?_) (fun c22 => ?_)
          · have hn9 := hY.1
            have hp9 := hY.2.1
            refine fo_aload_n C dX7_parse_63 0 rfl rfl 64 rfl ?_
            refine fo_dup C dX7_parse_64 rfl 65 rfl ?_
            refine fo_get C dX7_parse_65 fK9 (by decide : fo_k 616 = 9) (by decide) 23 (by decide) fl_X7_81 (v := .int (fo_b (false))) (congrArg (fun x => some (Value.int x)) (hY.2.2.2.2.1)) 68 rfl ?_
            refine fo_aload_n C dX7_parse_68 0 rfl rfl 69 rfl ?_
            refine fo_get C dX7_parse_69 fK9 (by decide : fo_k 616 = 9) (by decide) 20 (by decide) fl_X7_72 (v := .int (nI e)) (congrArg (fun x => some (Value.int x)) (hY.2.2.2.1)) 72 rfl ?_
            refine fo_aload_n C dX7_parse_72 0 rfl rfl 73 rfl ?_
            refine fo_get C dX7_parse_73 fK9 (by decide : fo_k 616 = 9) (by decide) 19 (by decide) fl_X7_69 (v := .int (nI n)) (congrArg (fun x => some (Value.int x)) (hY.2.2.1)) 76 rfl ?_
            refine fo_ncmp_ge C (by omega) (by omega) dX7_parse_76 83 (by decide) 79 rfl (fun c23 => ?_) (fun c23 => ?_)
            · refine fo_iconst C dX7_parse_83 (nI 0) ki_0 84 rfl ?_
              refine fo_ior C dX7_parse_84 (fo_b false) (by decide) 85 rfl ?_
              refine fo_put C dX7_parse_85 fK9 (by decide : fo_k 616 = 9) (by decide) 23 (by decide) fl_X7_81 rfl (by first | rfl | exact fo_nb _) (by first | rfl | exact fo_fb _) rfl (Nat.le_of_ble_eq_true rfl) 88 rfl ?_
              exact fin dX7_parse_88 ((by rw [hinv, hsm, if_neg (by decide), if_pos (by omega)]; exact ⟨⟨fun h => (by cases h), fun x h => (by cases h; exact ⟨Cs, rfl, rfl, hcks, (by have := hY.1; omega), (by have := hY.1; omega), hY.to hY.2.1 (by rw [fo_rs, pk_un (by decide)]) (by rw [fo_rs, pk_un (by decide)]; exact hY.2.2.2.1) (by rw [fo_rs, pk_us]) rfl, hCY.pf ⟨fun b hb => by rw [fo_rn _ _ hb], fun j a b => by rw [fo_rs, pk_un b]⟩, hUY.pf ⟨fun b hb => by rw [fo_rn _ _ hb], fun j a b => by rw [fo_rs, pk_un b]⟩⟩)⟩, hzY.c (show fm_pf Y _ from ⟨fun b hb => by rw [fo_rn _ _ hb], fun j a b => by rw [fo_rs, pk_un b]⟩).c, (by rw [fo_rs, pk_un (by decide)]; exact heY), rfl, rfl, rfl⟩))
            · refine fo_iconst C dX7_parse_79 (nI 1) ki_1 80 rfl ?_
              refine fo_goto C dX7_parse_80 84 (by decide) ?_
              refine fo_ior C dX7_parse_84 (fo_b true) (by decide) 85 rfl ?_
              refine fo_put C dX7_parse_85 fK9 (by decide : fo_k 616 = 9) (by decide) 23 (by decide) fl_X7_81 rfl (by first | rfl | exact fo_nb _) (by first | rfl | exact fo_fb _) rfl (Nat.le_of_ble_eq_true rfl) 88 rfl ?_
              exact fin dX7_parse_88 ((by rw [hinv, hsm, if_neg (by decide), if_neg (by omega)]; exact ⟨⟨fun _ => hY.to hY.2.1 (by rw [fo_rs, pk_un (by decide)]) (by rw [fo_rs, pk_un (by decide)]; exact hY.2.2.2.1) (by rw [fo_rs, pk_us]) rfl, fun x h => by cases h⟩, hzY.c (show fm_pf Y _ from ⟨fun b hb => by rw [fo_rn _ _ hb], fun j a b => by rw [fo_rs, pk_un b]⟩).c, (by rw [fo_rs, pk_un (by decide)]; exact heY), rfl, rfl, rfl⟩))
          · exact absurd ((fm_mk_at (fun j hj => (hY.2.2.2.2.2 j hj).2) (by decide)).mp c22) (by rw [hsm]; decide)
        · have hsmi := (fq_at_in hsm).1
          refine fo_aload_n C dX7_parse_37 0 rfl rfl 38 rfl ?_
          refine fo_qvi C dX7_parse_38 (mX7_mark hY) lv_X7_237 (by decide : fo_k 616 = 9) rfl (by decide) rfl ⟨Nat.le_of_ble_eq_true rfl, Nat.le_of_ble_eq_true rfl⟩ ⟨Nat.le_of_ble_eq_true rfl, Nat.le_of_ble_eq_true rfl⟩ [] rfl (Nat.le_of_ble_eq_true rfl) 41 rfl (fo_er ?_)
          refine fo_bipush C dX7_parse_41 (nI 59) kb_59 43 rfl ?_
          refine fo_icmp_ne C dX7_parse_43 63 (by decide) 46 rfl (fun c30 => ?_) (fun c30 => ?_)
          · exact absurd ((fm_mk_at (fun j hj => (hY.2.2.2.2.2 j hj).2) (by decide)).mpr hsm) c30
          · refine fo_aload_n C dX7_parse_46 0 rfl rfl 47 rfl ?_
            refine fo_dup C dX7_parse_47 rfl 48 rfl ?_
            refine fo_get C dX7_parse_48 fK9 (by decide : fo_k 616 = 9) (by decide) 20 (by decide) fl_X7_72 (v := .int (nI e)) (congrArg (fun x => some (Value.int x)) (hY.2.2.2.1)) 51 rfl ?_
            refine fo_iconst C dX7_parse_51 (nI 1) ki_1 52 rfl ?_
            refine fo_iadd C dX7_parse_52 (nI (e + 1)) (nI_add _ _) 53 rfl ?_
            refine fo_put C dX7_parse_53 fK9 (by decide : fo_k 616 = 9) (by decide) 20 (by decide) fl_X7_72 rfl rfl rfl rfl (Nat.le_of_ble_eq_true rfl) 56 rfl ?_
            have v31 : fm_V (fo_r Y 616 (upd (Y 616) 20 (nI (e + 1)))) n t false (e + 1) := hY.to hsmi (by rw [fo_rs, pk_un (by decide)]) (by rw [fo_rs, pk_us]) (by rw [fo_rs, pk_un (by decide)]; exact hY.2.2.2.2.1) rfl
            have f31 : fm_pf Y (fo_r Y 616 (upd (Y 616) 20 (nI (e + 1)))) := ⟨fun b hb => by rw [fo_rn _ _ hb], fun j a b => by rw [fo_rs, pk_un a]⟩
            have z31 := hzY.c f31.c
            have c31 := hCY.pf f31
            have u31 := hUY.pf f31
            have e31 : (fo_r Y 616 (upd (Y 616) 20 (nI (e + 1)))) 616 18 = nI 0 := (f31.2 18 (by decide) (by decide)).trans heY
            refine fo_aload_n C dX7_parse_56 0 rfl rfl 57 rfl ?_
            refine fo_qvv C dX7_parse_57 (mX7_command v31 c31 u31 (by omega) (by omega)) lv_X7_262 (by decide : fo_k 616 = 9) rfl (by decide) rfl ⟨Nat.le_of_ble_eq_true rfl, Nat.le_of_ble_eq_true rfl⟩ ⟨Nat.le_of_ble_eq_true rfl, Nat.le_of_ble_eq_true rfl⟩ [] rfl (Nat.le_of_ble_eq_true rfl) 60 rfl (fun I33 D34 J35 X36 p37 => ?_)
            obtain ⟨hr38, f38, z3, z4, z5⟩ := p37
            obtain rfl := z3.symm
            obtain rfl := z4.symm
            obtain rfl := z5.symm
            have z38 := z31.c f38
            have e38 := (f38.2 18 (by decide)).trans e31
            rcases hp38 : fq_pc n t (Cs).length (e + 1) with ⟨_ | ql, e2⟩
            · have v38 := hr38.1 (by rw [hp38])
              rw [hp38] at v38
              replace v38 : fm_V I33 n t true e2 := v38
              have hA : fq_all n t 60 0 0 = (none, e2) := by rw [hinv, hsm, if_pos rfl]; obtain ⟨f0, rfl⟩ : ∃ f0, f = f0 + 1 := ⟨f - 1, by omega⟩; rw [fq_all_none (by rw [hp38]; rfl), hp38]; rfl
              refine fo_goto C dX7_parse_60 37 (by decide) ?_
              refine fo_aload_n C dX7_parse_37 0 rfl rfl 38 rfl ?_
              refine fo_qvi C dX7_parse_38 (mX7_mark_w v38) lv_X7_237 (by decide : fo_k 616 = 9) rfl (by decide) rfl ⟨Nat.le_of_ble_eq_true rfl, Nat.le_of_ble_eq_true rfl⟩ ⟨Nat.le_of_ble_eq_true rfl, Nat.le_of_ble_eq_true rfl⟩ [] rfl (Nat.le_of_ble_eq_true rfl) 41 rfl (fo_er ?_)
              refine fo_bipush C dX7_parse_41 (nI 59) kb_59 43 rfl ?_
              refine fo_icmp_ne C dX7_parse_43 63 (by decide) 46 rfl (fun c45 => ?_) (fun c45 => ?_)
              · have hn9 := v38.1
                have hp9 := v38.2.1
                refine fo_aload_n C dX7_parse_63 0 rfl rfl 64 rfl ?_
                refine fo_dup C dX7_parse_64 rfl 65 rfl ?_
                refine fo_get C dX7_parse_65 fK9 (by decide : fo_k 616 = 9) (by decide) 23 (by decide) fl_X7_81 (v := .int (fo_b (true))) (congrArg (fun x => some (Value.int x)) (v38.2.2.2.2.1)) 68 rfl ?_
                refine fo_aload_n C dX7_parse_68 0 rfl rfl 69 rfl ?_
                refine fo_get C dX7_parse_69 fK9 (by decide : fo_k 616 = 9) (by decide) 20 (by decide) fl_X7_72 (v := .int (nI e2)) (congrArg (fun x => some (Value.int x)) (v38.2.2.2.1)) 72 rfl ?_
                refine fo_aload_n C dX7_parse_72 0 rfl rfl 73 rfl ?_
                refine fo_get C dX7_parse_73 fK9 (by decide : fo_k 616 = 9) (by decide) 19 (by decide) fl_X7_69 (v := .int (nI n)) (congrArg (fun x => some (Value.int x)) (v38.2.2.1)) 76 rfl ?_
                refine fo_ncmp_ge C (by omega) (by omega) dX7_parse_76 83 (by decide) 79 rfl (fun c46 => ?_) (fun c46 => ?_)
                · refine fo_iconst C dX7_parse_83 (nI 0) ki_0 84 rfl ?_
                  refine fo_ior C dX7_parse_84 (fo_b true) (by decide) 85 rfl ?_
                  refine fo_put C dX7_parse_85 fK9 (by decide : fo_k 616 = 9) (by decide) 23 (by decide) fl_X7_81 rfl (by first | rfl | exact fo_nb _) (by first | rfl | exact fo_fb _) rfl (Nat.le_of_ble_eq_true rfl) 88 rfl ?_
                  exact fin dX7_parse_88 ((by rw [hA]; exact ⟨⟨fun _ => v38.to v38.2.1 (by rw [fo_rs, pk_un (by decide)]) (by rw [fo_rs, pk_un (by decide)]; exact v38.2.2.2.1) (by rw [fo_rs, pk_us]) rfl, fun x h => by cases h⟩, z38.c (show fm_pf I33 _ from ⟨fun b hb => by rw [fo_rn _ _ hb], fun j a b => by rw [fo_rs, pk_un b]⟩).c, (by rw [fo_rs, pk_un (by decide)]; exact e38), rfl, rfl, rfl⟩))
                · refine fo_iconst C dX7_parse_79 (nI 1) ki_1 80 rfl ?_
                  refine fo_goto C dX7_parse_80 84 (by decide) ?_
                  refine fo_ior C dX7_parse_84 (fo_b true) (by decide) 85 rfl ?_
                  refine fo_put C dX7_parse_85 fK9 (by decide : fo_k 616 = 9) (by decide) 23 (by decide) fl_X7_81 rfl (by first | rfl | exact fo_nb _) (by first | rfl | exact fo_fb _) rfl (Nat.le_of_ble_eq_true rfl) 88 rfl ?_
                  exact fin dX7_parse_88 ((by rw [hA]; exact ⟨⟨fun _ => v38.to v38.2.1 (by rw [fo_rs, pk_un (by decide)]) (by rw [fo_rs, pk_un (by decide)]; exact v38.2.2.2.1) (by rw [fo_rs, pk_us]) rfl, fun x h => by cases h⟩, z38.c (show fm_pf I33 _ from ⟨fun b hb => by rw [fo_rn _ _ hb], fun j a b => by rw [fo_rs, pk_un b]⟩).c, (by rw [fo_rs, pk_un (by decide)]; exact e38), rfl, rfl, rfl⟩))
              · exact absurd c45 (fm_nn (by decide))
            · have q38 := hr38.2 ql (by rw [hp38])
              rw [hp38] at q38
              obtain ⟨c, hsc, hck, v38, c38, u38, hl38⟩ := q38
              replace v38 : fm_V I33 n t false e2 := v38
              replace hl38 : e + 1 + 2 + c.2.2.2.length ≤ e2 := hl38
              refine fo_goto C dX7_parse_60 37 (by decide) ?_
              exact ih37 (Cs ++ [c]) (f - 1) e2 I33 (by omega) v38.2.1 (by have := hl38; omega) (by have := hl38; rw [List.length_append]; show 2 * (_ + 1) ≤ e2; omega) (by have := hl38; rw [fm_fv_add, List.length_append]; omega) (fun d hd => by rw [List.mem_append, List.mem_singleton] at hd; rcases hd with hd | hd; exact hcks d hd; rw [hd]; exact hck) (by rw [hinv, hsm, if_pos rfl]; obtain ⟨f0, rfl⟩ : ∃ f0, f = f0 + 1 := ⟨f - 1, by omega⟩; rw [fq_all_some (ql := ql) (by rw [hp38]), hp38, fm_all_add, Nat.zero_add, hsc, List.length_append, Nat.add_sub_cancel]; show fq_aq _ (if fq_at n t e2 59 = true then _ else _) = _; cases fq_at n t e2 59 with | true => (rw [if_pos rfl, if_pos rfl, fq_aq_aq]; rfl) | false => (show fq_aq (fm_all 0 Cs) (if e2 = n then (some (ql, Cs.length + 1), e2) else (none, e2)) = (if e2 = n then _ else (none, e2)); by_cases h9 : e2 = n; (rw [if_pos h9, if_pos h9]; rfl); (rw [if_neg h9, if_neg h9]; rfl))) v38 c38 u38 z38 e38
    exact hL37 (61 + 1) [c] 59 e2 I2 (by omega) v7.2.1 (by have := hl7; omega) (by have := hl7; show 2 * 1 ≤ e2; omega) (by have := hl7; rw [show fm_fv [c] = c.2.2.2 from List.append_nil _]; omega) (fun d hd => by rw [List.mem_singleton] at hd; rw [hd]; exact hck) (by rw [show (60 : Nat) = 59 + 1 from rfl, fq_all_some (ql := ql) (by rw [show fq_pc n t 0 0 = (some ql, e2) from hp7]), show fq_pc n t 0 0 = (some ql, e2) from hp7]; show _ = if fq_at n t e2 59 = true then fq_aq (fm_sc 0 c ++ []) (fq_all n t 59 1 (e2 + 1)) else if e2 = n then (some (fm_sc 0 c ++ [], 1), e2) else (none, e2); rw [List.append_nil, show fm_sc 0 c = ql from hsc]) v7 c7 u7 z7 e7
