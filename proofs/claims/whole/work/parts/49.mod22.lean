
/-! THE MODEL: its parser's commands -/
abbrev fm_c : Type := Nat × Nat × Nat × List Nat
def fm_fv (C : List fm_c) : List Nat := C.flatMap (fun c => c.2.2.2)
def fm_C (I : fo_Mi) (C : List fm_c) : Prop := I 616 21 = nI C.length ∧ ∀ j c, C[j]? = some c → I 624 j = nI c.1 ∧ I 625 j = nI c.2.1 ∧ I 626 j = nI c.2.2.1 ∧ I 627 j = nI (fm_fv (C.take (j + 1))).length
/-- the steps of a command -/
def fm_sc (o : Nat) (c : fm_c) : List fq_s := if c.1 = 0 then [(112, c.2.1, c.2.2.1, o)] else if c.1 = 1 then c.2.2.2.map (fun x => (115, c.2.1, x, o)) else if c.1 = 2 then [(108, c.2.1, 0, o)] else [(102, c.2.1, 0, o)]
def fm_ck (c : fm_c) : Prop := c.1 < 4 ∧ c.2.1 < 65536 ∧ c.2.2.1 ≤ 9 ∧ (∀ x, x ∈ c.2.2.2 → x ≤ 999) ∧ (c.1 = 0 → fo_kc c.2.1 = true)
theorem fm_ck_of {k a b : Nat} {vs : List Nat} (h1 : k < 4) (h2 : a < 65536) (h3 : b ≤ 9) (h4 : ∀ x, x ∈ vs → x ≤ 999) (h5 : k = 0 → fo_kc a = true) : fm_ck (k, a, b, vs) := ⟨h1, h2, h3, h4, h5⟩
def fm_cf (I I' : fo_Mi) : Prop := (∀ b, b ≠ 616 → (b < 624 ∨ 628 < b) → I' b = I b) ∧ ∀ j, (j < 20 ∨ 23 < j) → I' 616 j = I 616 j
theorem fm_cf.trans {I I1 I2 : fo_Mi} (h : fm_cf I I1) (g : fm_cf I1 I2) : fm_cf I I2 := ⟨fun b a c => (g.1 b a c).trans (h.1 b a c), fun j a => (g.2 j a).trans (h.2 j a)⟩
theorem fm_qf.c {I I' : fo_Mi} (h : fm_qf I I') : fm_cf I I' := ⟨fun b a c => h.1 b a (by omega), fun j a => h.2 j (by omega) (by omega) (by omega)⟩
/-- what a command leaves -/
def fm_cr (I' : fo_Mi) (n : Nat) (t : Nat → Nat) (C : List fm_c) (p : Nat) (r : fq_r) : Prop := (r.1 = none → fm_V I' n t true r.2) ∧ ∀ l, r.1 = some l → ∃ c, fm_sc C.length c = l ∧ fm_ck c ∧ fm_V I' n t false r.2 ∧ fm_C I' (C ++ [c]) ∧ fm_U I' (fm_fv (C ++ [c])) ∧ p + 2 + c.2.2.2.length ≤ r.2
theorem fm_fv_add (C : List fm_c) (c : fm_c) : fm_fv (C ++ [c]) = fm_fv C ++ c.2.2.2 := by
  unfold fm_fv
  rw [List.flatMap_append, List.flatMap_cons, List.flatMap_nil, List.append_nil]
theorem fm_C.add {I M I' : fo_Mi} {C : List fm_c} {k a b : Nat} {vs : List Nat} (h : fm_C I C) (hq : fm_qf I M) (e0 : I' 616 21 = nI (C.length + 1)) (e1 : I' 624 = upd (M 624) C.length (nI k)) (e2 : I' 625 = upd (M 625) C.length (nI a)) (e3 : I' 626 = upd (M 626) C.length (nI b)) (e4 : I' 627 = upd (M 627) C.length (nI (fm_fv C ++ vs).length)) : fm_C I' (C ++ [(k, a, b, vs)]) := by
  refine ⟨by rw [List.length_append]; exact e0, fun j c hj => ?_⟩
  rw [e1, e2, e3, e4]
  by_cases e : j = C.length
  · subst e
    rw [List.getElem?_append_right (Nat.le_refl _), Nat.sub_self] at hj
    cases hj
    rw [pk_us, pk_us, pk_us, pk_us, List.take_of_length_le (by rw [List.length_append]; exact Nat.le_refl _), fm_fv_add]
    exact ⟨rfl, rfl, rfl, rfl⟩
  · have hlt : j < C.length := by
      have := (List.getElem?_eq_some_iff.mp hj).1
      rw [List.length_append] at this
      have h9 : [(k, a, b, vs)].length = 1 := rfl
      omega
    rw [List.getElem?_append_left hlt] at hj
    rw [pk_un e, pk_un e, pk_un e, pk_un e, hq.1 624 (by decide) (by decide), hq.1 625 (by decide) (by decide), hq.1 626 (by decide) (by decide), hq.1 627 (by decide) (by decide), List.take_append_of_le_length (by omega)]
    exact h.2 j c hj
theorem fq_wd_app {n : Nat} {t : Nat → Nat} {c : Nat} : ∀ (w : List Nat) (p : Nat), fq_wd n t (w ++ [c]) p = (if (fq_wd n t w p).1 then (if fq_at n t (fq_wd n t w p).2 c then (true, (fq_wd n t w p).2 + 1) else (false, (fq_wd n t w p).2)) else (false, (fq_wd n t w p).2))
  | [], p => rfl
  | d :: w, p => by
    rw [List.cons_append, fq_wd, fq_wd]
    cases h : fq_at n t p d with
    | false => rfl
    | true =>
      rw [if_pos rfl, if_pos rfl]
      exact fq_wd_app w (p + 1)
def fm_tl (n : Nat) (t : Nat → Nat) (o i : Nat) : Nat → fq_r := if i = 0 then fq_pp n t o else if i = 1 then fq_ps n t o else if i = 2 then fq_pd n t 108 o else fq_pd n t 102 o
theorem fq_pc_fx {n : Nat} {t : Nat → Nat} {o p : Nat} : fq_pc n t o p = fq_th (fq_wd n t (fo_wd (fm_fx n t p)) p) (fm_tl n t o (fm_fx n t p)) := by
  unfold fq_pc fm_fx
  cases fq_at n t p 112 with
  | true => rfl
  | false =>
    cases fq_at n t p 115 with
    | true => rfl
    | false => cases fq_at n t p 108 <;> rfl
theorem fq_pp_n {n : Nat} {t : Nat → Nat} {o q : Nat} (h : (decide (q < n) && fo_kc (t q)) = false) : fq_pp n t o q = (none, q) := by
  have key : ∀ c, (c = 108 ∨ c = 109 ∨ c = 100 ∨ c = 116 ∨ c = 115) → fq_at n t q c = false := fun c hc => by
    cases h1 : fq_at n t q c with
    | false => rfl
    | true =>
      have h2 := fq_at_in h1
      rw [decide_eq_true h2.1] at h
      exact Bool.noConfusion ((show fo_kc (t q) = false from h).symm.trans (decide_eq_true (by omega)))
  unfold fq_pp fq_tk
  rw [key 109 (by decide), key 100 (by decide), key 115 (by decide), key 108 (by decide), key 116 (by decide)]
  rfl
theorem fq_pp_k {n : Nat} {t : Nat → Nat} {o q : Nat} (hq : q < n) (h : t q = 109 ∨ t q = 100 ∨ t q = 115) : fq_pp n t o q = if fq_dg n t (q + 1) then (some [(112, t q, t (q + 1) - 48, o)], q + 2) else (none, q + 1) := by
  have hk : fq_tk n t q = true := by
    unfold fq_tk
    rcases h with h | h | h
    · rw [fq_at_y hq h]; rfl
    · rw [fq_at_y hq h, Bool.or_true]; rfl
    · rw [fq_at_y hq h, Bool.or_true]
  unfold fq_pp
  rw [hk]
  rfl
theorem fq_pp_o {n : Nat} {t : Nat → Nat} {o q : Nat} (hq : q < n) (h : t q = 108 ∨ t q = 116) : fq_pp n t o q = (some [(112, t q, 1, o)], q + 1) := by
  have hk : fq_tk n t q = false := by
    unfold fq_tk
    rw [fq_at_n2 (by omega), fq_at_n2 (by omega), fq_at_n2 (by omega)]
    rfl
  unfold fq_pp
  rw [hk]
  rcases h with h | h
  · rw [fq_at_y hq h]; rfl
  · rw [fq_at_y hq h, Bool.or_true]; rfl
theorem fm_mk_kc {n : Nat} {t : Nat → Nat} {q c : Nat} (ht : ∀ j, j < n → t j < 65536) (h : (decide (q < n) && fo_kc (t q)) = false) (hc : c = 109 ∨ c = 100 ∨ c = 115) : ¬ fm_mk n t q = nI c := fun e => by
  have h2 := fq_at_in ((fm_mk_at ht (by omega)).mp e)
  rw [decide_eq_true h2.1] at h
  exact Bool.noConfusion ((show fo_kc (t q) = false from h).symm.trans (decide_eq_true (by omega)))

set_option maxRecDepth 10000 in
set_option maxHeartbeats 4000000 in
theorem mX7_command {l : Launch} {Λ : fo_Lt} {I : fo_Mi} {D : fo_Md} {J : fo_Mj} {X : fo_Mi}  {n p : Nat} {t : Nat → Nat} {Cs : List fm_c} (hV : fm_V I n t false p) (hC : fm_C I Cs) (hU0 : fm_U I (fm_fv Cs)) (h2c : 2 * Cs.length ≤ p) (hvl : (fm_fv Cs).length ≤ p) : fk_v l yX7_command cX7_command 4 3 71 Λ [.ref (Λ.2.2.1 616)] I D J X ((fun I' D' J' X' => fm_cr I' n t Cs p (fq_pc n t Cs.length p) ∧ fm_cf I I' ∧ D' = D ∧ J' = J ∧ X' = X)) := by
  have hn60 := hV.1
  have hpn := hV.2.1
  have ht9 : ∀ j, j < n → t j < 65536 := fun j hj => (hV.2.2.2.2.2 j hj).2
  have hx4 := fm_fx_lt n t p
  obtain ⟨b, e, hz⟩ : ∃ b e, fq_wd n t (fm_W (fm_fx n t p)) p = (b, e) := ⟨_, _, rfl⟩
  have hin := fq_wd_in (n := n) (t := t) (w := fm_W (fm_fx n t p)) hpn
  rw [hz] at hin
  have hin1 : p ≤ e := hin.1
  have hin3 : e ≤ n := hin.2.1
  have hq0 : fm_qf I I := ⟨fun _ _ _ => rfl, fun _ _ _ _ => rfl⟩
  have hU : fm_U I (fm_fv Cs ++ []) := by rw [List.append_nil]; exact hU0
  refine fo_sv (by decide) [(0, .ref (Λ.2.2.1 616))] rfl (Nat.le_of_ble_eq_true rfl) (fun K C fin => ?_)
  obtain hF | hF | hF | hF : fm_fx n t p = 0 ∨ fm_fx n t p = 1 ∨ fm_fx n t p = 2 ∨ fm_fx n t p = 3 := by omega
  · rcases b with _ | _
    · have hwd : fq_wd n t (fo_wd (fm_fx n t p)) p = (false, e) := by rw [fm_wdW _ hx4, fq_wd_app, hz]; rfl
      refine fo_aload_n C dX7_command_0 0 rfl rfl 1 rfl ?_
      refine fo_qvi C dX7_command_1 (mX7_word hV) lv_X7_250 (by decide : fo_k 616 = 9) rfl (by decide) rfl ⟨Nat.le_of_ble_eq_true rfl, Nat.le_of_ble_eq_true rfl⟩ ⟨Nat.le_of_ble_eq_true rfl, Nat.le_of_ble_eq_true rfl⟩ [] rfl (Nat.le_of_ble_eq_true rfl) 4 rfl (fun r1 I2 D3 J4 X5 p6 => ?_)
      obtain ⟨hr, v7, f8, z3, z4, z5⟩ := p6
      obtain rfl := z3.symm
      obtain rfl := z4.symm
      obtain rfl := z5.symm
      rw [hz] at hr v7
      obtain rfl : r1 = nI 0 := hr
      replace v7 : fm_V I2 n t true e := v7
      have q9 := hq0.trans (f8).q
      have u10 := hU.pf f8
      refine fo_istore_n C dX7_command_4 rfl [(1, .int (nI 0)), (0, .ref (Λ.2.2.1 616))] rfl (by decide) 5 rfl ?_
      refine fo_aload_n C dX7_command_5 1 rfl rfl 6 rfl ?_
      refine fo_bipush C dX7_command_6 (nI 32) kb_32 8 rfl ?_
      refine fo_qvv C dX7_command_8 (mX7_expect_w (c := 32) (by decide) v7) lv_X7_253 (by decide : fo_k 616 = 9) rfl (by decide) rfl ⟨Nat.le_of_ble_eq_true rfl, Nat.le_of_ble_eq_true rfl⟩ ⟨Nat.le_of_ble_eq_true rfl, Nat.le_of_ble_eq_true rfl⟩ [] rfl (Nat.le_of_ble_eq_true rfl) 11 rfl (fun I12 D13 J14 X15 p16 => ?_)
      obtain ⟨v17, f18, z3, z4, z5⟩ := p16
      obtain rfl := z3.symm
      obtain rfl := z4.symm
      obtain rfl := z5.symm
      have q19 := q9.trans (f18).q
      have u20 := u10.pf f18
      refine fo_iload_n C dX7_command_11 0 rfl rfl 12 rfl ?_
      refine fo_nif_ne C (by omega) dX7_command_12 22 (by decide) 15 rfl (fun c21 => ?_) (fun c21 => ?_)
      · omega
      · refine fo_aload_n C dX7_command_15 1 rfl rfl 16 rfl ?_
        refine fo_qvi C dX7_command_16 (mX7_prophetKind_w v17) lv_X7_256 (by decide : fo_k 616 = 9) rfl (by decide) rfl ⟨Nat.le_of_ble_eq_true rfl, Nat.le_of_ble_eq_true rfl⟩ ⟨Nat.le_of_ble_eq_true rfl, Nat.le_of_ble_eq_true rfl⟩ [] rfl (Nat.le_of_ble_eq_true rfl) 19 rfl (fun r22 I23 D24 J25 X26 p27 => ?_)
        obtain ⟨rfl, v28, f29, z3, z4, z5⟩ := p27
        obtain rfl := z3.symm
        obtain rfl := z4.symm
        obtain rfl := z5.symm
        have q30 := q19.trans (f29).q
        have u31 := u20.pf f29
        refine fo_goto C dX7_command_19 27 (by decide) ?_
        refine fo_istore_n C dX7_command_27 rfl [(2, .int (-1)), (1, .int (nI 0)), (0, .ref (Λ.2.2.1 616))] rfl (by decide) 28 rfl ?_
        refine fo_iconst C dX7_command_28 (nI 1) ki_1 29 rfl ?_
        refine fo_istore_n C dX7_command_29 rfl [(3, .int (nI 1)), (2, .int (-1)), (1, .int (nI 0)), (0, .ref (Λ.2.2.1 616))] rfl (by decide) 30 rfl ?_
        refine fo_iload_n C dX7_command_30 2 rfl rfl 31 rfl ?_
        refine fo_nif_ne C (by omega) dX7_command_31 58 (by decide) 34 rfl (fun c32 => ?_) (fun c32 => ?_)
        · omega
        · refine fo_iload_n C dX7_command_34 1 rfl rfl 35 rfl ?_
          refine fo_bipush C dX7_command_35 (nI 109) kb_109 37 rfl ?_
          refine fo_icmp_eq C dX7_command_37 52 (by decide) 40 rfl (fun c33 => ?_) (fun c33 => ?_)
          · exact absurd c33 (fm_nn (by decide))
          · refine fo_iload_n C dX7_command_40 1 rfl rfl 41 rfl ?_
            refine fo_bipush C dX7_command_41 (nI 100) kb_100 43 rfl ?_
            refine fo_icmp_eq C dX7_command_43 52 (by decide) 46 rfl (fun c34 => ?_) (fun c34 => ?_)
            · exact absurd c34 (fm_nn (by decide))
            · refine fo_iload_n C dX7_command_46 1 rfl rfl 47 rfl ?_
              refine fo_bipush C dX7_command_47 (nI 115) kb_115 49 rfl ?_
              refine fo_icmp_ne C dX7_command_49 58 (by decide) 52 rfl (fun c35 => ?_) (fun c35 => ?_)
              · refine fo_iload_n C dX7_command_58 2 rfl rfl 59 rfl ?_
                refine fo_iconst C dX7_command_59 (nI 1) ki_1 60 rfl ?_
                refine fo_ncmp_ne C (by omega) (by omega) dX7_command_60 99 (by decide) 63 rfl (fun c36 => ?_) (fun c36 => ?_)
                · have hpc : fq_pc n t Cs.length p = (none, e) := by rw [fq_pc_fx, hwd]; rfl
                  refine fo_aload_n C dX7_command_99 3 rfl rfl 100 rfl ?_
                  refine fo_get C dX7_command_100 fK9 (by decide : fo_k 616 = 9) (by decide) 23 (by decide) fl_X7_81 (v := .int (fo_b (true))) (congrArg (fun x => some (Value.int x)) (v28.2.2.2.2.1)) 103 rfl ?_
                  refine fo_bif_eq C dX7_command_103 107 (by decide) 106 rfl (fun c37 => ?_) (fun c37 => ?_)
                  · exact absurd c37 (by decide)
                  · exact fin dX7_command_106 ((by rw [hpc]; exact ⟨⟨fun _ => v28, fun l h => by cases h⟩, q30.c, rfl, rfl, rfl⟩))
                · omega
              · exact absurd c35 (fm_nn (by decide))
    · have hin4 : p + (fm_W (fm_fx n t p)).length ≤ e := hin.2.2 rfl
      rw [hF] at hin4
      have hin5 : p + 3 ≤ e := Nat.le_trans (Nat.add_le_add_left (by decide) _) hin4
      rcases hs : fq_at n t e 32 with _ | _
      · have hwd : fq_wd n t (fo_wd (fm_fx n t p)) p = (false, e) := by rw [fm_wdW _ hx4, fq_wd_app, hz]; show (if fq_at n t e 32 = true then _ else _) = _; rw [hs]; rfl
        refine fo_aload_n C dX7_command_0 0 rfl rfl 1 rfl ?_
        refine fo_qvi C dX7_command_1 (mX7_word hV) lv_X7_250 (by decide : fo_k 616 = 9) rfl (by decide) rfl ⟨Nat.le_of_ble_eq_true rfl, Nat.le_of_ble_eq_true rfl⟩ ⟨Nat.le_of_ble_eq_true rfl, Nat.le_of_ble_eq_true rfl⟩ [] rfl (Nat.le_of_ble_eq_true rfl) 4 rfl (fun r38 I39 D40 J41 X42 p43 => ?_)
        obtain ⟨hr, v44, f45, z3, z4, z5⟩ := p43
        obtain rfl := z3.symm
        obtain rfl := z4.symm
        obtain rfl := z5.symm
        rw [hz] at hr v44
        rw [hF] at hr
        obtain rfl : r38 = nI 0 := hr
        replace v44 : fm_V I39 n t false e := v44
        have q46 := hq0.trans (f45).q
        have u47 := hU.pf f45
        refine fo_istore_n C dX7_command_4 rfl [(1, .int (nI 0)), (0, .ref (Λ.2.2.1 616))] rfl (by decide) 5 rfl ?_
        refine fo_aload_n C dX7_command_5 1 rfl rfl 6 rfl ?_
        refine fo_bipush C dX7_command_6 (nI 32) kb_32 8 rfl ?_
        refine fo_qvv C dX7_command_8 (mX7_expect (c := 32) (by decide) v44) lv_X7_253 (by decide : fo_k 616 = 9) rfl (by decide) rfl ⟨Nat.le_of_ble_eq_true rfl, Nat.le_of_ble_eq_true rfl⟩ ⟨Nat.le_of_ble_eq_true rfl, Nat.le_of_ble_eq_true rfl⟩ [] rfl (Nat.le_of_ble_eq_true rfl) 11 rfl (fun I49 D50 J51 X52 p53 => ?_)
        obtain ⟨v54, f55, z3, z4, z5⟩ := p53
        obtain rfl := z3.symm
        obtain rfl := z4.symm
        obtain rfl := z5.symm
        rw [hs] at v54
        replace v54 : fm_V I49 n t true (e) := v54
        have q56 := q46.trans (f55).q
        have u57 := u47.pf f55
        refine fo_iload_n C dX7_command_11 0 rfl rfl 12 rfl ?_
        refine fo_nif_ne C (by omega) dX7_command_12 22 (by decide) 15 rfl (fun c58 => ?_) (fun c58 => ?_)
        · omega
        · refine fo_aload_n C dX7_command_15 1 rfl rfl 16 rfl ?_
          refine fo_qvi C dX7_command_16 (mX7_prophetKind_w v54) lv_X7_256 (by decide : fo_k 616 = 9) rfl (by decide) rfl ⟨Nat.le_of_ble_eq_true rfl, Nat.le_of_ble_eq_true rfl⟩ ⟨Nat.le_of_ble_eq_true rfl, Nat.le_of_ble_eq_true rfl⟩ [] rfl (Nat.le_of_ble_eq_true rfl) 19 rfl (fun r59 I60 D61 J62 X63 p64 => ?_)
          obtain ⟨rfl, v65, f66, z3, z4, z5⟩ := p64
          obtain rfl := z3.symm
          obtain rfl := z4.symm
          obtain rfl := z5.symm
          have q67 := q56.trans (f66).q
          have u68 := u57.pf f66
          refine fo_goto C dX7_command_19 27 (by decide) ?_
          refine fo_istore_n C dX7_command_27 rfl [(2, .int (-1)), (1, .int (nI 0)), (0, .ref (Λ.2.2.1 616))] rfl (by decide) 28 rfl ?_
          refine fo_iconst C dX7_command_28 (nI 1) ki_1 29 rfl ?_
          refine fo_istore_n C dX7_command_29 rfl [(3, .int (nI 1)), (2, .int (-1)), (1, .int (nI 0)), (0, .ref (Λ.2.2.1 616))] rfl (by decide) 30 rfl ?_
          refine fo_iload_n C dX7_command_30 2 rfl rfl 31 rfl ?_
          refine fo_nif_ne C (by omega) dX7_command_31 58 (by decide) 34 rfl (fun c69 => ?_) (fun c69 => ?_)
          · omega
          · refine fo_iload_n C dX7_command_34 1 rfl rfl 35 rfl ?_
            refine fo_bipush C dX7_command_35 (nI 109) kb_109 37 rfl ?_
            refine fo_icmp_eq C dX7_command_37 52 (by decide) 40 rfl (fun c70 => ?_) (fun c70 => ?_)
            · exact absurd c70 (fm_nn (by decide))
            · refine fo_iload_n C dX7_command_40 1 rfl rfl 41 rfl ?_
              refine fo_bipush C dX7_command_41 (nI 100) kb_100 43 rfl ?_
              refine fo_icmp_eq C dX7_command_43 52 (by decide) 46 rfl (fun c71 => ?_) (fun c71 => ?_)
              · exact absurd c71 (fm_nn (by decide))
              · refine fo_iload_n C dX7_command_46 1 rfl rfl 47 rfl ?_
                refine fo_bipush C dX7_command_47 (nI 115) kb_115 49 rfl ?_
                refine fo_icmp_ne C dX7_command_49 58 (by decide) 52 rfl (fun c72 => ?_) (fun c72 => ?_)
                · refine fo_iload_n C dX7_command_58 2 rfl rfl 59 rfl ?_
                  refine fo_iconst C dX7_command_59 (nI 1) ki_1 60 rfl ?_
                  refine fo_ncmp_ne C (by omega) (by omega) dX7_command_60 99 (by decide) 63 rfl (fun c73 => ?_) (fun c73 => ?_)
                  · have hpc : fq_pc n t Cs.length p = (none, e) := by rw [fq_pc_fx, hwd]; rfl
                    refine fo_aload_n C dX7_command_99 3 rfl rfl 100 rfl ?_
                    refine fo_get C dX7_command_100 fK9 (by decide : fo_k 616 = 9) (by decide) 23 (by decide) fl_X7_81 (v := .int (fo_b (true))) (congrArg (fun x => some (Value.int x)) (v65.2.2.2.2.1)) 103 rfl ?_
                    refine fo_bif_eq C dX7_command_103 107 (by decide) 106 rfl (fun c74 => ?_) (fun c74 => ?_)
                    · exact absurd c74 (by decide)
                    · exact fin dX7_command_106 ((by rw [hpc]; exact ⟨⟨fun _ => v65, fun l h => by cases h⟩, q67.c, rfl, rfl, rfl⟩))
                  · omega
                · exact absurd c72 (fm_nn (by decide))
      · have hwd : fq_wd n t (fo_wd (fm_fx n t p)) p = (true, e + 1) := by rw [fm_wdW _ hx4, fq_wd_app, hz]; show (if fq_at n t e 32 = true then _ else _) = _; rw [hs]; rfl
        have hel := (fq_at_in hs).1
        refine fo_aload_n C dX7_command_0 0 rfl rfl 1 rfl ?_
        refine fo_qvi C dX7_command_1 (mX7_word hV) lv_X7_250 (by decide : fo_k 616 = 9) rfl (by decide) rfl ⟨Nat.le_of_ble_eq_true rfl, Nat.le_of_ble_eq_true rfl⟩ ⟨Nat.le_of_ble_eq_true rfl, Nat.le_of_ble_eq_true rfl⟩ [] rfl (Nat.le_of_ble_eq_true rfl) 4 rfl (fun r75 I76 D77 J78 X79 p80 => ?_)
        obtain ⟨hr, v81, f82, z3, z4, z5⟩ := p80
        obtain rfl := z3.symm
        obtain rfl := z4.symm
        obtain rfl := z5.symm
        rw [hz] at hr v81
        rw [hF] at hr
        obtain rfl : r75 = nI 0 := hr
        replace v81 : fm_V I76 n t false e := v81
        have q83 := hq0.trans (f82).q
        have u84 := hU.pf f82
        refine fo_istore_n C dX7_command_4 rfl [(1, .int (nI 0)), (0, .ref (Λ.2.2.1 616))] rfl (by decide) 5 rfl ?_
        refine fo_aload_n C dX7_command_5 1 rfl rfl 6 rfl ?_
        refine fo_bipush C dX7_command_6 (nI 32) kb_32 8 rfl ?_
        refine fo_qvv C dX7_command_8 (mX7_expect (c := 32) (by decide) v81) lv_X7_253 (by decide : fo_k 616 = 9) rfl (by decide) rfl ⟨Nat.le_of_ble_eq_true rfl, Nat.le_of_ble_eq_true rfl⟩ ⟨Nat.le_of_ble_eq_true rfl, Nat.le_of_ble_eq_true rfl⟩ [] rfl (Nat.le_of_ble_eq_true rfl) 11 rfl (fun I86 D87 J88 X89 p90 => ?_)
        obtain ⟨v91, f92, z3, z4, z5⟩ := p90
        obtain rfl := z3.symm
        obtain rfl := z4.symm
        obtain rfl := z5.symm
        rw [hs] at v91
        replace v91 : fm_V I86 n t false (e + 1) := v91
        have q93 := q83.trans (f92).q
        have u94 := u84.pf f92
        refine fo_iload_n C dX7_command_11 0 rfl rfl 12 rfl ?_
        refine fo_nif_ne C (by omega) dX7_command_12 22 (by decide) 15 rfl (fun c95 => ?_) (fun c95 => ?_)
        · omega
        · rcases hkc : (decide (e + 1 < n) && fo_kc (t (e + 1))) with _ | _
          · skip
            refine fo_aload_n C dX7_command_15 1 rfl rfl 16 rfl ?_
            refine fo_qvi C dX7_command_16 (mX7_prophetKind_n hkc v91) lv_X7_256 (by decide : fo_k 616 = 9) rfl (by decide) rfl ⟨Nat.le_of_ble_eq_true rfl, Nat.le_of_ble_eq_true rfl⟩ ⟨Nat.le_of_ble_eq_true rfl, Nat.le_of_ble_eq_true rfl⟩ [] rfl (Nat.le_of_ble_eq_true rfl) 19 rfl (fun r96 I97 D98 J99 X100 p101 => ?_)
            obtain ⟨rfl, v102, f103, z3, z4, z5⟩ := p101
            obtain rfl := z3.symm
            obtain rfl := z4.symm
            obtain rfl := z5.symm
            have q104 := q93.trans (f103).q
            have u105 := u94.pf f103
            refine fo_goto C dX7_command_19 27 (by decide) ?_
            refine fo_istore_n C dX7_command_27 rfl [(2, .int (fm_mk n t (e + 1))), (1, .int (nI 0)), (0, .ref (Λ.2.2.1 616))] rfl (by decide) 28 rfl ?_
            refine fo_iconst C dX7_command_28 (nI 1) ki_1 29 rfl ?_
            refine fo_istore_n C dX7_command_29 rfl [(3, .int (nI 1)), (2, .int (fm_mk n t (e + 1))), (1, .int (nI 0)), (0, .ref (Λ.2.2.1 616))] rfl (by decide) 30 rfl ?_
            refine fo_iload_n C dX7_command_30 2 rfl rfl 31 rfl ?_
            refine fo_nif_ne C (by omega) dX7_command_31 58 (by decide) 34 rfl (fun c106 => ?_) (fun c106 => ?_)
            · omega
            · refine fo_iload_n C dX7_command_34 1 rfl rfl 35 rfl ?_
              refine fo_bipush C dX7_command_35 (nI 109) kb_109 37 rfl ?_
              refine fo_icmp_eq C dX7_command_37 52 (by decide) 40 rfl (fun c107 => ?_) (fun c107 => ?_)
              · exact absurd c107 (fm_mk_kc ht9 hkc (by decide))
              · refine fo_iload_n C dX7_command_40 1 rfl rfl 41 rfl ?_
                refine fo_bipush C dX7_command_41 (nI 100) kb_100 43 rfl ?_
                refine fo_icmp_eq C dX7_command_43 52 (by decide) 46 rfl (fun c108 => ?_) (fun c108 => ?_)
                · exact absurd c108 (fm_mk_kc ht9 hkc (by decide))
                · refine fo_iload_n C dX7_command_46 1 rfl rfl 47 rfl ?_
                  refine fo_bipush C dX7_command_47 (nI 115) kb_115 49 rfl ?_
                  refine fo_icmp_ne C dX7_command_49 58 (by decide) 52 rfl (fun c109 => ?_) (fun c109 => ?_)
                  · refine fo_iload_n C dX7_command_58 2 rfl rfl 59 rfl ?_
                    refine fo_iconst C dX7_command_59 (nI 1) ki_1 60 rfl ?_
                    refine fo_ncmp_ne C (by omega) (by omega) dX7_command_60 99 (by decide) 63 rfl (fun c110 => ?_) (fun c110 => ?_)
                    · have hpc : fq_pc n t Cs.length p = (none, e + 1) := by rw [fq_pc_fx, hwd, hF]; show fq_pp n t Cs.length (e + 1) = _; exact fq_pp_n hkc
                      refine fo_aload_n C dX7_command_99 3 rfl rfl 100 rfl ?_
                      refine fo_get C dX7_command_100 fK9 (by decide : fo_k 616 = 9) (by decide) 23 (by decide) fl_X7_81 (v := .int (fo_b (true))) (congrArg (fun x => some (Value.int x)) (v102.2.2.2.2.1)) 103 rfl ?_
                      refine fo_bif_eq C dX7_command_103 107 (by decide) 106 rfl (fun c111 => ?_) (fun c111 => ?_)
                      · exact absurd c111 (by decide)
                      · exact fin dX7_command_106 ((by rw [hpc]; exact ⟨⟨fun _ => v102, fun l h => by cases h⟩, q104.c, rfl, rfl, rfl⟩))
                    · omega
                  · exact absurd c109 (fm_mk_kc ht9 hkc (by decide))
          · have hkq := (Bool.and_eq_true _ _).mp hkc
            have hqn : e + 1 < n := of_decide_eq_true hkq.1
            have hk5 := of_decide_eq_true hkq.2
            have hq65 := ht9 _ hqn
            refine fo_aload_n C dX7_command_15 1 rfl rfl 16 rfl ?_
            refine fo_qvi C dX7_command_16 (mX7_prophetKind hkc v91) lv_X7_256 (by decide : fo_k 616 = 9) rfl (by decide) rfl ⟨Nat.le_of_ble_eq_true rfl, Nat.le_of_ble_eq_true rfl⟩ ⟨Nat.le_of_ble_eq_true rfl, Nat.le_of_ble_eq_true rfl⟩ [] rfl (Nat.le_of_ble_eq_true rfl) 19 rfl (fun r112 I113 D114 J115 X116 p117 => ?_)
            obtain ⟨rfl, v118, f119, z3, z4, z5⟩ := p117
            obtain rfl := z3.symm
            obtain rfl := z4.symm
            obtain rfl := z5.symm
            have q120 := q93.trans (f119).q
            have u121 := u94.pf f119
            refine fo_goto C dX7_command_19 27 (by decide) ?_
            refine fo_istore_n C dX7_command_27 rfl [(2, .int (nI (t (e + 1)))), (1, .int (nI 0)), (0, .ref (Λ.2.2.1 616))] rfl (by decide) 28 rfl ?_
            refine fo_iconst C dX7_command_28 (nI 1) ki_1 29 rfl ?_
            refine fo_istore_n C dX7_command_29 rfl [(3, .int (nI 1)), (2, .int (nI (t (e + 1)))), (1, .int (nI 0)), (0, .ref (Λ.2.2.1 616))] rfl (by decide) 30 rfl ?_
            refine fo_iload_n C dX7_command_30 2 rfl rfl 31 rfl ?_
            refine fo_nif_ne C (by omega) dX7_command_31 58 (by decide) 34 rfl (fun c122 => ?_) (fun c122 => ?_)
            · omega
            · refine fo_iload_n C dX7_command_34 1 rfl rfl 35 rfl ?_
              refine fo_bipush C dX7_command_35 (nI 109) kb_109 37 rfl ?_
              refine fo_ncmp_eq C (by omega) (by omega) dX7_command_37 52 (by decide) 40 rfl (fun c123 => ?_) (fun c123 => ?_)
              · rcases hd2 : fq_dg n t (e + 1 + 1) with _ | _
                · skip
                  refine fo_aload_n C dX7_command_52 3 rfl rfl 53 rfl ?_
                  refine fo_iconst C dX7_command_53 (nI 1) ki_1 54 rfl ?_
                  refine fo_qvi C dX7_command_54 (mX7_number_n (m := 1) (by decide) (by decide) hd2 v118) lv_X7_247 (by decide : fo_k 616 = 9) rfl (by decide) rfl ⟨Nat.le_of_ble_eq_true rfl, Nat.le_of_ble_eq_true rfl⟩ ⟨Nat.le_of_ble_eq_true rfl, Nat.le_of_ble_eq_true rfl⟩ [] rfl (Nat.le_of_ble_eq_true rfl) 57 rfl (fun r124 I125 D126 J127 X128 p129 => ?_)
                  obtain ⟨rfl, v130, f131, z3, z4, z5⟩ := p129
                  obtain rfl := z3.symm
                  obtain rfl := z4.symm
                  obtain rfl := z5.symm
                  have q132 := q120.trans (f131).q
                  have u133 := u121.pf f131
                  refine fo_istore_n C dX7_command_57 rfl [(3, .int (nI 0)), (2, .int (nI (t (e + 1)))), (1, .int (nI 0)), (0, .ref (Λ.2.2.1 616))] rfl (by decide) 58 rfl ?_
                  refine fo_iload_n C dX7_command_58 2 rfl rfl 59 rfl ?_
                  refine fo_iconst C dX7_command_59 (nI 1) ki_1 60 rfl ?_
                  refine fo_ncmp_ne C (by omega) (by omega) dX7_command_60 99 (by decide) 63 rfl (fun c134 => ?_) (fun c134 => ?_)
                  · have hpc : fq_pc n t Cs.length p = (none, e + 1 + 1) := by rw [fq_pc_fx, hwd, hF]; show fq_pp n t Cs.length (e + 1) = _; rw [fq_pp_k hqn (by omega), hd2]; rfl
                    refine fo_aload_n C dX7_command_99 3 rfl rfl 100 rfl ?_
                    refine fo_get C dX7_command_100 fK9 (by decide : fo_k 616 = 9) (by decide) 23 (by decide) fl_X7_81 (v := .int (fo_b (true))) (congrArg (fun x => some (Value.int x)) (v130.2.2.2.2.1)) 103 rfl ?_
                    refine fo_bif_eq C dX7_command_103 107 (by decide) 106 rfl (fun c135 => ?_) (fun c135 => ?_)
                    · exact absurd c135 (by decide)
                    · exact fin dX7_command_106 ((by rw [hpc]; exact ⟨⟨fun _ => v130, fun l h => by cases h⟩, q132.c, rfl, rfl, rfl⟩))
                  · omega
                · have hd2i := fq_dg_in hd2
                  refine fo_aload_n C dX7_command_52 3 rfl rfl 53 rfl ?_
                  refine fo_iconst C dX7_command_53 (nI 1) ki_1 54 rfl ?_
                  refine fo_qvi C dX7_command_54 (mX7_number (m := 1) (by decide) (by decide) hd2 v118) lv_X7_247 (by decide : fo_k 616 = 9) rfl (by decide) rfl ⟨Nat.le_of_ble_eq_true rfl, Nat.le_of_ble_eq_true rfl⟩ ⟨Nat.le_of_ble_eq_true rfl, Nat.le_of_ble_eq_true rfl⟩ [] rfl (Nat.le_of_ble_eq_true rfl) 57 rfl (fun r136 I137 D138 J139 X140 p141 => ?_)
                  obtain ⟨rfl, v142, f143, z3, z4, z5⟩ := p141
                  obtain rfl := z3.symm
                  obtain rfl := z4.symm
                  obtain rfl := z5.symm
                  rw [hd2, fq_nm_1 hd2] at v142
                  replace v142 : fm_V I137 n t false (e + 1 + 1 + 1) := v142
                  rw [fq_nm_1 hd2]
                  have q144 := q120.trans (f143).q
                  have u145 := u121.pf f143
                  refine fo_istore_n C dX7_command_57 rfl [(3, .int (nI (t (e + 1 + 1) - 48))), (2, .int (nI (t (e + 1)))), (1, .int (nI 0)), (0, .ref (Λ.2.2.1 616))] rfl (by decide) 58 rfl ?_
                  refine fo_iload_n C dX7_command_58 2 rfl rfl 59 rfl ?_
                  refine fo_iconst C dX7_command_59 (nI 1) ki_1 60 rfl ?_
                  refine fo_ncmp_ne C (by omega) (by omega) dX7_command_60 99 (by decide) 63 rfl (fun c146 => ?_) (fun c146 => ?_)
                  · have hpc : fq_pc n t Cs.length p = (some [(112, t (e + 1), t (e + 1 + 1) - 48, Cs.length)], e + 1 + 2) := by rw [fq_pc_fx, hwd, hF]; show fq_pp n t Cs.length (e + 1) = _; rw [fq_pp_k hqn (by omega), hd2]; rfl
                    refine fo_aload_n C dX7_command_99 3 rfl rfl 100 rfl ?_
                    refine fo_get C dX7_command_100 fK9 (by decide : fo_k 616 = 9) (by decide) 23 (by decide) fl_X7_81 (v := .int (fo_b (false))) (congrArg (fun x => some (Value.int x)) (v142.2.2.2.2.1)) 103 rfl ?_
                    refine fo_bif_eq C dX7_command_103 107 (by decide) 106 rfl (fun c147 => ?_) (fun c147 => ?_)
                    · refine fo_aload_n C dX7_command_107 3 rfl rfl 108 rfl ?_
                      refine fo_get C dX7_command_108 fK9 (by decide : fo_k 616 = 9) (by decide) 13 (by decide) fl_X7_51 (v := .ref (Λ.2.2.1 624)) rfl 111 rfl ?_
                      refine fo_aload_n C dX7_command_111 3 rfl rfl 112 rfl ?_
                      refine fo_get C dX7_command_112 fK9 (by decide : fo_k 616 = 9) (by decide) 21 (by decide) fl_X7_75 (v := .int (nI (Cs.length))) (congrArg (fun x => some (Value.int x)) ((q144.2 21 (by decide) (by decide) (by decide)).trans hC.1)) 115 rfl ?_
                      refine fo_iload_n C dX7_command_115 2 rfl rfl 116 rfl ?_
                      refine fo_iast C dX7_command_116 (by decide : fo_k 624 = 20) (by rw [(show fo_n 624 = 32 from rfl)]; omega) 117 rfl ?_
                      refine fo_aload_n C dX7_command_117 3 rfl rfl 118 rfl ?_
                      refine fo_get C dX7_command_118 fK9 (by decide : fo_k 616 = 9) (by decide) 14 (by decide) fl_X7_54 (v := .ref (Λ.2.2.1 625)) rfl 121 rfl ?_
                      refine fo_aload_n C dX7_command_121 3 rfl rfl 122 rfl ?_
                      refine fo_get C dX7_command_122 fK9 (by decide : fo_k 616 = 9) (by decide) 21 (by decide) fl_X7_75 (v := .int (nI (Cs.length))) (congrArg (fun x => some (Value.int x)) ((by rw [fo_rn _ _ (by decide)]; exact (q144.2 21 (by decide) (by decide) (by decide)).trans hC.1))) 125 rfl ?_
                      refine fo_iload_n C dX7_command_125 1 rfl rfl 126 rfl ?_
                      refine fo_iast C dX7_command_126 (by decide : fo_k 625 = 20) (by rw [(show fo_n 625 = 32 from rfl)]; omega) 127 rfl ?_
                      refine fo_aload_n C dX7_command_127 3 rfl rfl 128 rfl ?_
                      refine fo_get C dX7_command_128 fK9 (by decide : fo_k 616 = 9) (by decide) 15 (by decide) fl_X7_57 (v := .ref (Λ.2.2.1 626)) rfl 131 rfl ?_
                      refine fo_aload_n C dX7_command_131 3 rfl rfl 132 rfl ?_
                      refine fo_get C dX7_command_132 fK9 (by decide : fo_k 616 = 9) (by decide) 21 (by decide) fl_X7_75 (v := .int (nI (Cs.length))) (congrArg (fun x => some (Value.int x)) ((by rw [fo_rn _ _ (by decide), fo_rn _ _ (by decide)]; exact (q144.2 21 (by decide) (by decide) (by decide)).trans hC.1))) 135 rfl ?_
                      refine fo_iload_n C dX7_command_135 0 rfl rfl 136 rfl ?_
                      refine fo_iast C dX7_command_136 (by decide : fo_k 626 = 20) (by rw [(show fo_n 626 = 32 from rfl)]; omega) 137 rfl ?_
                      refine fo_aload_n C dX7_command_137 3 rfl rfl 138 rfl ?_
                      refine fo_get C dX7_command_138 fK9 (by decide : fo_k 616 = 9) (by decide) 16 (by decide) fl_X7_60 (v := .ref (Λ.2.2.1 627)) rfl 141 rfl ?_
                      refine fo_aload_n C dX7_command_141 3 rfl rfl 142 rfl ?_
                      refine fo_get C dX7_command_142 fK9 (by decide : fo_k 616 = 9) (by decide) 21 (by decide) fl_X7_75 (v := .int (nI (Cs.length))) (congrArg (fun x => some (Value.int x)) ((by rw [fo_rn _ _ (by decide), fo_rn _ _ (by decide), fo_rn _ _ (by decide)]; exact (q144.2 21 (by decide) (by decide) (by decide)).trans hC.1))) 145 rfl ?_
                      refine fo_aload_n C dX7_command_145 3 rfl rfl 146 rfl ?_
                      refine fo_get C dX7_command_146 fK9 (by decide : fo_k 616 = 9) (by decide) 22 (by decide) fl_X7_78 (v := .int (nI ((fm_fv Cs ++ []).length))) (congrArg (fun x => some (Value.int x)) ((by rw [fo_rn _ _ (by decide), fo_rn _ _ (by decide), fo_rn _ _ (by decide)]; exact u145.1))) 149 rfl ?_
                      refine fo_iast C dX7_command_149 (by decide : fo_k 627 = 20) (by rw [(show fo_n 627 = 32 from rfl)]; omega) 150 rfl ?_
                      refine fo_aload_n C dX7_command_150 3 rfl rfl 151 rfl ?_
                      refine fo_dup C dX7_command_151 rfl 152 rfl ?_
                      refine fo_get C dX7_command_152 fK9 (by decide : fo_k 616 = 9) (by decide) 21 (by decide) fl_X7_75 (v := .int (nI (Cs.length))) (congrArg (fun x => some (Value.int x)) ((by rw [fo_rn _ _ (by decide), fo_rn _ _ (by decide), fo_rn _ _ (by decide), fo_rn _ _ (by decide)]; exact (q144.2 21 (by decide) (by decide) (by decide)).trans hC.1))) 155 rfl ?_
                      refine fo_iconst C dX7_command_155 (nI 1) ki_1 156 rfl ?_
                      refine fo_iadd C dX7_command_156 (nI (Cs.length + 1)) (nI_add _ _) 157 rfl ?_
                      refine fo_put C dX7_command_157 fK9 (by decide : fo_k 616 = 9) (by decide) 21 (by decide) fl_X7_75 rfl rfl rfl rfl (Nat.le_of_ble_eq_true rfl) 160 rfl ?_
                      exact fin dX7_command_160 ((by rw [hpc]; exact ⟨⟨fun h => (by cases h), fun l h => (by cases h; exact ⟨(0, t (e + 1), t (e + 1 + 1) - 48, []), rfl, fm_ck_of (by decide) (by omega) (by omega) (fun x hx => (by cases hx)) (fun _ => hkq.2), v142.to v142.2.1 (by rw [fo_rs, pk_un (by decide), fo_rn _ _ (by decide), fo_rn _ _ (by decide), fo_rn _ _ (by decide), fo_rn _ _ (by decide)]) (by rw [fo_rs, pk_un (by decide), fo_rn _ _ (by decide), fo_rn _ _ (by decide), fo_rn _ _ (by decide), fo_rn _ _ (by decide)]; exact v142.2.2.2.1) (by rw [fo_rs, pk_un (by decide), fo_rn _ _ (by decide), fo_rn _ _ (by decide), fo_rn _ _ (by decide), fo_rn _ _ (by decide)]; exact v142.2.2.2.2.1) rfl, hC.add (vs := []) q144 (by rw [fo_rs, pk_us]) (by rw [fo_rn _ _ (by decide), fo_rn _ _ (by decide), fo_rn _ _ (by decide), fo_rn _ _ (by decide), fo_rs]) (by rw [fo_rn _ _ (by decide), fo_rn _ _ (by decide), fo_rn _ _ (by decide), fo_rs, fo_rn _ _ (by decide)]) (by rw [fo_rn _ _ (by decide), fo_rn _ _ (by decide), fo_rs, fo_rn _ _ (by decide), fo_rn _ _ (by decide)]) (by rw [fo_rn _ _ (by decide), fo_rs, fo_rn _ _ (by decide), fo_rn _ _ (by decide), fo_rn _ _ (by decide)]), (by rw [fm_fv_add]; exact ⟨(by rw [fo_rs, pk_un (by decide), fo_rn _ _ (by decide), fo_rn _ _ (by decide), fo_rn _ _ (by decide), fo_rn _ _ (by decide)]; exact u145.1), fun j x hj => by rw [fo_rn _ _ (by decide), fo_rn _ _ (by decide), fo_rn _ _ (by decide), fo_rn _ _ (by decide), fo_rn _ _ (by decide)]; exact u145.2 j x hj⟩), (by show p + 2 + 0 ≤ _; omega)⟩)⟩, q144.c.trans ⟨fun b b1 b2 => by rw [fo_rn _ _ b1, fo_rn _ _ (by omega), fo_rn _ _ (by omega), fo_rn _ _ (by omega), fo_rn _ _ (by omega)], fun j hj => by rw [fo_rs, pk_un (by omega), fo_rn _ _ (by decide), fo_rn _ _ (by decide), fo_rn _ _ (by decide), fo_rn _ _ (by decide)]⟩, rfl, rfl, rfl⟩))
                    · exact absurd c147 (by decide)
                  · omega
              · refine fo_iload_n C dX7_command_40 1 rfl rfl 41 rfl ?_
                refine fo_bipush C dX7_command_41 (nI 100) kb_100 43 rfl ?_
                refine fo_ncmp_eq C (by omega) (by omega) dX7_command_43 52 (by decide) 46 rfl (fun c148 => ?_) (fun c148 => ?_)
                · rcases hd2 : fq_dg n t (e + 1 + 1) with _ | _
                  · skip
                    refine fo_aload_n C dX7_command_52 3 rfl rfl 53 rfl ?_
                    refine fo_iconst C dX7_command_53 (nI 1) ki_1 54 rfl ?_
                    refine fo_qvi C dX7_command_54 (mX7_number_n (m := 1) (by decide) (by decide) hd2 v118) lv_X7_247 (by decide : fo_k 616 = 9) rfl (by decide) rfl ⟨Nat.le_of_ble_eq_true rfl, Nat.le_of_ble_eq_true rfl⟩ ⟨Nat.le_of_ble_eq_true rfl, Nat.le_of_ble_eq_true rfl⟩ [] rfl (Nat.le_of_ble_eq_true rfl) 57 rfl (fun r149 I150 D151 J152 X153 p154 => ?_)
                    obtain ⟨rfl, v155, f156, z3, z4, z5⟩ := p154
                    obtain rfl := z3.symm
                    obtain rfl := z4.symm
                    obtain rfl := z5.symm
                    have q157 := q120.trans (f156).q
                    have u158 := u121.pf f156
                    refine fo_istore_n C dX7_command_57 rfl [(3, .int (nI 0)), (2, .int (nI (t (e + 1)))), (1, .int (nI 0)), (0, .ref (Λ.2.2.1 616))] rfl (by decide) 58 rfl ?_
                    refine fo_iload_n C dX7_command_58 2 rfl rfl 59 rfl ?_
                    refine fo_iconst C dX7_command_59 (nI 1) ki_1 60 rfl ?_
                    refine fo_ncmp_ne C (by omega) (by omega) dX7_command_60 99 (by decide) 63 rfl (fun c159 => ?_) (fun c159 => ?_)
                    · have hpc : fq_pc n t Cs.length p = (none, e + 1 + 1) := by rw [fq_pc_fx, hwd, hF]; show fq_pp n t Cs.length (e + 1) = _; rw [fq_pp_k hqn (by omega), hd2]; rfl
                      refine fo_aload_n C dX7_command_99 3 rfl rfl 100 rfl ?_
                      refine fo_get C dX7_command_100 fK9 (by decide : fo_k 616 = 9) (by decide) 23 (by decide) fl_X7_81 (v := .int (fo_b (true))) (congrArg (fun x => some (Value.int x)) (v155.2.2.2.2.1)) 103 rfl ?_
                      refine fo_bif_eq C dX7_command_103 107 (by decide) 106 rfl (fun c160 => ?_) (fun c160 => ?_)
                      · exact absurd c160 (by decide)
                      · exact fin dX7_command_106 ((by rw [hpc]; exact ⟨⟨fun _ => v155, fun l h => by cases h⟩, q157.c, rfl, rfl, rfl⟩))
                    · omega
                  · have hd2i := fq_dg_in hd2
                    refine fo_aload_n C dX7_command_52 3 rfl rfl 53 rfl ?_
                    refine fo_iconst C dX7_command_53 (nI 1) ki_1 54 rfl ?_
                    refine fo_qvi C dX7_command_54 (mX7_number (m := 1) (by decide) (by decide) hd2 v118) lv_X7_247 (by decide : fo_k 616 = 9) rfl (by decide) rfl ⟨Nat.le_of_ble_eq_true rfl, Nat.le_of_ble_eq_true rfl⟩ ⟨Nat.le_of_ble_eq_true rfl, Nat.le_of_ble_eq_true rfl⟩ [] rfl (Nat.le_of_ble_eq_true rfl) 57 rfl (fun r161 I162 D163 J164 X165 p166 => ?_)
                    obtain ⟨rfl, v167, f168, z3, z4, z5⟩ := p166
                    obtain rfl := z3.symm
                    obtain rfl := z4.symm
                    obtain rfl := z5.symm
                    rw [hd2, fq_nm_1 hd2] at v167
                    replace v167 : fm_V I162 n t false (e + 1 + 1 + 1) := v167
                    rw [fq_nm_1 hd2]
                    have q169 := q120.trans (f168).q
                    have u170 := u121.pf f168
                    refine fo_istore_n C dX7_command_57 rfl [(3, .int (nI (t (e + 1 + 1) - 48))), (2, .int (nI (t (e + 1)))), (1, .int (nI 0)), (0, .ref (Λ.2.2.1 616))] rfl (by decide) 58 rfl ?_
                    refine fo_iload_n C dX7_command_58 2 rfl rfl 59 rfl ?_
                    refine fo_iconst C dX7_command_59 (nI 1) ki_1 60 rfl ?_
                    refine fo_ncmp_ne C (by omega) (by omega) dX7_command_60 99 (by decide) 63 rfl (fun c171 => ?_) (fun c171 => ?_)
                    · have hpc : fq_pc n t Cs.length p = (some [(112, t (e + 1), t (e + 1 + 1) - 48, Cs.length)], e + 1 + 2) := by rw [fq_pc_fx, hwd, hF]; show fq_pp n t Cs.length (e + 1) = _; rw [fq_pp_k hqn (by omega), hd2]; rfl
                      refine fo_aload_n C dX7_command_99 3 rfl rfl 100 rfl ?_
                      refine fo_get C dX7_command_100 fK9 (by decide : fo_k 616 = 9) (by decide) 23 (by decide) fl_X7_81 (v := .int (fo_b (false))) (congrArg (fun x => some (Value.int x)) (v167.2.2.2.2.1)) 103 rfl ?_
                      refine fo_bif_eq C dX7_command_103 107 (by decide) 106 rfl (fun c172 => ?_) (fun c172 => ?_)
                      · refine fo_aload_n C dX7_command_107 3 rfl rfl 108 rfl ?_
                        refine fo_get C dX7_command_108 fK9 (by decide : fo_k 616 = 9) (by decide) 13 (by decide) fl_X7_51 (v := .ref (Λ.2.2.1 624)) rfl 111 rfl ?_
                        refine fo_aload_n C dX7_command_111 3 rfl rfl 112 rfl ?_
                        refine fo_get C dX7_command_112 fK9 (by decide : fo_k 616 = 9) (by decide) 21 (by decide) fl_X7_75 (v := .int (nI (Cs.length))) (congrArg (fun x => some (Value.int x)) ((q169.2 21 (by decide) (by decide) (by decide)).trans hC.1)) 115 rfl ?_
                        refine fo_iload_n C dX7_command_115 2 rfl rfl 116 rfl ?_
                        refine fo_iast C dX7_command_116 (by decide : fo_k 624 = 20) (by rw [(show fo_n 624 = 32 from rfl)]; omega) 117 rfl ?_
                        refine fo_aload_n C dX7_command_117 3 rfl rfl 118 rfl ?_
                        refine fo_get C dX7_command_118 fK9 (by decide : fo_k 616 = 9) (by decide) 14 (by decide) fl_X7_54 (v := .ref (Λ.2.2.1 625)) rfl 121 rfl ?_
                        refine fo_aload_n C dX7_command_121 3 rfl rfl 122 rfl ?_
                        refine fo_get C dX7_command_122 fK9 (by decide : fo_k 616 = 9) (by decide) 21 (by decide) fl_X7_75 (v := .int (nI (Cs.length))) (congrArg (fun x => some (Value.int x)) ((by rw [fo_rn _ _ (by decide)]; exact (q169.2 21 (by decide) (by decide) (by decide)).trans hC.1))) 125 rfl ?_
                        refine fo_iload_n C dX7_command_125 1 rfl rfl 126 rfl ?_
                        refine fo_iast C dX7_command_126 (by decide : fo_k 625 = 20) (by rw [(show fo_n 625 = 32 from rfl)]; omega) 127 rfl ?_
                        refine fo_aload_n C dX7_command_127 3 rfl rfl 128 rfl ?_
                        refine fo_get C dX7_command_128 fK9 (by decide : fo_k 616 = 9) (by decide) 15 (by decide) fl_X7_57 (v := .ref (Λ.2.2.1 626)) rfl 131 rfl ?_
                        refine fo_aload_n C dX7_command_131 3 rfl rfl 132 rfl ?_
                        refine fo_get C dX7_command_132 fK9 (by decide : fo_k 616 = 9) (by decide) 21 (by decide) fl_X7_75 (v := .int (nI (Cs.length))) (congrArg (fun x => some (Value.int x)) ((by rw [fo_rn _ _ (by decide), fo_rn _ _ (by decide)]; exact (q169.2 21 (by decide) (by decide) (by decide)).trans hC.1))) 135 rfl ?_
                        refine fo_iload_n C dX7_command_135 0 rfl rfl 136 rfl ?_
                        refine fo_iast C dX7_command_136 (by decide : fo_k 626 = 20) (by rw [(show fo_n 626 = 32 from rfl)]; omega) 137 rfl ?_
                        refine fo_aload_n C dX7_command_137 3 rfl rfl 138 rfl ?_
                        refine fo_get C dX7_command_138 fK9 (by decide : fo_k 616 = 9) (by decide) 16 (by decide) fl_X7_60 (v := .ref (Λ.2.2.1 627)) rfl 141 rfl ?_
                        refine fo_aload_n C dX7_command_141 3 rfl rfl 142 rfl ?_
                        refine fo_get C dX7_command_142 fK9 (by decide : fo_k 616 = 9) (by decide) 21 (by decide) fl_X7_75 (v := .int (nI (Cs.length))) (congrArg (fun x => some (Value.int x)) ((by rw [fo_rn _ _ (by decide), fo_rn _ _ (by decide), fo_rn _ _ (by decide)]; exact (q169.2 21 (by decide) (by decide) (by decide)).trans hC.1))) 145 rfl ?_
                        refine fo_aload_n C dX7_command_145 3 rfl rfl 146 rfl ?_
                        refine fo_get C dX7_command_146 fK9 (by decide : fo_k 616 = 9) (by decide) 22 (by decide) fl_X7_78 (v := .int (nI ((fm_fv Cs ++ []).length))) (congrArg (fun x => some (Value.int x)) ((by rw [fo_rn _ _ (by decide), fo_rn _ _ (by decide), fo_rn _ _ (by decide)]; exact u170.1))) 149 rfl ?_
                        refine fo_iast C dX7_command_149 (by decide : fo_k 627 = 20) (by rw [(show fo_n 627 = 32 from rfl)]; omega) 150 rfl ?_
                        refine fo_aload_n C dX7_command_150 3 rfl rfl 151 rfl ?_
                        refine fo_dup C dX7_command_151 rfl 152 rfl ?_
                        refine fo_get C dX7_command_152 fK9 (by decide : fo_k 616 = 9) (by decide) 21 (by decide) fl_X7_75 (v := .int (nI (Cs.length))) (congrArg (fun x => some (Value.int x)) ((by rw [fo_rn _ _ (by decide), fo_rn _ _ (by decide), fo_rn _ _ (by decide), fo_rn _ _ (by decide)]; exact (q169.2 21 (by decide) (by decide) (by decide)).trans hC.1))) 155 rfl ?_
                        refine fo_iconst C dX7_command_155 (nI 1) ki_1 156 rfl ?_
                        refine fo_iadd C dX7_command_156 (nI (Cs.length + 1)) (nI_add _ _) 157 rfl ?_
                        refine fo_put C dX7_command_157 fK9 (by decide : fo_k 616 = 9) (by decide) 21 (by decide) fl_X7_75 rfl rfl rfl rfl (Nat.le_of_ble_eq_true rfl) 160 rfl ?_
                        exact fin dX7_command_160 ((by rw [hpc]; exact ⟨⟨fun h => (by cases h), fun l h => (by cases h; exact ⟨(0, t (e + 1), t (e + 1 + 1) - 48, []), rfl, fm_ck_of (by decide) (by omega) (by omega) (fun x hx => (by cases hx)) (fun _ => hkq.2), v167.to v167.2.1 (by rw [fo_rs, pk_un (by decide), fo_rn _ _ (by decide), fo_rn _ _ (by decide), fo_rn _ _ (by decide), fo_rn _ _ (by decide)]) (by rw [fo_rs, pk_un (by decide), fo_rn _ _ (by decide), fo_rn _ _ (by decide), fo_rn _ _ (by decide), fo_rn _ _ (by decide)]; exact v167.2.2.2.1) (by rw [fo_rs, pk_un (by decide), fo_rn _ _ (by decide), fo_rn _ _ (by decide), fo_rn _ _ (by decide), fo_rn _ _ (by decide)]; exact v167.2.2.2.2.1) rfl, hC.add (vs := []) q169 (by rw [fo_rs, pk_us]) (by rw [fo_rn _ _ (by decide), fo_rn _ _ (by decide), fo_rn _ _ (by decide), fo_rn _ _ (by decide), fo_rs]) (by rw [fo_rn _ _ (by decide), fo_rn _ _ (by decide), fo_rn _ _ (by decide), fo_rs, fo_rn _ _ (by decide)]) (by rw [fo_rn _ _ (by decide), fo_rn _ _ (by decide), fo_rs, fo_rn _ _ (by decide), fo_rn _ _ (by decide)]) (by rw [fo_rn _ _ (by decide), fo_rs, fo_rn _ _ (by decide), fo_rn _ _ (by decide), fo_rn _ _ (by decide)]), (by rw [fm_fv_add]; exact ⟨(by rw [fo_rs, pk_un (by decide), fo_rn _ _ (by decide), fo_rn _ _ (by decide), fo_rn _ _ (by decide), fo_rn _ _ (by decide)]; exact u170.1), fun j x hj => by rw [fo_rn _ _ (by decide), fo_rn _ _ (by decide), fo_rn _ _ (by decide), fo_rn _ _ (by decide), fo_rn _ _ (by decide)]; exact u170.2 j x hj⟩), (by show p + 2 + 0 ≤ _; omega)⟩)⟩, q169.c.trans ⟨fun b b1 b2 => by rw [fo_rn _ _ b1, fo_rn _ _ (by omega), fo_rn _ _ (by omega), fo_rn _ _ (by omega), fo_rn _ _ (by omega)], fun j hj => by rw [fo_rs, pk_un (by omega), fo_rn _ _ (by decide), fo_rn _ _ (by decide), fo_rn _ _ (by decide), fo_rn _ _ (by decide)]⟩, rfl, rfl, rfl⟩))
                      · exact absurd c172 (by decide)
                    · omega
                · refine fo_iload_n C dX7_command_46 1 rfl rfl 47 rfl ?_
                  refine fo_bipush C dX7_command_47 (nI 115) kb_115 49 rfl ?_
                  refine fo_ncmp_ne C (by omega) (by omega) dX7_command_49 58 (by decide) 52 rfl (fun c173 => ?_) (fun c173 => ?_)
                  · refine fo_iload_n C dX7_command_58 2 rfl rfl 59 rfl ?_
                    refine fo_iconst C dX7_command_59 (nI 1) ki_1 60 rfl ?_
                    refine fo_ncmp_ne C (by omega) (by omega) dX7_command_60 99 (by decide) 63 rfl (fun c174 => ?_) (fun c174 => ?_)
                    · have hpc : fq_pc n t Cs.length p = (some [(112, t (e + 1), 1, Cs.length)], e + 1 + 1) := by rw [fq_pc_fx, hwd, hF]; show fq_pp n t Cs.length (e + 1) = _; exact fq_pp_o hqn (by omega)
                      refine fo_aload_n C dX7_command_99 3 rfl rfl 100 rfl ?_
                      refine fo_get C dX7_command_100 fK9 (by decide : fo_k 616 = 9) (by decide) 23 (by decide) fl_X7_81 (v := .int (fo_b (false))) (congrArg (fun x => some (Value.int x)) (v118.2.2.2.2.1)) 103 rfl ?_
                      refine fo_bif_eq C dX7_command_103 107 (by decide) 106 rfl (fun c175 => ?_) (fun c175 => ?_)
                      · refine fo_aload_n C dX7_command_107 3 rfl rfl 108 rfl ?_
                        refine fo_get C dX7_command_108 fK9 (by decide : fo_k 616 = 9) (by decide) 13 (by decide) fl_X7_51 (v := .ref (Λ.2.2.1 624)) rfl 111 rfl ?_
                        refine fo_aload_n C dX7_command_111 3 rfl rfl 112 rfl ?_
                        refine fo_get C dX7_command_112 fK9 (by decide : fo_k 616 = 9) (by decide) 21 (by decide) fl_X7_75 (v := .int (nI (Cs.length))) (congrArg (fun x => some (Value.int x)) ((q120.2 21 (by decide) (by decide) (by decide)).trans hC.1)) 115 rfl ?_
                        refine fo_iload_n C dX7_command_115 2 rfl rfl 116 rfl ?_
                        refine fo_iast C dX7_command_116 (by decide : fo_k 624 = 20) (by rw [(show fo_n 624 = 32 from rfl)]; omega) 117 rfl ?_
                        refine fo_aload_n C dX7_command_117 3 rfl rfl 118 rfl ?_
                        refine fo_get C dX7_command_118 fK9 (by decide : fo_k 616 = 9) (by decide) 14 (by decide) fl_X7_54 (v := .ref (Λ.2.2.1 625)) rfl 121 rfl ?_
                        refine fo_aload_n C dX7_command_121 3 rfl rfl 122 rfl ?_
                        refine fo_get C dX7_command_122 fK9 (by decide : fo_k 616 = 9) (by decide) 21 (by decide) fl_X7_75 (v := .int (nI (Cs.length))) (congrArg (fun x => some (Value.int x)) ((by rw [fo_rn _ _ (by decide)]; exact (q120.2 21 (by decide) (by decide) (by decide)).trans hC.1))) 125 rfl ?_
                        refine fo_iload_n C dX7_command_125 1 rfl rfl 126 rfl ?_
                        refine fo_iast C dX7_command_126 (by decide : fo_k 625 = 20) (by rw [(show fo_n 625 = 32 from rfl)]; omega) 127 rfl ?_
                        refine fo_aload_n C dX7_command_127 3 rfl rfl 128 rfl ?_
                        refine fo_get C dX7_command_128 fK9 (by decide : fo_k 616 = 9) (by decide) 15 (by decide) fl_X7_57 (v := .ref (Λ.2.2.1 626)) rfl 131 rfl ?_
                        refine fo_aload_n C dX7_command_131 3 rfl rfl 132 rfl ?_
                        refine fo_get C dX7_command_132 fK9 (by decide : fo_k 616 = 9) (by decide) 21 (by decide) fl_X7_75 (v := .int (nI (Cs.length))) (congrArg (fun x => some (Value.int x)) ((by rw [fo_rn _ _ (by decide), fo_rn _ _ (by decide)]; exact (q120.2 21 (by decide) (by decide) (by decide)).trans hC.1))) 135 rfl ?_
                        refine fo_iload_n C dX7_command_135 0 rfl rfl 136 rfl ?_
                        refine fo_iast C dX7_command_136 (by decide : fo_k 626 = 20) (by rw [(show fo_n 626 = 32 from rfl)]; omega) 137 rfl ?_
                        refine fo_aload_n C dX7_command_137 3 rfl rfl 138 rfl ?_
                        refine fo_get C dX7_command_138 fK9 (by decide : fo_k 616 = 9) (by decide) 16 (by decide) fl_X7_60 (v := .ref (Λ.2.2.1 627)) rfl 141 rfl ?_
                        refine fo_aload_n C dX7_command_141 3 rfl rfl 142 rfl ?_
                        refine fo_get C dX7_command_142 fK9 (by decide : fo_k 616 = 9) (by decide) 21 (by decide) fl_X7_75 (v := .int (nI (Cs.length))) (congrArg (fun x => some (Value.int x)) ((by rw [fo_rn _ _ (by decide), fo_rn _ _ (by decide), fo_rn _ _ (by decide)]; exact (q120.2 21 (by decide) (by decide) (by decide)).trans hC.1))) 145 rfl ?_
                        refine fo_aload_n C dX7_command_145 3 rfl rfl 146 rfl ?_
                        refine fo_get C dX7_command_146 fK9 (by decide : fo_k 616 = 9) (by decide) 22 (by decide) fl_X7_78 (v := .int (nI ((fm_fv Cs ++ []).length))) (congrArg (fun x => some (Value.int x)) ((by rw [fo_rn _ _ (by decide), fo_rn _ _ (by decide), fo_rn _ _ (by decide)]; exact u121.1))) 149 rfl ?_
                        refine fo_iast C dX7_command_149 (by decide : fo_k 627 = 20) (by rw [(show fo_n 627 = 32 from rfl)]; omega) 150 rfl ?_
                        refine fo_aload_n C dX7_command_150 3 rfl rfl 151 rfl ?_
                        refine fo_dup C dX7_command_151 rfl 152 rfl ?_
                        refine fo_get C dX7_command_152 fK9 (by decide : fo_k 616 = 9) (by decide) 21 (by decide) fl_X7_75 (v := .int (nI (Cs.length))) (congrArg (fun x => some (Value.int x)) ((by rw [fo_rn _ _ (by decide), fo_rn _ _ (by decide), fo_rn _ _ (by decide), fo_rn _ _ (by decide)]; exact (q120.2 21 (by decide) (by decide) (by decide)).trans hC.1))) 155 rfl ?_
                        refine fo_iconst C dX7_command_155 (nI 1) ki_1 156 rfl ?_
                        refine fo_iadd C dX7_command_156 (nI (Cs.length + 1)) (nI_add _ _) 157 rfl ?_
                        refine fo_put C dX7_command_157 fK9 (by decide : fo_k 616 = 9) (by decide) 21 (by decide) fl_X7_75 rfl rfl rfl rfl (Nat.le_of_ble_eq_true rfl) 160 rfl ?_
                        exact fin dX7_command_160 ((by rw [hpc]; exact ⟨⟨fun h => (by cases h), fun l h => (by cases h; exact ⟨(0, t (e + 1), 1, []), rfl, fm_ck_of (by decide) (by omega) (by omega) (fun x hx => (by cases hx)) (fun _ => hkq.2), v118.to v118.2.1 (by rw [fo_rs, pk_un (by decide), fo_rn _ _ (by decide), fo_rn _ _ (by decide), fo_rn _ _ (by decide), fo_rn _ _ (by decide)]) (by rw [fo_rs, pk_un (by decide), fo_rn _ _ (by decide), fo_rn _ _ (by decide), fo_rn _ _ (by decide), fo_rn _ _ (by decide)]; exact v118.2.2.2.1) (by rw [fo_rs, pk_un (by decide), fo_rn _ _ (by decide), fo_rn _ _ (by decide), fo_rn _ _ (by decide), fo_rn _ _ (by decide)]; exact v118.2.2.2.2.1) rfl, hC.add (vs := []) q120 (by rw [fo_rs, pk_us]) (by rw [fo_rn _ _ (by decide), fo_rn _ _ (by decide), fo_rn _ _ (by decide), fo_rn _ _ (by decide), fo_rs]) (by rw [fo_rn _ _ (by decide), fo_rn _ _ (by decide), fo_rn _ _ (by decide), fo_rs, fo_rn _ _ (by decide)]) (by rw [fo_rn _ _ (by decide), fo_rn _ _ (by decide), fo_rs, fo_rn _ _ (by decide), fo_rn _ _ (by decide)]) (by rw [fo_rn _ _ (by decide), fo_rs, fo_rn _ _ (by decide), fo_rn _ _ (by decide), fo_rn _ _ (by decide)]), (by rw [fm_fv_add]; exact ⟨(by rw [fo_rs, pk_un (by decide), fo_rn _ _ (by decide), fo_rn _ _ (by decide), fo_rn _ _ (by decide), fo_rn _ _ (by decide)]; exact u121.1), fun j x hj => by rw [fo_rn _ _ (by decide), fo_rn _ _ (by decide), fo_rn _ _ (by decide), fo_rn _ _ (by decide), fo_rn _ _ (by decide)]; exact u121.2 j x hj⟩), (by show p + 2 + 0 ≤ _; omega)⟩)⟩, q120.c.trans ⟨fun b b1 b2 => by rw [fo_rn _ _ b1, fo_rn _ _ (by omega), fo_rn _ _ (by omega), fo_rn _ _ (by omega), fo_rn _ _ (by omega)], fun j hj => by rw [fo_rs, pk_un (by omega), fo_rn _ _ (by decide), fo_rn _ _ (by decide), fo_rn _ _ (by decide), fo_rn _ _ (by decide)]⟩, rfl, rfl, rfl⟩))
                      · exact absurd c175 (by decide)
                    · omega
                  · rcases hd2 : fq_dg n t (e + 1 + 1) with _ | _
                    · skip
                      refine fo_aload_n C dX7_command_52 3 rfl rfl 53 rfl ?_
                      refine fo_iconst C dX7_command_53 (nI 1) ki_1 54 rfl ?_
                      refine fo_qvi C dX7_command_54 (mX7_number_n (m := 1) (by decide) (by decide) hd2 v118) lv_X7_247 (by decide : fo_k 616 = 9) rfl (by decide) rfl ⟨Nat.le_of_ble_eq_true rfl, Nat.le_of_ble_eq_true rfl⟩ ⟨Nat.le_of_ble_eq_true rfl, Nat.le_of_ble_eq_true rfl⟩ [] rfl (Nat.le_of_ble_eq_true rfl) 57 rfl (fun r176 I177 D178 J179 X180 p181 => ?_)
                      obtain ⟨rfl, v182, f183, z3, z4, z5⟩ := p181
                      obtain rfl := z3.symm
                      obtain rfl := z4.symm
                      obtain rfl := z5.symm
                      have q184 := q120.trans (f183).q
                      have u185 := u121.pf f183
                      refine fo_istore_n C dX7_command_57 rfl [(3, .int (nI 0)), (2, .int (nI (t (e + 1)))), (1, .int (nI 0)), (0, .ref (Λ.2.2.1 616))] rfl (by decide) 58 rfl ?_
                      refine fo_iload_n C dX7_command_58 2 rfl rfl 59 rfl ?_
                      refine fo_iconst C dX7_command_59 (nI 1) ki_1 60 rfl ?_
                      refine fo_ncmp_ne C (by omega) (by omega) dX7_command_60 99 (by decide) 63 rfl (fun c186 => ?_) (fun c186 => ?_)
                      · have hpc : fq_pc n t Cs.length p = (none, e + 1 + 1) := by rw [fq_pc_fx, hwd, hF]; show fq_pp n t Cs.length (e + 1) = _; rw [fq_pp_k hqn (by omega), hd2]; rfl
                        refine fo_aload_n C dX7_command_99 3 rfl rfl 100 rfl ?_
                        refine fo_get C dX7_command_100 fK9 (by decide : fo_k 616 = 9) (by decide) 23 (by decide) fl_X7_81 (v := .int (fo_b (true))) (congrArg (fun x => some (Value.int x)) (v182.2.2.2.2.1)) 103 rfl ?_
                        refine fo_bif_eq C dX7_command_103 107 (by decide) 106 rfl (fun c187 => ?_) (fun c187 => ?_)
                        · exact absurd c187 (by decide)
                        · exact fin dX7_command_106 ((by rw [hpc]; exact ⟨⟨fun _ => v182, fun l h => by cases h⟩, q184.c, rfl, rfl, rfl⟩))
                      · omega
                    · have hd2i := fq_dg_in hd2
                      refine fo_aload_n C dX7_command_52 3 rfl rfl 53 rfl ?_
                      refine fo_iconst C dX7_command_53 (nI 1) ki_1 54 rfl ?_
                      refine fo_qvi C dX7_command_54 (mX7_number (m := 1) (by decide) (by decide) hd2 v118) lv_X7_247 (by decide : fo_k 616 = 9) rfl (by decide) rfl ⟨Nat.le_of_ble_eq_true rfl, Nat.le_of_ble_eq_true rfl⟩ ⟨Nat.le_of_ble_eq_true rfl, Nat.le_of_ble_eq_true rfl⟩ [] rfl (Nat.le_of_ble_eq_true rfl) 57 rfl (fun r188 I189 D190 J191 X192 p193 => ?_)
                      obtain ⟨rfl, v194, f195, z3, z4, z5⟩ := p193
                      obtain rfl := z3.symm
                      obtain rfl := z4.symm
                      obtain rfl := z5.symm
                      rw [hd2, fq_nm_1 hd2] at v194
                      replace v194 : fm_V I189 n t false (e + 1 + 1 + 1) := v194
                      rw [fq_nm_1 hd2]
                      have q196 := q120.trans (f195).q
                      have u197 := u121.pf f195
                      refine fo_istore_n C dX7_command_57 rfl [(3, .int (nI (t (e + 1 + 1) - 48))), (2, .int (nI (t (e + 1)))), (1, .int (nI 0)), (0, .ref (Λ.2.2.1 616))] rfl (by decide) 58 rfl ?_
                      refine fo_iload_n C dX7_command_58 2 rfl rfl 59 rfl ?_
                      refine fo_iconst C dX7_command_59 (nI 1) ki_1 60 rfl ?_
                      refine fo_ncmp_ne C (by omega) (by omega) dX7_command_60 99 (by decide) 63 rfl (fun c198 => ?_) (fun c198 => ?_)
                      · have hpc : fq_pc n t Cs.length p = (some [(112, t (e + 1), t (e + 1 + 1) - 48, Cs.length)], e + 1 + 2) := by rw [fq_pc_fx, hwd, hF]; show fq_pp n t Cs.length (e + 1) = _; rw [fq_pp_k hqn (by omega), hd2]; rfl
                        refine fo_aload_n C dX7_command_99 3 rfl rfl 100 rfl ?_
                        refine fo_get C dX7_command_100 fK9 (by decide : fo_k 616 = 9) (by decide) 23 (by decide) fl_X7_81 (v := .int (fo_b (false))) (congrArg (fun x => some (Value.int x)) (v194.2.2.2.2.1)) 103 rfl ?_
                        refine fo_bif_eq C dX7_command_103 107 (by decide) 106 rfl (fun c199 => ?_) (fun c199 => ?_)
                        · refine fo_aload_n C dX7_command_107 3 rfl rfl 108 rfl ?_
                          refine fo_get C dX7_command_108 fK9 (by decide : fo_k 616 = 9) (by decide) 13 (by decide) fl_X7_51 (v := .ref (Λ.2.2.1 624)) rfl 111 rfl ?_
                          refine fo_aload_n C dX7_command_111 3 rfl rfl 112 rfl ?_
                          refine fo_get C dX7_command_112 fK9 (by decide : fo_k 616 = 9) (by decide) 21 (by decide) fl_X7_75 (v := .int (nI (Cs.length))) (congrArg (fun x => some (Value.int x)) ((q196.2 21 (by decide) (by decide) (by decide)).trans hC.1)) 115 rfl ?_
                          refine fo_iload_n C dX7_command_115 2 rfl rfl 116 rfl ?_
                          refine fo_iast C dX7_command_116 (by decide : fo_k 624 = 20) (by rw [(show fo_n 624 = 32 from rfl)]; omega) 117 rfl ?_
                          refine fo_aload_n C dX7_command_117 3 rfl rfl 118 rfl ?_
                          refine fo_get C dX7_command_118 fK9 (by decide : fo_k 616 = 9) (by decide) 14 (by decide) fl_X7_54 (v := .ref (Λ.2.2.1 625)) rfl 121 rfl ?_
                          refine fo_aload_n C dX7_command_121 3 rfl rfl 122 rfl ?_
                          refine fo_get C dX7_command_122 fK9 (by decide : fo_k 616 = 9) (by decide) 21 (by decide) fl_X7_75 (v := .int (nI (Cs.length))) (congrArg (fun x => some (Value.int x)) ((by rw [fo_rn _ _ (by decide)]; exact (q196.2 21 (by decide) (by decide) (by decide)).trans hC.1))) 125 rfl ?_
                          refine fo_iload_n C dX7_command_125 1 rfl rfl 126 rfl ?_
                          refine fo_iast C dX7_command_126 (by decide : fo_k 625 = 20) (by rw [(show fo_n 625 = 32 from rfl)]; omega) 127 rfl ?_
                          refine fo_aload_n C dX7_command_127 3 rfl rfl 128 rfl ?_
                          refine fo_get C dX7_command_128 fK9 (by decide : fo_k 616 = 9) (by decide) 15 (by decide) fl_X7_57 (v := .ref (Λ.2.2.1 626)) rfl 131 rfl ?_
                          refine fo_aload_n C dX7_command_131 3 rfl rfl 132 rfl ?_
                          refine fo_get C dX7_command_132 fK9 (by decide : fo_k 616 = 9) (by decide) 21 (by decide) fl_X7_75 (v := .int (nI (Cs.length))) (congrArg (fun x => some (Value.int x)) ((by rw [fo_rn _ _ (by decide), fo_rn _ _ (by decide)]; exact (q196.2 21 (by decide) (by decide) (by decide)).trans hC.1))) 135 rfl ?_
                          refine fo_iload_n C dX7_command_135 0 rfl rfl 136 rfl ?_
                          refine fo_iast C dX7_command_136 (by decide : fo_k 626 = 20) (by rw [(show fo_n 626 = 32 from rfl)]; omega) 137 rfl ?_
                          refine fo_aload_n C dX7_command_137 3 rfl rfl 138 rfl ?_
                          refine fo_get C dX7_command_138 fK9 (by decide : fo_k 616 = 9) (by decide) 16 (by decide) fl_X7_60 (v := .ref (Λ.2.2.1 627)) rfl 141 rfl ?_
                          refine fo_aload_n C dX7_command_141 3 rfl rfl 142 rfl ?_
                          refine fo_get C dX7_command_142 fK9 (by decide : fo_k 616 = 9) (by decide) 21 (by decide) fl_X7_75 (v := .int (nI (Cs.length))) (congrArg (fun x => some (Value.int x)) ((by rw [fo_rn _ _ (by decide), fo_rn _ _ (by decide), fo_rn _ _ (by decide)]; exact (q196.2 21 (by decide) (by decide) (by decide)).trans hC.1))) 145 rfl ?_
                          refine fo_aload_n C dX7_command_145 3 rfl rfl 146 rfl ?_
                          refine fo_get C dX7_command_146 fK9 (by decide : fo_k 616 = 9) (by decide) 22 (by decide) fl_X7_78 (v := .int (nI ((fm_fv Cs ++ []).length))) (congrArg (fun x => some (Value.int x)) ((by rw [fo_rn _ _ (by decide), fo_rn _ _ (by decide), fo_rn _ _ (by decide)]; exact u197.1))) 149 rfl ?_
                          refine fo_iast C dX7_command_149 (by decide : fo_k 627 = 20) (by rw [(show fo_n 627 = 32 from rfl)]; omega) 150 rfl ?_
                          refine fo_aload_n C dX7_command_150 3 rfl rfl 151 rfl ?_
                          refine fo_dup C dX7_command_151 rfl 152 rfl ?_
                          refine fo_get C dX7_command_152 fK9 (by decide : fo_k 616 = 9) (by decide) 21 (by decide) fl_X7_75 (v := .int (nI (Cs.length))) (congrArg (fun x => some (Value.int x)) ((by rw [fo_rn _ _ (by decide), fo_rn _ _ (by decide), fo_rn _ _ (by decide), fo_rn _ _ (by decide)]; exact (q196.2 21 (by decide) (by decide) (by decide)).trans hC.1))) 155 rfl ?_
                          refine fo_iconst C dX7_command_155 (nI 1) ki_1 156 rfl ?_
                          refine fo_iadd C dX7_command_156 (nI (Cs.length + 1)) (nI_add _ _) 157 rfl ?_
                          refine fo_put C dX7_command_157 fK9 (by decide : fo_k 616 = 9) (by decide) 21 (by decide) fl_X7_75 rfl rfl rfl rfl (Nat.le_of_ble_eq_true rfl) 160 rfl ?_
                          exact fin dX7_command_160 ((by rw [hpc]; exact ⟨⟨fun h => (by cases h), fun l h => (by cases h; exact ⟨(0, t (e + 1), t (e + 1 + 1) - 48, []), rfl, fm_ck_of (by decide) (by omega) (by omega) (fun x hx => (by cases hx)) (fun _ => hkq.2), v194.to v194.2.1 (by rw [fo_rs, pk_un (by decide), fo_rn _ _ (by decide), fo_rn _ _ (by decide), fo_rn _ _ (by decide), fo_rn _ _ (by decide)]) (by rw [fo_rs, pk_un (by decide), fo_rn _ _ (by decide), fo_rn _ _ (by decide), fo_rn _ _ (by decide), fo_rn _ _ (by decide)]; exact v194.2.2.2.1) (by rw [fo_rs, pk_un (by decide), fo_rn _ _ (by decide), fo_rn _ _ (by decide), fo_rn _ _ (by decide), fo_rn _ _ (by decide)]; exact v194.2.2.2.2.1) rfl, hC.add (vs := []) q196 (by rw [fo_rs, pk_us]) (by rw [fo_rn _ _ (by decide), fo_rn _ _ (by decide), fo_rn _ _ (by decide), fo_rn _ _ (by decide), fo_rs]) (by rw [fo_rn _ _ (by decide), fo_rn _ _ (by decide), fo_rn _ _ (by decide), fo_rs, fo_rn _ _ (by decide)]) (by rw [fo_rn _ _ (by decide), fo_rn _ _ (by decide), fo_rs, fo_rn _ _ (by decide), fo_rn _ _ (by decide)]) (by rw [fo_rn _ _ (by decide), fo_rs, fo_rn _ _ (by decide), fo_rn _ _ (by decide), fo_rn _ _ (by decide)]), (by rw [fm_fv_add]; exact ⟨(by rw [fo_rs, pk_un (by decide), fo_rn _ _ (by decide), fo_rn _ _ (by decide), fo_rn _ _ (by decide), fo_rn _ _ (by decide)]; exact u197.1), fun j x hj => by rw [fo_rn _ _ (by decide), fo_rn _ _ (by decide), fo_rn _ _ (by decide), fo_rn _ _ (by decide), fo_rn _ _ (by decide)]; exact u197.2 j x hj⟩), (by show p + 2 + 0 ≤ _; omega)⟩)⟩, q196.c.trans ⟨fun b b1 b2 => by rw [fo_rn _ _ b1, fo_rn _ _ (by omega), fo_rn _ _ (by omega), fo_rn _ _ (by omega), fo_rn _ _ (by omega)], fun j hj => by rw [fo_rs, pk_un (by omega), fo_rn _ _ (by decide), fo_rn _ _ (by decide), fo_rn _ _ (by decide), fo_rn _ _ (by decide)]⟩, rfl, rfl, rfl⟩))
                        · exact absurd c199 (by decide)
                      · omega
  · rcases b with _ | _
    · have hwd : fq_wd n t (fo_wd (fm_fx n t p)) p = (false, e) := by rw [fm_wdW _ hx4, fq_wd_app, hz]; rfl
      refine fo_aload_n C dX7_command_0 0 rfl rfl 1 rfl ?_
      refine fo_qvi C dX7_command_1 (mX7_word hV) lv_X7_250 (by decide : fo_k 616 = 9) rfl (by decide) rfl ⟨Nat.le_of_ble_eq_true rfl, Nat.le_of_ble_eq_true rfl⟩ ⟨Nat.le_of_ble_eq_true rfl, Nat.le_of_ble_eq_true rfl⟩ [] rfl (Nat.le_of_ble_eq_true rfl) 4 rfl (fun r200 I201 D202 J203 X204 p205 => ?_)
      obtain ⟨hr, v206, f207, z3, z4, z5⟩ := p205
      obtain rfl := z3.symm
      obtain rfl := z4.symm
      obtain rfl := z5.symm
      rw [hz] at hr v206
      obtain rfl : r200 = nI 0 := hr
      replace v206 : fm_V I201 n t true e := v206
      have q208 := hq0.trans (f207).q
      have u209 := hU.pf f207
      refine fo_istore_n C dX7_command_4 rfl [(1, .int (nI 0)), (0, .ref (Λ.2.2.1 616))] rfl (by decide) 5 rfl ?_
      refine fo_aload_n C dX7_command_5 1 rfl rfl 6 rfl ?_
      refine fo_bipush C dX7_command_6 (nI 32) kb_32 8 rfl ?_
      refine fo_qvv C dX7_command_8 (mX7_expect_w (c := 32) (by decide) v206) lv_X7_253 (by decide : fo_k 616 = 9) rfl (by decide) rfl ⟨Nat.le_of_ble_eq_true rfl, Nat.le_of_ble_eq_true rfl⟩ ⟨Nat.le_of_ble_eq_true rfl, Nat.le_of_ble_eq_true rfl⟩ [] rfl (Nat.le_of_ble_eq_true rfl) 11 rfl (fun I211 D212 J213 X214 p215 => ?_)
      obtain ⟨v216, f217, z3, z4, z5⟩ := p215
      obtain rfl := z3.symm
      obtain rfl := z4.symm
      obtain rfl := z5.symm
      have q218 := q208.trans (f217).q
      have u219 := u209.pf f217
      refine fo_iload_n C dX7_command_11 0 rfl rfl 12 rfl ?_
      refine fo_nif_ne C (by omega) dX7_command_12 22 (by decide) 15 rfl (fun c220 => ?_) (fun c220 => ?_)
      · omega
      · refine fo_aload_n C dX7_command_15 1 rfl rfl 16 rfl ?_
        refine fo_qvi C dX7_command_16 (mX7_prophetKind_w v216) lv_X7_256 (by decide : fo_k 616 = 9) rfl (by decide) rfl ⟨Nat.le_of_ble_eq_true rfl, Nat.le_of_ble_eq_true rfl⟩ ⟨Nat.le_of_ble_eq_true rfl, Nat.le_of_ble_eq_true rfl⟩ [] rfl (Nat.le_of_ble_eq_true rfl) 19 rfl (fun r221 I222 D223 J224 X225 p226 => ?_)
        obtain ⟨rfl, v227, f228, z3, z4, z5⟩ := p226
        obtain rfl := z3.symm
        obtain rfl := z4.symm
        obtain rfl := z5.symm
        have q229 := q218.trans (f228).q
        have u230 := u219.pf f228
        refine fo_goto C dX7_command_19 27 (by decide) ?_
        refine fo_istore_n C dX7_command_27 rfl [(2, .int (-1)), (1, .int (nI 0)), (0, .ref (Λ.2.2.1 616))] rfl (by decide) 28 rfl ?_
        refine fo_iconst C dX7_command_28 (nI 1) ki_1 29 rfl ?_
        refine fo_istore_n C dX7_command_29 rfl [(3, .int (nI 1)), (2, .int (-1)), (1, .int (nI 0)), (0, .ref (Λ.2.2.1 616))] rfl (by decide) 30 rfl ?_
        refine fo_iload_n C dX7_command_30 2 rfl rfl 31 rfl ?_
        refine fo_nif_ne C (by omega) dX7_command_31 58 (by decide) 34 rfl (fun c231 => ?_) (fun c231 => ?_)
        · omega
        · refine fo_iload_n C dX7_command_34 1 rfl rfl 35 rfl ?_
          refine fo_bipush C dX7_command_35 (nI 109) kb_109 37 rfl ?_
          refine fo_icmp_eq C dX7_command_37 52 (by decide) 40 rfl (fun c232 => ?_) (fun c232 => ?_)
          · exact absurd c232 (fm_nn (by decide))
          · refine fo_iload_n C dX7_command_40 1 rfl rfl 41 rfl ?_
            refine fo_bipush C dX7_command_41 (nI 100) kb_100 43 rfl ?_
            refine fo_icmp_eq C dX7_command_43 52 (by decide) 46 rfl (fun c233 => ?_) (fun c233 => ?_)
            · exact absurd c233 (fm_nn (by decide))
            · refine fo_iload_n C dX7_command_46 1 rfl rfl 47 rfl ?_
              refine fo_bipush C dX7_command_47 (nI 115) kb_115 49 rfl ?_
              refine fo_icmp_ne C dX7_command_49 58 (by decide) 52 rfl (fun c234 => ?_) (fun c234 => ?_)
              · refine fo_iload_n C dX7_command_58 2 rfl rfl 59 rfl ?_
                refine fo_iconst C dX7_command_59 (nI 1) ki_1 60 rfl ?_
                refine fo_ncmp_ne C (by omega) (by omega) dX7_command_60 99 (by decide) 63 rfl (fun c235 => ?_) (fun c235 => ?_)
                · have hpc : fq_pc n t Cs.length p = (none, e) := by rw [fq_pc_fx, hwd]; rfl
                  refine fo_aload_n C dX7_command_99 3 rfl rfl 100 rfl ?_
                  refine fo_get C dX7_command_100 fK9 (by decide : fo_k 616 = 9) (by decide) 23 (by decide) fl_X7_81 (v := .int (fo_b (true))) (congrArg (fun x => some (Value.int x)) (v227.2.2.2.2.1)) 103 rfl ?_
                  refine fo_bif_eq C dX7_command_103 107 (by decide) 106 rfl (fun c236 => ?_) (fun c236 => ?_)
                  · exact absurd c236 (by decide)
                  · exact fin dX7_command_106 ((by rw [hpc]; exact ⟨⟨fun _ => v227, fun l h => by cases h⟩, q229.c, rfl, rfl, rfl⟩))
                · omega
              · exact absurd c234 (fm_nn (by decide))
    · have hin4 : p + (fm_W (fm_fx n t p)).length ≤ e := hin.2.2 rfl
      rw [hF] at hin4
      have hin5 : p + 3 ≤ e := Nat.le_trans (Nat.add_le_add_left (by decide) _) hin4
      rcases hs : fq_at n t e 32 with _ | _
      · have hwd : fq_wd n t (fo_wd (fm_fx n t p)) p = (false, e) := by rw [fm_wdW _ hx4, fq_wd_app, hz]; show (if fq_at n t e 32 = true then _ else _) = _; rw [hs]; rfl
        refine fo_aload_n C dX7_command_0 0 rfl rfl 1 rfl ?_
        refine fo_qvi C dX7_command_1 (mX7_word hV) lv_X7_250 (by decide : fo_k 616 = 9) rfl (by decide) rfl ⟨Nat.le_of_ble_eq_true rfl, Nat.le_of_ble_eq_true rfl⟩ ⟨Nat.le_of_ble_eq_true rfl, Nat.le_of_ble_eq_true rfl⟩ [] rfl (Nat.le_of_ble_eq_true rfl) 4 rfl (fun r237 I238 D239 J240 X241 p242 => ?_)
        obtain ⟨hr, v243, f244, z3, z4, z5⟩ := p242
        obtain rfl := z3.symm
        obtain rfl := z4.symm
        obtain rfl := z5.symm
        rw [hz] at hr v243
        rw [hF] at hr
        obtain rfl : r237 = nI 1 := hr
        replace v243 : fm_V I238 n t false e := v243
        have q245 := hq0.trans (f244).q
        have u246 := hU.pf f244
        refine fo_istore_n C dX7_command_4 rfl [(1, .int (nI 1)), (0, .ref (Λ.2.2.1 616))] rfl (by decide) 5 rfl ?_
        refine fo_aload_n C dX7_command_5 1 rfl rfl 6 rfl ?_
        refine fo_bipush C dX7_command_6 (nI 32) kb_32 8 rfl ?_
        refine fo_qvv C dX7_command_8 (mX7_expect (c := 32) (by decide) v243) lv_X7_253 (by decide : fo_k 616 = 9) rfl (by decide) rfl ⟨Nat.le_of_ble_eq_true rfl, Nat.le_of_ble_eq_true rfl⟩ ⟨Nat.le_of_ble_eq_true rfl, Nat.le_of_ble_eq_true rfl⟩ [] rfl (Nat.le_of_ble_eq_true rfl) 11 rfl (fun I248 D249 J250 X251 p252 => ?_)
        obtain ⟨v253, f254, z3, z4, z5⟩ := p252
        obtain rfl := z3.symm
        obtain rfl := z4.symm
        obtain rfl := z5.symm
        rw [hs] at v253
        replace v253 : fm_V I248 n t true (e) := v253
        have q255 := q245.trans (f254).q
        have u256 := u246.pf f254
        refine fo_iload_n C dX7_command_11 0 rfl rfl 12 rfl ?_
        refine fo_nif_ne C (by omega) dX7_command_12 22 (by decide) 15 rfl (fun c257 => ?_) (fun c257 => ?_)
        · refine fo_aload_n C dX7_command_22 1 rfl rfl 23 rfl ?_
          refine fo_iconst C dX7_command_23 (nI 1) ki_1 24 rfl ?_
          refine fo_qvi C dX7_command_24 (mX7_number_w (m := 1) (by decide) (by decide) v253) lv_X7_247 (by decide : fo_k 616 = 9) rfl (by decide) rfl ⟨Nat.le_of_ble_eq_true rfl, Nat.le_of_ble_eq_true rfl⟩ ⟨Nat.le_of_ble_eq_true rfl, Nat.le_of_ble_eq_true rfl⟩ [] rfl (Nat.le_of_ble_eq_true rfl) 27 rfl (fun r258 I259 D260 J261 X262 p263 => ?_)
          obtain ⟨rfl, v264, f265, z3, z4, z5⟩ := p263
          obtain rfl := z3.symm
          obtain rfl := z4.symm
          obtain rfl := z5.symm
          have q266 := q255.trans (f265).q
          have u267 := u256.pf f265
          refine fo_istore_n C dX7_command_27 rfl [(2, .int (nI 0)), (1, .int (nI 1)), (0, .ref (Λ.2.2.1 616))] rfl (by decide) 28 rfl ?_
          refine fo_iconst C dX7_command_28 (nI 1) ki_1 29 rfl ?_
          refine fo_istore_n C dX7_command_29 rfl [(3, .int (nI 1)), (2, .int (nI 0)), (1, .int (nI 1)), (0, .ref (Λ.2.2.1 616))] rfl (by decide) 30 rfl ?_
          refine fo_iload_n C dX7_command_30 2 rfl rfl 31 rfl ?_
          refine fo_nif_ne C (by omega) dX7_command_31 58 (by decide) 34 rfl (fun c268 => ?_) (fun c268 => ?_)
          · refine fo_iload_n C dX7_command_58 2 rfl rfl 59 rfl ?_
            refine fo_iconst C dX7_command_59 (nI 1) ki_1 60 rfl ?_
            refine fo_ncmp_ne C (by omega) (by omega) dX7_command_60 99 (by decide) 63 rfl (fun c269 => ?_) (fun c269 => ?_)
            · omega
            · refine fo_aload_n C dX7_command_63 3 rfl rfl 64 rfl ?_
              refine fo_bipush C dX7_command_64 (nI 61) kb_61 66 rfl ?_
              refine fo_qvv C dX7_command_66 (mX7_expect_w (c := 61) (by decide) v264) lv_X7_253 (by decide : fo_k 616 = 9) rfl (by decide) rfl ⟨Nat.le_of_ble_eq_true rfl, Nat.le_of_ble_eq_true rfl⟩ ⟨Nat.le_of_ble_eq_true rfl, Nat.le_of_ble_eq_true rfl⟩ [] rfl (Nat.le_of_ble_eq_true rfl) 69 rfl (fun I271 D272 J273 X274 p275 => ?_)
              obtain ⟨v276, f277, z3, z4, z5⟩ := p275
              obtain rfl := z3.symm
              obtain rfl := z4.symm
              obtain rfl := z5.symm
              have q278 := q266.trans (f277).q
              have u279 := u267.pf f277
              refine fo_aload_n C dX7_command_69 3 rfl rfl 70 rfl ?_
              refine fo_qvv C dX7_command_70 (mX7_readsValue_w v276) lv_X7_259 (by decide : fo_k 616 = 9) rfl (by decide) rfl ⟨Nat.le_of_ble_eq_true rfl, Nat.le_of_ble_eq_true rfl⟩ ⟨Nat.le_of_ble_eq_true rfl, Nat.le_of_ble_eq_true rfl⟩ [] rfl (Nat.le_of_ble_eq_true rfl) 73 rfl (fun I281 D282 J283 X284 p285 => ?_)
              obtain ⟨v286, f287, z3, z4, z5⟩ := p285
              obtain rfl := z3.symm
              obtain rfl := z4.symm
              obtain rfl := z5.symm
              have q290 := q278.trans (f287).q
              have u291 := u279.pf f287
              refine fo_aload_n C dX7_command_73 3 rfl rfl 74 rfl ?_
              refine fo_qvi C dX7_command_74 (mX7_mark_w v286) lv_X7_237 (by decide : fo_k 616 = 9) rfl (by decide) rfl ⟨Nat.le_of_ble_eq_true rfl, Nat.le_of_ble_eq_true rfl⟩ ⟨Nat.le_of_ble_eq_true rfl, Nat.le_of_ble_eq_true rfl⟩ [] rfl (Nat.le_of_ble_eq_true rfl) 77 rfl (fo_er ?_)
              refine fo_bipush C dX7_command_77 (nI 44) kb_44 79 rfl ?_
              refine fo_icmp_ne C dX7_command_79 99 (by decide) 82 rfl (fun c298 => ?_) (fun c298 => ?_)
              · have hpc : fq_pc n t Cs.length p = (none, e) := by rw [fq_pc_fx, hwd]; rfl
                refine fo_aload_n C dX7_command_99 3 rfl rfl 100 rfl ?_
                refine fo_get C dX7_command_100 fK9 (by decide : fo_k 616 = 9) (by decide) 23 (by decide) fl_X7_81 (v := .int (fo_b (true))) (congrArg (fun x => some (Value.int x)) (v286.2.2.2.2.1)) 103 rfl ?_
                refine fo_bif_eq C dX7_command_103 107 (by decide) 106 rfl (fun c299 => ?_) (fun c299 => ?_)
                · exact absurd c299 (by decide)
                · exact fin dX7_command_106 ((by rw [hpc]; exact ⟨⟨fun _ => v286, fun l h => by cases h⟩, q290.c, rfl, rfl, rfl⟩))
              · exact absurd c298 (fm_nn (by decide))
          · omega
        · omega
      · have hwd : fq_wd n t (fo_wd (fm_fx n t p)) p = (true, e + 1) := by rw [fm_wdW _ hx4, fq_wd_app, hz]; show (if fq_at n t e 32 = true then _ else _) = _; rw [hs]; rfl
        have hel := (fq_at_in hs).1
        refine fo_aload_n C dX7_command_0 0 rfl rfl 1 rfl ?_
        refine fo_qvi C dX7_command_1 (mX7_word hV) lv_X7_250 (by decide : fo_k 616 = 9) rfl (by decide) rfl ⟨Nat.le_of_ble_eq_true rfl, Nat.le_of_ble_eq_true rfl⟩ ⟨Nat.le_of_ble_eq_true rfl, Nat.le_of_ble_eq_true rfl⟩ [] rfl (Nat.le_of_ble_eq_true rfl) 4 rfl (fun r300 I301 D302 J303 X304 p305 => ?_)
        obtain ⟨hr, v306, f307, z3, z4, z5⟩ := p305
        obtain rfl := z3.symm
        obtain rfl := z4.symm
        obtain rfl := z5.symm
        rw [hz] at hr v306
        rw [hF] at hr
        obtain rfl : r300 = nI 1 := hr
        replace v306 : fm_V I301 n t false e := v306
        have q308 := hq0.trans (f307).q
        have u309 := hU.pf f307
        refine fo_istore_n C dX7_command_4 rfl [(1, .int (nI 1)), (0, .ref (Λ.2.2.1 616))] rfl (by decide) 5 rfl ?_
        refine fo_aload_n C dX7_command_5 1 rfl rfl 6 rfl ?_
        refine fo_bipush C dX7_command_6 (nI 32) kb_32 8 rfl ?_
        refine fo_qvv C dX7_command_8 (mX7_expect (c := 32) (by decide) v306) lv_X7_253 (by decide : fo_k 616 = 9) rfl (by decide) rfl ⟨Nat.le_of_ble_eq_true rfl, Nat.le_of_ble_eq_true rfl⟩ ⟨Nat.le_of_ble_eq_true rfl, Nat.le_of_ble_eq_true rfl⟩ [] rfl (Nat.le_of_ble_eq_true rfl) 11 rfl (fun I311 D312 J313 X314 p315 => ?_)
        obtain ⟨v316, f317, z3, z4, z5⟩ := p315
        obtain rfl := z3.symm
        obtain rfl := z4.symm
        obtain rfl := z5.symm
        rw [hs] at v316
        replace v316 : fm_V I311 n t false (e + 1) := v316
        have q318 := q308.trans (f317).q
        have u319 := u309.pf f317
        refine fo_iload_n C dX7_command_11 0 rfl rfl 12 rfl ?_
        refine fo_nif_ne C (by omega) dX7_command_12 22 (by decide) 15 rfl (fun c320 => ?_) (fun c320 => ?_)
        · rcases hd1 : fq_dg n t (e + 1) with _ | _
          · skip
            refine fo_aload_n C dX7_command_22 1 rfl rfl 23 rfl ?_
            refine fo_iconst C dX7_command_23 (nI 1) ki_1 24 rfl ?_
            refine fo_qvi C dX7_command_24 (mX7_number_n (m := 1) (by decide) (by decide) hd1 v316) lv_X7_247 (by decide : fo_k 616 = 9) rfl (by decide) rfl ⟨Nat.le_of_ble_eq_true rfl, Nat.le_of_ble_eq_true rfl⟩ ⟨Nat.le_of_ble_eq_true rfl, Nat.le_of_ble_eq_true rfl⟩ [] rfl (Nat.le_of_ble_eq_true rfl) 27 rfl (fun r321 I322 D323 J324 X325 p326 => ?_)
            obtain ⟨rfl, v327, f328, z3, z4, z5⟩ := p326
            obtain rfl := z3.symm
            obtain rfl := z4.symm
            obtain rfl := z5.symm
            have q329 := q318.trans (f328).q
            have u330 := u319.pf f328
            refine fo_istore_n C dX7_command_27 rfl [(2, .int (nI 0)), (1, .int (nI 1)), (0, .ref (Λ.2.2.1 616))] rfl (by decide) 28 rfl ?_
            refine fo_iconst C dX7_command_28 (nI 1) ki_1 29 rfl ?_
            refine fo_istore_n C dX7_command_29 rfl [(3, .int (nI 1)), (2, .int (nI 0)), (1, .int (nI 1)), (0, .ref (Λ.2.2.1 616))] rfl (by decide) 30 rfl ?_
            refine fo_iload_n C dX7_command_30 2 rfl rfl 31 rfl ?_
            refine fo_nif_ne C (by omega) dX7_command_31 58 (by decide) 34 rfl (fun c331 => ?_) (fun c331 => ?_)
            · refine fo_iload_n C dX7_command_58 2 rfl rfl 59 rfl ?_
              refine fo_iconst C dX7_command_59 (nI 1) ki_1 60 rfl ?_
              refine fo_ncmp_ne C (by omega) (by omega) dX7_command_60 99 (by decide) 63 rfl (fun c332 => ?_) (fun c332 => ?_)
              · omega
              · refine fo_aload_n C dX7_command_63 3 rfl rfl 64 rfl ?_
                refine fo_bipush C dX7_command_64 (nI 61) kb_61 66 rfl ?_
                refine fo_qvv C dX7_command_66 (mX7_expect_w (c := 61) (by decide) v327) lv_X7_253 (by decide : fo_k 616 = 9) rfl (by decide) rfl ⟨Nat.le_of_ble_eq_true rfl, Nat.le_of_ble_eq_true rfl⟩ ⟨Nat.le_of_ble_eq_true rfl, Nat.le_of_ble_eq_true rfl⟩ [] rfl (Nat.le_of_ble_eq_true rfl) 69 rfl (fun I334 D335 J336 X337 p338 => ?_)
                obtain ⟨v339, f340, z3, z4, z5⟩ := p338
                obtain rfl := z3.symm
                obtain rfl := z4.symm
                obtain rfl := z5.symm
                have q341 := q329.trans (f340).q
                have u342 := u330.pf f340
                refine fo_aload_n C dX7_command_69 3 rfl rfl 70 rfl ?_
                refine fo_qvv C dX7_command_70 (mX7_readsValue_w v339) lv_X7_259 (by decide : fo_k 616 = 9) rfl (by decide) rfl ⟨Nat.le_of_ble_eq_true rfl, Nat.le_of_ble_eq_true rfl⟩ ⟨Nat.le_of_ble_eq_true rfl, Nat.le_of_ble_eq_true rfl⟩ [] rfl (Nat.le_of_ble_eq_true rfl) 73 rfl (fun I344 D345 J346 X347 p348 => ?_)
                obtain ⟨v349, f350, z3, z4, z5⟩ := p348
                obtain rfl := z3.symm
                obtain rfl := z4.symm
                obtain rfl := z5.symm
                have q353 := q341.trans (f350).q
                have u354 := u342.pf f350
                refine fo_aload_n C dX7_command_73 3 rfl rfl 74 rfl ?_
                refine fo_qvi C dX7_command_74 (mX7_mark_w v349) lv_X7_237 (by decide : fo_k 616 = 9) rfl (by decide) rfl ⟨Nat.le_of_ble_eq_true rfl, Nat.le_of_ble_eq_true rfl⟩ ⟨Nat.le_of_ble_eq_true rfl, Nat.le_of_ble_eq_true rfl⟩ [] rfl (Nat.le_of_ble_eq_true rfl) 77 rfl (fo_er ?_)
                refine fo_bipush C dX7_command_77 (nI 44) kb_44 79 rfl ?_
                refine fo_icmp_ne C dX7_command_79 99 (by decide) 82 rfl (fun c361 => ?_) (fun c361 => ?_)
                · have hpc : fq_pc n t Cs.length p = (none, e + 1) := by rw [fq_pc_fx, hwd, hF]; show fq_ps n t Cs.length (e + 1) = _; unfold fq_ps; rw [hd1]; rfl
                  refine fo_aload_n C dX7_command_99 3 rfl rfl 100 rfl ?_
                  refine fo_get C dX7_command_100 fK9 (by decide : fo_k 616 = 9) (by decide) 23 (by decide) fl_X7_81 (v := .int (fo_b (true))) (congrArg (fun x => some (Value.int x)) (v349.2.2.2.2.1)) 103 rfl ?_
                  refine fo_bif_eq C dX7_command_103 107 (by decide) 106 rfl (fun c362 => ?_) (fun c362 => ?_)
                  · exact absurd c362 (by decide)
                  · exact fin dX7_command_106 ((by rw [hpc]; exact ⟨⟨fun _ => v349, fun l h => by cases h⟩, q353.c, rfl, rfl, rfl⟩))
                · exact absurd c361 (fm_nn (by decide))
            · omega
          · have hd1i := fq_dg_in hd1
            refine fo_aload_n C dX7_command_22 1 rfl rfl 23 rfl ?_
            refine fo_iconst C dX7_command_23 (nI 1) ki_1 24 rfl ?_
            refine fo_qvi C dX7_command_24 (mX7_number (m := 1) (by decide) (by decide) hd1 v316) lv_X7_247 (by decide : fo_k 616 = 9) rfl (by decide) rfl ⟨Nat.le_of_ble_eq_true rfl, Nat.le_of_ble_eq_true rfl⟩ ⟨Nat.le_of_ble_eq_true rfl, Nat.le_of_ble_eq_true rfl⟩ [] rfl (Nat.le_of_ble_eq_true rfl) 27 rfl (fun r363 I364 D365 J366 X367 p368 => ?_)
            obtain ⟨rfl, v369, f370, z3, z4, z5⟩ := p368
            obtain rfl := z3.symm
            obtain rfl := z4.symm
            obtain rfl := z5.symm
            rw [hd1, fq_nm_1 hd1] at v369
            replace v369 : fm_V I364 n t false (e + 1 + 1) := v369
            rw [fq_nm_1 hd1]
            have q371 := q318.trans (f370).q
            have u372 := u319.pf f370
            refine fo_istore_n C dX7_command_27 rfl [(2, .int (nI (t (e + 1) - 48))), (1, .int (nI 1)), (0, .ref (Λ.2.2.1 616))] rfl (by decide) 28 rfl ?_
            refine fo_iconst C dX7_command_28 (nI 1) ki_1 29 rfl ?_
            refine fo_istore_n C dX7_command_29 rfl [(3, .int (nI 1)), (2, .int (nI (t (e + 1) - 48))), (1, .int (nI 1)), (0, .ref (Λ.2.2.1 616))] rfl (by decide) 30 rfl ?_
            refine fo_iload_n C dX7_command_30 2 rfl rfl 31 rfl ?_
            refine fo_nif_ne C (by omega) dX7_command_31 58 (by decide) 34 rfl (fun c373 => ?_) (fun c373 => ?_)
            · refine fo_iload_n C dX7_command_58 2 rfl rfl 59 rfl ?_
              refine fo_iconst C dX7_command_59 (nI 1) ki_1 60 rfl ?_
              refine fo_ncmp_ne C (by omega) (by omega) dX7_command_60 99 (by decide) 63 rfl (fun c374 => ?_) (fun c374 => ?_)
              · omega
              · rcases hs3 : fq_at n t (e + 1 + 1) 61 with _ | _
                · skip
                  refine fo_aload_n C dX7_command_63 3 rfl rfl 64 rfl ?_
                  refine fo_bipush C dX7_command_64 (nI 61) kb_61 66 rfl ?_
                  refine fo_qvv C dX7_command_66 (mX7_expect (c := 61) (by decide) v369) lv_X7_253 (by decide : fo_k 616 = 9) rfl (by decide) rfl ⟨Nat.le_of_ble_eq_true rfl, Nat.le_of_ble_eq_true rfl⟩ ⟨Nat.le_of_ble_eq_true rfl, Nat.le_of_ble_eq_true rfl⟩ [] rfl (Nat.le_of_ble_eq_true rfl) 69 rfl (fun I376 D377 J378 X379 p380 => ?_)
                  obtain ⟨v381, f382, z3, z4, z5⟩ := p380
                  obtain rfl := z3.symm
                  obtain rfl := z4.symm
                  obtain rfl := z5.symm
                  rw [hs3] at v381
                  replace v381 : fm_V I376 n t true (e + 1 + 1) := v381
                  have q383 := q371.trans (f382).q
                  have u384 := u372.pf f382
                  refine fo_aload_n C dX7_command_69 3 rfl rfl 70 rfl ?_
                  refine fo_qvv C dX7_command_70 (mX7_readsValue_w v381) lv_X7_259 (by decide : fo_k 616 = 9) rfl (by decide) rfl ⟨Nat.le_of_ble_eq_true rfl, Nat.le_of_ble_eq_true rfl⟩ ⟨Nat.le_of_ble_eq_true rfl, Nat.le_of_ble_eq_true rfl⟩ [] rfl (Nat.le_of_ble_eq_true rfl) 73 rfl (fun I386 D387 J388 X389 p390 => ?_)
                  obtain ⟨v391, f392, z3, z4, z5⟩ := p390
                  obtain rfl := z3.symm
                  obtain rfl := z4.symm
                  obtain rfl := z5.symm
                  have q395 := q383.trans (f392).q
                  have u396 := u384.pf f392
                  refine fo_aload_n C dX7_command_73 3 rfl rfl 74 rfl ?_
                  refine fo_qvi C dX7_command_74 (mX7_mark_w v391) lv_X7_237 (by decide : fo_k 616 = 9) rfl (by decide) rfl ⟨Nat.le_of_ble_eq_true rfl, Nat.le_of_ble_eq_true rfl⟩ ⟨Nat.le_of_ble_eq_true rfl, Nat.le_of_ble_eq_true rfl⟩ [] rfl (Nat.le_of_ble_eq_true rfl) 77 rfl (fo_er ?_)
                  refine fo_bipush C dX7_command_77 (nI 44) kb_44 79 rfl ?_
                  refine fo_icmp_ne C dX7_command_79 99 (by decide) 82 rfl (fun c403 => ?_) (fun c403 => ?_)
                  · have hpc : fq_pc n t Cs.length p = (none, e + 1 + 1) := by rw [fq_pc_fx, hwd, hF]; show fq_ps n t Cs.length (e + 1) = _; unfold fq_ps; rw [hd1, hs3]; rfl
                    refine fo_aload_n C dX7_command_99 3 rfl rfl 100 rfl ?_
                    refine fo_get C dX7_command_100 fK9 (by decide : fo_k 616 = 9) (by decide) 23 (by decide) fl_X7_81 (v := .int (fo_b (true))) (congrArg (fun x => some (Value.int x)) (v391.2.2.2.2.1)) 103 rfl ?_
                    refine fo_bif_eq C dX7_command_103 107 (by decide) 106 rfl (fun c404 => ?_) (fun c404 => ?_)
                    · exact absurd c404 (by decide)
                    · exact fin dX7_command_106 ((by rw [hpc]; exact ⟨⟨fun _ => v391, fun l h => by cases h⟩, q395.c, rfl, rfl, rfl⟩))
                  · exact absurd c403 (fm_nn (by decide))
                · have hs3i := (fq_at_in hs3).1
                  refine fo_aload_n C dX7_command_63 3 rfl rfl 64 rfl ?_
                  refine fo_bipush C dX7_command_64 (nI 61) kb_61 66 rfl ?_
                  refine fo_qvv C dX7_command_66 (mX7_expect (c := 61) (by decide) v369) lv_X7_253 (by decide : fo_k 616 = 9) rfl (by decide) rfl ⟨Nat.le_of_ble_eq_true rfl, Nat.le_of_ble_eq_true rfl⟩ ⟨Nat.le_of_ble_eq_true rfl, Nat.le_of_ble_eq_true rfl⟩ [] rfl (Nat.le_of_ble_eq_true rfl) 69 rfl (fun I406 D407 J408 X409 p410 => ?_)
                  obtain ⟨v411, f412, z3, z4, z5⟩ := p410
                  obtain rfl := z3.symm
                  obtain rfl := z4.symm
                  obtain rfl := z5.symm
                  rw [hs3] at v411
                  replace v411 : fm_V I406 n t false (e + 1 + 1 + 1) := v411
                  have q413 := q371.trans (f412).q
                  have u414 := u372.pf f412
                  rcases hdf : fq_dg n t (e + 1 + 1 + 1) with _ | _
                  · skip
                    refine fo_aload_n C dX7_command_69 3 rfl rfl 70 rfl ?_
                    refine fo_qvv C dX7_command_70 (mX7_readsValue_n hdf v411) lv_X7_259 (by decide : fo_k 616 = 9) rfl (by decide) rfl ⟨Nat.le_of_ble_eq_true rfl, Nat.le_of_ble_eq_true rfl⟩ ⟨Nat.le_of_ble_eq_true rfl, Nat.le_of_ble_eq_true rfl⟩ [] rfl (Nat.le_of_ble_eq_true rfl) 73 rfl (fun I416 D417 J418 X419 p420 => ?_)
                    obtain ⟨v421, f422, z3, z4, z5⟩ := p420
                    obtain rfl := z3.symm
                    obtain rfl := z4.symm
                    obtain rfl := z5.symm
                    have q425 := q413.trans (f422).q
                    have u426 := u414.pf f422
                    refine fo_aload_n C dX7_command_73 3 rfl rfl 74 rfl ?_
                    refine fo_qvi C dX7_command_74 (mX7_mark_w v421) lv_X7_237 (by decide : fo_k 616 = 9) rfl (by decide) rfl ⟨Nat.le_of_ble_eq_true rfl, Nat.le_of_ble_eq_true rfl⟩ ⟨Nat.le_of_ble_eq_true rfl, Nat.le_of_ble_eq_true rfl⟩ [] rfl (Nat.le_of_ble_eq_true rfl) 77 rfl (fo_er ?_)
                    refine fo_bipush C dX7_command_77 (nI 44) kb_44 79 rfl ?_
                    refine fo_icmp_ne C dX7_command_79 99 (by decide) 82 rfl (fun c433 => ?_) (fun c433 => ?_)
                    · have hpc : fq_pc n t Cs.length p = (none, e + 1 + 2) := by rw [fq_pc_fx, hwd, hF]; show fq_ps n t Cs.length (e + 1) = _; unfold fq_ps; rw [hd1, if_pos rfl, hs3, if_pos rfl]; rw [fq_vs, hdf]; rfl
                      refine fo_aload_n C dX7_command_99 3 rfl rfl 100 rfl ?_
                      refine fo_get C dX7_command_100 fK9 (by decide : fo_k 616 = 9) (by decide) 23 (by decide) fl_X7_81 (v := .int (fo_b (true))) (congrArg (fun x => some (Value.int x)) (v421.2.2.2.2.1)) 103 rfl ?_
                      refine fo_bif_eq C dX7_command_103 107 (by decide) 106 rfl (fun c434 => ?_) (fun c434 => ?_)
                      · exact absurd c434 (by decide)
                      · exact fin dX7_command_106 ((by rw [hpc]; exact ⟨⟨fun _ => v421, fun l h => by cases h⟩, q425.c, rfl, rfl, rfl⟩))
                    · exact absurd c433 (fm_nn (by decide))
                  · have hdfi := fq_num_in hdf
                    have hdfj := (fq_dg_in hdf).1
                    refine fo_aload_n C dX7_command_69 3 rfl rfl 70 rfl ?_
                    refine fo_qvv C dX7_command_70 (mX7_readsValue hdf v411 u414 (by rw [List.length_append]; first | omega | (show _ + 0 < 60; omega))) lv_X7_259 (by decide : fo_k 616 = 9) rfl (by decide) rfl ⟨Nat.le_of_ble_eq_true rfl, Nat.le_of_ble_eq_true rfl⟩ ⟨Nat.le_of_ble_eq_true rfl, Nat.le_of_ble_eq_true rfl⟩ [] rfl (Nat.le_of_ble_eq_true rfl) 73 rfl (fun I436 D437 J438 X439 p440 => ?_)
                    obtain ⟨v441, u443, f442, z3, z4, z5⟩ := p440
                    obtain rfl := z3.symm
                    obtain rfl := z4.symm
                    obtain rfl := z5.symm
                    have q444 := q413.trans f442
                    replace u443 : fm_U I436 (fm_fv Cs ++ [(fq_num n t (e + 1 + 1 + 1)).1]) := by rw [List.append_nil] at u443; exact u443
                    have hL73 : ∀ (m73 : Nat) (f r : Nat) (vs : List Nat) (Y : fo_Mi), 61 - r < m73 → r ≤ n → 61 ≤ f + r → (fm_fv Cs).length + vs.length + 4 ≤ r → p + 2 + vs.length ≤ r → (∀ x, x ∈ vs → x ≤ 999) → (fq_vs n t (t (e + 1) - 48) Cs.length 60 (e + 1 + 1 + 1) = if fq_at n t r 44 then fq_ac (vs.map (fun x => (115, t (e + 1) - 48, x, Cs.length))) (fq_vs n t (t (e + 1) - 48) Cs.length f (r + 1)) else (some (vs.map (fun x => (115, t (e + 1) - 48, x, Cs.length))), r)) → fm_V Y n t false r → fm_U Y (fm_fv Cs ++ vs) → fm_qf I Y → fo_G l Λ { frames := 3, cells := 0, slots := 0, locals := 71 } K 0 0 73 [(1, .int (nI 1)), (2, .int (nI (t (e + 1) - 48))), (3, .int (nI 1)), (0, .ref (Λ.2.2.1 616))] [] Y D J X := by
                      intro m73
                      induction m73 with
                      | zero => intro f r vs Y hm; exact absurd hm (Nat.not_lt_zero _)
                      | succ m73 ih73 =>
                        intro f r vs Y hm73 hrn hfr hvl2 hpr hvx hinv hY hUY hqY
                        rcases hcm : fq_at n t r 44 with _ | _
                        · skip
                          refine fo_aload_n C dX7_command_73 3 rfl rfl 74 rfl ?_
                          refine fo_qvi C dX7_command_74 (mX7_mark hY) lv_X7_237 (by decide : fo_k 616 = 9) rfl (by decide) rfl ⟨Nat.le_of_ble_eq_true rfl, Nat.le_of_ble_eq_true rfl⟩ ⟨Nat.le_of_ble_eq_true rfl, Nat.le_of_ble_eq_true rfl⟩ [] rfl (Nat.le_of_ble_eq_true rfl) 77 rfl (fo_er ?_)
                          refine fo_bipush C dX7_command_77 (nI 44) kb_44 79 rfl ?_
                          refine fo_icmp_ne C dX7_command_79 99 (by decide) 82 rfl (fun c451 => ?_) (fun c451 => ?_)
                          · have hpc : fq_pc n t Cs.length p = (some (vs.map (fun x => (115, t (e + 1) - 48, x, Cs.length))), r) := by rw [fq_pc_fx, hwd, hF]; show fq_ps n t Cs.length (e + 1) = _; unfold fq_ps; rw [hd1, if_pos rfl, hs3, if_pos rfl]; rw [show e + 1 + 2 = e + 1 + 1 + 1 from rfl, hinv, hcm]; rfl
                            refine fo_aload_n C dX7_command_99 3 rfl rfl 100 rfl ?_
                            refine fo_get C dX7_command_100 fK9 (by decide : fo_k 616 = 9) (by decide) 23 (by decide) fl_X7_81 (v := .int (fo_b (false))) (congrArg (fun x => some (Value.int x)) (hY.2.2.2.2.1)) 103 rfl ?_
                            refine fo_bif_eq C dX7_command_103 107 (by decide) 106 rfl (fun c452 => ?_) (fun c452 => ?_)
                            · refine fo_aload_n C dX7_command_107 3 rfl rfl 108 rfl ?_
                              refine fo_get C dX7_command_108 fK9 (by decide : fo_k 616 = 9) (by decide) 13 (by decide) fl_X7_51 (v := .ref (Λ.2.2.1 624)) rfl 111 rfl ?_
                              refine fo_aload_n C dX7_command_111 3 rfl rfl 112 rfl ?_
                              refine fo_get C dX7_command_112 fK9 (by decide : fo_k 616 = 9) (by decide) 21 (by decide) fl_X7_75 (v := .int (nI (Cs.length))) (congrArg (fun x => some (Value.int x)) ((hqY.2 21 (by decide) (by decide) (by decide)).trans hC.1)) 115 rfl ?_
                              refine fo_iload_n C dX7_command_115 0 rfl rfl 116 rfl ?_
                              refine fo_iast C dX7_command_116 (by decide : fo_k 624 = 20) (by rw [(show fo_n 624 = 32 from rfl)]; omega) 117 rfl ?_
                              refine fo_aload_n C dX7_command_117 3 rfl rfl 118 rfl ?_
                              refine fo_get C dX7_command_118 fK9 (by decide : fo_k 616 = 9) (by decide) 14 (by decide) fl_X7_54 (v := .ref (Λ.2.2.1 625)) rfl 121 rfl ?_
                              refine fo_aload_n C dX7_command_121 3 rfl rfl 122 rfl ?_
                              refine fo_get C dX7_command_122 fK9 (by decide : fo_k 616 = 9) (by decide) 21 (by decide) fl_X7_75 (v := .int (nI (Cs.length))) (congrArg (fun x => some (Value.int x)) ((by rw [fo_rn _ _ (by decide)]; exact (hqY.2 21 (by decide) (by decide) (by decide)).trans hC.1))) 125 rfl ?_
                              refine fo_iload_n C dX7_command_125 1 rfl rfl 126 rfl ?_
                              refine fo_iast C dX7_command_126 (by decide : fo_k 625 = 20) (by rw [(show fo_n 625 = 32 from rfl)]; omega) 127 rfl ?_
                              refine fo_aload_n C dX7_command_127 3 rfl rfl 128 rfl ?_
                              refine fo_get C dX7_command_128 fK9 (by decide : fo_k 616 = 9) (by decide) 15 (by decide) fl_X7_57 (v := .ref (Λ.2.2.1 626)) rfl 131 rfl ?_
                              refine fo_aload_n C dX7_command_131 3 rfl rfl 132 rfl ?_
                              refine fo_get C dX7_command_132 fK9 (by decide : fo_k 616 = 9) (by decide) 21 (by decide) fl_X7_75 (v := .int (nI (Cs.length))) (congrArg (fun x => some (Value.int x)) ((by rw [fo_rn _ _ (by decide), fo_rn _ _ (by decide)]; exact (hqY.2 21 (by decide) (by decide) (by decide)).trans hC.1))) 135 rfl ?_
                              refine fo_iload_n C dX7_command_135 2 rfl rfl 136 rfl ?_
                              refine fo_iast C dX7_command_136 (by decide : fo_k 626 = 20) (by rw [(show fo_n 626 = 32 from rfl)]; omega) 137 rfl ?_
                              refine fo_aload_n C dX7_command_137 3 rfl rfl 138 rfl ?_
                              refine fo_get C dX7_command_138 fK9 (by decide : fo_k 616 = 9) (by decide) 16 (by decide) fl_X7_60 (v := .ref (Λ.2.2.1 627)) rfl 141 rfl ?_
                              refine fo_aload_n C dX7_command_141 3 rfl rfl 142 rfl ?_
                              refine fo_get C dX7_command_142 fK9 (by decide : fo_k 616 = 9) (by decide) 21 (by decide) fl_X7_75 (v := .int (nI (Cs.length))) (congrArg (fun x => some (Value.int x)) ((by rw [fo_rn _ _ (by decide), fo_rn _ _ (by decide), fo_rn _ _ (by decide)]; exact (hqY.2 21 (by decide) (by decide) (by decide)).trans hC.1))) 145 rfl ?_
                              refine fo_aload_n C dX7_command_145 3 rfl rfl 146 rfl ?_
                              refine fo_get C dX7_command_146 fK9 (by decide : fo_k 616 = 9) (by decide) 22 (by decide) fl_X7_78 (v := .int (nI ((fm_fv Cs ++ vs).length))) (congrArg (fun x => some (Value.int x)) ((by rw [fo_rn _ _ (by decide), fo_rn _ _ (by decide), fo_rn _ _ (by decide)]; exact hUY.1))) 149 rfl ?_
                              refine fo_iast C dX7_command_149 (by decide : fo_k 627 = 20) (by rw [(show fo_n 627 = 32 from rfl)]; omega) 150 rfl ?_
                              refine fo_aload_n C dX7_command_150 3 rfl rfl 151 rfl ?_
                              refine fo_dup C dX7_command_151 rfl 152 rfl ?_
                              refine fo_get C dX7_command_152 fK9 (by decide : fo_k 616 = 9) (by decide) 21 (by decide) fl_X7_75 (v := .int (nI (Cs.length))) (congrArg (fun x => some (Value.int x)) ((by rw [fo_rn _ _ (by decide), fo_rn _ _ (by decide), fo_rn _ _ (by decide), fo_rn _ _ (by decide)]; exact (hqY.2 21 (by decide) (by decide) (by decide)).trans hC.1))) 155 rfl ?_
                              refine fo_iconst C dX7_command_155 (nI 1) ki_1 156 rfl ?_
                              refine fo_iadd C dX7_command_156 (nI (Cs.length + 1)) (nI_add _ _) 157 rfl ?_
                              refine fo_put C dX7_command_157 fK9 (by decide : fo_k 616 = 9) (by decide) 21 (by decide) fl_X7_75 rfl rfl rfl rfl (Nat.le_of_ble_eq_true rfl) 160 rfl ?_
                              exact fin dX7_command_160 ((by rw [hpc]; exact ⟨⟨fun h => (by cases h), fun l h => (by cases h; exact ⟨(1, t (e + 1) - 48, 1, vs), rfl, fm_ck_of (by decide) (by omega) (by decide) hvx (fun h => absurd h (by decide)), hY.to hY.2.1 (by rw [fo_rs, pk_un (by decide), fo_rn _ _ (by decide), fo_rn _ _ (by decide), fo_rn _ _ (by decide), fo_rn _ _ (by decide)]) (by rw [fo_rs, pk_un (by decide), fo_rn _ _ (by decide), fo_rn _ _ (by decide), fo_rn _ _ (by decide), fo_rn _ _ (by decide)]; exact hY.2.2.2.1) (by rw [fo_rs, pk_un (by decide), fo_rn _ _ (by decide), fo_rn _ _ (by decide), fo_rn _ _ (by decide), fo_rn _ _ (by decide)]; exact hY.2.2.2.2.1) rfl, hC.add (vs := vs) hqY (by rw [fo_rs, pk_us]) (by rw [fo_rn _ _ (by decide), fo_rn _ _ (by decide), fo_rn _ _ (by decide), fo_rn _ _ (by decide), fo_rs]) (by rw [fo_rn _ _ (by decide), fo_rn _ _ (by decide), fo_rn _ _ (by decide), fo_rs, fo_rn _ _ (by decide)]) (by rw [fo_rn _ _ (by decide), fo_rn _ _ (by decide), fo_rs, fo_rn _ _ (by decide), fo_rn _ _ (by decide)]) (by rw [fo_rn _ _ (by decide), fo_rs, fo_rn _ _ (by decide), fo_rn _ _ (by decide), fo_rn _ _ (by decide)]), (by rw [fm_fv_add]; exact ⟨(by rw [fo_rs, pk_un (by decide), fo_rn _ _ (by decide), fo_rn _ _ (by decide), fo_rn _ _ (by decide), fo_rn _ _ (by decide)]; exact hUY.1), fun j x hj => by rw [fo_rn _ _ (by decide), fo_rn _ _ (by decide), fo_rn _ _ (by decide), fo_rn _ _ (by decide), fo_rn _ _ (by decide)]; exact hUY.2 j x hj⟩), (by show p + 2 + vs.length ≤ r; omega)⟩)⟩, hqY.c.trans ⟨fun b b1 b2 => by rw [fo_rn _ _ b1, fo_rn _ _ (by omega), fo_rn _ _ (by omega), fo_rn _ _ (by omega), fo_rn _ _ (by omega)], fun j hj => by rw [fo_rs, pk_un (by omega), fo_rn _ _ (by decide), fo_rn _ _ (by decide), fo_rn _ _ (by decide), fo_rn _ _ (by decide)]⟩, rfl, rfl, rfl⟩))
                            · exact absurd c452 (by decide)
                          · exact absurd ((fm_mk_at ht9 (by decide)).mp c451) (by rw [hcm]; decide)
                        · have hcmi := (fq_at_in hcm).1
                          refine fo_aload_n C dX7_command_73 3 rfl rfl 74 rfl ?_
                          refine fo_qvi C dX7_command_74 (mX7_mark hY) lv_X7_237 (by decide : fo_k 616 = 9) rfl (by decide) rfl ⟨Nat.le_of_ble_eq_true rfl, Nat.le_of_ble_eq_true rfl⟩ ⟨Nat.le_of_ble_eq_true rfl, Nat.le_of_ble_eq_true rfl⟩ [] rfl (Nat.le_of_ble_eq_true rfl) 77 rfl (fo_er ?_)
                          refine fo_bipush C dX7_command_77 (nI 44) kb_44 79 rfl ?_
                          refine fo_icmp_ne C dX7_command_79 99 (by decide) 82 rfl (fun c459 => ?_) (fun c459 => ?_)
                          · exact absurd ((fm_mk_at ht9 (by decide)).mpr hcm) c459
                          · refine fo_aload_n C dX7_command_82 3 rfl rfl 83 rfl ?_
                            refine fo_dup C dX7_command_83 rfl 84 rfl ?_
                            refine fo_get C dX7_command_84 fK9 (by decide : fo_k 616 = 9) (by decide) 20 (by decide) fl_X7_72 (v := .int (nI r)) (congrArg (fun x => some (Value.int x)) (hY.2.2.2.1)) 87 rfl ?_
                            refine fo_iconst C dX7_command_87 (nI 1) ki_1 88 rfl ?_
                            refine fo_iadd C dX7_command_88 (nI (r + 1)) (nI_add _ _) 89 rfl ?_
                            refine fo_put C dX7_command_89 fK9 (by decide : fo_k 616 = 9) (by decide) 20 (by decide) fl_X7_72 rfl rfl rfl rfl (Nat.le_of_ble_eq_true rfl) 92 rfl ?_
                            have v460 : fm_V (fo_r Y 616 (upd (Y 616) 20 (nI (r + 1)))) n t false (r + 1) := hY.to hcmi (by rw [fo_rs, pk_un (by decide)]) (by rw [fo_rs, pk_us]) (by rw [fo_rs, pk_un (by decide)]; exact hY.2.2.2.2.1) rfl
                            have f461 : fm_pf Y (fo_r Y 616 (upd (Y 616) 20 (nI (r + 1)))) := ⟨fun b hb => by rw [fo_rn _ _ hb], fun j a b => by rw [fo_rs, pk_un a]⟩
                            have q462 := hqY.trans (f461).q
                            have u463 := hUY.pf f461
                            rcases hdv : fq_dg n t (r + 1) with _ | _
                            · skip
                              refine fo_aload_n C dX7_command_92 3 rfl rfl 93 rfl ?_
                              refine fo_qvv C dX7_command_93 (mX7_readsValue_n hdv v460) lv_X7_259 (by decide : fo_k 616 = 9) rfl (by decide) rfl ⟨Nat.le_of_ble_eq_true rfl, Nat.le_of_ble_eq_true rfl⟩ ⟨Nat.le_of_ble_eq_true rfl, Nat.le_of_ble_eq_true rfl⟩ [] rfl (Nat.le_of_ble_eq_true rfl) 96 rfl (fun I465 D466 J467 X468 p469 => ?_)
                              obtain ⟨v470, f471, z3, z4, z5⟩ := p469
                              obtain rfl := z3.symm
                              obtain rfl := z4.symm
                              obtain rfl := z5.symm
                              have q474 := q462.trans (f471).q
                              have u475 := u463.pf f471
                              refine fo_goto C dX7_command_96 73 (by decide) ?_
                              refine fo_aload_n C dX7_command_73 3 rfl rfl 74 rfl ?_
                              refine fo_qvi C dX7_command_74 (mX7_mark_w v470) lv_X7_237 (by decide : fo_k 616 = 9) rfl (by decide) rfl ⟨Nat.le_of_ble_eq_true rfl, Nat.le_of_ble_eq_true rfl⟩ ⟨Nat.le_of_ble_eq_true rfl, Nat.le_of_ble_eq_true rfl⟩ [] rfl (Nat.le_of_ble_eq_true rfl) 77 rfl (fo_er ?_)
                              refine fo_bipush C dX7_command_77 (nI 44) kb_44 79 rfl ?_
                              refine fo_icmp_ne C dX7_command_79 99 (by decide) 82 rfl (fun c482 => ?_) (fun c482 => ?_)
                              · have hpc : fq_pc n t Cs.length p = (none, r + 1) := by rw [fq_pc_fx, hwd, hF]; show fq_ps n t Cs.length (e + 1) = _; unfold fq_ps; rw [hd1, if_pos rfl, hs3, if_pos rfl]; rw [show e + 1 + 2 = e + 1 + 1 + 1 from rfl, hinv, hcm, if_pos rfl]; obtain ⟨f0, rfl⟩ : ∃ f0, f = f0 + 1 := ⟨f - 1, by omega⟩; rw [fq_vs, hdv]; rfl
                                refine fo_aload_n C dX7_command_99 3 rfl rfl 100 rfl ?_
                                refine fo_get C dX7_command_100 fK9 (by decide : fo_k 616 = 9) (by decide) 23 (by decide) fl_X7_81 (v := .int (fo_b (true))) (congrArg (fun x => some (Value.int x)) (v470.2.2.2.2.1)) 103 rfl ?_
                                refine fo_bif_eq C dX7_command_103 107 (by decide) 106 rfl (fun c483 => ?_) (fun c483 => ?_)
                                · exact absurd c483 (by decide)
                                · exact fin dX7_command_106 ((by rw [hpc]; exact ⟨⟨fun _ => v470, fun l h => by cases h⟩, q474.c, rfl, rfl, rfl⟩))
                              · exact absurd c482 (fm_nn (by decide))
                            · have hdvi := fq_num_in hdv
                              have hdvj := (fq_dg_in hdv).1
                              refine fo_aload_n C dX7_command_92 3 rfl rfl 93 rfl ?_
                              refine fo_qvv C dX7_command_93 (mX7_readsValue hdv v460 u463 (by rw [List.length_append]; first | omega | (show _ + 0 < 60; omega))) lv_X7_259 (by decide : fo_k 616 = 9) rfl (by decide) rfl ⟨Nat.le_of_ble_eq_true rfl, Nat.le_of_ble_eq_true rfl⟩ ⟨Nat.le_of_ble_eq_true rfl, Nat.le_of_ble_eq_true rfl⟩ [] rfl (Nat.le_of_ble_eq_true rfl) 96 rfl (fun I485 D486 J487 X488 p489 => ?_)
                              obtain ⟨v490, u492, f491, z3, z4, z5⟩ := p489
                              obtain rfl := z3.symm
                              obtain rfl := z4.symm
                              obtain rfl := z5.symm
                              have q493 := q462.trans f491
                              replace u492 : fm_U I485 (fm_fv Cs ++ (vs ++ [(fq_num n t (r + 1)).1])) := by rw [List.append_assoc] at u492; exact u492
                              refine fo_goto C dX7_command_96 73 (by decide) ?_
                              exact ih73 (f - 1) (fq_num n t (r + 1)).2 (vs ++ [(fq_num n t (r + 1)).1]) I485 (by omega) hdvi.2.1 (by have := hdvi.1; omega) (by have := hdvi.1; rw [List.length_append]; show _ + (_ + 1) + 4 ≤ _; omega) (by have := hdvi.1; rw [List.length_append]; show p + 2 + (_ + 1) ≤ _; omega) (fun x hx => by rw [List.mem_append, List.mem_singleton] at hx; rcases hx with hx | hx; exact hvx x hx; rw [hx]; exact hdvi.2.2) (by rw [hinv, hcm, if_pos rfl]; obtain ⟨f0, rfl⟩ : ∃ f0, f = f0 + 1 := ⟨f - 1, by omega⟩; rw [fq_vs, hdv, if_pos rfl]; rw [List.map_append, Nat.add_sub_cancel]; cases fq_at n t (fq_num n t (r + 1)).2 44 with | true => (rw [if_pos rfl, if_pos rfl, fq_ac_ac]; rfl) | false => rfl) v490 u492 q493
                    refine fo_sub C [2, 1, 0, 3] (lv' := [(1, .int (nI 1)), (2, .int (nI (t (e + 1) - 48))), (3, .int (nI 1)), (0, .ref (Λ.2.2.1 616))]) rfl ?_
                    exact hL73 (61 + 1) 59 (fq_num n t (e + 1 + 1 + 1)).2 [(fq_num n t (e + 1 + 1 + 1)).1] I436 (by omega) hdfi.2.1 (by have := hdfi.1; omega) (by have := hdfi.1; show _ + 1 + 4 ≤ _; omega) (by have := hdfi.1; show p + 2 + 1 ≤ _; omega) (fun x hx => by rw [List.mem_singleton] at hx; rw [hx]; exact hdfi.2.2) (by rw [fq_vs, hdf, if_pos rfl]; rfl) v441 u443 q444
            · omega
        · omega
  · rcases b with _ | _
    · have hwd : fq_wd n t (fo_wd (fm_fx n t p)) p = (false, e) := by rw [fm_wdW _ hx4, fq_wd_app, hz]; rfl
      refine fo_aload_n C dX7_command_0 0 rfl rfl 1 rfl ?_
      refine fo_qvi C dX7_command_1 (mX7_word hV) lv_X7_250 (by decide : fo_k 616 = 9) rfl (by decide) rfl ⟨Nat.le_of_ble_eq_true rfl, Nat.le_of_ble_eq_true rfl⟩ ⟨Nat.le_of_ble_eq_true rfl, Nat.le_of_ble_eq_true rfl⟩ [] rfl (Nat.le_of_ble_eq_true rfl) 4 rfl (fun r494 I495 D496 J497 X498 p499 => ?_)
      obtain ⟨hr, v500, f501, z3, z4, z5⟩ := p499
      obtain rfl := z3.symm
      obtain rfl := z4.symm
      obtain rfl := z5.symm
      rw [hz] at hr v500
      obtain rfl : r494 = nI 0 := hr
      replace v500 : fm_V I495 n t true e := v500
      have q502 := hq0.trans (f501).q
      have u503 := hU.pf f501
      refine fo_istore_n C dX7_command_4 rfl [(1, .int (nI 0)), (0, .ref (Λ.2.2.1 616))] rfl (by decide) 5 rfl ?_
      refine fo_aload_n C dX7_command_5 1 rfl rfl 6 rfl ?_
      refine fo_bipush C dX7_command_6 (nI 32) kb_32 8 rfl ?_
      refine fo_qvv C dX7_command_8 (mX7_expect_w (c := 32) (by decide) v500) lv_X7_253 (by decide : fo_k 616 = 9) rfl (by decide) rfl ⟨Nat.le_of_ble_eq_true rfl, Nat.le_of_ble_eq_true rfl⟩ ⟨Nat.le_of_ble_eq_true rfl, Nat.le_of_ble_eq_true rfl⟩ [] rfl (Nat.le_of_ble_eq_true rfl) 11 rfl (fun I505 D506 J507 X508 p509 => ?_)
      obtain ⟨v510, f511, z3, z4, z5⟩ := p509
      obtain rfl := z3.symm
      obtain rfl := z4.symm
      obtain rfl := z5.symm
      have q512 := q502.trans (f511).q
      have u513 := u503.pf f511
      refine fo_iload_n C dX7_command_11 0 rfl rfl 12 rfl ?_
      refine fo_nif_ne C (by omega) dX7_command_12 22 (by decide) 15 rfl (fun c514 => ?_) (fun c514 => ?_)
      · omega
      · refine fo_aload_n C dX7_command_15 1 rfl rfl 16 rfl ?_
        refine fo_qvi C dX7_command_16 (mX7_prophetKind_w v510) lv_X7_256 (by decide : fo_k 616 = 9) rfl (by decide) rfl ⟨Nat.le_of_ble_eq_true rfl, Nat.le_of_ble_eq_true rfl⟩ ⟨Nat.le_of_ble_eq_true rfl, Nat.le_of_ble_eq_true rfl⟩ [] rfl (Nat.le_of_ble_eq_true rfl) 19 rfl (fun r515 I516 D517 J518 X519 p520 => ?_)
        obtain ⟨rfl, v521, f522, z3, z4, z5⟩ := p520
        obtain rfl := z3.symm
        obtain rfl := z4.symm
        obtain rfl := z5.symm
        have q523 := q512.trans (f522).q
        have u524 := u513.pf f522
        refine fo_goto C dX7_command_19 27 (by decide) ?_
        refine fo_istore_n C dX7_command_27 rfl [(2, .int (-1)), (1, .int (nI 0)), (0, .ref (Λ.2.2.1 616))] rfl (by decide) 28 rfl ?_
        refine fo_iconst C dX7_command_28 (nI 1) ki_1 29 rfl ?_
        refine fo_istore_n C dX7_command_29 rfl [(3, .int (nI 1)), (2, .int (-1)), (1, .int (nI 0)), (0, .ref (Λ.2.2.1 616))] rfl (by decide) 30 rfl ?_
        refine fo_iload_n C dX7_command_30 2 rfl rfl 31 rfl ?_
        refine fo_nif_ne C (by omega) dX7_command_31 58 (by decide) 34 rfl (fun c525 => ?_) (fun c525 => ?_)
        · omega
        · refine fo_iload_n C dX7_command_34 1 rfl rfl 35 rfl ?_
          refine fo_bipush C dX7_command_35 (nI 109) kb_109 37 rfl ?_
          refine fo_icmp_eq C dX7_command_37 52 (by decide) 40 rfl (fun c526 => ?_) (fun c526 => ?_)
          · exact absurd c526 (fm_nn (by decide))
          · refine fo_iload_n C dX7_command_40 1 rfl rfl 41 rfl ?_
            refine fo_bipush C dX7_command_41 (nI 100) kb_100 43 rfl ?_
            refine fo_icmp_eq C dX7_command_43 52 (by decide) 46 rfl (fun c527 => ?_) (fun c527 => ?_)
            · exact absurd c527 (fm_nn (by decide))
            · refine fo_iload_n C dX7_command_46 1 rfl rfl 47 rfl ?_
              refine fo_bipush C dX7_command_47 (nI 115) kb_115 49 rfl ?_
              refine fo_icmp_ne C dX7_command_49 58 (by decide) 52 rfl (fun c528 => ?_) (fun c528 => ?_)
              · refine fo_iload_n C dX7_command_58 2 rfl rfl 59 rfl ?_
                refine fo_iconst C dX7_command_59 (nI 1) ki_1 60 rfl ?_
                refine fo_ncmp_ne C (by omega) (by omega) dX7_command_60 99 (by decide) 63 rfl (fun c529 => ?_) (fun c529 => ?_)
                · have hpc : fq_pc n t Cs.length p = (none, e) := by rw [fq_pc_fx, hwd]; rfl
                  refine fo_aload_n C dX7_command_99 3 rfl rfl 100 rfl ?_
                  refine fo_get C dX7_command_100 fK9 (by decide : fo_k 616 = 9) (by decide) 23 (by decide) fl_X7_81 (v := .int (fo_b (true))) (congrArg (fun x => some (Value.int x)) (v521.2.2.2.2.1)) 103 rfl ?_
                  refine fo_bif_eq C dX7_command_103 107 (by decide) 106 rfl (fun c530 => ?_) (fun c530 => ?_)
                  · exact absurd c530 (by decide)
                  · exact fin dX7_command_106 ((by rw [hpc]; exact ⟨⟨fun _ => v521, fun l h => by cases h⟩, q523.c, rfl, rfl, rfl⟩))
                · omega
              · exact absurd c528 (fm_nn (by decide))
    · have hin4 : p + (fm_W (fm_fx n t p)).length ≤ e := hin.2.2 rfl
      rw [hF] at hin4
      have hin5 : p + 3 ≤ e := Nat.le_trans (Nat.add_le_add_left (by decide) _) hin4
      rcases hs : fq_at n t e 32 with _ | _
      · have hwd : fq_wd n t (fo_wd (fm_fx n t p)) p = (false, e) := by rw [fm_wdW _ hx4, fq_wd_app, hz]; show (if fq_at n t e 32 = true then _ else _) = _; rw [hs]; rfl
        refine fo_aload_n C dX7_command_0 0 rfl rfl 1 rfl ?_
        refine fo_qvi C dX7_command_1 (mX7_word hV) lv_X7_250 (by decide : fo_k 616 = 9) rfl (by decide) rfl ⟨Nat.le_of_ble_eq_true rfl, Nat.le_of_ble_eq_true rfl⟩ ⟨Nat.le_of_ble_eq_true rfl, Nat.le_of_ble_eq_true rfl⟩ [] rfl (Nat.le_of_ble_eq_true rfl) 4 rfl (fun r531 I532 D533 J534 X535 p536 => ?_)
        obtain ⟨hr, v537, f538, z3, z4, z5⟩ := p536
        obtain rfl := z3.symm
        obtain rfl := z4.symm
        obtain rfl := z5.symm
        rw [hz] at hr v537
        rw [hF] at hr
        obtain rfl : r531 = nI 2 := hr
        replace v537 : fm_V I532 n t false e := v537
        have q539 := hq0.trans (f538).q
        have u540 := hU.pf f538
        refine fo_istore_n C dX7_command_4 rfl [(1, .int (nI 2)), (0, .ref (Λ.2.2.1 616))] rfl (by decide) 5 rfl ?_
        refine fo_aload_n C dX7_command_5 1 rfl rfl 6 rfl ?_
        refine fo_bipush C dX7_command_6 (nI 32) kb_32 8 rfl ?_
        refine fo_qvv C dX7_command_8 (mX7_expect (c := 32) (by decide) v537) lv_X7_253 (by decide : fo_k 616 = 9) rfl (by decide) rfl ⟨Nat.le_of_ble_eq_true rfl, Nat.le_of_ble_eq_true rfl⟩ ⟨Nat.le_of_ble_eq_true rfl, Nat.le_of_ble_eq_true rfl⟩ [] rfl (Nat.le_of_ble_eq_true rfl) 11 rfl (fun I542 D543 J544 X545 p546 => ?_)
        obtain ⟨v547, f548, z3, z4, z5⟩ := p546
        obtain rfl := z3.symm
        obtain rfl := z4.symm
        obtain rfl := z5.symm
        rw [hs] at v547
        replace v547 : fm_V I542 n t true (e) := v547
        have q549 := q539.trans (f548).q
        have u550 := u540.pf f548
        refine fo_iload_n C dX7_command_11 0 rfl rfl 12 rfl ?_
        refine fo_nif_ne C (by omega) dX7_command_12 22 (by decide) 15 rfl (fun c551 => ?_) (fun c551 => ?_)
        · refine fo_aload_n C dX7_command_22 1 rfl rfl 23 rfl ?_
          refine fo_iconst C dX7_command_23 (nI 1) ki_1 24 rfl ?_
          refine fo_qvi C dX7_command_24 (mX7_number_w (m := 1) (by decide) (by decide) v547) lv_X7_247 (by decide : fo_k 616 = 9) rfl (by decide) rfl ⟨Nat.le_of_ble_eq_true rfl, Nat.le_of_ble_eq_true rfl⟩ ⟨Nat.le_of_ble_eq_true rfl, Nat.le_of_ble_eq_true rfl⟩ [] rfl (Nat.le_of_ble_eq_true rfl) 27 rfl (fun r552 I553 D554 J555 X556 p557 => ?_)
          obtain ⟨rfl, v558, f559, z3, z4, z5⟩ := p557
          obtain rfl := z3.symm
          obtain rfl := z4.symm
          obtain rfl := z5.symm
          have q560 := q549.trans (f559).q
          have u561 := u550.pf f559
          refine fo_istore_n C dX7_command_27 rfl [(2, .int (nI 0)), (1, .int (nI 2)), (0, .ref (Λ.2.2.1 616))] rfl (by decide) 28 rfl ?_
          refine fo_iconst C dX7_command_28 (nI 1) ki_1 29 rfl ?_
          refine fo_istore_n C dX7_command_29 rfl [(3, .int (nI 1)), (2, .int (nI 0)), (1, .int (nI 2)), (0, .ref (Λ.2.2.1 616))] rfl (by decide) 30 rfl ?_
          refine fo_iload_n C dX7_command_30 2 rfl rfl 31 rfl ?_
          refine fo_nif_ne C (by omega) dX7_command_31 58 (by decide) 34 rfl (fun c562 => ?_) (fun c562 => ?_)
          · refine fo_iload_n C dX7_command_58 2 rfl rfl 59 rfl ?_
            refine fo_iconst C dX7_command_59 (nI 1) ki_1 60 rfl ?_
            refine fo_ncmp_ne C (by omega) (by omega) dX7_command_60 99 (by decide) 63 rfl (fun c563 => ?_) (fun c563 => ?_)
            · have hpc : fq_pc n t Cs.length p = (none, e) := by rw [fq_pc_fx, hwd]; rfl
              refine fo_aload_n C dX7_command_99 3 rfl rfl 100 rfl ?_
              refine fo_get C dX7_command_100 fK9 (by decide : fo_k 616 = 9) (by decide) 23 (by decide) fl_X7_81 (v := .int (fo_b (true))) (congrArg (fun x => some (Value.int x)) (v558.2.2.2.2.1)) 103 rfl ?_
              refine fo_bif_eq C dX7_command_103 107 (by decide) 106 rfl (fun c564 => ?_) (fun c564 => ?_)
              · exact absurd c564 (by decide)
              · exact fin dX7_command_106 ((by rw [hpc]; exact ⟨⟨fun _ => v558, fun l h => by cases h⟩, q560.c, rfl, rfl, rfl⟩))
            · omega
          · omega
        · omega
      · have hwd : fq_wd n t (fo_wd (fm_fx n t p)) p = (true, e + 1) := by rw [fm_wdW _ hx4, fq_wd_app, hz]; show (if fq_at n t e 32 = true then _ else _) = _; rw [hs]; rfl
        have hel := (fq_at_in hs).1
        refine fo_aload_n C dX7_command_0 0 rfl rfl 1 rfl ?_
        refine fo_qvi C dX7_command_1 (mX7_word hV) lv_X7_250 (by decide : fo_k 616 = 9) rfl (by decide) rfl ⟨Nat.le_of_ble_eq_true rfl, Nat.le_of_ble_eq_true rfl⟩ ⟨Nat.le_of_ble_eq_true rfl, Nat.le_of_ble_eq_true rfl⟩ [] rfl (Nat.le_of_ble_eq_true rfl) 4 rfl (fun r565 I566 D567 J568 X569 p570 => ?_)
        obtain ⟨hr, v571, f572, z3, z4, z5⟩ := p570
        obtain rfl := z3.symm
        obtain rfl := z4.symm
        obtain rfl := z5.symm
        rw [hz] at hr v571
        rw [hF] at hr
        obtain rfl : r565 = nI 2 := hr
        replace v571 : fm_V I566 n t false e := v571
        have q573 := hq0.trans (f572).q
        have u574 := hU.pf f572
        refine fo_istore_n C dX7_command_4 rfl [(1, .int (nI 2)), (0, .ref (Λ.2.2.1 616))] rfl (by decide) 5 rfl ?_
        refine fo_aload_n C dX7_command_5 1 rfl rfl 6 rfl ?_
        refine fo_bipush C dX7_command_6 (nI 32) kb_32 8 rfl ?_
        refine fo_qvv C dX7_command_8 (mX7_expect (c := 32) (by decide) v571) lv_X7_253 (by decide : fo_k 616 = 9) rfl (by decide) rfl ⟨Nat.le_of_ble_eq_true rfl, Nat.le_of_ble_eq_true rfl⟩ ⟨Nat.le_of_ble_eq_true rfl, Nat.le_of_ble_eq_true rfl⟩ [] rfl (Nat.le_of_ble_eq_true rfl) 11 rfl (fun I576 D577 J578 X579 p580 => ?_)
        obtain ⟨v581, f582, z3, z4, z5⟩ := p580
        obtain rfl := z3.symm
        obtain rfl := z4.symm
        obtain rfl := z5.symm
        rw [hs] at v581
        replace v581 : fm_V I576 n t false (e + 1) := v581
        have q583 := q573.trans (f582).q
        have u584 := u574.pf f582
        refine fo_iload_n C dX7_command_11 0 rfl rfl 12 rfl ?_
        refine fo_nif_ne C (by omega) dX7_command_12 22 (by decide) 15 rfl (fun c585 => ?_) (fun c585 => ?_)
        · rcases hd1 : fq_dg n t (e + 1) with _ | _
          · skip
            refine fo_aload_n C dX7_command_22 1 rfl rfl 23 rfl ?_
            refine fo_iconst C dX7_command_23 (nI 1) ki_1 24 rfl ?_
            refine fo_qvi C dX7_command_24 (mX7_number_n (m := 1) (by decide) (by decide) hd1 v581) lv_X7_247 (by decide : fo_k 616 = 9) rfl (by decide) rfl ⟨Nat.le_of_ble_eq_true rfl, Nat.le_of_ble_eq_true rfl⟩ ⟨Nat.le_of_ble_eq_true rfl, Nat.le_of_ble_eq_true rfl⟩ [] rfl (Nat.le_of_ble_eq_true rfl) 27 rfl (fun r586 I587 D588 J589 X590 p591 => ?_)
            obtain ⟨rfl, v592, f593, z3, z4, z5⟩ := p591
            obtain rfl := z3.symm
            obtain rfl := z4.symm
            obtain rfl := z5.symm
            have q594 := q583.trans (f593).q
            have u595 := u584.pf f593
            refine fo_istore_n C dX7_command_27 rfl [(2, .int (nI 0)), (1, .int (nI 2)), (0, .ref (Λ.2.2.1 616))] rfl (by decide) 28 rfl ?_
            refine fo_iconst C dX7_command_28 (nI 1) ki_1 29 rfl ?_
            refine fo_istore_n C dX7_command_29 rfl [(3, .int (nI 1)), (2, .int (nI 0)), (1, .int (nI 2)), (0, .ref (Λ.2.2.1 616))] rfl (by decide) 30 rfl ?_
            refine fo_iload_n C dX7_command_30 2 rfl rfl 31 rfl ?_
            refine fo_nif_ne C (by omega) dX7_command_31 58 (by decide) 34 rfl (fun c596 => ?_) (fun c596 => ?_)
            · refine fo_iload_n C dX7_command_58 2 rfl rfl 59 rfl ?_
              refine fo_iconst C dX7_command_59 (nI 1) ki_1 60 rfl ?_
              refine fo_ncmp_ne C (by omega) (by omega) dX7_command_60 99 (by decide) 63 rfl (fun c597 => ?_) (fun c597 => ?_)
              · have hpc : fq_pc n t Cs.length p = (none, e + 1) := by rw [fq_pc_fx, hwd, hF]; show fq_pd n t 108 Cs.length (e + 1) = _; unfold fq_pd; rw [hd1]; rfl
                refine fo_aload_n C dX7_command_99 3 rfl rfl 100 rfl ?_
                refine fo_get C dX7_command_100 fK9 (by decide : fo_k 616 = 9) (by decide) 23 (by decide) fl_X7_81 (v := .int (fo_b (true))) (congrArg (fun x => some (Value.int x)) (v592.2.2.2.2.1)) 103 rfl ?_
                refine fo_bif_eq C dX7_command_103 107 (by decide) 106 rfl (fun c598 => ?_) (fun c598 => ?_)
                · exact absurd c598 (by decide)
                · exact fin dX7_command_106 ((by rw [hpc]; exact ⟨⟨fun _ => v592, fun l h => by cases h⟩, q594.c, rfl, rfl, rfl⟩))
              · omega
            · omega
          · have hd1i := fq_dg_in hd1
            refine fo_aload_n C dX7_command_22 1 rfl rfl 23 rfl ?_
            refine fo_iconst C dX7_command_23 (nI 1) ki_1 24 rfl ?_
            refine fo_qvi C dX7_command_24 (mX7_number (m := 1) (by decide) (by decide) hd1 v581) lv_X7_247 (by decide : fo_k 616 = 9) rfl (by decide) rfl ⟨Nat.le_of_ble_eq_true rfl, Nat.le_of_ble_eq_true rfl⟩ ⟨Nat.le_of_ble_eq_true rfl, Nat.le_of_ble_eq_true rfl⟩ [] rfl (Nat.le_of_ble_eq_true rfl) 27 rfl (fun r599 I600 D601 J602 X603 p604 => ?_)
            obtain ⟨rfl, v605, f606, z3, z4, z5⟩ := p604
            obtain rfl := z3.symm
            obtain rfl := z4.symm
            obtain rfl := z5.symm
            rw [hd1, fq_nm_1 hd1] at v605
            replace v605 : fm_V I600 n t false (e + 1 + 1) := v605
            rw [fq_nm_1 hd1]
            have q607 := q583.trans (f606).q
            have u608 := u584.pf f606
            refine fo_istore_n C dX7_command_27 rfl [(2, .int (nI (t (e + 1) - 48))), (1, .int (nI 2)), (0, .ref (Λ.2.2.1 616))] rfl (by decide) 28 rfl ?_
            refine fo_iconst C dX7_command_28 (nI 1) ki_1 29 rfl ?_
            refine fo_istore_n C dX7_command_29 rfl [(3, .int (nI 1)), (2, .int (nI (t (e + 1) - 48))), (1, .int (nI 2)), (0, .ref (Λ.2.2.1 616))] rfl (by decide) 30 rfl ?_
            refine fo_iload_n C dX7_command_30 2 rfl rfl 31 rfl ?_
            refine fo_nif_ne C (by omega) dX7_command_31 58 (by decide) 34 rfl (fun c609 => ?_) (fun c609 => ?_)
            · refine fo_iload_n C dX7_command_58 2 rfl rfl 59 rfl ?_
              refine fo_iconst C dX7_command_59 (nI 1) ki_1 60 rfl ?_
              refine fo_ncmp_ne C (by omega) (by omega) dX7_command_60 99 (by decide) 63 rfl (fun c610 => ?_) (fun c610 => ?_)
              · have hpc : fq_pc n t Cs.length p = (some [(108, t (e + 1) - 48, 0, Cs.length)], e + 1 + 1) := by rw [fq_pc_fx, hwd, hF]; show fq_pd n t 108 Cs.length (e + 1) = _; unfold fq_pd; rw [hd1]; rfl
                refine fo_aload_n C dX7_command_99 3 rfl rfl 100 rfl ?_
                refine fo_get C dX7_command_100 fK9 (by decide : fo_k 616 = 9) (by decide) 23 (by decide) fl_X7_81 (v := .int (fo_b (false))) (congrArg (fun x => some (Value.int x)) (v605.2.2.2.2.1)) 103 rfl ?_
                refine fo_bif_eq C dX7_command_103 107 (by decide) 106 rfl (fun c611 => ?_) (fun c611 => ?_)
                · refine fo_aload_n C dX7_command_107 3 rfl rfl 108 rfl ?_
                  refine fo_get C dX7_command_108 fK9 (by decide : fo_k 616 = 9) (by decide) 13 (by decide) fl_X7_51 (v := .ref (Λ.2.2.1 624)) rfl 111 rfl ?_
                  refine fo_aload_n C dX7_command_111 3 rfl rfl 112 rfl ?_
                  refine fo_get C dX7_command_112 fK9 (by decide : fo_k 616 = 9) (by decide) 21 (by decide) fl_X7_75 (v := .int (nI (Cs.length))) (congrArg (fun x => some (Value.int x)) ((q607.2 21 (by decide) (by decide) (by decide)).trans hC.1)) 115 rfl ?_
                  refine fo_iload_n C dX7_command_115 2 rfl rfl 116 rfl ?_
                  refine fo_iast C dX7_command_116 (by decide : fo_k 624 = 20) (by rw [(show fo_n 624 = 32 from rfl)]; omega) 117 rfl ?_
                  refine fo_aload_n C dX7_command_117 3 rfl rfl 118 rfl ?_
                  refine fo_get C dX7_command_118 fK9 (by decide : fo_k 616 = 9) (by decide) 14 (by decide) fl_X7_54 (v := .ref (Λ.2.2.1 625)) rfl 121 rfl ?_
                  refine fo_aload_n C dX7_command_121 3 rfl rfl 122 rfl ?_
                  refine fo_get C dX7_command_122 fK9 (by decide : fo_k 616 = 9) (by decide) 21 (by decide) fl_X7_75 (v := .int (nI (Cs.length))) (congrArg (fun x => some (Value.int x)) ((by rw [fo_rn _ _ (by decide)]; exact (q607.2 21 (by decide) (by decide) (by decide)).trans hC.1))) 125 rfl ?_
                  refine fo_iload_n C dX7_command_125 1 rfl rfl 126 rfl ?_
                  refine fo_iast C dX7_command_126 (by decide : fo_k 625 = 20) (by rw [(show fo_n 625 = 32 from rfl)]; omega) 127 rfl ?_
                  refine fo_aload_n C dX7_command_127 3 rfl rfl 128 rfl ?_
                  refine fo_get C dX7_command_128 fK9 (by decide : fo_k 616 = 9) (by decide) 15 (by decide) fl_X7_57 (v := .ref (Λ.2.2.1 626)) rfl 131 rfl ?_
                  refine fo_aload_n C dX7_command_131 3 rfl rfl 132 rfl ?_
                  refine fo_get C dX7_command_132 fK9 (by decide : fo_k 616 = 9) (by decide) 21 (by decide) fl_X7_75 (v := .int (nI (Cs.length))) (congrArg (fun x => some (Value.int x)) ((by rw [fo_rn _ _ (by decide), fo_rn _ _ (by decide)]; exact (q607.2 21 (by decide) (by decide) (by decide)).trans hC.1))) 135 rfl ?_
                  refine fo_iload_n C dX7_command_135 0 rfl rfl 136 rfl ?_
                  refine fo_iast C dX7_command_136 (by decide : fo_k 626 = 20) (by rw [(show fo_n 626 = 32 from rfl)]; omega) 137 rfl ?_
                  refine fo_aload_n C dX7_command_137 3 rfl rfl 138 rfl ?_
                  refine fo_get C dX7_command_138 fK9 (by decide : fo_k 616 = 9) (by decide) 16 (by decide) fl_X7_60 (v := .ref (Λ.2.2.1 627)) rfl 141 rfl ?_
                  refine fo_aload_n C dX7_command_141 3 rfl rfl 142 rfl ?_
                  refine fo_get C dX7_command_142 fK9 (by decide : fo_k 616 = 9) (by decide) 21 (by decide) fl_X7_75 (v := .int (nI (Cs.length))) (congrArg (fun x => some (Value.int x)) ((by rw [fo_rn _ _ (by decide), fo_rn _ _ (by decide), fo_rn _ _ (by decide)]; exact (q607.2 21 (by decide) (by decide) (by decide)).trans hC.1))) 145 rfl ?_
                  refine fo_aload_n C dX7_command_145 3 rfl rfl 146 rfl ?_
                  refine fo_get C dX7_command_146 fK9 (by decide : fo_k 616 = 9) (by decide) 22 (by decide) fl_X7_78 (v := .int (nI ((fm_fv Cs ++ []).length))) (congrArg (fun x => some (Value.int x)) ((by rw [fo_rn _ _ (by decide), fo_rn _ _ (by decide), fo_rn _ _ (by decide)]; exact u608.1))) 149 rfl ?_
                  refine fo_iast C dX7_command_149 (by decide : fo_k 627 = 20) (by rw [(show fo_n 627 = 32 from rfl)]; omega) 150 rfl ?_
                  refine fo_aload_n C dX7_command_150 3 rfl rfl 151 rfl ?_
                  refine fo_dup C dX7_command_151 rfl 152 rfl ?_
                  refine fo_get C dX7_command_152 fK9 (by decide : fo_k 616 = 9) (by decide) 21 (by decide) fl_X7_75 (v := .int (nI (Cs.length))) (congrArg (fun x => some (Value.int x)) ((by rw [fo_rn _ _ (by decide), fo_rn _ _ (by decide), fo_rn _ _ (by decide), fo_rn _ _ (by decide)]; exact (q607.2 21 (by decide) (by decide) (by decide)).trans hC.1))) 155 rfl ?_
                  refine fo_iconst C dX7_command_155 (nI 1) ki_1 156 rfl ?_
                  refine fo_iadd C dX7_command_156 (nI (Cs.length + 1)) (nI_add _ _) 157 rfl ?_
                  refine fo_put C dX7_command_157 fK9 (by decide : fo_k 616 = 9) (by decide) 21 (by decide) fl_X7_75 rfl rfl rfl rfl (Nat.le_of_ble_eq_true rfl) 160 rfl ?_
                  exact fin dX7_command_160 ((by rw [hpc]; exact ⟨⟨fun h => (by cases h), fun l h => (by cases h; exact ⟨(2, t (e + 1) - 48, 1, []), rfl, fm_ck_of (by decide) (by omega) (by decide) (fun x hx => (by cases hx)) (fun h => absurd h (by decide)), v605.to v605.2.1 (by rw [fo_rs, pk_un (by decide), fo_rn _ _ (by decide), fo_rn _ _ (by decide), fo_rn _ _ (by decide), fo_rn _ _ (by decide)]) (by rw [fo_rs, pk_un (by decide), fo_rn _ _ (by decide), fo_rn _ _ (by decide), fo_rn _ _ (by decide), fo_rn _ _ (by decide)]; exact v605.2.2.2.1) (by rw [fo_rs, pk_un (by decide), fo_rn _ _ (by decide), fo_rn _ _ (by decide), fo_rn _ _ (by decide), fo_rn _ _ (by decide)]; exact v605.2.2.2.2.1) rfl, hC.add (vs := []) q607 (by rw [fo_rs, pk_us]) (by rw [fo_rn _ _ (by decide), fo_rn _ _ (by decide), fo_rn _ _ (by decide), fo_rn _ _ (by decide), fo_rs]) (by rw [fo_rn _ _ (by decide), fo_rn _ _ (by decide), fo_rn _ _ (by decide), fo_rs, fo_rn _ _ (by decide)]) (by rw [fo_rn _ _ (by decide), fo_rn _ _ (by decide), fo_rs, fo_rn _ _ (by decide), fo_rn _ _ (by decide)]) (by rw [fo_rn _ _ (by decide), fo_rs, fo_rn _ _ (by decide), fo_rn _ _ (by decide), fo_rn _ _ (by decide)]), (by rw [fm_fv_add]; exact ⟨(by rw [fo_rs, pk_un (by decide), fo_rn _ _ (by decide), fo_rn _ _ (by decide), fo_rn _ _ (by decide), fo_rn _ _ (by decide)]; exact u608.1), fun j x hj => by rw [fo_rn _ _ (by decide), fo_rn _ _ (by decide), fo_rn _ _ (by decide), fo_rn _ _ (by decide), fo_rn _ _ (by decide)]; exact u608.2 j x hj⟩), (by show p + 2 + 0 ≤ _; omega)⟩)⟩, q607.c.trans ⟨fun b b1 b2 => by rw [fo_rn _ _ b1, fo_rn _ _ (by omega), fo_rn _ _ (by omega), fo_rn _ _ (by omega), fo_rn _ _ (by omega)], fun j hj => by rw [fo_rs, pk_un (by omega), fo_rn _ _ (by decide), fo_rn _ _ (by decide), fo_rn _ _ (by decide), fo_rn _ _ (by decide)]⟩, rfl, rfl, rfl⟩))
                · exact absurd c611 (by decide)
              · omega
            · omega
        · omega
  · rcases b with _ | _
    · have hwd : fq_wd n t (fo_wd (fm_fx n t p)) p = (false, e) := by rw [fm_wdW _ hx4, fq_wd_app, hz]; rfl
      refine fo_aload_n C dX7_command_0 0 rfl rfl 1 rfl ?_
      refine fo_qvi C dX7_command_1 (mX7_word hV) lv_X7_250 (by decide : fo_k 616 = 9) rfl (by decide) rfl ⟨Nat.le_of_ble_eq_true rfl, Nat.le_of_ble_eq_true rfl⟩ ⟨Nat.le_of_ble_eq_true rfl, Nat.le_of_ble_eq_true rfl⟩ [] rfl (Nat.le_of_ble_eq_true rfl) 4 rfl (fun r612 I613 D614 J615 X616 p617 => ?_)
      obtain ⟨hr, v618, f619, z3, z4, z5⟩ := p617
      obtain rfl := z3.symm
      obtain rfl := z4.symm
      obtain rfl := z5.symm
      rw [hz] at hr v618
      obtain rfl : r612 = nI 0 := hr
      replace v618 : fm_V I613 n t true e := v618
      have q620 := hq0.trans (f619).q
      have u621 := hU.pf f619
      refine fo_istore_n C dX7_command_4 rfl [(1, .int (nI 0)), (0, .ref (Λ.2.2.1 616))] rfl (by decide) 5 rfl ?_
      refine fo_aload_n C dX7_command_5 1 rfl rfl 6 rfl ?_
      refine fo_bipush C dX7_command_6 (nI 32) kb_32 8 rfl ?_
      refine fo_qvv C dX7_command_8 (mX7_expect_w (c := 32) (by decide) v618) lv_X7_253 (by decide : fo_k 616 = 9) rfl (by decide) rfl ⟨Nat.le_of_ble_eq_true rfl, Nat.le_of_ble_eq_true rfl⟩ ⟨Nat.le_of_ble_eq_true rfl, Nat.le_of_ble_eq_true rfl⟩ [] rfl (Nat.le_of_ble_eq_true rfl) 11 rfl (fun I623 D624 J625 X626 p627 => ?_)
      obtain ⟨v628, f629, z3, z4, z5⟩ := p627
      obtain rfl := z3.symm
      obtain rfl := z4.symm
      obtain rfl := z5.symm
      have q630 := q620.trans (f629).q
      have u631 := u621.pf f629
      refine fo_iload_n C dX7_command_11 0 rfl rfl 12 rfl ?_
      refine fo_nif_ne C (by omega) dX7_command_12 22 (by decide) 15 rfl (fun c632 => ?_) (fun c632 => ?_)
      · omega
      · refine fo_aload_n C dX7_command_15 1 rfl rfl 16 rfl ?_
        refine fo_qvi C dX7_command_16 (mX7_prophetKind_w v628) lv_X7_256 (by decide : fo_k 616 = 9) rfl (by decide) rfl ⟨Nat.le_of_ble_eq_true rfl, Nat.le_of_ble_eq_true rfl⟩ ⟨Nat.le_of_ble_eq_true rfl, Nat.le_of_ble_eq_true rfl⟩ [] rfl (Nat.le_of_ble_eq_true rfl) 19 rfl (fun r633 I634 D635 J636 X637 p638 => ?_)
        obtain ⟨rfl, v639, f640, z3, z4, z5⟩ := p638
        obtain rfl := z3.symm
        obtain rfl := z4.symm
        obtain rfl := z5.symm
        have q641 := q630.trans (f640).q
        have u642 := u631.pf f640
        refine fo_goto C dX7_command_19 27 (by decide) ?_
        refine fo_istore_n C dX7_command_27 rfl [(2, .int (-1)), (1, .int (nI 0)), (0, .ref (Λ.2.2.1 616))] rfl (by decide) 28 rfl ?_
        refine fo_iconst C dX7_command_28 (nI 1) ki_1 29 rfl ?_
        refine fo_istore_n C dX7_command_29 rfl [(3, .int (nI 1)), (2, .int (-1)), (1, .int (nI 0)), (0, .ref (Λ.2.2.1 616))] rfl (by decide) 30 rfl ?_
        refine fo_iload_n C dX7_command_30 2 rfl rfl 31 rfl ?_
        refine fo_nif_ne C (by omega) dX7_command_31 58 (by decide) 34 rfl (fun c643 => ?_) (fun c643 => ?_)
        · omega
        · refine fo_iload_n C dX7_command_34 1 rfl rfl 35 rfl ?_
          refine fo_bipush C dX7_command_35 (nI 109) kb_109 37 rfl ?_
          refine fo_icmp_eq C dX7_command_37 52 (by decide) 40 rfl (fun c644 => ?_) (fun c644 => ?_)
          · exact absurd c644 (fm_nn (by decide))
          · refine fo_iload_n C dX7_command_40 1 rfl rfl 41 rfl ?_
            refine fo_bipush C dX7_command_41 (nI 100) kb_100 43 rfl ?_
            refine fo_icmp_eq C dX7_command_43 52 (by decide) 46 rfl (fun c645 => ?_) (fun c645 => ?_)
            · exact absurd c645 (fm_nn (by decide))
            · refine fo_iload_n C dX7_command_46 1 rfl rfl 47 rfl ?_
              refine fo_bipush C dX7_command_47 (nI 115) kb_115 49 rfl ?_
              refine fo_icmp_ne C dX7_command_49 58 (by decide) 52 rfl (fun c646 => ?_) (fun c646 => ?_)
              · refine fo_iload_n C dX7_command_58 2 rfl rfl 59 rfl ?_
                refine fo_iconst C dX7_command_59 (nI 1) ki_1 60 rfl ?_
                refine fo_ncmp_ne C (by omega) (by omega) dX7_command_60 99 (by decide) 63 rfl (fun c647 => ?_) (fun c647 => ?_)
                · have hpc : fq_pc n t Cs.length p = (none, e) := by rw [fq_pc_fx, hwd]; rfl
                  refine fo_aload_n C dX7_command_99 3 rfl rfl 100 rfl ?_
                  refine fo_get C dX7_command_100 fK9 (by decide : fo_k 616 = 9) (by decide) 23 (by decide) fl_X7_81 (v := .int (fo_b (true))) (congrArg (fun x => some (Value.int x)) (v639.2.2.2.2.1)) 103 rfl ?_
                  refine fo_bif_eq C dX7_command_103 107 (by decide) 106 rfl (fun c648 => ?_) (fun c648 => ?_)
                  · exact absurd c648 (by decide)
                  · exact fin dX7_command_106 ((by rw [hpc]; exact ⟨⟨fun _ => v639, fun l h => by cases h⟩, q641.c, rfl, rfl, rfl⟩))
                · omega
              · exact absurd c646 (fm_nn (by decide))
    · have hin4 : p + (fm_W (fm_fx n t p)).length ≤ e := hin.2.2 rfl
      rw [hF] at hin4
      have hin5 : p + 3 ≤ e := Nat.le_trans (Nat.add_le_add_left (by decide) _) hin4
      rcases hs : fq_at n t e 32 with _ | _
      · have hwd : fq_wd n t (fo_wd (fm_fx n t p)) p = (false, e) := by rw [fm_wdW _ hx4, fq_wd_app, hz]; show (if fq_at n t e 32 = true then _ else _) = _; rw [hs]; rfl
        refine fo_aload_n C dX7_command_0 0 rfl rfl 1 rfl ?_
        refine fo_qvi C dX7_command_1 (mX7_word hV) lv_X7_250 (by decide : fo_k 616 = 9) rfl (by decide) rfl ⟨Nat.le_of_ble_eq_true rfl, Nat.le_of_ble_eq_true rfl⟩ ⟨Nat.le_of_ble_eq_true rfl, Nat.le_of_ble_eq_true rfl⟩ [] rfl (Nat.le_of_ble_eq_true rfl) 4 rfl (fun r649 I650 D651 J652 X653 p654 => ?_)
        obtain ⟨hr, v655, f656, z3, z4, z5⟩ := p654
        obtain rfl := z3.symm
        obtain rfl := z4.symm
        obtain rfl := z5.symm
        rw [hz] at hr v655
        rw [hF] at hr
        obtain rfl : r649 = nI 3 := hr
        replace v655 : fm_V I650 n t false e := v655
        have q657 := hq0.trans (f656).q
        have u658 := hU.pf f656
        refine fo_istore_n C dX7_command_4 rfl [(1, .int (nI 3)), (0, .ref (Λ.2.2.1 616))] rfl (by decide) 5 rfl ?_
        refine fo_aload_n C dX7_command_5 1 rfl rfl 6 rfl ?_
        refine fo_bipush C dX7_command_6 (nI 32) kb_32 8 rfl ?_
        refine fo_qvv C dX7_command_8 (mX7_expect (c := 32) (by decide) v655) lv_X7_253 (by decide : fo_k 616 = 9) rfl (by decide) rfl ⟨Nat.le_of_ble_eq_true rfl, Nat.le_of_ble_eq_true rfl⟩ ⟨Nat.le_of_ble_eq_true rfl, Nat.le_of_ble_eq_true rfl⟩ [] rfl (Nat.le_of_ble_eq_true rfl) 11 rfl (fun I660 D661 J662 X663 p664 => ?_)
        obtain ⟨v665, f666, z3, z4, z5⟩ := p664
        obtain rfl := z3.symm
        obtain rfl := z4.symm
        obtain rfl := z5.symm
        rw [hs] at v665
        replace v665 : fm_V I660 n t true (e) := v665
        have q667 := q657.trans (f666).q
        have u668 := u658.pf f666
        refine fo_iload_n C dX7_command_11 0 rfl rfl 12 rfl ?_
        refine fo_nif_ne C (by omega) dX7_command_12 22 (by decide) 15 rfl (fun c669 => ?_) (fun c669 => ?_)
        · refine fo_aload_n C dX7_command_22 1 rfl rfl 23 rfl ?_
          refine fo_iconst C dX7_command_23 (nI 1) ki_1 24 rfl ?_
          refine fo_qvi C dX7_command_24 (mX7_number_w (m := 1) (by decide) (by decide) v665) lv_X7_247 (by decide : fo_k 616 = 9) rfl (by decide) rfl ⟨Nat.le_of_ble_eq_true rfl, Nat.le_of_ble_eq_true rfl⟩ ⟨Nat.le_of_ble_eq_true rfl, Nat.le_of_ble_eq_true rfl⟩ [] rfl (Nat.le_of_ble_eq_true rfl) 27 rfl (fun r670 I671 D672 J673 X674 p675 => ?_)
          obtain ⟨rfl, v676, f677, z3, z4, z5⟩ := p675
          obtain rfl := z3.symm
          obtain rfl := z4.symm
          obtain rfl := z5.symm
          have q678 := q667.trans (f677).q
          have u679 := u668.pf f677
          refine fo_istore_n C dX7_command_27 rfl [(2, .int (nI 0)), (1, .int (nI 3)), (0, .ref (Λ.2.2.1 616))] rfl (by decide) 28 rfl ?_
          refine fo_iconst C dX7_command_28 (nI 1) ki_1 29 rfl ?_
          refine fo_istore_n C dX7_command_29 rfl [(3, .int (nI 1)), (2, .int (nI 0)), (1, .int (nI 3)), (0, .ref (Λ.2.2.1 616))] rfl (by decide) 30 rfl ?_
          refine fo_iload_n C dX7_command_30 2 rfl rfl 31 rfl ?_
          refine fo_nif_ne C (by omega) dX7_command_31 58 (by decide) 34 rfl (fun c680 => ?_) (fun c680 => ?_)
          · refine fo_iload_n C dX7_command_58 2 rfl rfl 59 rfl ?_
            refine fo_iconst C dX7_command_59 (nI 1) ki_1 60 rfl ?_
            refine fo_ncmp_ne C (by omega) (by omega) dX7_command_60 99 (by decide) 63 rfl (fun c681 => ?_) (fun c681 => ?_)
            · have hpc : fq_pc n t Cs.length p = (none, e) := by rw [fq_pc_fx, hwd]; rfl
              refine fo_aload_n C dX7_command_99 3 rfl rfl 100 rfl ?_
              refine fo_get C dX7_command_100 fK9 (by decide : fo_k 616 = 9) (by decide) 23 (by decide) fl_X7_81 (v := .int (fo_b (true))) (congrArg (fun x => some (Value.int x)) (v676.2.2.2.2.1)) 103 rfl ?_
              refine fo_bif_eq C dX7_command_103 107 (by decide) 106 rfl (fun c682 => ?_) (fun c682 => ?_)
              · exact absurd c682 (by decide)
              · exact fin dX7_command_106 ((by rw [hpc]; exact ⟨⟨fun _ => v676, fun l h => by cases h⟩, q678.c, rfl, rfl, rfl⟩))
            · omega
          · omega
        · omega
      · have hwd : fq_wd n t (fo_wd (fm_fx n t p)) p = (true, e + 1) := by rw [fm_wdW _ hx4, fq_wd_app, hz]; show (if fq_at n t e 32 = true then _ else _) = _; rw [hs]; rfl
        have hel := (fq_at_in hs).1
        refine fo_aload_n C dX7_command_0 0 rfl rfl 1 rfl ?_
        refine fo_qvi C dX7_command_1 (mX7_word hV) lv_X7_250 (by decide : fo_k 616 = 9) rfl (by decide) rfl ⟨Nat.le_of_ble_eq_true rfl, Nat.le_of_ble_eq_true rfl⟩ ⟨Nat.le_of_ble_eq_true rfl, Nat.le_of_ble_eq_true rfl⟩ [] rfl (Nat.le_of_ble_eq_true rfl) 4 rfl (fun r683 I684 D685 J686 X687 p688 => ?_)
        obtain ⟨hr, v689, f690, z3, z4, z5⟩ := p688
        obtain rfl := z3.symm
        obtain rfl := z4.symm
        obtain rfl := z5.symm
        rw [hz] at hr v689
        rw [hF] at hr
        obtain rfl : r683 = nI 3 := hr
        replace v689 : fm_V I684 n t false e := v689
        have q691 := hq0.trans (f690).q
        have u692 := hU.pf f690
        refine fo_istore_n C dX7_command_4 rfl [(1, .int (nI 3)), (0, .ref (Λ.2.2.1 616))] rfl (by decide) 5 rfl ?_
        refine fo_aload_n C dX7_command_5 1 rfl rfl 6 rfl ?_
        refine fo_bipush C dX7_command_6 (nI 32) kb_32 8 rfl ?_
        refine fo_qvv C dX7_command_8 (mX7_expect (c := 32) (by decide) v689) lv_X7_253 (by decide : fo_k 616 = 9) rfl (by decide) rfl ⟨Nat.le_of_ble_eq_true rfl, Nat.le_of_ble_eq_true rfl⟩ ⟨Nat.le_of_ble_eq_true rfl, Nat.le_of_ble_eq_true rfl⟩ [] rfl (Nat.le_of_ble_eq_true rfl) 11 rfl (fun I694 D695 J696 X697 p698 => ?_)
        obtain ⟨v699, f700, z3, z4, z5⟩ := p698
        obtain rfl := z3.symm
        obtain rfl := z4.symm
        obtain rfl := z5.symm
        rw [hs] at v699
        replace v699 : fm_V I694 n t false (e + 1) := v699
        have q701 := q691.trans (f700).q
        have u702 := u692.pf f700
        refine fo_iload_n C dX7_command_11 0 rfl rfl 12 rfl ?_
        refine fo_nif_ne C (by omega) dX7_command_12 22 (by decide) 15 rfl (fun c703 => ?_) (fun c703 => ?_)
        · rcases hd1 : fq_dg n t (e + 1) with _ | _
          · skip
            refine fo_aload_n C dX7_command_22 1 rfl rfl 23 rfl ?_
            refine fo_iconst C dX7_command_23 (nI 1) ki_1 24 rfl ?_
            refine fo_qvi C dX7_command_24 (mX7_number_n (m := 1) (by decide) (by decide) hd1 v699) lv_X7_247 (by decide : fo_k 616 = 9) rfl (by decide) rfl ⟨Nat.le_of_ble_eq_true rfl, Nat.le_of_ble_eq_true rfl⟩ ⟨Nat.le_of_ble_eq_true rfl, Nat.le_of_ble_eq_true rfl⟩ [] rfl (Nat.le_of_ble_eq_true rfl) 27 rfl (fun r704 I705 D706 J707 X708 p709 => ?_)
            obtain ⟨rfl, v710, f711, z3, z4, z5⟩ := p709
            obtain rfl := z3.symm
            obtain rfl := z4.symm
            obtain rfl := z5.symm
            have q712 := q701.trans (f711).q
            have u713 := u702.pf f711
            refine fo_istore_n C dX7_command_27 rfl [(2, .int (nI 0)), (1, .int (nI 3)), (0, .ref (Λ.2.2.1 616))] rfl (by decide) 28 rfl ?_
            refine fo_iconst C dX7_command_28 (nI 1) ki_1 29 rfl ?_
            refine fo_istore_n C dX7_command_29 rfl [(3, .int (nI 1)), (2, .int (nI 0)), (1, .int (nI 3)), (0, .ref (Λ.2.2.1 616))] rfl (by decide) 30 rfl ?_
            refine fo_iload_n C dX7_command_30 2 rfl rfl 31 rfl ?_
            refine fo_nif_ne C (by omega) dX7_command_31 58 (by decide) 34 rfl (fun c714 => ?_) (fun c714 => ?_)
            · refine fo_iload_n C dX7_command_58 2 rfl rfl 59 rfl ?_
              refine fo_iconst C dX7_command_59 (nI 1) ki_1 60 rfl ?_
              refine fo_ncmp_ne C (by omega) (by omega) dX7_command_60 99 (by decide) 63 rfl (fun c715 => ?_) (fun c715 => ?_)
              · have hpc : fq_pc n t Cs.length p = (none, e + 1) := by rw [fq_pc_fx, hwd, hF]; show fq_pd n t 102 Cs.length (e + 1) = _; unfold fq_pd; rw [hd1]; rfl
                refine fo_aload_n C dX7_command_99 3 rfl rfl 100 rfl ?_
                refine fo_get C dX7_command_100 fK9 (by decide : fo_k 616 = 9) (by decide) 23 (by decide) fl_X7_81 (v := .int (fo_b (true))) (congrArg (fun x => some (Value.int x)) (v710.2.2.2.2.1)) 103 rfl ?_
                refine fo_bif_eq C dX7_command_103 107 (by decide) 106 rfl (fun c716 => ?_) (fun c716 => ?_)
                · exact absurd c716 (by decide)
                · exact fin dX7_command_106 ((by rw [hpc]; exact ⟨⟨fun _ => v710, fun l h => by cases h⟩, q712.c, rfl, rfl, rfl⟩))
              · omega
            · omega
          · have hd1i := fq_dg_in hd1
            refine fo_aload_n C dX7_command_22 1 rfl rfl 23 rfl ?_
            refine fo_iconst C dX7_command_23 (nI 1) ki_1 24 rfl ?_
            refine fo_qvi C dX7_command_24 (mX7_number (m := 1) (by decide) (by decide) hd1 v699) lv_X7_247 (by decide : fo_k 616 = 9) rfl (by decide) rfl ⟨Nat.le_of_ble_eq_true rfl, Nat.le_of_ble_eq_true rfl⟩ ⟨Nat.le_of_ble_eq_true rfl, Nat.le_of_ble_eq_true rfl⟩ [] rfl (Nat.le_of_ble_eq_true rfl) 27 rfl (fun r717 I718 D719 J720 X721 p722 => ?_)
            obtain ⟨rfl, v723, f724, z3, z4, z5⟩ := p722
            obtain rfl := z3.symm
            obtain rfl := z4.symm
            obtain rfl := z5.symm
            rw [hd1, fq_nm_1 hd1] at v723
            replace v723 : fm_V I718 n t false (e + 1 + 1) := v723
            rw [fq_nm_1 hd1]
            have q725 := q701.trans (f724).q
            have u726 := u702.pf f724
            refine fo_istore_n C dX7_command_27 rfl [(2, .int (nI (t (e + 1) - 48))), (1, .int (nI 3)), (0, .ref (Λ.2.2.1 616))] rfl (by decide) 28 rfl ?_
            refine fo_iconst C dX7_command_28 (nI 1) ki_1 29 rfl ?_
            refine fo_istore_n C dX7_command_29 rfl [(3, .int (nI 1)), (2, .int (nI (t (e + 1) - 48))), (1, .int (nI 3)), (0, .ref (Λ.2.2.1 616))] rfl (by decide) 30 rfl ?_
            refine fo_iload_n C dX7_command_30 2 rfl rfl 31 rfl ?_
            refine fo_nif_ne C (by omega) dX7_command_31 58 (by decide) 34 rfl (fun c727 => ?_) (fun c727 => ?_)
            · refine fo_iload_n C dX7_command_58 2 rfl rfl 59 rfl ?_
              refine fo_iconst C dX7_command_59 (nI 1) ki_1 60 rfl ?_
              refine fo_ncmp_ne C (by omega) (by omega) dX7_command_60 99 (by decide) 63 rfl (fun c728 => ?_) (fun c728 => ?_)
              · have hpc : fq_pc n t Cs.length p = (some [(102, t (e + 1) - 48, 0, Cs.length)], e + 1 + 1) := by rw [fq_pc_fx, hwd, hF]; show fq_pd n t 102 Cs.length (e + 1) = _; unfold fq_pd; rw [hd1]; rfl
                refine fo_aload_n C dX7_command_99 3 rfl rfl 100 rfl ?_
                refine fo_get C dX7_command_100 fK9 (by decide : fo_k 616 = 9) (by decide) 23 (by decide) fl_X7_81 (v := .int (fo_b (false))) (congrArg (fun x => some (Value.int x)) (v723.2.2.2.2.1)) 103 rfl ?_
                refine fo_bif_eq C dX7_command_103 107 (by decide) 106 rfl (fun c729 => ?_) (fun c729 => ?_)
                · refine fo_aload_n C dX7_command_107 3 rfl rfl 108 rfl ?_
                  refine fo_get C dX7_command_108 fK9 (by decide : fo_k 616 = 9) (by decide) 13 (by decide) fl_X7_51 (v := .ref (Λ.2.2.1 624)) rfl 111 rfl ?_
                  refine fo_aload_n C dX7_command_111 3 rfl rfl 112 rfl ?_
                  refine fo_get C dX7_command_112 fK9 (by decide : fo_k 616 = 9) (by decide) 21 (by decide) fl_X7_75 (v := .int (nI (Cs.length))) (congrArg (fun x => some (Value.int x)) ((q725.2 21 (by decide) (by decide) (by decide)).trans hC.1)) 115 rfl ?_
                  refine fo_iload_n C dX7_command_115 2 rfl rfl 116 rfl ?_
                  refine fo_iast C dX7_command_116 (by decide : fo_k 624 = 20) (by rw [(show fo_n 624 = 32 from rfl)]; omega) 117 rfl ?_
                  refine fo_aload_n C dX7_command_117 3 rfl rfl 118 rfl ?_
                  refine fo_get C dX7_command_118 fK9 (by decide : fo_k 616 = 9) (by decide) 14 (by decide) fl_X7_54 (v := .ref (Λ.2.2.1 625)) rfl 121 rfl ?_
                  refine fo_aload_n C dX7_command_121 3 rfl rfl 122 rfl ?_
                  refine fo_get C dX7_command_122 fK9 (by decide : fo_k 616 = 9) (by decide) 21 (by decide) fl_X7_75 (v := .int (nI (Cs.length))) (congrArg (fun x => some (Value.int x)) ((by rw [fo_rn _ _ (by decide)]; exact (q725.2 21 (by decide) (by decide) (by decide)).trans hC.1))) 125 rfl ?_
                  refine fo_iload_n C dX7_command_125 1 rfl rfl 126 rfl ?_
                  refine fo_iast C dX7_command_126 (by decide : fo_k 625 = 20) (by rw [(show fo_n 625 = 32 from rfl)]; omega) 127 rfl ?_
                  refine fo_aload_n C dX7_command_127 3 rfl rfl 128 rfl ?_
                  refine fo_get C dX7_command_128 fK9 (by decide : fo_k 616 = 9) (by decide) 15 (by decide) fl_X7_57 (v := .ref (Λ.2.2.1 626)) rfl 131 rfl ?_
                  refine fo_aload_n C dX7_command_131 3 rfl rfl 132 rfl ?_
                  refine fo_get C dX7_command_132 fK9 (by decide : fo_k 616 = 9) (by decide) 21 (by decide) fl_X7_75 (v := .int (nI (Cs.length))) (congrArg (fun x => some (Value.int x)) ((by rw [fo_rn _ _ (by decide), fo_rn _ _ (by decide)]; exact (q725.2 21 (by decide) (by decide) (by decide)).trans hC.1))) 135 rfl ?_
                  refine fo_iload_n C dX7_command_135 0 rfl rfl 136 rfl ?_
                  refine fo_iast C dX7_command_136 (by decide : fo_k 626 = 20) (by rw [(show fo_n 626 = 32 from rfl)]; omega) 137 rfl ?_
                  refine fo_aload_n C dX7_command_137 3 rfl rfl 138 rfl ?_
                  refine fo_get C dX7_command_138 fK9 (by decide : fo_k 616 = 9) (by decide) 16 (by decide) fl_X7_60 (v := .ref (Λ.2.2.1 627)) rfl 141 rfl ?_
                  refine fo_aload_n C dX7_command_141 3 rfl rfl 142 rfl ?_
                  refine fo_get C dX7_command_142 fK9 (by decide : fo_k 616 = 9) (by decide) 21 (by decide) fl_X7_75 (v := .int (nI (Cs.length))) (congrArg (fun x => some (Value.int x)) ((by rw [fo_rn _ _ (by decide), fo_rn _ _ (by decide), fo_rn _ _ (by decide)]; exact (q725.2 21 (by decide) (by decide) (by decide)).trans hC.1))) 145 rfl ?_
                  refine fo_aload_n C dX7_command_145 3 rfl rfl 146 rfl ?_
                  refine fo_get C dX7_command_146 fK9 (by decide : fo_k 616 = 9) (by decide) 22 (by decide) fl_X7_78 (v := .int (nI ((fm_fv Cs ++ []).length))) (congrArg (fun x => some (Value.int x)) ((by rw [fo_rn _ _ (by decide), fo_rn _ _ (by decide), fo_rn _ _ (by decide)]; exact u726.1))) 149 rfl ?_
                  refine fo_iast C dX7_command_149 (by decide : fo_k 627 = 20) (by rw [(show fo_n 627 = 32 from rfl)]; omega) 150 rfl ?_
                  refine fo_aload_n C dX7_command_150 3 rfl rfl 151 rfl ?_
                  refine fo_dup C dX7_command_151 rfl 152 rfl ?_
                  refine fo_get C dX7_command_152 fK9 (by decide : fo_k 616 = 9) (by decide) 21 (by decide) fl_X7_75 (v := .int (nI (Cs.length))) (congrArg (fun x => some (Value.int x)) ((by rw [fo_rn _ _ (by decide), fo_rn _ _ (by decide), fo_rn _ _ (by decide), fo_rn _ _ (by decide)]; exact (q725.2 21 (by decide) (by decide) (by decide)).trans hC.1))) 155 rfl ?_
                  refine fo_iconst C dX7_command_155 (nI 1) ki_1 156 rfl ?_
                  refine fo_iadd C dX7_command_156 (nI (Cs.length + 1)) (nI_add _ _) 157 rfl ?_
                  refine fo_put C dX7_command_157 fK9 (by decide : fo_k 616 = 9) (by decide) 21 (by decide) fl_X7_75 rfl rfl rfl rfl (Nat.le_of_ble_eq_true rfl) 160 rfl ?_
                  exact fin dX7_command_160 ((by rw [hpc]; exact ⟨⟨fun h => (by cases h), fun l h => (by cases h; exact ⟨(3, t (e + 1) - 48, 1, []), rfl, fm_ck_of (by decide) (by omega) (by decide) (fun x hx => (by cases hx)) (fun h => absurd h (by decide)), v723.to v723.2.1 (by rw [fo_rs, pk_un (by decide), fo_rn _ _ (by decide), fo_rn _ _ (by decide), fo_rn _ _ (by decide), fo_rn _ _ (by decide)]) (by rw [fo_rs, pk_un (by decide), fo_rn _ _ (by decide), fo_rn _ _ (by decide), fo_rn _ _ (by decide), fo_rn _ _ (by decide)]; exact v723.2.2.2.1) (by rw [fo_rs, pk_un (by decide), fo_rn _ _ (by decide), fo_rn _ _ (by decide), fo_rn _ _ (by decide), fo_rn _ _ (by decide)]; exact v723.2.2.2.2.1) rfl, hC.add (vs := []) q725 (by rw [fo_rs, pk_us]) (by rw [fo_rn _ _ (by decide), fo_rn _ _ (by decide), fo_rn _ _ (by decide), fo_rn _ _ (by decide), fo_rs]) (by rw [fo_rn _ _ (by decide), fo_rn _ _ (by decide), fo_rn _ _ (by decide), fo_rs, fo_rn _ _ (by decide)]) (by rw [fo_rn _ _ (by decide), fo_rn _ _ (by decide), fo_rs, fo_rn _ _ (by decide), fo_rn _ _ (by decide)]) (by rw [fo_rn _ _ (by decide), fo_rs, fo_rn _ _ (by decide), fo_rn _ _ (by decide), fo_rn _ _ (by decide)]), (by rw [fm_fv_add]; exact ⟨(by rw [fo_rs, pk_un (by decide), fo_rn _ _ (by decide), fo_rn _ _ (by decide), fo_rn _ _ (by decide), fo_rn _ _ (by decide)]; exact u726.1), fun j x hj => by rw [fo_rn _ _ (by decide), fo_rn _ _ (by decide), fo_rn _ _ (by decide), fo_rn _ _ (by decide), fo_rn _ _ (by decide)]; exact u726.2 j x hj⟩), (by show p + 2 + 0 ≤ _; omega)⟩)⟩, q725.c.trans ⟨fun b b1 b2 => by rw [fo_rn _ _ b1, fo_rn _ _ (by omega), fo_rn _ _ (by omega), fo_rn _ _ (by omega), fo_rn _ _ (by omega)], fun j hj => by rw [fo_rs, pk_un (by omega), fo_rn _ _ (by decide), fo_rn _ _ (by decide), fo_rn _ _ (by decide), fo_rn _ _ (by decide)]⟩, rfl, rfl, rfl⟩))
                · exact absurd c729 (by decide)
              · omega
            · omega
        · omega
