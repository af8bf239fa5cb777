
/-! THE MODEL: its parser's words and values -/
def fm_fx (n : Nat) (t : Nat → Nat) (p : Nat) : Nat := if fq_at n t p 112 then 0 else if fq_at n t p 115 then 1 else if fq_at n t p 108 then 2 else 3
theorem fm_fx_lt (n : Nat) (t : Nat → Nat) (p : Nat) : fm_fx n t p < 4 := by
  unfold fm_fx
  split
  · decide
  · split
    · decide
    · split <;> decide
theorem fq_at_n1 {n : Nat} {t : Nat → Nat} {q c : Nat} (h : n ≤ q) : fq_at n t q c = false := decide_eq_false (fun z => by omega)
theorem fq_at_n2 {n : Nat} {t : Nat → Nat} {q c : Nat} (h : ¬ t q = c) : fq_at n t q c = false := decide_eq_false (fun z => h z.2)
theorem fq_at_y {n : Nat} {t : Nat → Nat} {q c : Nat} (h1 : q < n) (h : t q = c) : fq_at n t q c = true := decide_eq_true ⟨h1, h⟩
theorem fm_fx_no {n : Nat} {t : Nat → Nat} {p i : Nat} (hi : i < 4) (h : i ≠ fm_fx n t p) : fq_wd n t (fm_W i) p = (false, p) := by
  have key : ∀ c w, fm_W i = c :: w → fq_at n t p c = false → fq_wd n t (fm_W i) p = (false, p) := fun c w e q => by rw [e, fq_wd, q]; rfl
  unfold fm_fx at h
  obtain rfl | rfl | rfl | rfl : i = 0 ∨ i = 1 ∨ i = 2 ∨ i = 3 := by omega
  · refine key 112 _ rfl ?_
    cases hq : fq_at n t p 112 with
    | false => rfl
    | true => rw [hq] at h; exact absurd rfl h
  · refine key 115 _ rfl ?_
    cases hq : fq_at n t p 115 with
    | false => rfl
    | true =>
      have h2 := fq_at_in hq
      rw [fq_at_n2 (c := 112) (by omega), hq] at h
      exact absurd rfl h
  · refine key 108 _ rfl ?_
    cases hq : fq_at n t p 108 with
    | false => rfl
    | true =>
      have h2 := fq_at_in hq
      rw [fq_at_n2 (c := 112) (by omega), fq_at_n2 (c := 115) (by omega), hq] at h
      exact absurd rfl h
  · refine key 102 _ rfl ?_
    cases hq : fq_at n t p 102 with
    | false => rfl
    | true =>
      have h2 := fq_at_in hq
      rw [fq_at_n2 (c := 112) (by omega), fq_at_n2 (c := 115) (by omega), fq_at_n2 (c := 108) (by omega)] at h
      exact absurd rfl h
/-- the values that were read -/
def fm_U (I : fo_Mi) (V : List Nat) : Prop := I 616 22 = nI V.length ∧ ∀ j x, V[j]? = some x → I 628 j = nI x
theorem fm_U.add {I I' : fo_Mi} {V : List Nat} {x : Nat} (h : fm_U I V) (e1 : I' 616 22 = nI (V.length + 1)) (e2 : I' 628 V.length = nI x) (e3 : ∀ j, j ≠ V.length → I' 628 j = I 628 j) : fm_U I' (V ++ [x]) := by
  refine ⟨by rw [List.length_append]; exact e1, fun j d hj => ?_⟩
  by_cases e : j = V.length
  · subst e
    rw [List.getElem?_append_right (Nat.le_refl _), Nat.sub_self] at hj
    cases hj
    exact e2
  · have hlt : j < V.length := by
      have := (List.getElem?_eq_some_iff.mp hj).1
      rw [List.length_append] at this
      have h9 : [x].length = 1 := rfl
      omega
    rw [List.getElem?_append_left hlt] at hj
    rw [e3 j e]
    exact h.2 j d hj
def fm_qf (I I' : fo_Mi) : Prop := (∀ b, b ≠ 616 → b ≠ 628 → I' b = I b) ∧ ∀ j, j ≠ 20 → j ≠ 22 → j ≠ 23 → I' 616 j = I 616 j
theorem fm_pf.q {I I' : fo_Mi} (h : fm_pf I I') : fm_qf I I' := ⟨fun b a _ => h.1 b a, fun j a _ c => h.2 j a c⟩
theorem fm_qf.trans {I I1 I2 : fo_Mi} (h : fm_qf I I1) (g : fm_qf I1 I2) : fm_qf I I2 := ⟨fun b a c => (g.1 b a c).trans (h.1 b a c), fun j a c d => (g.2 j a c d).trans (h.2 j a c d)⟩
theorem fm_U.pf {I I' : fo_Mi} {V : List Nat} (h : fm_U I V) (g : fm_pf I I') : fm_U I' V := ⟨(g.2 22 (by decide) (by decide)).trans h.1, fun j x hj => by rw [g.1 628 (by decide)]; exact h.2 j x hj⟩

set_option maxRecDepth 10000 in
set_option maxHeartbeats 4000000 in
theorem mX7_word {l : Launch} {Λ : fo_Lt} {I : fo_Mi} {D : fo_Md} {J : fo_Mj} {X : fo_Mi}  {n p : Nat} {t : Nat → Nat} (hV : fm_V I n t false p) : fk_i l yX7_word cX7_word 4 .int 2 48 Λ [.ref (Λ.2.2.1 616)] I D J X ((fun r I' D' J' X' => r = nI (if (fq_wd n t (fm_W (fm_fx n t p)) p).1 then fm_fx n t p else 0) ∧ fm_V I' n t (!(fq_wd n t (fm_W (fm_fx n t p)) p).1) (fq_wd n t (fm_W (fm_fx n t p)) p).2 ∧ fm_pf I I' ∧ D' = D ∧ J' = J ∧ X' = X)) := by
  have hn60 := hV.1
  have hpn := hV.2.1
  have ht9 : ∀ j, j < n → t j < 65536 := fun j hj => (hV.2.2.2.2.2 j hj).2
  have hx4 := fm_fx_lt n t p
  obtain ⟨b, e, hz⟩ : ∃ b e, fq_wd n t (fm_W (fm_fx n t p)) p = (b, e) := ⟨_, _, rfl⟩
  have hin := fq_wd_in (n := n) (t := t) (w := fm_W (fm_fx n t p)) hpn
  rw [hz] at hin
  have hin1 : p ≤ e := hin.1
  have hin3 : e ≤ n := hin.2.1
  refine fo_si (by decide) [(0, .ref (Λ.2.2.1 616))] rfl (Nat.le_of_ble_eq_true rfl) (fun K C fin => ?_)
  refine fo_iconst C dX7_word_0 (nI 0) ki_0 1 rfl ?_
  refine fo_istore_n C dX7_word_1 rfl [(1, .int (nI 0)), (0, .ref (Λ.2.2.1 616))] rfl (by decide) 2 rfl ?_
  refine fo_iconst C dX7_word_2 (nI 0) ki_0 3 rfl ?_
  refine fo_istore_n C dX7_word_3 rfl [(2, .int (nI 0)), (1, .int (nI 0)), (0, .ref (Λ.2.2.1 616))] rfl (by decide) 4 rfl ?_
  have hL4 : ∀ (m4 : Nat) (i g : Nat), 5 - i < m4 → i ≤ 4 → (fm_fx n t p < i → g + p = e) → (¬ fm_fx n t p < i → g = 0) → (fm_fx n t p < i → b = false) → fo_G l Λ { frames := 2, cells := 0, slots := 0, locals := 48 } K 0 0 4 [(2, .int (nI i)), (1, .int (nI g)), (0, .ref (Λ.2.2.1 616))] [] I D J X := by
    intro m4
    induction m4 with
    | zero => intro i g hm; exact absurd hm (Nat.not_lt_zero _)
    | succ m4 ih4 =>
      intro i g hm4 hi hg1 hg2 hg3
      refine fo_iload_n C dX7_word_4 0 rfl rfl 5 rfl ?_
      refine fo_iconst C dX7_word_5 (nI 4) ki_4 6 rfl ?_
      refine fo_ncmp_ge C (by omega) (by omega) dX7_word_6 94 (by decide) 9 rfl (fun c1 => ?_) (fun c1 => ?_)
      · have hge := hg1 (by omega)
        have hb9 := hg3 (by omega)
        refine fo_aload_n C dX7_word_94 2 rfl rfl 95 rfl ?_
        refine fo_dup C dX7_word_95 rfl 96 rfl ?_
        refine fo_get C dX7_word_96 fK9 (by decide : fo_k 616 = 9) (by decide) 20 (by decide) fl_X7_72 (v := .int (nI p)) (congrArg (fun x => some (Value.int x)) (hV.2.2.2.1)) 99 rfl ?_
        refine fo_iload_n C dX7_word_99 1 rfl rfl 100 rfl ?_
        refine fo_iadd C dX7_word_100 (nI (p + g)) (nI_add _ _) 101 rfl ?_
        refine fo_put C dX7_word_101 fK9 (by decide : fo_k 616 = 9) (by decide) 20 (by decide) fl_X7_72 rfl rfl rfl rfl (Nat.le_of_ble_eq_true rfl) 104 rfl ?_
        refine fo_aload_n C dX7_word_104 2 rfl rfl 105 rfl ?_
        refine fo_iconst C dX7_word_105 (nI 1) ki_1 106 rfl ?_
        refine fo_put C dX7_word_106 fK9 (by decide : fo_k 616 = 9) (by decide) 23 (by decide) fl_X7_81 rfl (by first | rfl | exact fo_nb _) (by first | rfl | exact fo_fb _) rfl (Nat.le_of_ble_eq_true rfl) 109 rfl ?_
        refine fo_iconst C dX7_word_109 (nI 0) ki_0 110 rfl ?_
        exact fin dX7_word_110 rfl ((by rw [hz, hb9]; exact (⟨rfl, hV.to (by omega) (by rw [fo_rs, pk_un (by decide), fo_rs, pk_un (by decide)]) (by rw [fo_rs, pk_un (by decide), fo_rs, pk_us, show p + g = e by omega]) (by rw [fo_rs, pk_us] <;> rfl) rfl, ⟨fun b hb => by rw [fo_rn _ _ hb, fo_rn _ _ hb], fun j a b => by rw [fo_rs, pk_un b, fo_rs, pk_un a]⟩, rfl, rfl, rfl⟩ : nI 0 = nI 0 ∧ fm_V (fo_r (fo_r I 616 (upd (I 616) 20 (nI (p + g)))) 616 (upd ((fo_r I 616 (upd (I 616) 20 (nI (p + g)))) 616) 23 (nI (1)))) n t true e ∧ fm_pf I (fo_r (fo_r I 616 (upd (I 616) 20 (nI (p + g)))) 616 (upd ((fo_r I 616 (upd (I 616) 20 (nI (p + g)))) 616) 23 (nI (1)))) ∧ D = D ∧ J = J ∧ X = X)))
      · refine fo_iconst C dX7_word_9 (nI 0) ki_0 10 rfl ?_
        refine fo_istore_n C dX7_word_10 rfl [(3, .int (nI 0)), (2, .int (nI i)), (1, .int (nI g)), (0, .ref (Λ.2.2.1 616))] rfl (by decide) 11 rfl ?_
        have hL11 : ∀ (m11 : Nat) (k : Nat), 8 - k < m11 → k ≤ (fm_W i).length → p + k ≤ n → fq_wd n t (fm_W i) p = fq_wd n t ((fm_W i).drop k) (p + k) → fo_G l Λ { frames := 2, cells := 0, slots := 0, locals := 48 } K 0 0 11 [(3, .int (nI k)), (2, .int (nI i)), (1, .int (nI g)), (0, .ref (Λ.2.2.1 616))] [] I D J X := by
          intro m11
          induction m11 with
          | zero => intro k hm; exact absurd hm (Nat.not_lt_zero _)
          | succ m11 ih11 =>
            intro k hm11 hk hpk hin2
            have hl7 := fm_Wl i (by omega)
            have hsp := fm_spc i (by omega) k (by omega)
            refine fo_iload_n C dX7_word_11 1 rfl rfl 12 rfl ?_
            refine fo_iload_n C dX7_word_12 0 rfl rfl 13 rfl ?_
            refine fo_qsi C dX7_word_13 (mX7_spelled (i := i) (k := k) (by omega) (by omega)) ls_X7_244 rfl ⟨Nat.le_of_ble_eq_true rfl, Nat.le_of_ble_eq_true rfl⟩ ⟨Nat.le_of_ble_eq_true rfl, Nat.le_of_ble_eq_true rfl⟩ [] rfl (Nat.le_of_ble_eq_true rfl) 16 rfl (fo_er ?_)
            refine fo_nif_le C (by omega) dX7_word_16 57 (by decide) 19 rfl (fun c8 => ?_) (fun c8 => ?_)
            · have hkl : k = (fm_W i).length := by omega
              have e9 : fq_wd n t (fm_W i) p = (true, p + k) := by rw [hin2, fq_wd_end (by omega)]
              refine fo_iload_n C dX7_word_57 1 rfl rfl 58 rfl ?_
              refine fo_iload_n C dX7_word_58 0 rfl rfl 59 rfl ?_
              refine fo_qsi C dX7_word_59 (mX7_spelled (i := i) (k := k) (by omega) (by omega)) ls_X7_244 rfl ⟨Nat.le_of_ble_eq_true rfl, Nat.le_of_ble_eq_true rfl⟩ ⟨Nat.le_of_ble_eq_true rfl, Nat.le_of_ble_eq_true rfl⟩ [] rfl (Nat.le_of_ble_eq_true rfl) 62 rfl (fo_er ?_)
              refine fo_nif_ne C (by omega) dX7_word_62 77 (by decide) 65 rfl (fun c15 => ?_) (fun c15 => ?_)
              · omega
              · have hiF : i = fm_fx n t p := by
                  by_cases h9 : i = fm_fx n t p
                  · exact h9
                  · rw [fm_fx_no (by omega) h9] at e9; exact absurd (Prod.mk.inj e9).1 (by decide)
                have e8 : fq_wd n t (fm_W (fm_fx n t p)) p = (true, p + k) := by rw [← hiF]; exact e9
                refine fo_aload_n C dX7_word_65 3 rfl rfl 66 rfl ?_
                refine fo_dup C dX7_word_66 rfl 67 rfl ?_
                refine fo_get C dX7_word_67 fK9 (by decide : fo_k 616 = 9) (by decide) 20 (by decide) fl_X7_72 (v := .int (nI p)) (congrArg (fun x => some (Value.int x)) (hV.2.2.2.1)) 70 rfl ?_
                refine fo_iload_n C dX7_word_70 0 rfl rfl 71 rfl ?_
                refine fo_iadd C dX7_word_71 (nI (p + k)) (nI_add _ _) 72 rfl ?_
                refine fo_put C dX7_word_72 fK9 (by decide : fo_k 616 = 9) (by decide) 20 (by decide) fl_X7_72 rfl rfl rfl rfl (Nat.le_of_ble_eq_true rfl) 75 rfl ?_
                refine fo_iload_n C dX7_word_75 1 rfl rfl 76 rfl ?_
                exact fin dX7_word_76 rfl ((by rw [e8]; exact (⟨congrArg nI hiF, hV.to (by omega) (by rw [fo_rs, pk_un (by decide)]) (by rw [fo_rs, pk_us]) (by rw [fo_rs, pk_un (by decide)]; exact hV.2.2.2.2.1) rfl, ⟨fun b hb => by rw [fo_rn _ _ hb], fun j a b => by rw [fo_rs, pk_un a]⟩, rfl, rfl, rfl⟩ : nI i = nI (fm_fx n t p) ∧ fm_V (fo_r I 616 (upd (I 616) 20 (nI (p + k)))) n t false (p + k) ∧ fm_pf I (fo_r I 616 (upd (I 616) 20 (nI (p + k)))) ∧ D = D ∧ J = J ∧ X = X)))
            · refine fo_aload_n C dX7_word_19 3 rfl rfl 20 rfl ?_
              refine fo_get C dX7_word_20 fK9 (by decide : fo_k 616 = 9) (by decide) 20 (by decide) fl_X7_72 (v := .int (nI p)) (congrArg (fun x => some (Value.int x)) (hV.2.2.2.1)) 23 rfl ?_
              refine fo_iload_n C dX7_word_23 0 rfl rfl 24 rfl ?_
              refine fo_iadd C dX7_word_24 (nI (p + k)) (nI_add _ _) 25 rfl ?_
              refine fo_aload_n C dX7_word_25 3 rfl rfl 26 rfl ?_
              refine fo_get C dX7_word_26 fK9 (by decide : fo_k 616 = 9) (by decide) 19 (by decide) fl_X7_69 (v := .int (nI n)) (congrArg (fun x => some (Value.int x)) (hV.2.2.1)) 29 rfl ?_
              refine fo_ncmp_ge C (by omega) (by omega) dX7_word_29 57 (by decide) 32 rfl (fun c16 => ?_) (fun c16 => ?_)
              · have hkl : k < (fm_W i).length := by omega
                have e9 : fq_wd n t (fm_W i) p = (false, p + k) := by rw [hin2, fq_wd_step hkl, fq_at_n1 (by omega)]; rfl
                refine fo_iload_n C dX7_word_57 1 rfl rfl 58 rfl ?_
                refine fo_iload_n C dX7_word_58 0 rfl rfl 59 rfl ?_
                refine fo_qsi C dX7_word_59 (mX7_spelled (i := i) (k := k) (by omega) (by omega)) ls_X7_244 rfl ⟨Nat.le_of_ble_eq_true rfl, Nat.le_of_ble_eq_true rfl⟩ ⟨Nat.le_of_ble_eq_true rfl, Nat.le_of_ble_eq_true rfl⟩ [] rfl (Nat.le_of_ble_eq_true rfl) 62 rfl (fo_er ?_)
                refine fo_nif_ne C (by omega) dX7_word_62 77 (by decide) 65 rfl (fun c23 => ?_) (fun c23 => ?_)
                · have hc1 : i = fm_fx n t p → b = false ∧ e = p + k := fun h => by rw [h, hz] at e9; exact ⟨(Prod.mk.inj e9).1, (Prod.mk.inj e9).2⟩
                  have hc2 : ¬ i = fm_fx n t p → k = 0 := fun h => by rw [fm_fx_no (by omega) h] at e9; have := (Prod.mk.inj e9).2; omega
                  have hc3 : i = fm_fx n t p → e = p + k := fun h => (hc1 h).2
                  refine fo_iload_n C dX7_word_77 0 rfl rfl 78 rfl ?_
                  refine fo_iload_n C dX7_word_78 2 rfl rfl 79 rfl ?_
                  refine fo_ncmp_le C (by omega) (by omega) dX7_word_79 86 (by decide) 82 rfl (fun c24 => ?_) (fun c24 => ?_)
                  · refine fo_iload_n C dX7_word_86 2 rfl rfl 87 rfl ?_
                    refine fo_istore_n C dX7_word_87 rfl [(1, .int (nI g)), (3, .int (nI k)), (2, .int (nI i)), (0, .ref (Λ.2.2.1 616))] rfl (by decide) 88 rfl ?_
                    refine fo_iinc C dX7_word_88 2 rfl (nI (i + 1)) (nI_inc1 _) [(2, .int (nI (i + 1))), (1, .int (nI g)), (3, .int (nI k)), (0, .ref (Λ.2.2.1 616))] rfl (by decide) 91 rfl ?_
                    refine fo_goto C dX7_word_91 4 (by decide) ?_
                    refine fo_sub C [0, 1, 3] (lv' := [(2, .int (nI (i + 1))), (1, .int (nI g)), (0, .ref (Λ.2.2.1 616))]) rfl ?_
                    exact ih4 (i + 1) g (by omega) (by omega) (by omega) (by omega) (fun h => by by_cases h9 : i = fm_fx n t p; exact (hc1 h9).1; exact hg3 (by omega))
                  · refine fo_iload_n C dX7_word_82 0 rfl rfl 83 rfl ?_
                    refine fo_goto C dX7_word_83 87 (by decide) ?_
                    refine fo_istore_n C dX7_word_87 rfl [(1, .int (nI k)), (3, .int (nI k)), (2, .int (nI i)), (0, .ref (Λ.2.2.1 616))] rfl (by decide) 88 rfl ?_
                    refine fo_iinc C dX7_word_88 2 rfl (nI (i + 1)) (nI_inc1 _) [(2, .int (nI (i + 1))), (1, .int (nI k)), (3, .int (nI k)), (0, .ref (Λ.2.2.1 616))] rfl (by decide) 91 rfl ?_
                    refine fo_goto C dX7_word_91 4 (by decide) ?_
                    refine fo_sub C [0, 1, 3] (lv' := [(2, .int (nI (i + 1))), (1, .int (nI k)), (0, .ref (Λ.2.2.1 616))]) rfl ?_
                    exact ih4 (i + 1) k (by omega) (by omega) (by omega) (by omega) (fun h => by by_cases h9 : i = fm_fx n t p; exact (hc1 h9).1; exact hg3 (by omega))
                · omega
              · refine fo_aload_n C dX7_word_32 3 rfl rfl 33 rfl ?_
                refine fo_get C dX7_word_33 fK9 (by decide : fo_k 616 = 9) (by decide) 12 (by decide) fl_X7_48 (v := .ref (Λ.2.2.1 623)) rfl 36 rfl ?_
                refine fo_aload_n C dX7_word_36 3 rfl rfl 37 rfl ?_
                refine fo_get C dX7_word_37 fK9 (by decide : fo_k 616 = 9) (by decide) 20 (by decide) fl_X7_72 (v := .int (nI p)) (congrArg (fun x => some (Value.int x)) (hV.2.2.2.1)) 40 rfl ?_
                refine fo_iload_n C dX7_word_40 0 rfl rfl 41 rfl ?_
                refine fo_iadd C dX7_word_41 (nI (p + k)) (nI_add _ _) 42 rfl ?_
                have q25 := (hV.2.2.2.2.2 (p + k) (by omega)).2
                refine fo_iald C dX7_word_42 (by decide : fo_k 623 = 20) (by rw [(show fo_n 623 = 60 from rfl)]; omega) (nI (t (p + k))) ((hV.2.2.2.2.2 (p + k) (by omega)).1) 43 rfl ?_
                refine fo_iload_n C dX7_word_43 1 rfl rfl 44 rfl ?_
                refine fo_iload_n C dX7_word_44 0 rfl rfl 45 rfl ?_
                refine fo_qsi C dX7_word_45 (mX7_spelled (i := i) (k := k) (by omega) (by omega)) ls_X7_244 rfl ⟨Nat.le_of_ble_eq_true rfl, Nat.le_of_ble_eq_true rfl⟩ ⟨Nat.le_of_ble_eq_true rfl, Nat.le_of_ble_eq_true rfl⟩ [.int (nI (t (p + k)))] rfl (Nat.le_of_ble_eq_true rfl) 48 rfl (fo_er ?_)
                refine fo_ncmp_ne C (by omega) (by omega) dX7_word_48 57 (by decide) 51 rfl (fun c32 => ?_) (fun c32 => ?_)
                · have hkl : k < (fm_W i).length := by omega
                  have e9 : fq_wd n t (fm_W i) p = (false, p + k) := by rw [hin2, fq_wd_step hkl, fq_at_n2 (c := (fm_W i).getD k 0) (show ¬ t (p + k) = fm_sp i k by omega)]; rfl
                  refine fo_iload_n C dX7_word_57 1 rfl rfl 58 rfl ?_
                  refine fo_iload_n C dX7_word_58 0 rfl rfl 59 rfl ?_
                  refine fo_qsi C dX7_word_59 (mX7_spelled (i := i) (k := k) (by omega) (by omega)) ls_X7_244 rfl ⟨Nat.le_of_ble_eq_true rfl, Nat.le_of_ble_eq_true rfl⟩ ⟨Nat.le_of_ble_eq_true rfl, Nat.le_of_ble_eq_true rfl⟩ [] rfl (Nat.le_of_ble_eq_true rfl) 62 rfl (fo_er ?_)
                  refine fo_nif_ne C (by omega) dX7_word_62 77 (by decide) 65 rfl (fun c39 => ?_) (fun c39 => ?_)
                  · have hc1 : i = fm_fx n t p → b = false ∧ e = p + k := fun h => by rw [h, hz] at e9; exact ⟨(Prod.mk.inj e9).1, (Prod.mk.inj e9).2⟩
                    have hc2 : ¬ i = fm_fx n t p → k = 0 := fun h => by rw [fm_fx_no (by omega) h] at e9; have := (Prod.mk.inj e9).2; omega
                    have hc3 : i = fm_fx n t p → e = p + k := fun h => (hc1 h).2
                    refine fo_iload_n C dX7_word_77 0 rfl rfl 78 rfl ?_
                    refine fo_iload_n C dX7_word_78 2 rfl rfl 79 rfl ?_
                    refine fo_ncmp_le C (by omega) (by omega) dX7_word_79 86 (by decide) 82 rfl (fun c40 => ?_) (fun c40 => ?_)
                    · refine fo_iload_n C dX7_word_86 2 rfl rfl 87 rfl ?_
                      refine fo_istore_n C dX7_word_87 rfl [(1, .int (nI g)), (3, .int (nI k)), (2, .int (nI i)), (0, .ref (Λ.2.2.1 616))] rfl (by decide) 88 rfl ?_
                      refine fo_iinc C dX7_word_88 2 rfl (nI (i + 1)) (nI_inc1 _) [(2, .int (nI (i + 1))), (1, .int (nI g)), (3, .int (nI k)), (0, .ref (Λ.2.2.1 616))] rfl (by decide) 91 rfl ?_
                      refine fo_goto C dX7_word_91 4 (by decide) ?_
                      refine fo_sub C [0, 1, 3] (lv' := [(2, .int (nI (i + 1))), (1, .int (nI g)), (0, .ref (Λ.2.2.1 616))]) rfl ?_
                      exact ih4 (i + 1) g (by omega) (by omega) (by omega) (by omega) (fun h => by by_cases h9 : i = fm_fx n t p; exact (hc1 h9).1; exact hg3 (by omega))
                    · refine fo_iload_n C dX7_word_82 0 rfl rfl 83 rfl ?_
                      refine fo_goto C dX7_word_83 87 (by decide) ?_
                      refine fo_istore_n C dX7_word_87 rfl [(1, .int (nI k)), (3, .int (nI k)), (2, .int (nI i)), (0, .ref (Λ.2.2.1 616))] rfl (by decide) 88 rfl ?_
                      refine fo_iinc C dX7_word_88 2 rfl (nI (i + 1)) (nI_inc1 _) [(2, .int (nI (i + 1))), (1, .int (nI k)), (3, .int (nI k)), (0, .ref (Λ.2.2.1 616))] rfl (by decide) 91 rfl ?_
                      refine fo_goto C dX7_word_91 4 (by decide) ?_
                      refine fo_sub C [0, 1, 3] (lv' := [(2, .int (nI (i + 1))), (1, .int (nI k)), (0, .ref (Λ.2.2.1 616))]) rfl ?_
                      exact ih4 (i + 1) k (by omega) (by omega) (by omega) (by omega) (fun h => by by_cases h9 : i = fm_fx n t p; exact (hc1 h9).1; exact hg3 (by omega))
                  · omega
                · refine fo_iinc C dX7_word_51 0 rfl (nI (k + 1)) (nI_inc1 _) [(3, .int (nI (k + 1))), (2, .int (nI i)), (1, .int (nI g)), (0, .ref (Λ.2.2.1 616))] rfl (by decide) 54 rfl ?_
                  refine fo_goto C dX7_word_54 11 (by decide) ?_
                  exact ih11 (k + 1) (by omega) (by omega) (by omega) (by rw [hin2, fq_wd_step (by omega), fq_at_y (c := (fm_W i).getD k 0) (by omega) (show t (p + k) = fm_sp i k by omega)]; rfl)
        exact hL11 (8 + 1) 0 (by omega) (Nat.zero_le _) (by omega) rfl
  exact hL4 (5 + 1) 0 0 (by omega) (by omega) (by omega) (by omega) (fun h => by omega)
set_option maxRecDepth 10000 in
set_option maxHeartbeats 4000000 in
theorem mX7_prophetKind_w {l : Launch} {Λ : fo_Lt} {I : fo_Mi} {D : fo_Md} {J : fo_Mj} {X : fo_Mi}  {n p : Nat} {t : Nat → Nat} (hV : fm_V I n t true p) : fk_i l yX7_prophetKind cX7_prophetKind 2 .int 1 20 Λ [.ref (Λ.2.2.1 616)] I D J X ((fun r I' D' J' X' => r = -1 ∧ fm_V I' n t true p ∧ fm_pf I I' ∧ D' = D ∧ J' = J ∧ X' = X)) := by
  have hn60 := hV.1
  have hpn := hV.2.1
  have ht9 : ∀ j, j < n → t j < 65536 := fun j hj => (hV.2.2.2.2.2 j hj).2
  refine fo_si (by decide) [(0, .ref (Λ.2.2.1 616))] rfl (Nat.le_of_ble_eq_true rfl) (fun K C fin => ?_)
  refine fo_aload_n C dX7_prophetKind_0 0 rfl rfl 1 rfl ?_
  refine fo_qvi C dX7_prophetKind_1 (mX7_mark_w hV) lv_X7_237 (by decide : fo_k 616 = 9) rfl (by decide) rfl ⟨Nat.le_of_ble_eq_true rfl, Nat.le_of_ble_eq_true rfl⟩ ⟨Nat.le_of_ble_eq_true rfl, Nat.le_of_ble_eq_true rfl⟩ [] rfl (Nat.le_of_ble_eq_true rfl) 4 rfl (fo_er ?_)
  refine fo_istore_n C dX7_prophetKind_4 rfl [(1, .int (-1)), (0, .ref (Λ.2.2.1 616))] rfl (by decide) 5 rfl ?_
  refine fo_aload_n C dX7_prophetKind_5 1 rfl rfl 6 rfl ?_
  refine fo_dup C dX7_prophetKind_6 rfl 7 rfl ?_
  refine fo_get C dX7_prophetKind_7 fK9 (by decide : fo_k 616 = 9) (by decide) 23 (by decide) fl_X7_81 (v := .int (fo_b (true))) (congrArg (fun x => some (Value.int x)) (hV.2.2.2.2.1)) 10 rfl ?_
  refine fo_iload_n C dX7_prophetKind_10 0 rfl rfl 11 rfl ?_
  refine fo_qsi C dX7_prophetKind_11 (mX7_isKind (x := (-1))) ls_X7_96 rfl ⟨Nat.le_of_ble_eq_true rfl, Nat.le_of_ble_eq_true rfl⟩ ⟨Nat.le_of_ble_eq_true rfl, Nat.le_of_ble_eq_true rfl⟩ [.int (fo_b (true)), .ref (Λ.2.2.1 616)] rfl (Nat.le_of_ble_eq_true rfl) 14 rfl (fo_er ?_)
  rw [show fm_kc (-1) = false by decide]
  refine fo_bif_ne C dX7_prophetKind_14 21 (by decide) 17 rfl (fun c13 => ?_) (fun c13 => ?_)
  · exact absurd c13 (by decide)
  · refine fo_iconst C dX7_prophetKind_17 (nI 1) ki_1 18 rfl ?_
    refine fo_goto C dX7_prophetKind_18 22 (by decide) ?_
    refine fo_ior C dX7_prophetKind_22 (fo_b true) (by decide) 23 rfl ?_
    refine fo_put C dX7_prophetKind_23 fK9 (by decide : fo_k 616 = 9) (by decide) 23 (by decide) fl_X7_81 rfl (by first | rfl | exact fo_nb _) (by first | rfl | exact fo_fb _) rfl (Nat.le_of_ble_eq_true rfl) 26 rfl ?_
    refine fo_aload_n C dX7_prophetKind_26 1 rfl rfl 27 rfl ?_
    refine fo_dup C dX7_prophetKind_27 rfl 28 rfl ?_
    refine fo_get C dX7_prophetKind_28 fK9 (by decide : fo_k 616 = 9) (by decide) 20 (by decide) fl_X7_72 (v := .int (nI p)) (congrArg (fun x => some (Value.int x)) ((by rw [fo_rs, pk_un (by decide)]; exact hV.2.2.2.1))) 31 rfl ?_
    refine fo_aload_n C dX7_prophetKind_31 1 rfl rfl 32 rfl ?_
    refine fo_get C dX7_prophetKind_32 fK9 (by decide : fo_k 616 = 9) (by decide) 23 (by decide) fl_X7_81 (v := .int (fo_b (true))) (congrArg (fun x => some (Value.int x)) ((by rw [fo_rs, pk_us]))) 35 rfl ?_
    refine fo_bif_eq C dX7_prophetKind_35 42 (by decide) 38 rfl (fun c14 => ?_) (fun c14 => ?_)
    · exact absurd c14 (by decide)
    · refine fo_iconst C dX7_prophetKind_38 (nI 0) ki_0 39 rfl ?_
      refine fo_goto C dX7_prophetKind_39 43 (by decide) ?_
      refine fo_iadd C dX7_prophetKind_43 (nI (p + 0)) (nI_add _ _) 44 rfl ?_
      refine fo_put C dX7_prophetKind_44 fK9 (by decide : fo_k 616 = 9) (by decide) 20 (by decide) fl_X7_72 rfl rfl rfl rfl (Nat.le_of_ble_eq_true rfl) 47 rfl ?_
      refine fo_iload_n C dX7_prophetKind_47 0 rfl rfl 48 rfl ?_
      exact fin dX7_prophetKind_48 rfl (⟨rfl, (⟨hV.to (by omega) (by simp only [fo_rs, pk_un (show (19 : Nat) ≠ 20 by decide), pk_un (show (19 : Nat) ≠ 23 by decide)]) (by rw [fo_rs, pk_us] <;> rfl) (by rw [fo_rs, pk_un (by decide), fo_rs, pk_us] <;> rfl) rfl, ⟨fun b hb => by rw [fo_rn _ _ hb, fo_rn _ _ hb], fun j a b => by rw [fo_rs, pk_un a, fo_rs, pk_un b]⟩, rfl, rfl, rfl⟩ : fm_V (fo_r (fo_r I 616 (upd (I 616) 23 (fo_b (true)))) 616 (upd ((fo_r I 616 (upd (I 616) 23 (fo_b (true)))) 616) 20 (nI (p + 0)))) n t true (p) ∧ fm_pf I (fo_r (fo_r I 616 (upd (I 616) 23 (fo_b (true)))) 616 (upd ((fo_r I 616 (upd (I 616) 23 (fo_b (true)))) 616) 20 (nI (p + 0)))) ∧ D = D ∧ J = J ∧ X = X)⟩)
set_option maxRecDepth 10000 in
set_option maxHeartbeats 4000000 in
theorem mX7_prophetKind_n {l : Launch} {Λ : fo_Lt} {I : fo_Mi} {D : fo_Md} {J : fo_Mj} {X : fo_Mi}  {n p : Nat} {t : Nat → Nat} (hkc : (decide (p < n) && fo_kc (t p)) = false) (hV : fm_V I n t false p) : fk_i l yX7_prophetKind cX7_prophetKind 2 .int 1 20 Λ [.ref (Λ.2.2.1 616)] I D J X ((fun r I' D' J' X' => r = fm_mk n t p ∧ fm_V I' n t true p ∧ fm_pf I I' ∧ D' = D ∧ J' = J ∧ X' = X)) := by
  have hn60 := hV.1
  have hpn := hV.2.1
  have ht9 : ∀ j, j < n → t j < 65536 := fun j hj => (hV.2.2.2.2.2 j hj).2
  refine fo_si (by decide) [(0, .ref (Λ.2.2.1 616))] rfl (Nat.le_of_ble_eq_true rfl) (fun K C fin => ?_)
  refine fo_aload_n C dX7_prophetKind_0 0 rfl rfl 1 rfl ?_
  refine fo_qvi C dX7_prophetKind_1 (mX7_mark hV) lv_X7_237 (by decide : fo_k 616 = 9) rfl (by decide) rfl ⟨Nat.le_of_ble_eq_true rfl, Nat.le_of_ble_eq_true rfl⟩ ⟨Nat.le_of_ble_eq_true rfl, Nat.le_of_ble_eq_true rfl⟩ [] rfl (Nat.le_of_ble_eq_true rfl) 4 rfl (fo_er ?_)
  refine fo_istore_n C dX7_prophetKind_4 rfl [(1, .int (fm_mk n t p)), (0, .ref (Λ.2.2.1 616))] rfl (by decide) 5 rfl ?_
  refine fo_aload_n C dX7_prophetKind_5 1 rfl rfl 6 rfl ?_
  refine fo_dup C dX7_prophetKind_6 rfl 7 rfl ?_
  refine fo_get C dX7_prophetKind_7 fK9 (by decide : fo_k 616 = 9) (by decide) 23 (by decide) fl_X7_81 (v := .int (fo_b (false))) (congrArg (fun x => some (Value.int x)) (hV.2.2.2.2.1)) 10 rfl ?_
  refine fo_iload_n C dX7_prophetKind_10 0 rfl rfl 11 rfl ?_
  refine fo_qsi C dX7_prophetKind_11 (mX7_isKind (x := (fm_mk n t p))) ls_X7_96 rfl ⟨Nat.le_of_ble_eq_true rfl, Nat.le_of_ble_eq_true rfl⟩ ⟨Nat.le_of_ble_eq_true rfl, Nat.le_of_ble_eq_true rfl⟩ [.int (fo_b (false)), .ref (Λ.2.2.1 616)] rfl (Nat.le_of_ble_eq_true rfl) 14 rfl (fo_er ?_)
  rw [fm_kc_mk ht9, hkc]
  refine fo_bif_ne C dX7_prophetKind_14 21 (by decide) 17 rfl (fun c13 => ?_) (fun c13 => ?_)
  · exact absurd c13 (by decide)
  · refine fo_iconst C dX7_prophetKind_17 (nI 1) ki_1 18 rfl ?_
    refine fo_goto C dX7_prophetKind_18 22 (by decide) ?_
    refine fo_ior C dX7_prophetKind_22 (fo_b true) (by decide) 23 rfl ?_
    refine fo_put C dX7_prophetKind_23 fK9 (by decide : fo_k 616 = 9) (by decide) 23 (by decide) fl_X7_81 rfl (by first | rfl | exact fo_nb _) (by first | rfl | exact fo_fb _) rfl (Nat.le_of_ble_eq_true rfl) 26 rfl ?_
    refine fo_aload_n C dX7_prophetKind_26 1 rfl rfl 27 rfl ?_
    refine fo_dup C dX7_prophetKind_27 rfl 28 rfl ?_
    refine fo_get C dX7_prophetKind_28 fK9 (by decide : fo_k 616 = 9) (by decide) 20 (by decide) fl_X7_72 (v := .int (nI p)) (congrArg (fun x => some (Value.int x)) ((by rw [fo_rs, pk_un (by decide)]; exact hV.2.2.2.1))) 31 rfl ?_
    refine fo_aload_n C dX7_prophetKind_31 1 rfl rfl 32 rfl ?_
    refine fo_get C dX7_prophetKind_32 fK9 (by decide : fo_k 616 = 9) (by decide) 23 (by decide) fl_X7_81 (v := .int (fo_b (true))) (congrArg (fun x => some (Value.int x)) ((by rw [fo_rs, pk_us]))) 35 rfl ?_
    refine fo_bif_eq C dX7_prophetKind_35 42 (by decide) 38 rfl (fun c14 => ?_) (fun c14 => ?_)
    · exact absurd c14 (by decide)
    · refine fo_iconst C dX7_prophetKind_38 (nI 0) ki_0 39 rfl ?_
      refine fo_goto C dX7_prophetKind_39 43 (by decide) ?_
      refine fo_iadd C dX7_prophetKind_43 (nI (p + 0)) (nI_add _ _) 44 rfl ?_
      refine fo_put C dX7_prophetKind_44 fK9 (by decide : fo_k 616 = 9) (by decide) 20 (by decide) fl_X7_72 rfl rfl rfl rfl (Nat.le_of_ble_eq_true rfl) 47 rfl ?_
      refine fo_iload_n C dX7_prophetKind_47 0 rfl rfl 48 rfl ?_
      exact fin dX7_prophetKind_48 rfl (⟨rfl, (⟨hV.to (by omega) (by simp only [fo_rs, pk_un (show (19 : Nat) ≠ 20 by decide), pk_un (show (19 : Nat) ≠ 23 by decide)]) (by rw [fo_rs, pk_us] <;> rfl) (by rw [fo_rs, pk_un (by decide), fo_rs, pk_us] <;> rfl) rfl, ⟨fun b hb => by rw [fo_rn _ _ hb, fo_rn _ _ hb], fun j a b => by rw [fo_rs, pk_un a, fo_rs, pk_un b]⟩, rfl, rfl, rfl⟩ : fm_V (fo_r (fo_r I 616 (upd (I 616) 23 (fo_b (true)))) 616 (upd ((fo_r I 616 (upd (I 616) 23 (fo_b (true)))) 616) 20 (nI (p + 0)))) n t true (p) ∧ fm_pf I (fo_r (fo_r I 616 (upd (I 616) 23 (fo_b (true)))) 616 (upd ((fo_r I 616 (upd (I 616) 23 (fo_b (true)))) 616) 20 (nI (p + 0)))) ∧ D = D ∧ J = J ∧ X = X)⟩)
set_option maxRecDepth 10000 in
set_option maxHeartbeats 4000000 in
theorem mX7_prophetKind {l : Launch} {Λ : fo_Lt} {I : fo_Mi} {D : fo_Md} {J : fo_Mj} {X : fo_Mi}  {n p : Nat} {t : Nat → Nat} (hkc : (decide (p < n) && fo_kc (t p)) = true) (hV : fm_V I n t false p) : fk_i l yX7_prophetKind cX7_prophetKind 2 .int 1 20 Λ [.ref (Λ.2.2.1 616)] I D J X ((fun r I' D' J' X' => r = nI (t p) ∧ fm_V I' n t false (p + 1) ∧ fm_pf I I' ∧ D' = D ∧ J' = J ∧ X' = X)) := by
  have hn60 := hV.1
  have hpn := hV.2.1
  have ht9 : ∀ j, j < n → t j < 65536 := fun j hj => (hV.2.2.2.2.2 j hj).2
  have hpl : p < n := of_decide_eq_true ((Bool.and_eq_true _ _).mp hkc).1
  refine fo_si (by decide) [(0, .ref (Λ.2.2.1 616))] rfl (Nat.le_of_ble_eq_true rfl) (fun K C fin => ?_)
  refine fo_aload_n C dX7_prophetKind_0 0 rfl rfl 1 rfl ?_
  refine fo_qvi C dX7_prophetKind_1 (mX7_mark hV) lv_X7_237 (by decide : fo_k 616 = 9) rfl (by decide) rfl ⟨Nat.le_of_ble_eq_true rfl, Nat.le_of_ble_eq_true rfl⟩ ⟨Nat.le_of_ble_eq_true rfl, Nat.le_of_ble_eq_true rfl⟩ [] rfl (Nat.le_of_ble_eq_true rfl) 4 rfl (fo_er ?_)
  refine fo_istore_n C dX7_prophetKind_4 rfl [(1, .int (fm_mk n t p)), (0, .ref (Λ.2.2.1 616))] rfl (by decide) 5 rfl ?_
  refine fo_aload_n C dX7_prophetKind_5 1 rfl rfl 6 rfl ?_
  refine fo_dup C dX7_prophetKind_6 rfl 7 rfl ?_
  refine fo_get C dX7_prophetKind_7 fK9 (by decide : fo_k 616 = 9) (by decide) 23 (by decide) fl_X7_81 (v := .int (fo_b (false))) (congrArg (fun x => some (Value.int x)) (hV.2.2.2.2.1)) 10 rfl ?_
  refine fo_iload_n C dX7_prophetKind_10 0 rfl rfl 11 rfl ?_
  refine fo_qsi C dX7_prophetKind_11 (mX7_isKind (x := (fm_mk n t p))) ls_X7_96 rfl ⟨Nat.le_of_ble_eq_true rfl, Nat.le_of_ble_eq_true rfl⟩ ⟨Nat.le_of_ble_eq_true rfl, Nat.le_of_ble_eq_true rfl⟩ [.int (fo_b (false)), .ref (Λ.2.2.1 616)] rfl (Nat.le_of_ble_eq_true rfl) 14 rfl (fo_er ?_)
  rw [fm_kc_mk ht9, hkc]
  refine fo_bif_ne C dX7_prophetKind_14 21 (by decide) 17 rfl (fun c13 => ?_) (fun c13 => ?_)
  · refine fo_iconst C dX7_prophetKind_21 (nI 0) ki_0 22 rfl ?_
    refine fo_ior C dX7_prophetKind_22 (fo_b false) (by decide) 23 rfl ?_
    refine fo_put C dX7_prophetKind_23 fK9 (by decide : fo_k 616 = 9) (by decide) 23 (by decide) fl_X7_81 rfl (by first | rfl | exact fo_nb _) (by first | rfl | exact fo_fb _) rfl (Nat.le_of_ble_eq_true rfl) 26 rfl ?_
    refine fo_aload_n C dX7_prophetKind_26 1 rfl rfl 27 rfl ?_
    refine fo_dup C dX7_prophetKind_27 rfl 28 rfl ?_
    refine fo_get C dX7_prophetKind_28 fK9 (by decide : fo_k 616 = 9) (by decide) 20 (by decide) fl_X7_72 (v := .int (nI p)) (congrArg (fun x => some (Value.int x)) ((by rw [fo_rs, pk_un (by decide)]; exact hV.2.2.2.1))) 31 rfl ?_
    refine fo_aload_n C dX7_prophetKind_31 1 rfl rfl 32 rfl ?_
    refine fo_get C dX7_prophetKind_32 fK9 (by decide : fo_k 616 = 9) (by decide) 23 (by decide) fl_X7_81 (v := .int (fo_b (false))) (congrArg (fun x => some (Value.int x)) ((by rw [fo_rs, pk_us]))) 35 rfl ?_
    refine fo_bif_eq C dX7_prophetKind_35 42 (by decide) 38 rfl (fun c14 => ?_) (fun c14 => ?_)
    · refine fo_iconst C dX7_prophetKind_42 (nI 1) ki_1 43 rfl ?_
      refine fo_iadd C dX7_prophetKind_43 (nI (p + 1)) (nI_add _ _) 44 rfl ?_
      refine fo_put C dX7_prophetKind_44 fK9 (by decide : fo_k 616 = 9) (by decide) 20 (by decide) fl_X7_72 rfl rfl rfl rfl (Nat.le_of_ble_eq_true rfl) 47 rfl ?_
      refine fo_iload_n C dX7_prophetKind_47 0 rfl rfl 48 rfl ?_
      exact fin dX7_prophetKind_48 rfl (⟨if_pos hpl, (⟨hV.to (by omega) (by simp only [fo_rs, pk_un (show (19 : Nat) ≠ 20 by decide), pk_un (show (19 : Nat) ≠ 23 by decide)]) (by rw [fo_rs, pk_us] <;> rfl) (by rw [fo_rs, pk_un (by decide), fo_rs, pk_us] <;> rfl) rfl, ⟨fun b hb => by rw [fo_rn _ _ hb, fo_rn _ _ hb], fun j a b => by rw [fo_rs, pk_un a, fo_rs, pk_un b]⟩, rfl, rfl, rfl⟩ : fm_V (fo_r (fo_r I 616 (upd (I 616) 23 (fo_b (false)))) 616 (upd ((fo_r I 616 (upd (I 616) 23 (fo_b (false)))) 616) 20 (nI (p + 1)))) n t false (p + 1) ∧ fm_pf I (fo_r (fo_r I 616 (upd (I 616) 23 (fo_b (false)))) 616 (upd ((fo_r I 616 (upd (I 616) 23 (fo_b (false)))) 616) 20 (nI (p + 1)))) ∧ D = D ∧ J = J ∧ X = X)⟩)
    · exact absurd c14 (by decide)
  · exact absurd c13 (by decide)
set_option maxRecDepth 10000 in
set_option maxHeartbeats 4000000 in
theorem mX7_readsValue_w {l : Launch} {Λ : fo_Lt} {I : fo_Mi} {D : fo_Md} {J : fo_Mj} {X : fo_Mi}  {n p : Nat} {t : Nat → Nat} (hV : fm_V I n t true p) : fk_v l yX7_readsValue cX7_readsValue 2 2 45 Λ [.ref (Λ.2.2.1 616)] I D J X ((fun I' D' J' X' => fm_V I' n t true p ∧ fm_pf I I' ∧ D' = D ∧ J' = J ∧ X' = X)) := by
  refine fo_sv (by decide) [(0, .ref (Λ.2.2.1 616))] rfl (Nat.le_of_ble_eq_true rfl) (fun K C fin => ?_)
  refine fo_aload_n C dX7_readsValue_0 0 rfl rfl 1 rfl ?_
  refine fo_iconst C dX7_readsValue_1 (nI 3) ki_3 2 rfl ?_
  refine fo_qvi C dX7_readsValue_2 (mX7_number_w (m := 3) (by decide) (by decide) hV) lv_X7_247 (by decide : fo_k 616 = 9) rfl (by decide) rfl ⟨Nat.le_of_ble_eq_true rfl, Nat.le_of_ble_eq_true rfl⟩ ⟨Nat.le_of_ble_eq_true rfl, Nat.le_of_ble_eq_true rfl⟩ [] rfl (Nat.le_of_ble_eq_true rfl) 5 rfl (fun r1 I2 D3 J4 X5 p6 => ?_)
  obtain ⟨rfl, hV1, hf1, z3, z4, z5⟩ := p6
  obtain rfl := z3.symm
  obtain rfl := z4.symm
  obtain rfl := z5.symm
  refine fo_istore_n C dX7_readsValue_5 rfl [(1, .int (nI 0)), (0, .ref (Λ.2.2.1 616))] rfl (by decide) 6 rfl ?_
  refine fo_aload_n C dX7_readsValue_6 1 rfl rfl 7 rfl ?_
  refine fo_get C dX7_readsValue_7 fK9 (by decide : fo_k 616 = 9) (by decide) 23 (by decide) fl_X7_81 (v := .int (fo_b (true))) (congrArg (fun x => some (Value.int x)) (hV1.2.2.2.2.1)) 10 rfl ?_
  refine fo_bif_eq C dX7_readsValue_10 14 (by decide) 13 rfl (fun c7 => ?_) (fun c7 => ?_)
  · exact absurd c7 (by decide)
  · exact fin dX7_readsValue_13 (⟨hV1, hf1, rfl, rfl, rfl⟩)
set_option maxRecDepth 10000 in
set_option maxHeartbeats 4000000 in
theorem mX7_readsValue_n {l : Launch} {Λ : fo_Lt} {I : fo_Mi} {D : fo_Md} {J : fo_Mj} {X : fo_Mi}  {n p : Nat} {t : Nat → Nat} (hd : fq_dg n t p = false) (hV : fm_V I n t false p) : fk_v l yX7_readsValue cX7_readsValue 2 2 45 Λ [.ref (Λ.2.2.1 616)] I D J X ((fun I' D' J' X' => fm_V I' n t true p ∧ fm_pf I I' ∧ D' = D ∧ J' = J ∧ X' = X)) := by
  refine fo_sv (by decide) [(0, .ref (Λ.2.2.1 616))] rfl (Nat.le_of_ble_eq_true rfl) (fun K C fin => ?_)
  refine fo_aload_n C dX7_readsValue_0 0 rfl rfl 1 rfl ?_
  refine fo_iconst C dX7_readsValue_1 (nI 3) ki_3 2 rfl ?_
  refine fo_qvi C dX7_readsValue_2 (mX7_number_n (m := 3) (by decide) (by decide) hd hV) lv_X7_247 (by decide : fo_k 616 = 9) rfl (by decide) rfl ⟨Nat.le_of_ble_eq_true rfl, Nat.le_of_ble_eq_true rfl⟩ ⟨Nat.le_of_ble_eq_true rfl, Nat.le_of_ble_eq_true rfl⟩ [] rfl (Nat.le_of_ble_eq_true rfl) 5 rfl (fun r1 I2 D3 J4 X5 p6 => ?_)
  obtain ⟨rfl, hV1, hf1, z3, z4, z5⟩ := p6
  obtain rfl := z3.symm
  obtain rfl := z4.symm
  obtain rfl := z5.symm
  refine fo_istore_n C dX7_readsValue_5 rfl [(1, .int (nI 0)), (0, .ref (Λ.2.2.1 616))] rfl (by decide) 6 rfl ?_
  refine fo_aload_n C dX7_readsValue_6 1 rfl rfl 7 rfl ?_
  refine fo_get C dX7_readsValue_7 fK9 (by decide : fo_k 616 = 9) (by decide) 23 (by decide) fl_X7_81 (v := .int (fo_b (true))) (congrArg (fun x => some (Value.int x)) (hV1.2.2.2.2.1)) 10 rfl ?_
  refine fo_bif_eq C dX7_readsValue_10 14 (by decide) 13 rfl (fun c7 => ?_) (fun c7 => ?_)
  · exact absurd c7 (by decide)
  · exact fin dX7_readsValue_13 (⟨hV1, hf1, rfl, rfl, rfl⟩)
set_option maxRecDepth 10000 in
set_option maxHeartbeats 4000000 in
theorem mX7_readsValue {l : Launch} {Λ : fo_Lt} {I : fo_Mi} {D : fo_Md} {J : fo_Mj} {X : fo_Mi}  {n p : Nat} {t : Nat → Nat} {V : List Nat} (hd : fq_dg n t p = true) (hV : fm_V I n t false p) (hU : fm_U I V) (h60 : V.length < 60) : fk_v l yX7_readsValue cX7_readsValue 2 2 45 Λ [.ref (Λ.2.2.1 616)] I D J X ((fun I' D' J' X' => fm_V I' n t false (fq_num n t p).2 ∧ fm_U I' (V ++ [(fq_num n t p).1]) ∧ fm_qf I I' ∧ D' = D ∧ J' = J ∧ X' = X)) := by
  refine fo_sv (by decide) [(0, .ref (Λ.2.2.1 616))] rfl (Nat.le_of_ble_eq_true rfl) (fun K C fin => ?_)
  refine fo_aload_n C dX7_readsValue_0 0 rfl rfl 1 rfl ?_
  refine fo_iconst C dX7_readsValue_1 (nI 3) ki_3 2 rfl ?_
  refine fo_qvi C dX7_readsValue_2 (mX7_number (m := 3) (by decide) (by decide) hd hV) lv_X7_247 (by decide : fo_k 616 = 9) rfl (by decide) rfl ⟨Nat.le_of_ble_eq_true rfl, Nat.le_of_ble_eq_true rfl⟩ ⟨Nat.le_of_ble_eq_true rfl, Nat.le_of_ble_eq_true rfl⟩ [] rfl (Nat.le_of_ble_eq_true rfl) 5 rfl (fun r1 I2 D3 J4 X5 p6 => ?_)
  obtain ⟨rfl, hV1, hf1, z3, z4, z5⟩ := p6
  obtain rfl := z3.symm
  obtain rfl := z4.symm
  obtain rfl := z5.symm
  rw [hd, fq_nm_3 hd] at hV1
  have hnu := fq_num_in hd
  rw [fq_nm_3 hd]
  refine fo_istore_n C dX7_readsValue_5 rfl [(1, .int (nI ((fq_num n t p).1))), (0, .ref (Λ.2.2.1 616))] rfl (by decide) 6 rfl ?_
  refine fo_aload_n C dX7_readsValue_6 1 rfl rfl 7 rfl ?_
  refine fo_get C dX7_readsValue_7 fK9 (by decide : fo_k 616 = 9) (by decide) 23 (by decide) fl_X7_81 (v := .int (fo_b (false))) (congrArg (fun x => some (Value.int x)) (hV1.2.2.2.2.1)) 10 rfl ?_
  refine fo_bif_eq C dX7_readsValue_10 14 (by decide) 13 rfl (fun c7 => ?_) (fun c7 => ?_)
  · refine fo_aload_n C dX7_readsValue_14 1 rfl rfl 15 rfl ?_
    refine fo_get C dX7_readsValue_15 fK9 (by decide : fo_k 616 = 9) (by decide) 17 (by decide) fl_X7_63 (v := .ref (Λ.2.2.1 628)) rfl 18 rfl ?_
    refine fo_aload_n C dX7_readsValue_18 1 rfl rfl 19 rfl ?_
    refine fo_get C dX7_readsValue_19 fK9 (by decide : fo_k 616 = 9) (by decide) 22 (by decide) fl_X7_78 (v := .int (nI (V.length))) (congrArg (fun x => some (Value.int x)) ((hf1.2 22 (by decide) (by decide)).trans hU.1)) 22 rfl ?_
    refine fo_iload_n C dX7_readsValue_22 0 rfl rfl 23 rfl ?_
    refine fo_iast C dX7_readsValue_23 (by decide : fo_k 628 = 20) (by rw [(show fo_n 628 = 60 from rfl)]; omega) 24 rfl ?_
    refine fo_aload_n C dX7_readsValue_24 1 rfl rfl 25 rfl ?_
    refine fo_dup C dX7_readsValue_25 rfl 26 rfl ?_
    refine fo_get C dX7_readsValue_26 fK9 (by decide : fo_k 616 = 9) (by decide) 22 (by decide) fl_X7_78 (v := .int (nI (V.length))) (congrArg (fun x => some (Value.int x)) ((by rw [fo_rn _ _ (by decide)]; exact (hf1.2 22 (by decide) (by decide)).trans hU.1))) 29 rfl ?_
    refine fo_iconst C dX7_readsValue_29 (nI 1) ki_1 30 rfl ?_
    refine fo_iadd C dX7_readsValue_30 (nI (V.length + 1)) (nI_add _ _) 31 rfl ?_
    refine fo_put C dX7_readsValue_31 fK9 (by decide : fo_k 616 = 9) (by decide) 22 (by decide) fl_X7_78 rfl rfl rfl rfl (Nat.le_of_ble_eq_true rfl) 34 rfl ?_
    exact fin dX7_readsValue_34 (⟨hV1.to hnu.2.1 (by rw [fo_rs, pk_un (by decide), fo_rn _ _ (by decide)]) (by rw [fo_rs, pk_un (by decide), fo_rn _ _ (by decide)]; exact hV1.2.2.2.1) (by rw [fo_rs, pk_un (by decide), fo_rn _ _ (by decide)]; exact hV1.2.2.2.2.1) rfl, (hU.pf hf1).add (by rw [fo_rs, pk_us]) (by rw [fo_rn _ _ (by decide), fo_rs, pk_us]) (fun j hj => by rw [fo_rn _ _ (by decide), fo_rs, pk_un hj]), hf1.q.trans ⟨fun b b1 b2 => by rw [fo_rn _ _ b1, fo_rn _ _ b2], fun j a b c => by rw [fo_rs, pk_un b, fo_rn _ _ (by decide)]⟩, rfl, rfl, rfl⟩)
  · exact absurd c7 (by decide)
