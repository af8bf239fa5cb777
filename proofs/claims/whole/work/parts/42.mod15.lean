
/-! THE MODEL: its rows, copied; its history -/
/-- a row of the model holds a state -/
def fm_R (g : Nat → Int32) (s : fa_S) : Prop := fm_T (fun _ => g) 0 s.1 s.2.1 s.2.2.1 s.2.2.2.1 s.2.2.2.2.1 s.2.2.2.2.2
theorem fm_R.cong {f g : Nat → Int32} {s : fa_S} (h : fm_R f s) (e : ∀ j, j < 150 → g j = f j) : fm_R g s := by
  obtain ⟨⟨ho1, ⟨ho2, ho3⟩, ho4, ho5, ho6⟩, hnp, hlim, hP, hS⟩ := h
  refine ⟨⟨ho1, ⟨ho2, ho3⟩, ho4, ho5, ho6⟩, (e 0 (by decide)).trans hnp, (e 1 (by decide)).trans hlim, fun p hp => ⟨(e _ (by omega)).trans (hP p hp).1, (e _ (by omega)).trans (hP p hp).2⟩, fun k hk => ⟨(e _ (by omega)).trans (hS k hk).1, fun d hd => ?_⟩⟩
  have := ho5 k hk
  exact (e _ (by omega)).trans ((hS k hk).2 d hd)
def fm_cp (f : Nat → Int32) (a : Nat) (g : Nat → Int32) (b n : Nat) : Nat → Int32 := fun j => if b ≤ j ∧ j < b + n then f (a + (j - b)) else g j
theorem fm_cp_in {f g : Nat → Int32} {a b n j : Nat} (h1 : b ≤ j) (h2 : j < b + n) : fm_cp f a g b n j = f (a + (j - b)) := if_pos ⟨h1, h2⟩
theorem fm_cp_out {f g : Nat → Int32} {a b n j : Nat} (h : ¬ (b ≤ j ∧ j < b + n)) : fm_cp f a g b n j = g j := if_neg h
theorem fm_cp_0 {I : fo_Mi} {x : Nat} {f : Nat → Int32} {a b : Nat} : I = fo_r I x (fm_cp f a (I x) b 0) := by
  funext id
  by_cases h : id = x
  · subst h
    rw [fo_rs]
    funext j
    exact (fm_cp_out (by omega)).symm
  · rw [fo_rn _ _ h]
theorem fm_cp_rd {I : fo_Mi} {x y a b k : Nat} (hd : x = y → a + 150 ≤ b ∨ b + 150 ≤ a) (hk : k < 150) : fo_r I y (fm_cp (I x) a (I y) b k) x (a + k) = I x (a + k) := by
  by_cases h : x = y
  · have hd := hd h
    subst h
    rw [fo_rs, fm_cp_out (by omega)]
  · rw [fo_rn _ _ h]
theorem fm_cp_st {I : fo_Mi} {x y a b k : Nat} : fo_r (fo_r I y (fm_cp (I x) a (I y) b k)) y (upd (fo_r I y (fm_cp (I x) a (I y) b k) y) (b + k) (I x (a + k))) = fo_r I y (fm_cp (I x) a (I y) b (k + 1)) := by
  funext id
  by_cases h : id = y
  · subst h
    rw [fo_rs, fo_rs, fo_rs]
    funext j
    by_cases e : j = b + k
    · subst e
      rw [pk_us, fm_cp_in (by omega) (by omega), show a + (b + k - b) = a + k by omega]
    · rw [pk_un e]
      by_cases e2 : b ≤ j ∧ j < b + k
      · rw [fm_cp_in e2.1 e2.2, fm_cp_in e2.1 (by omega)]
      · rw [fm_cp_out e2, fm_cp_out (by omega)]
  · rw [fo_rn _ _ h, fo_rn _ _ h, fo_rn _ _ h]
/-- the states behind undo, the newest first -/
def fm_H (I : fo_Mi) (hs : List fa_S) : Prop := I 616 6 = nI hs.length ∧ hs.length ≤ 8 ∧ ∀ j s, hs[j]? = some s → fm_R (fun i => I 620 (150 * (hs.length - 1 - j) + i)) s
def fm_K (I : fo_Mi) (ks : Option fa_S) : Prop := I 616 9 = fo_b ks.isSome ∧ ∀ s, ks = some s → fm_R (I 619) s
def fm_L (I : fo_Mi) (L : List Nat) : Prop := L.length ≤ 160 ∧ I 616 11 = nI L.length ∧ ∀ j c, L[j]? = some c → I 622 j = nI c ∧ c < 65536
def fm_Q (I : fo_Mi) (m : Nat) (t : Nat → Nat) : Prop := m ≤ 60 ∧ I 616 18 = nI m ∧ ∀ j, j < m → I 623 j = nI (t j) ∧ t j < 65536
/-- the whole model -/
def fm_M (I : fo_Mi) (s : fa_S) (hs : List fa_S) (ks : Option fa_S) (L : List Nat) (m : Nat) (t : Nat → Nat) (e f : Int32) : Prop := fm_R (I 617) s ∧ fm_H I hs ∧ fm_K I ks ∧ fm_L I L ∧ fm_Q I m t ∧ I 616 7 = e ∧ I 616 8 = f
theorem fm_H.mv {I I' : fo_Mi} {hs : List fa_S} (h : fm_H I hs) (e1 : I' 616 6 = I 616 6) (e2 : I' 620 = I 620) : fm_H I' hs := by
  obtain ⟨h1, h2, h3⟩ := h
  exact ⟨e1.trans h1, h2, fun j s hj => by rw [e2]; exact h3 j s hj⟩
theorem fm_M.go {I I' : fo_Mi} {s s2 : fa_S} {hs hs2 : List fa_S} {ks : Option fa_S} {L : List Nat} {m : Nat} {t : Nat → Nat} {e f : Int32} (h : fm_M I s hs ks L m t e f) (h1 : fm_R (I' 617) s2) (h2 : fm_H I' hs2) (c1 : ∀ j, j ≠ 5 → j ≠ 6 → I' 616 j = I 616 j) (c2 : ∀ b, 619 ≤ b → b ≤ 628 → b ≠ 620 → I' b = I b) : fm_M I' s2 hs2 ks L m t e f := by
  obtain ⟨_, _, hk, hl, hq, he, hf⟩ := h
  refine ⟨h1, h2, ⟨(c1 9 (by decide) (by decide)).trans hk.1, fun q hq9 => by rw [c2 619 (by decide) (by decide) (by decide)]; exact hk.2 q hq9⟩, ⟨hl.1, (c1 11 (by decide) (by decide)).trans hl.2.1, fun j c hj => by rw [c2 622 (by decide) (by decide) (by decide)]; exact hl.2.2 j c hj⟩, ⟨hq.1, (c1 18 (by decide) (by decide)).trans hq.2.1, fun j hj => by rw [c2 623 (by decide) (by decide) (by decide)]; exact hq.2.2 j hj⟩, (c1 7 (by decide) (by decide)).trans he, (c1 8 (by decide) (by decide)).trans hf⟩
theorem fm_M.mv {I I' : fo_Mi} {s : fa_S} {hs : List fa_S} {ks : Option fa_S} {L : List Nat} {m : Nat} {t : Nat → Nat} {e f : Int32} (h : fm_M I s hs ks L m t e f) (c1 : ∀ j, j ≠ 5 → I' 616 j = I 616 j) (c2 : ∀ b, 617 ≤ b → b ≤ 628 → b ≠ 618 → I' b = I b) : fm_M I' s hs ks L m t e f :=
  h.go (by rw [c2 617 (by decide) (by decide) (by decide)]; exact h.1) (h.2.1.mv (c1 6 (by decide)) (c2 620 (by decide) (by decide) (by decide))) (fun j h5 _ => c1 j h5) (fun b b1 b2 _ => c2 b (by omega) b2 (by omega))
/-- outside the model nothing changes -/
def fm_f (I I' : fo_Mi) : Prop := ∀ b, b < 616 ∨ 628 < b → I' b = I b
theorem fm_H.push {Z : fo_Mi} {hs : List fa_S} {s0 : fa_S} {d : Nat} {row : Nat → Int32} (hl : hs.length ≤ 8) (hd : d = min 7 hs.length) (hz : ∀ j s, j < d → hs[j]? = some s → fm_R (fun i => Z 620 (150 * (d - 1 - j) + i)) s) (hb : fm_R (Z 618) s0) : fm_H (fo_r (fo_r Z 620 (fm_cp (Z 618) 0 (Z 620) (150 * d) 150)) 616 (upd row 6 (nI (d + 1)))) ((s0 :: hs).take 8) := by
  have hlen : ((s0 :: hs).take 8).length = d + 1 := by rw [List.length_take, List.length_cons]; omega
  refine ⟨by rw [fo_rs, pk_us, hlen], by omega, fun j s hj => ?_⟩
  rw [hlen]
  have hj1 : j < d + 1 := by rw [← hlen]; exact (List.getElem?_eq_some_iff.mp hj).1
  rw [List.getElem?_take_of_lt (by omega)] at hj
  rw [fo_rn _ _ (by decide), fo_rs]
  rcases j with _ | j
  · cases hj
    exact hb.cong (fun i hi => by rw [fm_cp_in (by omega) (by omega)]; exact congrArg (Z 618) (by omega))
  · exact (hz j s (by omega) hj).cong (fun i hi => by rw [fm_cp_out (by omega)]; exact congrArg (Z 620) (by omega))

set_option maxRecDepth 10000 in
set_option maxHeartbeats 4000000 in
theorem mX7_copy {l : Launch} {Λ : fo_Lt} {I : fo_Mi} {D : fo_Md} {J : fo_Mj} {X : fo_Mi} {x y a b nx ny : Nat} (hxk : fo_k x = 20) (hyk : fo_k y = 20) (hxn : fo_n x = nx) (hyn : fo_n y = ny) (h1 : a + 150 ≤ nx) (h2 : b + 150 ≤ ny) (h3 : nx < 2 ^ 30) (h4 : ny < 2 ^ 30) (hd : x = y → a + 150 ≤ b ∨ b + 150 ≤ a) : fk_v l yX7_copy cX7_copy 5 0 0 Λ [.ref (Λ.2.2.1 x), .int (nI a), .ref (Λ.2.2.1 y), .int (nI b)] I D J X (fo_prv (fo_r I y (fm_cp (I x) a (I y) b 150)) D J X) := by
  refine fo_sv (by decide) [(0, .ref (Λ.2.2.1 x)), (1, .int (nI a)), (2, .ref (Λ.2.2.1 y)), (3, .int (nI b))] rfl (Nat.le_of_ble_eq_true rfl) (fun K C fin => ?_)
  refine fo_iconst C dX7_copy_0 (nI 0) ki_0 1 rfl ?_
  refine fo_istore C dX7_copy_1 [(4, .int (nI 0)), (0, .ref (Λ.2.2.1 x)), (1, .int (nI a)), (2, .ref (Λ.2.2.1 y)), (3, .int (nI b))] rfl (by decide) 3 rfl ?_
  have hL3 : ∀ (m3 : Nat) (k : Nat) (Y : fo_Mi), 151 - k < m3 → k ≤ 150 → Y = fo_r I y (fm_cp (I x) a (I y) b k) → fo_G l Λ { frames := 0, cells := 0, slots := 0, locals := 0 } K 0 0 3 [(4, .int (nI k)), (0, .ref (Λ.2.2.1 x)), (1, .int (nI a)), (2, .ref (Λ.2.2.1 y)), (3, .int (nI b))] [] Y D J X := by
    intro m3
    induction m3 with
    | zero => intro k Y hm; exact absurd hm (Nat.not_lt_zero _)
    | succ m3 ih3 =>
      intro k Y hm3 hk hY
      refine fo_iload C dX7_copy_3 0 rfl 5 rfl ?_
      refine fo_sipush C dX7_copy_5 (nI 150) ks_150 8 rfl ?_
      refine fo_ncmp_ge C (by omega) (by omega) dX7_copy_8 29 (by decide) 11 rfl (fun c1 => ?_) (fun c1 => ?_)
      · exact fin dX7_copy_29 (⟨by rw [hY, show k = 150 by omega], rfl, rfl, rfl⟩)
      · refine fo_aload_n C dX7_copy_11 3 rfl rfl 12 rfl ?_
        refine fo_iload_n C dX7_copy_12 4 rfl rfl 13 rfl ?_
        refine fo_iload C dX7_copy_13 0 rfl 15 rfl ?_
        refine fo_iadd C dX7_copy_15 (nI (b + k)) (nI_add _ _) 16 rfl ?_
        refine fo_aload_n C dX7_copy_16 1 rfl rfl 17 rfl ?_
        refine fo_iload_n C dX7_copy_17 2 rfl rfl 18 rfl ?_
        refine fo_iload C dX7_copy_18 0 rfl 20 rfl ?_
        refine fo_iadd C dX7_copy_20 (nI (a + k)) (nI_add _ _) 21 rfl ?_
        refine fo_iald C dX7_copy_21 hxk (by rw [hxn]; omega) (I x (a + k)) ((by rw [hY]; exact fm_cp_rd hd (by omega))) 22 rfl ?_
        refine fo_iast C dX7_copy_22 hyk (by rw [hyn]; omega) 23 rfl ?_
        refine fo_iinc C dX7_copy_23 0 rfl (nI (k + 1)) (nI_inc1 _) [(4, .int (nI (k + 1))), (0, .ref (Λ.2.2.1 x)), (1, .int (nI a)), (2, .ref (Λ.2.2.1 y)), (3, .int (nI b))] rfl (by decide) 26 rfl ?_
        refine fo_goto C dX7_copy_26 3 (by decide) ?_
        exact ih3 (k + 1) (fo_r Y y (upd (Y y) (b + k) (I x (a + k)))) (by omega) (by omega) (by rw [hY]; exact fm_cp_st)
  exact hL3 (151 + 1) 0 I (by omega) (by omega) fm_cp_0
set_option maxRecDepth 10000 in
set_option maxHeartbeats 4000000 in
theorem mX7_begin {l : Launch} {Λ : fo_Lt} {I : fo_Mi} {D : fo_Md} {J : fo_Mj} {X : fo_Mi} {np lim : Nat} {kd par n : Nat → Nat} {v : Nat → Nat → Nat} (ht : fm_T I 617 np lim kd par n v) : fk_v l yX7_begin cX7_begin 1 1 24 Λ [.ref (Λ.2.2.1 616)] I D J X ((fun I' D' J' X' => fm_T I' 617 np lim kd par n v ∧ fm_R (I' 618) (np, lim, kd, par, n, v) ∧ I' 616 5 = nI 0 ∧ (∀ b, b ≠ 616 → b ≠ 618 → I' b = I b) ∧ (∀ j, j ≠ 5 → I' 616 j = I 616 j) ∧ D' = D ∧ J' = J ∧ X' = X)) := by
  refine fo_sv (by decide) [(0, .ref (Λ.2.2.1 616))] rfl (Nat.le_of_ble_eq_true rfl) (fun K C fin => ?_)
  refine fo_aload_n C dX7_begin_0 0 rfl rfl 1 rfl ?_
  refine fo_iconst C dX7_begin_1 (nI 0) ki_0 2 rfl ?_
  refine fo_put C dX7_begin_2 fK9 (by decide : fo_k 616 = 9) (by decide) 5 (by decide) fl_X7_25 rfl rfl rfl rfl (Nat.le_of_ble_eq_true rfl) 5 rfl ?_
  refine fo_aload_n C dX7_begin_5 0 rfl rfl 6 rfl ?_
  refine fo_get C dX7_begin_6 fK9 (by decide : fo_k 616 = 9) (by decide) 0 (by decide) fl_X7_7 (v := .ref (Λ.2.2.1 617)) rfl 9 rfl ?_
  refine fo_iconst C dX7_begin_9 (nI 0) ki_0 10 rfl ?_
  refine fo_aload_n C dX7_begin_10 0 rfl rfl 11 rfl ?_
  refine fo_get C dX7_begin_11 fK9 (by decide : fo_k 616 = 9) (by decide) 1 (by decide) fl_X7_13 (v := .ref (Λ.2.2.1 618)) rfl 14 rfl ?_
  refine fo_iconst C dX7_begin_14 (nI 0) ki_0 15 rfl ?_
  refine fo_qsv C dX7_begin_15 (mX7_copy (x := 617) (y := 618) (a := 0) (b := 0) (nx := 150) (ny := 150) (by decide) (by decide) rfl rfl (by omega) (by omega) (by decide) (by decide) (by omega)) ls_X7_84 rfl ⟨Nat.le_of_ble_eq_true rfl, Nat.le_of_ble_eq_true rfl⟩ ⟨Nat.le_of_ble_eq_true rfl, Nat.le_of_ble_eq_true rfl⟩ [] rfl (Nat.le_of_ble_eq_true rfl) 18 rfl (fo_erv ?_)
  exact fin dX7_begin_18 (⟨ht, fm_R.cong (f := I 617) (s := (np, lim, kd, par, n, v)) ht (fun j hj => by rw [fo_rs, fm_cp_in (by omega) (by omega), fo_rn _ _ (by decide)]; exact congrArg (I 617) (by omega)), by rw [fo_rn _ _ (by decide), fo_rs, pk_us], fun b b1 b2 => by rw [fo_rn _ _ b2, fo_rn _ _ b1], fun j hj => by rw [fo_rn _ _ (by decide), fo_rs, pk_un hj], rfl, rfl, rfl⟩)
set_option maxRecDepth 10000 in
set_option maxHeartbeats 4000000 in
theorem mX7_commit {l : Launch} {Λ : fo_Lt} {I : fo_Mi} {D : fo_Md} {J : fo_Mj} {X : fo_Mi} {hs : List fa_S} {s0 : fa_S} {x : Int32} (hh : fm_H I hs) (hb : fm_R (I 618) s0) : fk_i l yX7_commit cX7_commit 3 .int 1 24 Λ [.ref (Λ.2.2.1 616), .int (x)] I D J X ((fun r I' D' J' X' => r = x ∧ fm_H I' ((s0 :: hs).take 8) ∧ (∀ b, b ≠ 616 → b ≠ 620 → I' b = I b) ∧ (∀ j, j ≠ 6 → I' 616 j = I 616 j) ∧ D' = D ∧ J' = J ∧ X' = X)) := by
  obtain ⟨hd6, h8, h3⟩ := hh
  refine fo_si (by decide) [(0, .ref (Λ.2.2.1 616)), (1, .int (x))] rfl (Nat.le_of_ble_eq_true rfl) (fun K C fin => ?_)
  refine fo_aload_n C dX7_commit_0 0 rfl rfl 1 rfl ?_
  refine fo_get C dX7_commit_1 fK9 (by decide : fo_k 616 = 9) (by decide) 6 (by decide) fl_X7_29 (v := .int (nI (hs.length))) (congrArg (fun x => some (Value.int x)) (hd6)) 4 rfl ?_
  refine fo_bipush C dX7_commit_4 (nI 8) kb_8 6 rfl ?_
  refine fo_ncmp_ne C (by omega) (by omega) dX7_commit_6 56 (by decide) 9 rfl (fun c1 => ?_) (fun c1 => ?_)
  · refine fo_aload_n C dX7_commit_56 0 rfl rfl 57 rfl ?_
    refine fo_get C dX7_commit_57 fK9 (by decide : fo_k 616 = 9) (by decide) 1 (by decide) fl_X7_13 (v := .ref (Λ.2.2.1 618)) rfl 60 rfl ?_
    refine fo_iconst C dX7_commit_60 (nI 0) ki_0 61 rfl ?_
    refine fo_aload_n C dX7_commit_61 0 rfl rfl 62 rfl ?_
    refine fo_get C dX7_commit_62 fK9 (by decide : fo_k 616 = 9) (by decide) 3 (by decide) fl_X7_19 (v := .ref (Λ.2.2.1 620)) rfl 65 rfl ?_
    refine fo_sipush C dX7_commit_65 (nI 150) ks_150 68 rfl ?_
    refine fo_aload_n C dX7_commit_68 0 rfl rfl 69 rfl ?_
    refine fo_get C dX7_commit_69 fK9 (by decide : fo_k 616 = 9) (by decide) 6 (by decide) fl_X7_29 (v := .int (nI (hs.length))) (congrArg (fun x => some (Value.int x)) (hd6)) 72 rfl ?_
    refine fo_imul C dX7_commit_72 (nI (150 * hs.length)) (pk_mul _ _) 73 rfl ?_
    refine fo_qsv C dX7_commit_73 (mX7_copy (x := 618) (y := 620) (a := 0) (b := 150 * hs.length) (nx := 150) (ny := 1200) (by decide) (by decide) rfl rfl (by omega) (by omega) (by decide) (by decide) (by omega)) ls_X7_84 rfl ⟨Nat.le_of_ble_eq_true rfl, Nat.le_of_ble_eq_true rfl⟩ ⟨Nat.le_of_ble_eq_true rfl, Nat.le_of_ble_eq_true rfl⟩ [] rfl (Nat.le_of_ble_eq_true rfl) 76 rfl (fo_erv ?_)
    refine fo_aload_n C dX7_commit_76 0 rfl rfl 77 rfl ?_
    refine fo_dup C dX7_commit_77 rfl 78 rfl ?_
    refine fo_get C dX7_commit_78 fK9 (by decide : fo_k 616 = 9) (by decide) 6 (by decide) fl_X7_29 (v := .int (nI (hs.length))) (congrArg (fun x => some (Value.int x)) ((by rw [fo_rn _ _ (by decide)]; exact hd6))) 81 rfl ?_
    refine fo_iconst C dX7_commit_81 (nI 1) ki_1 82 rfl ?_
    refine fo_iadd C dX7_commit_82 (nI (hs.length + 1)) (nI_add _ _) 83 rfl ?_
    refine fo_put C dX7_commit_83 fK9 (by decide : fo_k 616 = 9) (by decide) 6 (by decide) fl_X7_29 rfl rfl rfl rfl (Nat.le_of_ble_eq_true rfl) 86 rfl ?_
    refine fo_iload_n C dX7_commit_86 1 rfl rfl 87 rfl ?_
    exact fin dX7_commit_87 rfl (⟨rfl, fm_H.push (d := hs.length) h8 (by omega) (fun j s hj hs9 => h3 j s hs9) hb, fun b b1 b2 => by rw [fo_rn _ _ b1, fo_rn _ _ b2], fun j hj => by rw [fo_rs, pk_un hj, fo_rn _ _ (by decide)], rfl, rfl, rfl⟩)
  · refine fo_iconst C dX7_commit_9 (nI 1) ki_1 10 rfl ?_
    refine fo_istore_n C dX7_commit_10 rfl [(2, .int (nI 1)), (0, .ref (Λ.2.2.1 616)), (1, .int (x))] rfl (by decide) 11 rfl ?_
    have hL11 : ∀ (m11 : Nat) (q : Nat) (Y : fo_Mi), 9 - q < m11 → 1 ≤ q → q ≤ 8 → (∀ b, b ≠ 620 → Y b = I b) → (∀ i j, i + 1 < q → j < 150 → Y 620 (150 * i + j) = I 620 (150 * (i + 1) + j)) → (∀ j, 150 * (q - 1) ≤ j → Y 620 j = I 620 j) → fo_G l Λ { frames := 1, cells := 0, slots := 0, locals := 24 } K 0 0 11 [(2, .int (nI q)), (0, .ref (Λ.2.2.1 616)), (1, .int (x))] [] Y D J X := by
      intro m11
      induction m11 with
      | zero => intro q Y hm; exact absurd hm (Nat.not_lt_zero _)
      | succ m11 ih11 =>
        intro q Y hm11 hq1 hq8 hY1 hY2 hY3
        refine fo_iload_n C dX7_commit_11 0 rfl rfl 12 rfl ?_
        refine fo_bipush C dX7_commit_12 (nI 8) kb_8 14 rfl ?_
        refine fo_ncmp_ge C (by omega) (by omega) dX7_commit_14 46 (by decide) 17 rfl (fun c8 => ?_) (fun c8 => ?_)
        · refine fo_aload_n C dX7_commit_46 1 rfl rfl 47 rfl ?_
          refine fo_dup C dX7_commit_47 rfl 48 rfl ?_
          refine fo_get C dX7_commit_48 fK9 (by decide : fo_k 616 = 9) (by decide) 6 (by decide) fl_X7_29 (v := .int (nI (hs.length))) (congrArg (fun x => some (Value.int x)) ((by rw [hY1 616 (by decide)]; exact hd6))) 51 rfl ?_
          refine fo_iconst C dX7_commit_51 (nI 1) ki_1 52 rfl ?_
          refine fo_isub C dX7_commit_52 (nI (hs.length - 1)) (pk_sub (by omega)) 53 rfl ?_
          refine fo_put C dX7_commit_53 fK9 (by decide : fo_k 616 = 9) (by decide) 6 (by decide) fl_X7_29 rfl rfl rfl rfl (Nat.le_of_ble_eq_true rfl) 56 rfl ?_
          refine fo_aload_n C dX7_commit_56 1 rfl rfl 57 rfl ?_
          refine fo_get C dX7_commit_57 fK9 (by decide : fo_k 616 = 9) (by decide) 1 (by decide) fl_X7_13 (v := .ref (Λ.2.2.1 618)) rfl 60 rfl ?_
          refine fo_iconst C dX7_commit_60 (nI 0) ki_0 61 rfl ?_
          refine fo_aload_n C dX7_commit_61 1 rfl rfl 62 rfl ?_
          refine fo_get C dX7_commit_62 fK9 (by decide : fo_k 616 = 9) (by decide) 3 (by decide) fl_X7_19 (v := .ref (Λ.2.2.1 620)) rfl 65 rfl ?_
          refine fo_sipush C dX7_commit_65 (nI 150) ks_150 68 rfl ?_
          refine fo_aload_n C dX7_commit_68 1 rfl rfl 69 rfl ?_
          refine fo_get C dX7_commit_69 fK9 (by decide : fo_k 616 = 9) (by decide) 6 (by decide) fl_X7_29 (v := .int (nI (hs.length - 1))) (congrArg (fun x => some (Value.int x)) ((by rw [fo_rs, pk_us]))) 72 rfl ?_
          refine fo_imul C dX7_commit_72 (nI (150 * (hs.length - 1))) (pk_mul _ _) 73 rfl ?_
          refine fo_qsv C dX7_commit_73 (mX7_copy (x := 618) (y := 620) (a := 0) (b := 150 * (hs.length - 1)) (nx := 150) (ny := 1200) (by decide) (by decide) rfl rfl (by omega) (by omega) (by decide) (by decide) (by omega)) ls_X7_84 rfl ⟨Nat.le_of_ble_eq_true rfl, Nat.le_of_ble_eq_true rfl⟩ ⟨Nat.le_of_ble_eq_true rfl, Nat.le_of_ble_eq_true rfl⟩ [] rfl (Nat.le_of_ble_eq_true rfl) 76 rfl (fo_erv ?_)
          refine fo_aload_n C dX7_commit_76 1 rfl rfl 77 rfl ?_
          refine fo_dup C dX7_commit_77 rfl 78 rfl ?_
          refine fo_get C dX7_commit_78 fK9 (by decide : fo_k 616 = 9) (by decide) 6 (by decide) fl_X7_29 (v := .int (nI (hs.length - 1))) (congrArg (fun x => some (Value.int x)) ((by rw [fo_rn _ _ (by decide), fo_rs, pk_us]))) 81 rfl ?_
          refine fo_iconst C dX7_commit_81 (nI 1) ki_1 82 rfl ?_
          refine fo_iadd C dX7_commit_82 (nI ((hs.length - 1) + 1)) (nI_add _ _) 83 rfl ?_
          refine fo_put C dX7_commit_83 fK9 (by decide : fo_k 616 = 9) (by decide) 6 (by decide) fl_X7_29 rfl rfl rfl rfl (Nat.le_of_ble_eq_true rfl) 86 rfl ?_
          refine fo_iload_n C dX7_commit_86 2 rfl rfl 87 rfl ?_
          exact fin dX7_commit_87 rfl (⟨rfl, fm_H.push (d := hs.length - 1) h8 (by omega) (fun j s hj hs9 => (h3 j s hs9).cong (fun i hi => by rw [fo_rn _ _ (by decide), hY2 (hs.length - 1 - 1 - j) i (by omega) hi]; exact congrArg (I 620) (by omega))) (by rw [fo_rn _ _ (by decide), hY1 618 (by decide)]; exact hb), fun b b1 b2 => by rw [fo_rn _ _ b1, fo_rn _ _ b2, fo_rn _ _ b1]; exact hY1 b b2, fun j hj => by rw [fo_rs, pk_un hj, fo_rn _ _ (by decide), fo_rs, pk_un hj, hY1 616 (by decide)], rfl, rfl, rfl⟩)
        · refine fo_aload_n C dX7_commit_17 1 rfl rfl 18 rfl ?_
          refine fo_get C dX7_commit_18 fK9 (by decide : fo_k 616 = 9) (by decide) 3 (by decide) fl_X7_19 (v := .ref (Λ.2.2.1 620)) rfl 21 rfl ?_
          refine fo_sipush C dX7_commit_21 (nI 150) ks_150 24 rfl ?_
          refine fo_iload_n C dX7_commit_24 0 rfl rfl 25 rfl ?_
          refine fo_imul C dX7_commit_25 (nI (150 * q)) (pk_mul _ _) 26 rfl ?_
          refine fo_aload_n C dX7_commit_26 1 rfl rfl 27 rfl ?_
          refine fo_get C dX7_commit_27 fK9 (by decide : fo_k 616 = 9) (by decide) 3 (by decide) fl_X7_19 (v := .ref (Λ.2.2.1 620)) rfl 30 rfl ?_
          refine fo_sipush C dX7_commit_30 (nI 150) ks_150 33 rfl ?_
          refine fo_iload_n C dX7_commit_33 0 rfl rfl 34 rfl ?_
          refine fo_iconst C dX7_commit_34 (nI 1) ki_1 35 rfl ?_
          refine fo_isub C dX7_commit_35 (nI (q - 1)) (pk_sub (by omega)) 36 rfl ?_
          refine fo_imul C dX7_commit_36 (nI (150 * (q - 1))) (pk_mul _ _) 37 rfl ?_
          refine fo_qsv C dX7_commit_37 (mX7_copy (x := 620) (y := 620) (a := 150 * q) (b := 150 * (q - 1)) (nx := 1200) (ny := 1200) (by decide) (by decide) rfl rfl (by omega) (by omega) (by decide) (by decide) (by omega)) ls_X7_84 rfl ⟨Nat.le_of_ble_eq_true rfl, Nat.le_of_ble_eq_true rfl⟩ ⟨Nat.le_of_ble_eq_true rfl, Nat.le_of_ble_eq_true rfl⟩ [] rfl (Nat.le_of_ble_eq_true rfl) 40 rfl (fo_erv ?_)
          refine fo_iinc C dX7_commit_40 0 rfl (nI (q + 1)) (nI_inc1 _) [(2, .int (nI (q + 1))), (0, .ref (Λ.2.2.1 616)), (1, .int (x))] rfl (by decide) 43 rfl ?_
          refine fo_goto C dX7_commit_43 11 (by decide) ?_
          exact ih11 (q + 1) (fo_r Y 620 (fm_cp (Y 620) (150 * q) (Y 620) (150 * (q - 1)) 150)) (by omega) (by omega) (by omega) (fun b hb => by rw [fo_rn _ _ hb]; exact hY1 b hb) (fun i j hi hj => by rw [fo_rs]; by_cases e : i + 1 < q; (rw [fm_cp_out (by omega)]; exact hY2 i j e hj); (rw [fm_cp_in (by omega) (by omega), hY3 _ (by omega)]; exact congrArg (I 620) (by omega))) (fun j hj => by rw [fo_rs, fm_cp_out (by omega)]; exact hY3 j (by omega))
    exact hL11 (9 + 1) 1 I (by omega) (by omega) (by omega) (fun b _ => rfl) (fun i j hi _ => absurd hi (by omega)) (fun j _ => rfl)
