
/-! THE MODEL: its parser's small steps -/
theorem fo_tabIn {l : Launch} {Λ : fo_Lt} {R : Room} {K : fo_K} {cc : ByteArray} {own : String} {nL cs ss pc : Nat} {lv : List (Nat × Value)} {st : List Value} {I : fo_Mi} {D : fo_Md} {J : fo_Mj} {X : fo_Mi} (C : fo_C Λ K cc own nL) {dflt lo hi : Int} {offs : Array Int} {len : Nat} {x : Int32} {off : Int} (d : decode cc pc = .ok (.tableswitch dflt lo hi offs, len)) (h1 : ¬ x.toInt < lo) (h2 : ¬ hi < x.toInt) (ho : offs[(x.toInt - lo).toNat]? = some off) (n' : Nat) (hn : (pc : Int) + off = (n' : Int)) (k : fo_G l Λ R K cs ss n' lv st I D J X) : fo_G l Λ R K cs ss pc lv (.int x :: st) I D J X := by
  intro H locs ls hP hS hl
  exact lv_tableIn C.1 C.2.1 d h1 h2 ho hn (k H locs ls hP hS hl)
theorem fo_tabOut {l : Launch} {Λ : fo_Lt} {R : Room} {K : fo_K} {cc : ByteArray} {own : String} {nL cs ss pc : Nat} {lv : List (Nat × Value)} {st : List Value} {I : fo_Mi} {D : fo_Md} {J : fo_Mj} {X : fo_Mi} (C : fo_C Λ K cc own nL) {dflt lo hi : Int} {offs : Array Int} {len : Nat} {x : Int32} (d : decode cc pc = .ok (.tableswitch dflt lo hi offs, len)) (h : x.toInt < lo ∨ hi < x.toInt) (n' : Nat) (hn : (pc : Int) + dflt = (n' : Int)) (k : fo_G l Λ R K cs ss n' lv st I D J X) : fo_G l Λ R K cs ss pc lv (.int x :: st) I D J X := by
  intro H locs ls hP hS hl
  exact lv_tableOut C.1 C.2.1 d h hn (k H locs ls hP hS hl)
def fm_W (i : Nat) : List Nat := [[112, 114, 111, 112, 104, 101, 116], [115, 101, 101], [108, 105, 109, 105, 116], [102, 111, 114, 103, 101, 116]].getD i []
def fm_sp (i k : Nat) : Nat := (fm_W i).getD k 0
theorem fm_Wl : ∀ i, i < 4 → (fm_W i).length ≤ 7 := by decide
theorem fm_spc : ∀ i, i < 4 → ∀ k, k < 8 → (0 < fm_sp i k ↔ k < (fm_W i).length) ∧ fm_sp i k < 128 := by decide
theorem fm_wdW : ∀ i, i < 4 → fo_wd i = fm_W i ++ [32] := by decide
theorem fm_p0 : ∀ k, k < 8 → [nI 112, nI 114, nI 111, nI 112, nI 104, nI 101, nI 116].getD k (nI 0) = nI (fm_sp 0 k) := by decide
theorem fm_p1 : ∀ k, k < 8 → [nI 115, nI 101, nI 101, nI 0, nI 0, nI 0, nI 0].getD k (nI 0) = nI (fm_sp 1 k) := by decide
theorem fm_p2 : ∀ k, k < 8 → [nI 108, nI 105, nI 109, nI 105, nI 116, nI 0, nI 0].getD k (nI 0) = nI (fm_sp 2 k) := by decide
theorem fm_p3 : ∀ k, k < 8 → [nI 102, nI 111, nI 114, nI 103, nI 101, nI 116, nI 0].getD k (nI 0) = nI (fm_sp 3 k) := by decide
/-- the parser stands at p, after an error or not -/
def fm_V (I : fo_Mi) (n : Nat) (t : Nat → Nat) (w : Bool) (p : Nat) : Prop := n ≤ 60 ∧ p ≤ n ∧ I 616 19 = nI n ∧ I 616 20 = nI p ∧ I 616 23 = fo_b w ∧ ∀ j, j < n → I 623 j = nI (t j) ∧ t j < 65536
theorem fm_V.to {I I' : fo_Mi} {n p p2 : Nat} {t : Nat → Nat} {w w2 : Bool} (h : fm_V I n t w p) (hp : p2 ≤ n) (e1 : I' 616 19 = I 616 19) (e2 : I' 616 20 = nI p2) (e3 : I' 616 23 = fo_b w2) (e4 : I' 623 = I 623) : fm_V I' n t w2 p2 := ⟨h.1, hp, e1.trans h.2.2.1, e2, e3, fun j hj => by rw [e4]; exact h.2.2.2.2.2 j hj⟩
def fm_pf (I I' : fo_Mi) : Prop := (∀ b, b ≠ 616 → I' b = I b) ∧ ∀ j, j ≠ 20 → j ≠ 23 → I' 616 j = I 616 j
theorem fm_pf.rfl' {I : fo_Mi} : fm_pf I I := ⟨fun _ _ => rfl, fun _ _ _ => rfl⟩
theorem fm_pf.trans {I I1 I2 : fo_Mi} (h : fm_pf I I1) (g : fm_pf I1 I2) : fm_pf I I2 := ⟨fun b a => (g.1 b a).trans (h.1 b a), fun j a c => (g.2 j a c).trans (h.2 j a c)⟩
def fm_mk (n : Nat) (t : Nat → Nat) (p : Nat) : Int32 := if p < n then nI (t p) else -1
theorem fm_nn {x : Nat} (h : x < 2 ^ 31) : ¬ (-1 : Int32) = nI x := fun q => by
  have h2 := congrArg Int32.toInt q
  rw [nI_toInt h] at h2
  have : (-1 : Int32).toInt = -1 := rfl
  omega
theorem fm_mk_at {n : Nat} {t : Nat → Nat} {p c : Nat} (ht : ∀ j, j < n → t j < 65536) (hc : c < 65536) : fm_mk n t p = nI c ↔ fq_at n t p c = true := by
  unfold fm_mk fq_at
  by_cases h : p < n
  · rw [if_pos h, fo_nI_eq (by have := ht p h; omega) (by omega)]
    constructor
    · intro q; exact decide_eq_true ⟨h, q⟩
    · intro q; exact (of_decide_eq_true q).2
  · rw [if_neg h]
    constructor
    · intro q; exact absurd q (fm_nn (by omega))
    · intro q; exact absurd (of_decide_eq_true q).1 h
theorem fm_in_dg {n : Nat} {t : Nat → Nat} {p : Nat} (ht : ∀ j, j < n → t j < 65536) : fm_in (fm_mk n t p) (nI 48) (nI 57) = fq_dg n t p := by
  unfold fm_mk fq_dg fm_in
  rw [decide_eq_decide]
  by_cases h : p < n
  · have hb := ht p h
    rw [if_pos h, Int32.lt_iff_toInt_lt, Int32.lt_iff_toInt_lt, nI_toInt (show t p < 2 ^ 31 by omega), nI_toInt (show 48 < 2 ^ 31 by decide), nI_toInt (show 57 < 2 ^ 31 by decide)]
    omega
  · rw [if_neg h]
    constructor
    · intro q; exact absurd (show (-1 : Int32) < nI 48 by decide) q.1
    · intro q; exact absurd q.1 h
theorem fm_kc_mk {n : Nat} {t : Nat → Nat} {p : Nat} (ht : ∀ j, j < n → t j < 65536) : fm_kc (fm_mk n t p) = (decide (p < n) && fo_kc (t p)) := by
  unfold fm_mk
  by_cases h : p < n
  · rw [if_pos h, fm_kc_n (ht p h), decide_eq_true h]; rfl
  · rw [if_neg h, decide_eq_false h]; exact (by decide : fm_kc (-1) = false)
theorem fq_nm_end {n : Nat} {t : Nat → Nat} {v p : Nat} (h : fq_dg n t p = false) : ∀ m, fq_nm n t m v p = (v, p)
  | 0 => rfl
  | m + 1 => by rw [fq_nm, h]; rfl
theorem fq_nm_3 {n : Nat} {t : Nat → Nat} {p : Nat} (h : fq_dg n t p = true) : fq_nm n t 3 0 p = fq_num n t p := by
  rw [fq_nm, h]
  unfold fq_num
  rw [Nat.zero_mul, Nat.zero_add]
  rfl
theorem fq_nm_1 {n : Nat} {t : Nat → Nat} {p : Nat} (h : fq_dg n t p = true) : fq_nm n t 1 0 p = (t p - 48, p + 1) := by
  rw [fq_nm, h, fq_nm, Nat.zero_mul, Nat.zero_add]
  rfl

set_option maxRecDepth 10000 in
set_option maxHeartbeats 4000000 in
theorem mX7_pick {l : Launch} {Λ : fo_Lt} {I : fo_Mi} {D : fo_Md} {J : fo_Mj} {X : fo_Mi}  {k : Nat} {a b c d e f g : Int32} (hk : k < 8) : fk_i l yX7_pick cX7_pick 8 .int 0 0 Λ [.int (nI k), .int (a), .int (b), .int (c), .int (d), .int (e), .int (f), .int (g)] I D J X (fo_pr ([a, b, c, d, e, f, g].getD k (nI 0)) I D J X) := by
  refine fo_si (by decide) [(0, .int (nI k)), (1, .int (a)), (2, .int (b)), (3, .int (c)), (4, .int (d)), (5, .int (e)), (6, .int (f)), (7, .int (g))] rfl (Nat.le_of_ble_eq_true rfl) (fun K C fin => ?_)
  obtain rfl | rfl | rfl | rfl | rfl | rfl | rfl | rfl : k = 0 ∨ k = 1 ∨ k = 2 ∨ k = 3 ∨ k = 4 ∨ k = 5 ∨ k = 6 ∨ k = 7 := by omega
  · refine fo_iload_n C dX7_pick_0 0 rfl rfl 1 rfl ?_
    refine fo_tabIn C dX7_pick_1 (by decide) (by decide) (off := 43) (by decide) 44 (by decide) ?_
    refine fo_iload_n C dX7_pick_44 1 rfl rfl 45 rfl ?_
    exact fin dX7_pick_45 rfl (⟨rfl, rfl, rfl, rfl, rfl⟩)
  · refine fo_iload_n C dX7_pick_0 0 rfl rfl 1 rfl ?_
    refine fo_tabIn C dX7_pick_1 (by decide) (by decide) (off := 45) (by decide) 46 (by decide) ?_
    refine fo_iload_n C dX7_pick_46 2 rfl rfl 47 rfl ?_
    exact fin dX7_pick_47 rfl (⟨rfl, rfl, rfl, rfl, rfl⟩)
  · refine fo_iload_n C dX7_pick_0 0 rfl rfl 1 rfl ?_
    refine fo_tabIn C dX7_pick_1 (by decide) (by decide) (off := 47) (by decide) 48 (by decide) ?_
    refine fo_iload_n C dX7_pick_48 3 rfl rfl 49 rfl ?_
    exact fin dX7_pick_49 rfl (⟨rfl, rfl, rfl, rfl, rfl⟩)
  · refine fo_iload_n C dX7_pick_0 0 rfl rfl 1 rfl ?_
    refine fo_tabIn C dX7_pick_1 (by decide) (by decide) (off := 49) (by decide) 50 (by decide) ?_
    refine fo_iload C dX7_pick_50 4 rfl 52 rfl ?_
    exact fin dX7_pick_52 rfl (⟨rfl, rfl, rfl, rfl, rfl⟩)
  · refine fo_iload_n C dX7_pick_0 0 rfl rfl 1 rfl ?_
    refine fo_tabIn C dX7_pick_1 (by decide) (by decide) (off := 52) (by decide) 53 (by decide) ?_
    refine fo_iload C dX7_pick_53 5 rfl 55 rfl ?_
    exact fin dX7_pick_55 rfl (⟨rfl, rfl, rfl, rfl, rfl⟩)
  · refine fo_iload_n C dX7_pick_0 0 rfl rfl 1 rfl ?_
    refine fo_tabIn C dX7_pick_1 (by decide) (by decide) (off := 55) (by decide) 56 (by decide) ?_
    refine fo_iload C dX7_pick_56 6 rfl 58 rfl ?_
    exact fin dX7_pick_58 rfl (⟨rfl, rfl, rfl, rfl, rfl⟩)
  · refine fo_iload_n C dX7_pick_0 0 rfl rfl 1 rfl ?_
    refine fo_tabIn C dX7_pick_1 (by decide) (by decide) (off := 58) (by decide) 59 (by decide) ?_
    refine fo_iload C dX7_pick_59 7 rfl 61 rfl ?_
    exact fin dX7_pick_61 rfl (⟨rfl, rfl, rfl, rfl, rfl⟩)
  · refine fo_iload_n C dX7_pick_0 0 rfl rfl 1 rfl ?_
    refine fo_tabOut C dX7_pick_1 (by decide) 62 (by decide) ?_
    refine fo_iconst C dX7_pick_62 (nI 0) ki_0 63 rfl ?_
    exact fin dX7_pick_63 rfl (⟨rfl, rfl, rfl, rfl, rfl⟩)
set_option maxRecDepth 10000 in
set_option maxHeartbeats 4000000 in
theorem mX7_spelled {l : Launch} {Λ : fo_Lt} {I : fo_Mi} {D : fo_Md} {J : fo_Mj} {X : fo_Mi}  {i k : Nat} (hi : i < 4) (hk : k < 8) : fk_i l yX7_spelled cX7_spelled 2 .int 1 27 Λ [.int (nI i), .int (nI k)] I D J X (fo_pr (nI (fm_sp i k)) I D J X) := by
  refine fo_si (by decide) [(0, .int (nI i)), (1, .int (nI k))] rfl (Nat.le_of_ble_eq_true rfl) (fun K C fin => ?_)
  obtain rfl | rfl | rfl | rfl : i = 0 ∨ i = 1 ∨ i = 2 ∨ i = 3 := by omega
  · refine fo_iload_n C dX7_spelled_0 0 rfl rfl 1 rfl ?_
    refine fo_tabIn C dX7_spelled_1 (by decide) (by decide) (off := 27) (by decide) 28 (by decide) ?_
    refine fo_iload_n C dX7_spelled_28 1 rfl rfl 29 rfl ?_
    refine fo_bipush C dX7_spelled_29 (nI 112) kb_112 31 rfl ?_
    refine fo_bipush C dX7_spelled_31 (nI 114) kb_114 33 rfl ?_
    refine fo_bipush C dX7_spelled_33 (nI 111) kb_111 35 rfl ?_
    refine fo_bipush C dX7_spelled_35 (nI 112) kb_112 37 rfl ?_
    refine fo_bipush C dX7_spelled_37 (nI 104) kb_104 39 rfl ?_
    refine fo_bipush C dX7_spelled_39 (nI 101) kb_101 41 rfl ?_
    refine fo_bipush C dX7_spelled_41 (nI 116) kb_116 43 rfl ?_
    refine fo_qsi C dX7_spelled_43 (mX7_pick (k := k) (a := nI (112)) (b := nI (114)) (c := nI (111)) (d := nI (112)) (e := nI (104)) (f := nI (101)) (g := nI (116)) hk) ls_X7_240 rfl ⟨Nat.le_of_ble_eq_true rfl, Nat.le_of_ble_eq_true rfl⟩ ⟨Nat.le_of_ble_eq_true rfl, Nat.le_of_ble_eq_true rfl⟩ [] rfl (Nat.le_of_ble_eq_true rfl) 46 rfl (fo_er ?_)
    exact fin dX7_spelled_46 rfl (⟨fm_p0 k hk, rfl, rfl, rfl, rfl⟩)
  · refine fo_iload_n C dX7_spelled_0 0 rfl rfl 1 rfl ?_
    refine fo_tabIn C dX7_spelled_1 (by decide) (by decide) (off := 46) (by decide) 47 (by decide) ?_
    refine fo_iload_n C dX7_spelled_47 1 rfl rfl 48 rfl ?_
    refine fo_bipush C dX7_spelled_48 (nI 115) kb_115 50 rfl ?_
    refine fo_bipush C dX7_spelled_50 (nI 101) kb_101 52 rfl ?_
    refine fo_bipush C dX7_spelled_52 (nI 101) kb_101 54 rfl ?_
    refine fo_iconst C dX7_spelled_54 (nI 0) ki_0 55 rfl ?_
    refine fo_iconst C dX7_spelled_55 (nI 0) ki_0 56 rfl ?_
    refine fo_iconst C dX7_spelled_56 (nI 0) ki_0 57 rfl ?_
    refine fo_iconst C dX7_spelled_57 (nI 0) ki_0 58 rfl ?_
    refine fo_qsi C dX7_spelled_58 (mX7_pick (k := k) (a := nI (115)) (b := nI (101)) (c := nI (101)) (d := nI (0)) (e := nI (0)) (f := nI (0)) (g := nI (0)) hk) ls_X7_240 rfl ⟨Nat.le_of_ble_eq_true rfl, Nat.le_of_ble_eq_true rfl⟩ ⟨Nat.le_of_ble_eq_true rfl, Nat.le_of_ble_eq_true rfl⟩ [] rfl (Nat.le_of_ble_eq_true rfl) 61 rfl (fo_er ?_)
    exact fin dX7_spelled_61 rfl (⟨fm_p1 k hk, rfl, rfl, rfl, rfl⟩)
  · refine fo_iload_n C dX7_spelled_0 0 rfl rfl 1 rfl ?_
    refine fo_tabIn C dX7_spelled_1 (by decide) (by decide) (off := 61) (by decide) 62 (by decide) ?_
    refine fo_iload_n C dX7_spelled_62 1 rfl rfl 63 rfl ?_
    refine fo_bipush C dX7_spelled_63 (nI 108) kb_108 65 rfl ?_
    refine fo_bipush C dX7_spelled_65 (nI 105) kb_105 67 rfl ?_
    refine fo_bipush C dX7_spelled_67 (nI 109) kb_109 69 rfl ?_
    refine fo_bipush C dX7_spelled_69 (nI 105) kb_105 71 rfl ?_
    refine fo_bipush C dX7_spelled_71 (nI 116) kb_116 73 rfl ?_
    refine fo_iconst C dX7_spelled_73 (nI 0) ki_0 74 rfl ?_
    refine fo_iconst C dX7_spelled_74 (nI 0) ki_0 75 rfl ?_
    refine fo_qsi C dX7_spelled_75 (mX7_pick (k := k) (a := nI (108)) (b := nI (105)) (c := nI (109)) (d := nI (105)) (e := nI (116)) (f := nI (0)) (g := nI (0)) hk) ls_X7_240 rfl ⟨Nat.le_of_ble_eq_true rfl, Nat.le_of_ble_eq_true rfl⟩ ⟨Nat.le_of_ble_eq_true rfl, Nat.le_of_ble_eq_true rfl⟩ [] rfl (Nat.le_of_ble_eq_true rfl) 78 rfl (fo_er ?_)
    exact fin dX7_spelled_78 rfl (⟨fm_p2 k hk, rfl, rfl, rfl, rfl⟩)
  · refine fo_iload_n C dX7_spelled_0 0 rfl rfl 1 rfl ?_
    refine fo_tabOut C dX7_spelled_1 (by decide) 79 (by decide) ?_
    refine fo_iload_n C dX7_spelled_79 1 rfl rfl 80 rfl ?_
    refine fo_bipush C dX7_spelled_80 (nI 102) kb_102 82 rfl ?_
    refine fo_bipush C dX7_spelled_82 (nI 111) kb_111 84 rfl ?_
    refine fo_bipush C dX7_spelled_84 (nI 114) kb_114 86 rfl ?_
    refine fo_bipush C dX7_spelled_86 (nI 103) kb_103 88 rfl ?_
    refine fo_bipush C dX7_spelled_88 (nI 101) kb_101 90 rfl ?_
    refine fo_bipush C dX7_spelled_90 (nI 116) kb_116 92 rfl ?_
    refine fo_iconst C dX7_spelled_92 (nI 0) ki_0 93 rfl ?_
    refine fo_qsi C dX7_spelled_93 (mX7_pick (k := k) (a := nI (102)) (b := nI (111)) (c := nI (114)) (d := nI (103)) (e := nI (101)) (f := nI (116)) (g := nI (0)) hk) ls_X7_240 rfl ⟨Nat.le_of_ble_eq_true rfl, Nat.le_of_ble_eq_true rfl⟩ ⟨Nat.le_of_ble_eq_true rfl, Nat.le_of_ble_eq_true rfl⟩ [] rfl (Nat.le_of_ble_eq_true rfl) 96 rfl (fo_er ?_)
    exact fin dX7_spelled_96 rfl (⟨fm_p3 k hk, rfl, rfl, rfl, rfl⟩)
set_option maxRecDepth 10000 in
set_option maxHeartbeats 4000000 in
theorem mX7_mark_w {l : Launch} {Λ : fo_Lt} {I : fo_Mi} {D : fo_Md} {J : fo_Mj} {X : fo_Mi}  {n p : Nat} {t : Nat → Nat} (hV : fm_V I n t true p) : fk_i l yX7_mark cX7_mark 1 .int 0 0 Λ [.ref (Λ.2.2.1 616)] I D J X (fo_pr ((-1)) I D J X) := by
  have hn60 := hV.1
  have hpn := hV.2.1
  have ht9 : ∀ j, j < n → t j < 65536 := fun j hj => (hV.2.2.2.2.2 j hj).2
  refine fo_si (by decide) [(0, .ref (Λ.2.2.1 616))] rfl (Nat.le_of_ble_eq_true rfl) (fun K C fin => ?_)
  refine fo_aload_n C dX7_mark_0 0 rfl rfl 1 rfl ?_
  refine fo_get C dX7_mark_1 fK9 (by decide : fo_k 616 = 9) (by decide) 23 (by decide) fl_X7_81 (v := .int (fo_b (true))) (congrArg (fun x => some (Value.int x)) (hV.2.2.2.2.1)) 4 rfl ?_
  refine fo_bif_ne C dX7_mark_4 30 (by decide) 7 rfl (fun c1 => ?_) (fun c1 => ?_)
  · refine fo_iconst C dX7_mark_30 (-1) (by decide) 31 rfl ?_
    exact fin dX7_mark_31 rfl (⟨rfl, rfl, rfl, rfl, rfl⟩)
  · exact absurd c1 (by decide)
set_option maxRecDepth 10000 in
set_option maxHeartbeats 4000000 in
theorem mX7_mark {l : Launch} {Λ : fo_Lt} {I : fo_Mi} {D : fo_Md} {J : fo_Mj} {X : fo_Mi}  {n p : Nat} {t : Nat → Nat} (hV : fm_V I n t false p) : fk_i l yX7_mark cX7_mark 1 .int 0 0 Λ [.ref (Λ.2.2.1 616)] I D J X (fo_pr (fm_mk n t p) I D J X) := by
  have hn60 := hV.1
  have hpn := hV.2.1
  have ht9 : ∀ j, j < n → t j < 65536 := fun j hj => (hV.2.2.2.2.2 j hj).2
  refine fo_si (by decide) [(0, .ref (Λ.2.2.1 616))] rfl (Nat.le_of_ble_eq_true rfl) (fun K C fin => ?_)
  refine fo_aload_n C dX7_mark_0 0 rfl rfl 1 rfl ?_
  refine fo_get C dX7_mark_1 fK9 (by decide : fo_k 616 = 9) (by decide) 23 (by decide) fl_X7_81 (v := .int (fo_b (false))) (congrArg (fun x => some (Value.int x)) (hV.2.2.2.2.1)) 4 rfl ?_
  refine fo_bif_ne C dX7_mark_4 30 (by decide) 7 rfl (fun c1 => ?_) (fun c1 => ?_)
  · exact absurd c1 (by decide)
  · refine fo_aload_n C dX7_mark_7 0 rfl rfl 8 rfl ?_
    refine fo_get C dX7_mark_8 fK9 (by decide : fo_k 616 = 9) (by decide) 20 (by decide) fl_X7_72 (v := .int (nI p)) (congrArg (fun x => some (Value.int x)) (hV.2.2.2.1)) 11 rfl ?_
    refine fo_aload_n C dX7_mark_11 0 rfl rfl 12 rfl ?_
    refine fo_get C dX7_mark_12 fK9 (by decide : fo_k 616 = 9) (by decide) 19 (by decide) fl_X7_69 (v := .int (nI n)) (congrArg (fun x => some (Value.int x)) (hV.2.2.1)) 15 rfl ?_
    refine fo_ncmp_ge C (by omega) (by omega) dX7_mark_15 30 (by decide) 18 rfl (fun c2 => ?_) (fun c2 => ?_)
    · refine fo_iconst C dX7_mark_30 (-1) (by decide) 31 rfl ?_
      exact fin dX7_mark_31 rfl (⟨(if_neg (by omega)).symm, rfl, rfl, rfl, rfl⟩)
    · refine fo_aload_n C dX7_mark_18 0 rfl rfl 19 rfl ?_
      refine fo_get C dX7_mark_19 fK9 (by decide : fo_k 616 = 9) (by decide) 12 (by decide) fl_X7_48 (v := .ref (Λ.2.2.1 623)) rfl 22 rfl ?_
      refine fo_aload_n C dX7_mark_22 0 rfl rfl 23 rfl ?_
      refine fo_get C dX7_mark_23 fK9 (by decide : fo_k 616 = 9) (by decide) 20 (by decide) fl_X7_72 (v := .int (nI p)) (congrArg (fun x => some (Value.int x)) (hV.2.2.2.1)) 26 rfl ?_
      have q3 := (hV.2.2.2.2.2 p (by omega)).2
      refine fo_iald C dX7_mark_26 (by decide : fo_k 623 = 20) (by rw [(show fo_n 623 = 60 from rfl)]; omega) (nI (t p)) ((hV.2.2.2.2.2 p (by omega)).1) 27 rfl ?_
      refine fo_goto C dX7_mark_27 31 (by decide) ?_
      exact fin dX7_mark_31 rfl (⟨(if_pos (by omega)).symm, rfl, rfl, rfl, rfl⟩)
set_option maxRecDepth 10000 in
set_option maxHeartbeats 4000000 in
theorem mX7_expect {l : Launch} {Λ : fo_Lt} {I : fo_Mi} {D : fo_Md} {J : fo_Mj} {X : fo_Mi}  {n p : Nat} {t : Nat → Nat} {c : Nat} (hc : c < 65536) (hV : fm_V I n t false p) : fk_v l yX7_expect cX7_expect 2 1 20 Λ [.ref (Λ.2.2.1 616), .int (nI c)] I D J X ((fun I' D' J' X' => fm_V I' n t (!fq_at n t p c) (if fq_at n t p c then p + 1 else p) ∧ fm_pf I I' ∧ D' = D ∧ J' = J ∧ X' = X)) := by
  have hn60 := hV.1
  have hpn := hV.2.1
  have ht9 : ∀ j, j < n → t j < 65536 := fun j hj => (hV.2.2.2.2.2 j hj).2
  refine fo_sv (by decide) [(0, .ref (Λ.2.2.1 616)), (1, .int (nI c))] rfl (Nat.le_of_ble_eq_true rfl) (fun K C fin => ?_)
  rcases hb : fq_at n t p c with _ | _
  · skip
    refine fo_aload_n C dX7_expect_0 0 rfl rfl 1 rfl ?_
    refine fo_dup C dX7_expect_1 rfl 2 rfl ?_
    refine fo_get C dX7_expect_2 fK9 (by decide : fo_k 616 = 9) (by decide) 23 (by decide) fl_X7_81 (v := .int (fo_b (false))) (congrArg (fun x => some (Value.int x)) (hV.2.2.2.2.1)) 5 rfl ?_
    refine fo_aload_n C dX7_expect_5 0 rfl rfl 6 rfl ?_
    refine fo_qvi C dX7_expect_6 (mX7_mark hV) lv_X7_237 (by decide : fo_k 616 = 9) rfl (by decide) rfl ⟨Nat.le_of_ble_eq_true rfl, Nat.le_of_ble_eq_true rfl⟩ ⟨Nat.le_of_ble_eq_true rfl, Nat.le_of_ble_eq_true rfl⟩ [.int (fo_b (false)), .ref (Λ.2.2.1 616)] rfl (Nat.le_of_ble_eq_true rfl) 9 rfl (fo_er ?_)
    refine fo_iload_n C dX7_expect_9 1 rfl rfl 10 rfl ?_
    refine fo_icmp_eq C dX7_expect_10 17 (by decide) 13 rfl (fun c7 => ?_) (fun c7 => ?_)
    · exact absurd ((fm_mk_at ht9 hc).mp c7) (by rw [hb]; decide)
    · refine fo_iconst C dX7_expect_13 (nI 1) ki_1 14 rfl ?_
      refine fo_goto C dX7_expect_14 18 (by decide) ?_
      refine fo_ior C dX7_expect_18 (fo_b true) (by decide) 19 rfl ?_
      refine fo_put C dX7_expect_19 fK9 (by decide : fo_k 616 = 9) (by decide) 23 (by decide) fl_X7_81 rfl (by first | rfl | exact fo_nb _) (by first | rfl | exact fo_fb _) rfl (Nat.le_of_ble_eq_true rfl) 22 rfl ?_
      refine fo_aload_n C dX7_expect_22 0 rfl rfl 23 rfl ?_
      refine fo_dup C dX7_expect_23 rfl 24 rfl ?_
      refine fo_get C dX7_expect_24 fK9 (by decide : fo_k 616 = 9) (by decide) 20 (by decide) fl_X7_72 (v := .int (nI p)) (congrArg (fun x => some (Value.int x)) ((by rw [fo_rs, pk_un (by decide)]; exact hV.2.2.2.1))) 27 rfl ?_
      refine fo_aload_n C dX7_expect_27 0 rfl rfl 28 rfl ?_
      refine fo_get C dX7_expect_28 fK9 (by decide : fo_k 616 = 9) (by decide) 23 (by decide) fl_X7_81 (v := .int (fo_b (true))) (congrArg (fun x => some (Value.int x)) ((by rw [fo_rs, pk_us]))) 31 rfl ?_
      refine fo_bif_eq C dX7_expect_31 38 (by decide) 34 rfl (fun c8 => ?_) (fun c8 => ?_)
      · exact absurd c8 (by decide)
      · refine fo_iconst C dX7_expect_34 (nI 0) ki_0 35 rfl ?_
        refine fo_goto C dX7_expect_35 39 (by decide) ?_
        refine fo_iadd C dX7_expect_39 (nI (p + 0)) (nI_add _ _) 40 rfl ?_
        refine fo_put C dX7_expect_40 fK9 (by decide : fo_k 616 = 9) (by decide) 20 (by decide) fl_X7_72 rfl rfl rfl rfl (Nat.le_of_ble_eq_true rfl) 43 rfl ?_
        exact fin dX7_expect_43 ((by rw [hb]; exact (⟨hV.to (by omega) (by simp only [fo_rs, pk_un (show (19 : Nat) ≠ 20 by decide), pk_un (show (19 : Nat) ≠ 23 by decide)]) (by rw [fo_rs, pk_us] <;> rfl) (by rw [fo_rs, pk_un (by decide), fo_rs, pk_us] <;> rfl) rfl, ⟨fun b hb => by rw [fo_rn _ _ hb, fo_rn _ _ hb], fun j a b => by rw [fo_rs, pk_un a, fo_rs, pk_un b]⟩, rfl, rfl, rfl⟩ : fm_V (fo_r (fo_r I 616 (upd (I 616) 23 (fo_b (true)))) 616 (upd ((fo_r I 616 (upd (I 616) 23 (fo_b (true)))) 616) 20 (nI (p + 0)))) n t true (p) ∧ fm_pf I (fo_r (fo_r I 616 (upd (I 616) 23 (fo_b (true)))) 616 (upd ((fo_r I 616 (upd (I 616) 23 (fo_b (true)))) 616) 20 (nI (p + 0)))) ∧ D = D ∧ J = J ∧ X = X)))
  · have hpl := (fq_at_in hb).1
    refine fo_aload_n C dX7_expect_0 0 rfl rfl 1 rfl ?_
    refine fo_dup C dX7_expect_1 rfl 2 rfl ?_
    refine fo_get C dX7_expect_2 fK9 (by decide : fo_k 616 = 9) (by decide) 23 (by decide) fl_X7_81 (v := .int (fo_b (false))) (congrArg (fun x => some (Value.int x)) (hV.2.2.2.2.1)) 5 rfl ?_
    refine fo_aload_n C dX7_expect_5 0 rfl rfl 6 rfl ?_
    refine fo_qvi C dX7_expect_6 (mX7_mark hV) lv_X7_237 (by decide : fo_k 616 = 9) rfl (by decide) rfl ⟨Nat.le_of_ble_eq_true rfl, Nat.le_of_ble_eq_true rfl⟩ ⟨Nat.le_of_ble_eq_true rfl, Nat.le_of_ble_eq_true rfl⟩ [.int (fo_b (false)), .ref (Λ.2.2.1 616)] rfl (Nat.le_of_ble_eq_true rfl) 9 rfl (fo_er ?_)
    refine fo_iload_n C dX7_expect_9 1 rfl rfl 10 rfl ?_
    refine fo_icmp_eq C dX7_expect_10 17 (by decide) 13 rfl (fun c15 => ?_) (fun c15 => ?_)
    · refine fo_iconst C dX7_expect_17 (nI 0) ki_0 18 rfl ?_
      refine fo_ior C dX7_expect_18 (fo_b false) (by decide) 19 rfl ?_
      refine fo_put C dX7_expect_19 fK9 (by decide : fo_k 616 = 9) (by decide) 23 (by decide) fl_X7_81 rfl (by first | rfl | exact fo_nb _) (by first | rfl | exact fo_fb _) rfl (Nat.le_of_ble_eq_true rfl) 22 rfl ?_
      refine fo_aload_n C dX7_expect_22 0 rfl rfl 23 rfl ?_
      refine fo_dup C dX7_expect_23 rfl 24 rfl ?_
      refine fo_get C dX7_expect_24 fK9 (by decide : fo_k 616 = 9) (by decide) 20 (by decide) fl_X7_72 (v := .int (nI p)) (congrArg (fun x => some (Value.int x)) ((by rw [fo_rs, pk_un (by decide)]; exact hV.2.2.2.1))) 27 rfl ?_
      refine fo_aload_n C dX7_expect_27 0 rfl rfl 28 rfl ?_
      refine fo_get C dX7_expect_28 fK9 (by decide : fo_k 616 = 9) (by decide) 23 (by decide) fl_X7_81 (v := .int (fo_b (false))) (congrArg (fun x => some (Value.int x)) ((by rw [fo_rs, pk_us]))) 31 rfl ?_
      refine fo_bif_eq C dX7_expect_31 38 (by decide) 34 rfl (fun c16 => ?_) (fun c16 => ?_)
      · refine fo_iconst C dX7_expect_38 (nI 1) ki_1 39 rfl ?_
        refine fo_iadd C dX7_expect_39 (nI (p + 1)) (nI_add _ _) 40 rfl ?_
        refine fo_put C dX7_expect_40 fK9 (by decide : fo_k 616 = 9) (by decide) 20 (by decide) fl_X7_72 rfl rfl rfl rfl (Nat.le_of_ble_eq_true rfl) 43 rfl ?_
        exact fin dX7_expect_43 ((by rw [hb]; exact (⟨hV.to (by omega) (by simp only [fo_rs, pk_un (show (19 : Nat) ≠ 20 by decide), pk_un (show (19 : Nat) ≠ 23 by decide)]) (by rw [fo_rs, pk_us] <;> rfl) (by rw [fo_rs, pk_un (by decide), fo_rs, pk_us] <;> rfl) rfl, ⟨fun b hb => by rw [fo_rn _ _ hb, fo_rn _ _ hb], fun j a b => by rw [fo_rs, pk_un a, fo_rs, pk_un b]⟩, rfl, rfl, rfl⟩ : fm_V (fo_r (fo_r I 616 (upd (I 616) 23 (fo_b (false)))) 616 (upd ((fo_r I 616 (upd (I 616) 23 (fo_b (false)))) 616) 20 (nI (p + 1)))) n t false (p + 1) ∧ fm_pf I (fo_r (fo_r I 616 (upd (I 616) 23 (fo_b (false)))) 616 (upd ((fo_r I 616 (upd (I 616) 23 (fo_b (false)))) 616) 20 (nI (p + 1)))) ∧ D = D ∧ J = J ∧ X = X)))
      · exact absurd c16 (by decide)
    · exact absurd ((fm_mk_at ht9 hc).mpr hb) c15
set_option maxRecDepth 10000 in
set_option maxHeartbeats 4000000 in
theorem mX7_expect_w {l : Launch} {Λ : fo_Lt} {I : fo_Mi} {D : fo_Md} {J : fo_Mj} {X : fo_Mi}  {n p : Nat} {t : Nat → Nat} {c : Nat} (hc : c < 65536) (hV : fm_V I n t true p) : fk_v l yX7_expect cX7_expect 2 1 20 Λ [.ref (Λ.2.2.1 616), .int (nI c)] I D J X ((fun I' D' J' X' => fm_V I' n t true p ∧ fm_pf I I' ∧ D' = D ∧ J' = J ∧ X' = X)) := by
  have hn60 := hV.1
  have hpn := hV.2.1
  have ht9 : ∀ j, j < n → t j < 65536 := fun j hj => (hV.2.2.2.2.2 j hj).2
  refine fo_sv (by decide) [(0, .ref (Λ.2.2.1 616)), (1, .int (nI c))] rfl (Nat.le_of_ble_eq_true rfl) (fun K C fin => ?_)
  refine fo_aload_n C dX7_expect_0 0 rfl rfl 1 rfl ?_
  refine fo_dup C dX7_expect_1 rfl 2 rfl ?_
  refine fo_get C dX7_expect_2 fK9 (by decide : fo_k 616 = 9) (by decide) 23 (by decide) fl_X7_81 (v := .int (fo_b (true))) (congrArg (fun x => some (Value.int x)) (hV.2.2.2.2.1)) 5 rfl ?_
  refine fo_aload_n C dX7_expect_5 0 rfl rfl 6 rfl ?_
  refine fo_qvi C dX7_expect_6 (mX7_mark_w hV) lv_X7_237 (by decide : fo_k 616 = 9) rfl (by decide) rfl ⟨Nat.le_of_ble_eq_true rfl, Nat.le_of_ble_eq_true rfl⟩ ⟨Nat.le_of_ble_eq_true rfl, Nat.le_of_ble_eq_true rfl⟩ [.int (fo_b (true)), .ref (Λ.2.2.1 616)] rfl (Nat.le_of_ble_eq_true rfl) 9 rfl (fo_er ?_)
  refine fo_iload_n C dX7_expect_9 1 rfl rfl 10 rfl ?_
  refine fo_icmp_eq C dX7_expect_10 17 (by decide) 13 rfl (fun c7 => ?_) (fun c7 => ?_)
  · exact absurd c7 (fm_nn (by omega))
  · refine fo_iconst C dX7_expect_13 (nI 1) ki_1 14 rfl ?_
    refine fo_goto C dX7_expect_14 18 (by decide) ?_
    refine fo_ior C dX7_expect_18 (fo_b true) (by decide) 19 rfl ?_
    refine fo_put C dX7_expect_19 fK9 (by decide : fo_k 616 = 9) (by decide) 23 (by decide) fl_X7_81 rfl (by first | rfl | exact fo_nb _) (by first | rfl | exact fo_fb _) rfl (Nat.le_of_ble_eq_true rfl) 22 rfl ?_
    refine fo_aload_n C dX7_expect_22 0 rfl rfl 23 rfl ?_
    refine fo_dup C dX7_expect_23 rfl 24 rfl ?_
    refine fo_get C dX7_expect_24 fK9 (by decide : fo_k 616 = 9) (by decide) 20 (by decide) fl_X7_72 (v := .int (nI p)) (congrArg (fun x => some (Value.int x)) ((by rw [fo_rs, pk_un (by decide)]; exact hV.2.2.2.1))) 27 rfl ?_
    refine fo_aload_n C dX7_expect_27 0 rfl rfl 28 rfl ?_
    refine fo_get C dX7_expect_28 fK9 (by decide : fo_k 616 = 9) (by decide) 23 (by decide) fl_X7_81 (v := .int (fo_b (true))) (congrArg (fun x => some (Value.int x)) ((by rw [fo_rs, pk_us]))) 31 rfl ?_
    refine fo_bif_eq C dX7_expect_31 38 (by decide) 34 rfl (fun c8 => ?_) (fun c8 => ?_)
    · exact absurd c8 (by decide)
    · refine fo_iconst C dX7_expect_34 (nI 0) ki_0 35 rfl ?_
      refine fo_goto C dX7_expect_35 39 (by decide) ?_
      refine fo_iadd C dX7_expect_39 (nI (p + 0)) (nI_add _ _) 40 rfl ?_
      refine fo_put C dX7_expect_40 fK9 (by decide : fo_k 616 = 9) (by decide) 20 (by decide) fl_X7_72 rfl rfl rfl rfl (Nat.le_of_ble_eq_true rfl) 43 rfl ?_
      exact fin dX7_expect_43 ((⟨hV.to (by omega) (by simp only [fo_rs, pk_un (show (19 : Nat) ≠ 20 by decide), pk_un (show (19 : Nat) ≠ 23 by decide)]) (by rw [fo_rs, pk_us] <;> rfl) (by rw [fo_rs, pk_un (by decide), fo_rs, pk_us] <;> rfl) rfl, ⟨fun b hb => by rw [fo_rn _ _ hb, fo_rn _ _ hb], fun j a b => by rw [fo_rs, pk_un a, fo_rs, pk_un b]⟩, rfl, rfl, rfl⟩ : fm_V (fo_r (fo_r I 616 (upd (I 616) 23 (fo_b (true)))) 616 (upd ((fo_r I 616 (upd (I 616) 23 (fo_b (true)))) 616) 20 (nI (p + 0)))) n t true (p) ∧ fm_pf I (fo_r (fo_r I 616 (upd (I 616) 23 (fo_b (true)))) 616 (upd ((fo_r I 616 (upd (I 616) 23 (fo_b (true)))) 616) 20 (nI (p + 0)))) ∧ D = D ∧ J = J ∧ X = X))
set_option maxRecDepth 10000 in
set_option maxHeartbeats 4000000 in
theorem mX7_number_w {l : Launch} {Λ : fo_Lt} {I : fo_Mi} {D : fo_Md} {J : fo_Mj} {X : fo_Mi}  {n p : Nat} {t : Nat → Nat} {m : Nat} (h1 : 1 ≤ m) (h3 : m ≤ 3) (hV : fm_V I n t true p) : fk_i l yX7_number cX7_number 4 .int 1 22 Λ [.ref (Λ.2.2.1 616), .int (nI m)] I D J X ((fun r I' D' J' X' => r = nI (0) ∧ fm_V I' n t true p ∧ fm_pf I I' ∧ D' = D ∧ J' = J ∧ X' = X)) := by
  have hn60 := hV.1
  have hpn := hV.2.1
  have ht9 : ∀ j, j < n → t j < 65536 := fun j hj => (hV.2.2.2.2.2 j hj).2
  refine fo_si (by decide) [(0, .ref (Λ.2.2.1 616)), (1, .int (nI m))] rfl (Nat.le_of_ble_eq_true rfl) (fun K C fin => ?_)
  refine fo_aload_n C dX7_number_0 0 rfl rfl 1 rfl ?_
  refine fo_dup C dX7_number_1 rfl 2 rfl ?_
  refine fo_get C dX7_number_2 fK9 (by decide : fo_k 616 = 9) (by decide) 23 (by decide) fl_X7_81 (v := .int (fo_b (true))) (congrArg (fun x => some (Value.int x)) (hV.2.2.2.2.1)) 5 rfl ?_
  refine fo_aload_n C dX7_number_5 0 rfl rfl 6 rfl ?_
  refine fo_qvi C dX7_number_6 (mX7_mark_w hV) lv_X7_237 (by decide : fo_k 616 = 9) rfl (by decide) rfl ⟨Nat.le_of_ble_eq_true rfl, Nat.le_of_ble_eq_true rfl⟩ ⟨Nat.le_of_ble_eq_true rfl, Nat.le_of_ble_eq_true rfl⟩ [.int (fo_b (true)), .ref (Λ.2.2.1 616)] rfl (Nat.le_of_ble_eq_true rfl) 9 rfl (fo_er ?_)
  refine fo_bipush C dX7_number_9 (nI 48) kb_48 11 rfl ?_
  refine fo_bipush C dX7_number_11 (nI 57) kb_57 13 rfl ?_
  refine fo_qsi C dX7_number_13 (mX7_in (x := (-1)) (y := (nI (48))) (z := (nI (57)))) ls_X7_88 rfl ⟨Nat.le_of_ble_eq_true rfl, Nat.le_of_ble_eq_true rfl⟩ ⟨Nat.le_of_ble_eq_true rfl, Nat.le_of_ble_eq_true rfl⟩ [.int (fo_b (true)), .ref (Λ.2.2.1 616)] rfl (Nat.le_of_ble_eq_true rfl) 16 rfl (fo_er ?_)
  rw [show fm_in (-1) (nI 48) (nI 57) = false by decide]
  refine fo_bif_ne C dX7_number_16 23 (by decide) 19 rfl (fun c13 => ?_) (fun c13 => ?_)
  · exact absurd c13 (by decide)
  · refine fo_iconst C dX7_number_19 (nI 1) ki_1 20 rfl ?_
    refine fo_goto C dX7_number_20 24 (by decide) ?_
    refine fo_ior C dX7_number_24 (fo_b true) (by decide) 25 rfl ?_
    refine fo_put C dX7_number_25 fK9 (by decide : fo_k 616 = 9) (by decide) 23 (by decide) fl_X7_81 rfl (by first | rfl | exact fo_nb _) (by first | rfl | exact fo_fb _) rfl (Nat.le_of_ble_eq_true rfl) 28 rfl ?_
    have hV1 : fm_V (fo_r I 616 (upd (I 616) 23 (fo_b (true)))) n t true p := hV.to hpn (by rw [fo_rs, pk_un (by decide)]) (by rw [fo_rs, pk_un (by decide)]; exact hV.2.2.2.1) (by rw [fo_rs, pk_us]) rfl
    have hf1 : fm_pf I (fo_r I 616 (upd (I 616) 23 (fo_b (true)))) := ⟨fun b hb => by rw [fo_rn _ _ hb], fun j a b => by rw [fo_rs, pk_un b]⟩
    refine fo_iconst C dX7_number_28 (nI 0) ki_0 29 rfl ?_
    refine fo_istore_n C dX7_number_29 rfl [(2, .int (nI 0)), (0, .ref (Λ.2.2.1 616)), (1, .int (nI m))] rfl (by decide) 30 rfl ?_
    refine fo_iconst C dX7_number_30 (nI 0) ki_0 31 rfl ?_
    refine fo_istore_n C dX7_number_31 rfl [(3, .int (nI 0)), (2, .int (nI 0)), (0, .ref (Λ.2.2.1 616)), (1, .int (nI m))] rfl (by decide) 32 rfl ?_
    refine fo_iload_n C dX7_number_32 0 rfl rfl 33 rfl ?_
    refine fo_iload_n C dX7_number_33 3 rfl rfl 34 rfl ?_
    refine fo_ncmp_ge C (by omega) (by omega) dX7_number_34 85 (by decide) 37 rfl (fun c14 => ?_) (fun c14 => ?_)
    · omega
    · refine fo_aload_n C dX7_number_37 2 rfl rfl 38 rfl ?_
      refine fo_qvi C dX7_number_38 (mX7_mark_w hV1) lv_X7_237 (by decide : fo_k 616 = 9) rfl (by decide) rfl ⟨Nat.le_of_ble_eq_true rfl, Nat.le_of_ble_eq_true rfl⟩ ⟨Nat.le_of_ble_eq_true rfl, Nat.le_of_ble_eq_true rfl⟩ [] rfl (Nat.le_of_ble_eq_true rfl) 41 rfl (fo_er ?_)
      refine fo_bipush C dX7_number_41 (nI 48) kb_48 43 rfl ?_
      refine fo_bipush C dX7_number_43 (nI 57) kb_57 45 rfl ?_
      refine fo_qsi C dX7_number_45 (mX7_in (x := (-1)) (y := (nI (48))) (z := (nI (57)))) ls_X7_88 rfl ⟨Nat.le_of_ble_eq_true rfl, Nat.le_of_ble_eq_true rfl⟩ ⟨Nat.le_of_ble_eq_true rfl, Nat.le_of_ble_eq_true rfl⟩ [] rfl (Nat.le_of_ble_eq_true rfl) 48 rfl (fo_er ?_)
      rw [show fm_in (-1) (nI 48) (nI 57) = false by decide]
      refine fo_bif_eq C dX7_number_48 85 (by decide) 51 rfl (fun c27 => ?_) (fun c27 => ?_)
      · refine fo_iload_n C dX7_number_85 1 rfl rfl 86 rfl ?_
        exact fin dX7_number_86 rfl (⟨rfl, hV1, hf1, rfl, rfl, rfl⟩)
      · exact absurd c27 (by decide)
set_option maxRecDepth 10000 in
set_option maxHeartbeats 4000000 in
theorem mX7_number_n {l : Launch} {Λ : fo_Lt} {I : fo_Mi} {D : fo_Md} {J : fo_Mj} {X : fo_Mi}  {n p : Nat} {t : Nat → Nat} {m : Nat} (h1 : 1 ≤ m) (h3 : m ≤ 3) (hd : fq_dg n t p = false) (hV : fm_V I n t false p) : fk_i l yX7_number cX7_number 4 .int 1 22 Λ [.ref (Λ.2.2.1 616), .int (nI m)] I D J X ((fun r I' D' J' X' => r = nI (0) ∧ fm_V I' n t true p ∧ fm_pf I I' ∧ D' = D ∧ J' = J ∧ X' = X)) := by
  have hn60 := hV.1
  have hpn := hV.2.1
  have ht9 : ∀ j, j < n → t j < 65536 := fun j hj => (hV.2.2.2.2.2 j hj).2
  refine fo_si (by decide) [(0, .ref (Λ.2.2.1 616)), (1, .int (nI m))] rfl (Nat.le_of_ble_eq_true rfl) (fun K C fin => ?_)
  refine fo_aload_n C dX7_number_0 0 rfl rfl 1 rfl ?_
  refine fo_dup C dX7_number_1 rfl 2 rfl ?_
  refine fo_get C dX7_number_2 fK9 (by decide : fo_k 616 = 9) (by decide) 23 (by decide) fl_X7_81 (v := .int (fo_b (false))) (congrArg (fun x => some (Value.int x)) (hV.2.2.2.2.1)) 5 rfl ?_
  refine fo_aload_n C dX7_number_5 0 rfl rfl 6 rfl ?_
  refine fo_qvi C dX7_number_6 (mX7_mark hV) lv_X7_237 (by decide : fo_k 616 = 9) rfl (by decide) rfl ⟨Nat.le_of_ble_eq_true rfl, Nat.le_of_ble_eq_true rfl⟩ ⟨Nat.le_of_ble_eq_true rfl, Nat.le_of_ble_eq_true rfl⟩ [.int (fo_b (false)), .ref (Λ.2.2.1 616)] rfl (Nat.le_of_ble_eq_true rfl) 9 rfl (fo_er ?_)
  refine fo_bipush C dX7_number_9 (nI 48) kb_48 11 rfl ?_
  refine fo_bipush C dX7_number_11 (nI 57) kb_57 13 rfl ?_
  refine fo_qsi C dX7_number_13 (mX7_in (x := (fm_mk n t p)) (y := (nI (48))) (z := (nI (57)))) ls_X7_88 rfl ⟨Nat.le_of_ble_eq_true rfl, Nat.le_of_ble_eq_true rfl⟩ ⟨Nat.le_of_ble_eq_true rfl, Nat.le_of_ble_eq_true rfl⟩ [.int (fo_b (false)), .ref (Λ.2.2.1 616)] rfl (Nat.le_of_ble_eq_true rfl) 16 rfl (fo_er ?_)
  rw [fm_in_dg ht9, hd]
  refine fo_bif_ne C dX7_number_16 23 (by decide) 19 rfl (fun c13 => ?_) (fun c13 => ?_)
  · exact absurd c13 (by decide)
  · refine fo_iconst C dX7_number_19 (nI 1) ki_1 20 rfl ?_
    refine fo_goto C dX7_number_20 24 (by decide) ?_
    refine fo_ior C dX7_number_24 (fo_b true) (by decide) 25 rfl ?_
    refine fo_put C dX7_number_25 fK9 (by decide : fo_k 616 = 9) (by decide) 23 (by decide) fl_X7_81 rfl (by first | rfl | exact fo_nb _) (by first | rfl | exact fo_fb _) rfl (Nat.le_of_ble_eq_true rfl) 28 rfl ?_
    have hV1 : fm_V (fo_r I 616 (upd (I 616) 23 (fo_b (true)))) n t true p := hV.to hpn (by rw [fo_rs, pk_un (by decide)]) (by rw [fo_rs, pk_un (by decide)]; exact hV.2.2.2.1) (by rw [fo_rs, pk_us]) rfl
    have hf1 : fm_pf I (fo_r I 616 (upd (I 616) 23 (fo_b (true)))) := ⟨fun b hb => by rw [fo_rn _ _ hb], fun j a b => by rw [fo_rs, pk_un b]⟩
    refine fo_iconst C dX7_number_28 (nI 0) ki_0 29 rfl ?_
    refine fo_istore_n C dX7_number_29 rfl [(2, .int (nI 0)), (0, .ref (Λ.2.2.1 616)), (1, .int (nI m))] rfl (by decide) 30 rfl ?_
    refine fo_iconst C dX7_number_30 (nI 0) ki_0 31 rfl ?_
    refine fo_istore_n C dX7_number_31 rfl [(3, .int (nI 0)), (2, .int (nI 0)), (0, .ref (Λ.2.2.1 616)), (1, .int (nI m))] rfl (by decide) 32 rfl ?_
    refine fo_iload_n C dX7_number_32 0 rfl rfl 33 rfl ?_
    refine fo_iload_n C dX7_number_33 3 rfl rfl 34 rfl ?_
    refine fo_ncmp_ge C (by omega) (by omega) dX7_number_34 85 (by decide) 37 rfl (fun c14 => ?_) (fun c14 => ?_)
    · omega
    · refine fo_aload_n C dX7_number_37 2 rfl rfl 38 rfl ?_
      refine fo_qvi C dX7_number_38 (mX7_mark_w hV1) lv_X7_237 (by decide : fo_k 616 = 9) rfl (by decide) rfl ⟨Nat.le_of_ble_eq_true rfl, Nat.le_of_ble_eq_true rfl⟩ ⟨Nat.le_of_ble_eq_true rfl, Nat.le_of_ble_eq_true rfl⟩ [] rfl (Nat.le_of_ble_eq_true rfl) 41 rfl (fo_er ?_)
      refine fo_bipush C dX7_number_41 (nI 48) kb_48 43 rfl ?_
      refine fo_bipush C dX7_number_43 (nI 57) kb_57 45 rfl ?_
      refine fo_qsi C dX7_number_45 (mX7_in (x := (-1)) (y := (nI (48))) (z := (nI (57)))) ls_X7_88 rfl ⟨Nat.le_of_ble_eq_true rfl, Nat.le_of_ble_eq_true rfl⟩ ⟨Nat.le_of_ble_eq_true rfl, Nat.le_of_ble_eq_true rfl⟩ [] rfl (Nat.le_of_ble_eq_true rfl) 48 rfl (fo_er ?_)
      rw [show fm_in (-1) (nI 48) (nI 57) = false by decide]
      refine fo_bif_eq C dX7_number_48 85 (by decide) 51 rfl (fun c27 => ?_) (fun c27 => ?_)
      · refine fo_iload_n C dX7_number_85 1 rfl rfl 86 rfl ?_
        exact fin dX7_number_86 rfl (⟨rfl, hV1, hf1, rfl, rfl, rfl⟩)
      · exact absurd c27 (by decide)
set_option maxRecDepth 10000 in
set_option maxHeartbeats 4000000 in
theorem mX7_number {l : Launch} {Λ : fo_Lt} {I : fo_Mi} {D : fo_Md} {J : fo_Mj} {X : fo_Mi}  {n p : Nat} {t : Nat → Nat} {m : Nat} (h1 : 1 ≤ m) (h3 : m ≤ 3) (hd : fq_dg n t p = true) (hV : fm_V I n t false p) : fk_i l yX7_number cX7_number 4 .int 1 22 Λ [.ref (Λ.2.2.1 616), .int (nI m)] I D J X ((fun r I' D' J' X' => r = nI ((fq_nm n t m 0 p).1) ∧ fm_V I' n t (!fq_dg n t p) (fq_nm n t m 0 p).2 ∧ fm_pf I I' ∧ D' = D ∧ J' = J ∧ X' = X)) := by
  have hn60 := hV.1
  have hpn := hV.2.1
  have ht9 : ∀ j, j < n → t j < 65536 := fun j hj => (hV.2.2.2.2.2 j hj).2
  refine fo_si (by decide) [(0, .ref (Λ.2.2.1 616)), (1, .int (nI m))] rfl (Nat.le_of_ble_eq_true rfl) (fun K C fin => ?_)
  refine fo_aload_n C dX7_number_0 0 rfl rfl 1 rfl ?_
  refine fo_dup C dX7_number_1 rfl 2 rfl ?_
  refine fo_get C dX7_number_2 fK9 (by decide : fo_k 616 = 9) (by decide) 23 (by decide) fl_X7_81 (v := .int (fo_b (false))) (congrArg (fun x => some (Value.int x)) (hV.2.2.2.2.1)) 5 rfl ?_
  refine fo_aload_n C dX7_number_5 0 rfl rfl 6 rfl ?_
  refine fo_qvi C dX7_number_6 (mX7_mark hV) lv_X7_237 (by decide : fo_k 616 = 9) rfl (by decide) rfl ⟨Nat.le_of_ble_eq_true rfl, Nat.le_of_ble_eq_true rfl⟩ ⟨Nat.le_of_ble_eq_true rfl, Nat.le_of_ble_eq_true rfl⟩ [.int (fo_b (false)), .ref (Λ.2.2.1 616)] rfl (Nat.le_of_ble_eq_true rfl) 9 rfl (fo_er ?_)
  refine fo_bipush C dX7_number_9 (nI 48) kb_48 11 rfl ?_
  refine fo_bipush C dX7_number_11 (nI 57) kb_57 13 rfl ?_
  refine fo_qsi C dX7_number_13 (mX7_in (x := (fm_mk n t p)) (y := (nI (48))) (z := (nI (57)))) ls_X7_88 rfl ⟨Nat.le_of_ble_eq_true rfl, Nat.le_of_ble_eq_true rfl⟩ ⟨Nat.le_of_ble_eq_true rfl, Nat.le_of_ble_eq_true rfl⟩ [.int (fo_b (false)), .ref (Λ.2.2.1 616)] rfl (Nat.le_of_ble_eq_true rfl) 16 rfl (fo_er ?_)
  rw [fm_in_dg ht9, hd]
  refine fo_bif_ne C dX7_number_16 23 (by decide) 19 rfl (fun c13 => ?_) (fun c13 => ?_)
  · refine fo_iconst C dX7_number_23 (nI 0) ki_0 24 rfl ?_
    refine fo_ior C dX7_number_24 (fo_b false) (by decide) 25 rfl ?_
    refine fo_put C dX7_number_25 fK9 (by decide : fo_k 616 = 9) (by decide) 23 (by decide) fl_X7_81 rfl (by first | rfl | exact fo_nb _) (by first | rfl | exact fo_fb _) rfl (Nat.le_of_ble_eq_true rfl) 28 rfl ?_
    have hV1 : fm_V (fo_r I 616 (upd (I 616) 23 (fo_b (false)))) n t false p := hV.to hpn (by rw [fo_rs, pk_un (by decide)]) (by rw [fo_rs, pk_un (by decide)]; exact hV.2.2.2.1) (by rw [fo_rs, pk_us]) rfl
    have hf1 : fm_pf I (fo_r I 616 (upd (I 616) 23 (fo_b (false)))) := ⟨fun b hb => by rw [fo_rn _ _ hb], fun j a b => by rw [fo_rs, pk_un b]⟩
    refine fo_iconst C dX7_number_28 (nI 0) ki_0 29 rfl ?_
    refine fo_istore_n C dX7_number_29 rfl [(2, .int (nI 0)), (0, .ref (Λ.2.2.1 616)), (1, .int (nI m))] rfl (by decide) 30 rfl ?_
    refine fo_iconst C dX7_number_30 (nI 0) ki_0 31 rfl ?_
    refine fo_istore_n C dX7_number_31 rfl [(3, .int (nI 0)), (2, .int (nI 0)), (0, .ref (Λ.2.2.1 616)), (1, .int (nI m))] rfl (by decide) 32 rfl ?_
    have hL32 : ∀ (m32 : Nat) (k vv q : Nat) (Y : fo_Mi), m + 1 - k < m32 → k ≤ m → vv < 10 ^ k → fq_nm n t m 0 p = fq_nm n t (m - k) vv q → fm_V Y n t false q → fm_pf I Y → fo_G l Λ { frames := 1, cells := 0, slots := 0, locals := 22 } K 0 0 32 [(3, .int (nI k)), (2, .int (nI vv)), (0, .ref (Λ.2.2.1 616)), (1, .int (nI m))] [] Y D J X := by
      intro m32
      induction m32 with
      | zero => intro k vv q Y hm; exact absurd hm (Nat.not_lt_zero _)
      | succ m32 ih32 =>
        intro k vv q Y hm32 hk hvv hq hY hfY
        have hv3 : vv < 1000 := Nat.lt_of_lt_of_le hvv (Nat.pow_le_pow_right (by decide) (show k ≤ 3 by omega))
        refine fo_iload_n C dX7_number_32 0 rfl rfl 33 rfl ?_
        refine fo_iload_n C dX7_number_33 3 rfl rfl 34 rfl ?_
        refine fo_ncmp_ge C (by omega) (by omega) dX7_number_34 85 (by decide) 37 rfl (fun c14 => ?_) (fun c14 => ?_)
        · refine fo_iload_n C dX7_number_85 1 rfl rfl 86 rfl ?_
          exact fin dX7_number_86 rfl ((by rw [hd, hq, show m - k = 0 by omega, fq_nm]; exact ⟨rfl, hY, hfY, rfl, rfl, rfl⟩))
        · refine fo_aload_n C dX7_number_37 2 rfl rfl 38 rfl ?_
          refine fo_qvi C dX7_number_38 (mX7_mark hY) lv_X7_237 (by decide : fo_k 616 = 9) rfl (by decide) rfl ⟨Nat.le_of_ble_eq_true rfl, Nat.le_of_ble_eq_true rfl⟩ ⟨Nat.le_of_ble_eq_true rfl, Nat.le_of_ble_eq_true rfl⟩ [] rfl (Nat.le_of_ble_eq_true rfl) 41 rfl (fo_er ?_)
          refine fo_bipush C dX7_number_41 (nI 48) kb_48 43 rfl ?_
          refine fo_bipush C dX7_number_43 (nI 57) kb_57 45 rfl ?_
          refine fo_qsi C dX7_number_45 (mX7_in (x := (fm_mk n t q)) (y := (nI (48))) (z := (nI (57)))) ls_X7_88 rfl ⟨Nat.le_of_ble_eq_true rfl, Nat.le_of_ble_eq_true rfl⟩ ⟨Nat.le_of_ble_eq_true rfl, Nat.le_of_ble_eq_true rfl⟩ [] rfl (Nat.le_of_ble_eq_true rfl) 48 rfl (fo_er ?_)
          rw [fm_in_dg ht9]
          refine fo_bif_eq C dX7_number_48 85 (by decide) 51 rfl (fun c27 => ?_) (fun c27 => ?_)
          · have hdg : fq_dg n t q = false := c27
            refine fo_iload_n C dX7_number_85 1 rfl rfl 86 rfl ?_
            exact fin dX7_number_86 rfl ((by rw [hd, hq, fq_nm_end hdg]; exact ⟨rfl, hY, hfY, rfl, rfl, rfl⟩))
          · have hdg : fq_dg n t q = true := c27
            have hdi := fq_dg_in hdg
            refine fo_bipush C dX7_number_51 (nI 10) kb_10 53 rfl ?_
            refine fo_iload_n C dX7_number_53 1 rfl rfl 54 rfl ?_
            refine fo_imul C dX7_number_54 (nI (10 * vv)) (pk_mul _ _) 55 rfl ?_
            refine fo_aload_n C dX7_number_55 2 rfl rfl 56 rfl ?_
            refine fo_get C dX7_number_56 fK9 (by decide : fo_k 616 = 9) (by decide) 12 (by decide) fl_X7_48 (v := .ref (Λ.2.2.1 623)) rfl 59 rfl ?_
            refine fo_aload_n C dX7_number_59 2 rfl rfl 60 rfl ?_
            refine fo_get C dX7_number_60 fK9 (by decide : fo_k 616 = 9) (by decide) 20 (by decide) fl_X7_72 (v := .int (nI q)) (congrArg (fun x => some (Value.int x)) (hY.2.2.2.1)) 63 rfl ?_
            have q48 := fq_dg_in hdg
            have q65 := ht9 q (by omega)
            refine fo_iald C dX7_number_63 (by decide : fo_k 623 = 20) (by rw [(show fo_n 623 = 60 from rfl)]; omega) (nI (t q)) ((hY.2.2.2.2.2 q (by omega)).1) 64 rfl ?_
            refine fo_iadd C dX7_number_64 (nI ((10 * vv) + (t q))) (nI_add _ _) 65 rfl ?_
            refine fo_bipush C dX7_number_65 (nI 48) kb_48 67 rfl ?_
            refine fo_isub C dX7_number_67 (nI (((10 * vv) + (t q)) - 48)) (pk_sub (by omega)) 68 rfl ?_
            refine fo_istore_n C dX7_number_68 rfl [(2, .int (nI (((10 * vv) + (t q)) - 48))), (3, .int (nI k)), (0, .ref (Λ.2.2.1 616)), (1, .int (nI m))] rfl (by decide) 69 rfl ?_
            refine fo_aload_n C dX7_number_69 2 rfl rfl 70 rfl ?_
            refine fo_dup C dX7_number_70 rfl 71 rfl ?_
            refine fo_get C dX7_number_71 fK9 (by decide : fo_k 616 = 9) (by decide) 20 (by decide) fl_X7_72 (v := .int (nI q)) (congrArg (fun x => some (Value.int x)) (hY.2.2.2.1)) 74 rfl ?_
            refine fo_iconst C dX7_number_74 (nI 1) ki_1 75 rfl ?_
            refine fo_iadd C dX7_number_75 (nI (q + 1)) (nI_add _ _) 76 rfl ?_
            refine fo_put C dX7_number_76 fK9 (by decide : fo_k 616 = 9) (by decide) 20 (by decide) fl_X7_72 rfl rfl rfl rfl (Nat.le_of_ble_eq_true rfl) 79 rfl ?_
            refine fo_iinc C dX7_number_79 1 rfl (nI (k + 1)) (nI_inc1 _) [(3, .int (nI (k + 1))), (2, .int (nI (((10 * vv) + (t q)) - 48))), (0, .ref (Λ.2.2.1 616)), (1, .int (nI m))] rfl (by decide) 82 rfl ?_
            refine fo_goto C dX7_number_82 32 (by decide) ?_
            exact ih32 (k + 1) (10 * vv + t q - 48) (q + 1) (fo_r Y 616 (upd (Y 616) 20 (nI (q + 1)))) (by omega) (by omega) (by rw [Nat.pow_succ]; omega) (by rw [hq, show m - k = (m - (k + 1)) + 1 by omega, fq_nm, if_pos hdg]; exact congrArg (fun x => fq_nm n t (m - (k + 1)) x (q + 1)) (by omega)) (hY.to (by omega) (by rw [fo_rs, pk_un (by decide)]) (by rw [fo_rs, pk_us]) (by rw [fo_rs, pk_un (by decide)]; exact hY.2.2.2.2.1) rfl) (hfY.trans ⟨fun b hb => by rw [fo_rn _ _ hb], fun j a b => by rw [fo_rs, pk_un a]⟩)
    exact hL32 (m + 1 + 1) 0 0 p (fo_r I 616 (upd (I 616) 23 (fo_b (false)))) (by omega) (by omega) (by decide) rfl hV1 hf1
  · exact absurd c13 (by decide)
