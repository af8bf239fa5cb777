
/-! THE WORDS: String constants -/
/-- the words' characters -/
def fo_wd (i : Nat) : List Nat := [[112, 114, 111, 112, 104, 101, 116, 32], [115, 101, 101, 32], [108, 105, 109, 105, 116, 32], [102, 111, 114, 103, 101, 116, 32]].getD i []
theorem fo_wdl : ∀ i, i < 4 → fo_txl.getD i 0 = (fo_wd i).length := by decide
theorem fo_wdi : ∀ i, i < 4 → fo_txl.getD i 0 ≤ 8 := by decide
theorem fo_wdc : ∀ i, i < 4 → ∀ k, k < fo_txl.getD i 0 → ((((fo_txb.getD i []).getD k 0 &&& nI 255).toUInt32 % 65536).toInt32) = nI ((fo_wd i).getD k 0) ∧ (fo_wd i).getD k 0 < 65536 := by decide +kernel
section FOS
variable {l : Launch} {Λ : fo_Lt} {R : Room} {K : fo_K} {cc : ByteArray} {own : String} {nL cs ss pc : Nat} {lv : List (Nat × Value)} {st st0 : List Value} {I : fo_Mi} {D : fo_Md} {J : fo_Mj} {X : fo_Mi}
variable {y : MethodName} {bytes : ByteArray} {maxL fr lo n idx i : Nat} {As : List Value}
theorem fo_ldcS (C : fo_C Λ K cc RX2 nL) {tx : String} (d : decode cc pc = .ok (.ldc idx, 2)) (hq : (idx, tx, i) ∈ fo_lits) (n' : Nat) (hn : pc + 2 = n') (k : fo_G l Λ R K cs ss n' lv (.ref (Λ.2.2.1 (700 + i)) :: st) I D J X) : fo_G l Λ R K cs ss pc lv st I D J X := by
  intro H locs ls hP hS hl
  subst hn
  exact va_ldcS C.1 C.2.1 C.2.2.2.1 (C.zs.2.1 _ hq) d (k H locs ls hP hS hl)
theorem fo_sval (C : fo_C Λ K cc own nL) (hi : i < 4) (d : decode cc pc = .ok (.getfield idx, 3)) (hl : Cond.fieldLink own idx "java/lang/String" "value" "[B" ∈ fo_W0) (n' : Nat) (hn : pc + 3 = n') (k : fo_G l Λ R K cs ss n' lv (.ref (Λ.2.2.1 (710 + i)) :: st) I D J X) : fo_G l Λ R K cs ss pc lv (.ref (Λ.2.2.1 (700 + i)) :: st) I D J X := by
  intro H locs ls hP hS hl9
  subst hn
  exact vk_getf C.1 C.2.1 ((C.zs.1.1 i hi).2.2.1) hS C.2.2.2.1 (C.2.2.2.2.1 _ hl) (fun _ h => h) d (k H locs ls hP hS hl9)
theorem fo_scod (C : fo_C Λ K cc own nL) (hi : i < 4) (d : decode cc pc = .ok (.getfield idx, 3)) (hl : Cond.fieldLink own idx "java/lang/String" "coder" "B" ∈ fo_W0) (n' : Nat) (hn : pc + 3 = n') (k : fo_G l Λ R K cs ss n' lv (.int (nI 0) :: st) I D J X) : fo_G l Λ R K cs ss pc lv (.ref (Λ.2.2.1 (700 + i)) :: st) I D J X := by
  intro H locs ls hP hS hl9
  subst hn
  exact vk_getf C.1 C.2.1 ((C.zs.1.1 i hi).2.1) hS C.2.2.2.1 (C.2.2.2.2.1 _ hl) (fun _ h => h) d (k H locs ls hP hS hl9)
theorem fo_slen (C : fo_C Λ K cc own nL) (hi : i < 4) (d : decode cc pc = .ok (.arraylength, 1)) (n' : Nat) (hn : pc + 1 = n') (k : fo_G l Λ R K cs ss n' lv (.int (nI (fo_txl.getD i 0)) :: st) I D J X) : fo_G l Λ R K cs ss pc lv (.ref (Λ.2.2.1 (710 + i)) :: st) I D J X := by
  intro H locs ls hP hS hl9
  subst hn
  exact va_tlen C.1 C.2.1 ((C.zs.1.1 i hi).2.2.2) hS rfl d (k H locs ls hP hS hl9)
theorem fo_sbald (C : fo_C Λ K cc own nL) (hi : i < 4) {j : Nat} (hj : j < fo_txl.getD i 0) (d : decode cc pc = .ok (.baload, 1)) (n' : Nat) (hn : pc + 1 = n') (k : fo_G l Λ R K cs ss n' lv (.int ((fo_txb.getD i []).getD j 0) :: st) I D J X) : fo_G l Λ R K cs ss pc lv (.int (nI j) :: .ref (Λ.2.2.1 (710 + i)) :: st) I D J X := by
  intro H locs ls hP hS hl9
  subst hn
  have h8 := fo_wdi i hi
  refine va_tb C.1 C.2.1 ((C.zs.1.1 i hi).2.2.2) hS (vp_in_nI hj (by omega)) (v := .int ((fo_txb.getD i []).getD j 0)) ?_ d (k H locs ls hP hS hl9)
  show Value.int ((fo_txb.getD i []).getD (nI j).toNatClampNeg 0) = _
  rw [nI_clamp (by omega)]
theorem fo_gets (C : fo_C Λ K cc own nL) {Cn nm ds : String} {v : Value} (hz : va_Z Cn nm ds v (fo_A Λ) K.2.2.1 K.2.2.1.heap) (d : decode cc pc = .ok (.getstatic idx, 3)) (hl : Cond.fieldLink own idx Cn nm ds ∈ fo_W0) (n' : Nat) (hn : pc + 3 = n') (k : fo_G l Λ R K cs ss n' lv (v :: st) I D J X) : fo_G l Λ R K cs ss pc lv st I D J X := by
  intro H locs ls hP hS hl9
  subst hn
  exact va_gets C.1 C.2.1 hz hS C.2.2.2.1 (C.2.2.2.2.1 _ hl) (fun _ h => h) d (k H locs ls hP hS hl9)
theorem fo_sqi (C : fo_C Λ K cc own nL) {ty : FieldType} {post : (Int32) → fo_Mi → fo_Md → fo_Mj → fo_Mi → Prop} (d : decode cc pc = .ok (.invokevirtual idx, 3)) (hM : fk_i l y bytes maxL ty fr lo Λ (.ref (Λ.2.2.1 (700 + i)) :: As) I D J X post) (hl : fo_lv own idx y bytes maxL (some ty) n) (hi : i < 4) (hy : y.cls = "java/lang/String") (hn : As.length = n) (hR : fr + 1 ≤ R.frames ∧ 8 + (maxL + 11) + lo ≤ R.locals) (hf : cs ≤ R.cells ∧ ss ≤ R.slots) (st : List Value) (hst : st0 = As.reverse ++ .ref (Λ.2.2.1 (700 + i)) :: st) (hW : (st.map fun v => v.category).sum ≤ 8) (n' : Nat) (hn' : pc + 3 = n') (k : ∀ (r : Int32) (I' : fo_Mi) (D' : fo_Md) (J' : fo_Mj) (X' : fo_Mi), post r I' D' J' X' → fo_G l Λ R K cs ss n' lv (.int r :: st) I' D' J' X') : fo_G l Λ R K cs ss pc lv st0 I D J X := by
  intro H locs ls hP hS hl9
  subst hn'
  subst hst
  refine va_calli (va_runV (As := As) (rest := st) C.fix hM (cwV n C.2.2.2.2.1 hl.1 rfl rfl rfl ⟨rfl, hl.2⟩ hR) ⟨fo_PB, by rw [hy]; exact vk_recv (i := i) C.zs.1 hi hS, fun U hU hW9 => fo_pre hP hS C.vk C.ok C.zq hU hW9⟩ rfl hn (hl9.1.trans C.nl) rfl (lv_room hW) d ⟨hf.1, hf.2⟩) hS (fun q _ h => h) (fun q h => h) (fun r u t H1 locs1 ht hvm hw hB hz1 hk1 hS1 => ?_)
  · obtain ⟨I', D', J', X'⟩ := u
    exact k r I' D' J' X' hw H1 locs1 ls (by rw [← ht]; exact hB) hS1 hl9
/-- a static method of any class -/
def fo_la3 (own : String) (idx : Nat) (y : MethodName) (cc : ByteArray) (nL : Nat) (ret : Option FieldType) (n : Nat) : Prop := GoodIn fo_W0 (va_wsS own idx y (.code y cc nL ret :: fo_W0)) ∧ (y.cls ≠ "java/lang/invoke/MethodHandle" ∧ y.cls ≠ "java/lang/invoke/VarHandle" ∧ (parseMethodDescriptor y.desc).map (fun d => d.parameters.length) = some n)
theorem fo_la3_of {own : String} {idx : Nat} {y : MethodName} {cc : ByteArray} {nL : Nat} {ret : Option FieldType} {n : Nat} (h1 : Cond.methodLink own idx y ∈ fo_W0) (h2 : Cond.static y ∈ fo_W0) (h4 : Cond.initialized y.cls ∈ fo_W0) (h5 : Cond.code y cc nL ret ∈ fo_W0) (hd : y.cls ≠ "java/lang/invoke/MethodHandle" ∧ y.cls ≠ "java/lang/invoke/VarHandle" ∧ (parseMethodDescriptor y.desc).map (fun d => d.parameters.length) = some n) : fo_la3 own idx y cc nL ret n := by
  refine ⟨fo_gl (fun w hw => ?_), hd⟩
  simp only [va_wsS, List.cons_append, List.nil_append, List.mem_cons] at hw
  rcases hw with rfl | rfl | rfl | rfl | hw
  · exact h1
  · exact h2
  · exact h4
  · exact h5
  · exact hw
theorem fo_tqi (C : fo_C Λ K cc own nL) {ty : FieldType} {post : (Int32) → fo_Mi → fo_Md → fo_Mj → fo_Mi → Prop} (d : decode cc pc = .ok (.invokestatic idx, 3)) (hM : fk_i l y bytes maxL ty fr lo Λ As I D J X post) (hl : fo_la3 own idx y bytes maxL (some ty) n) (hn : As.length = n) (hR : fr + 1 ≤ R.frames ∧ 8 + (maxL + 11) + lo ≤ R.locals) (hf : cs ≤ R.cells ∧ ss ≤ R.slots) (st : List Value) (hst : st0 = As.reverse ++ st) (hW : (st.map fun v => v.category).sum ≤ 8) (n' : Nat) (hn' : pc + 3 = n') (k : ∀ (r : Int32) (I' : fo_Mi) (D' : fo_Md) (J' : fo_Mj) (X' : fo_Mi), post r I' D' J' X' → fo_G l Λ R K cs ss n' lv (.int r :: st) I' D' J' X') : fo_G l Λ R K cs ss pc lv st0 I D J X := by
  intro H locs ls hP hS hl9
  subst hn'
  subst hst
  refine va_calli (va_runS (As := As) (rest := st) C.fix hM (va_cwS n C.2.2.2.2.1 hl.1 rfl rfl rfl hl.2 hR) ⟨fo_PB, fun U hU hW9 => fo_pre hP hS C.vk C.ok C.zq hU hW9⟩ rfl hn (hl9.1.trans C.nl) rfl (lv_room hW) d ⟨hf.1, hf.2⟩) hS (fun q _ h => h) (fun q h => h) (fun r u t H1 locs1 ht hvm hw hB hz1 hk1 hS1 => ?_)
  · obtain ⟨I', D', J', X'⟩ := u
    exact k r I' D' J' X' hw H1 locs1 ls (by rw [← ht]; exact hB) hS1 hl9
theorem fo_tqv (C : fo_C Λ K cc own nL) {post : fo_Mi → fo_Md → fo_Mj → fo_Mi → Prop} (d : decode cc pc = .ok (.invokestatic idx, 3)) (hM : fk_v l y bytes maxL fr lo Λ As I D J X post) (hl : fo_la3 own idx y bytes maxL none n) (hn : As.length = n) (hR : fr + 1 ≤ R.frames ∧ 8 + (maxL + 11) + lo ≤ R.locals) (hf : cs ≤ R.cells ∧ ss ≤ R.slots) (st : List Value) (hst : st0 = As.reverse ++ st) (hW : (st.map fun v => v.category).sum ≤ 8) (n' : Nat) (hn' : pc + 3 = n') (k : ∀ (I' : fo_Mi) (D' : fo_Md) (J' : fo_Mj) (X' : fo_Mi), post I' D' J' X' → fo_G l Λ R K cs ss n' lv st I' D' J' X') : fo_G l Λ R K cs ss pc lv st0 I D J X := by
  intro H locs ls hP hS hl9
  subst hn'
  subst hst
  refine va_callv (va_runS (As := As) (rest := st) C.fix hM (va_cwS n C.2.2.2.2.1 hl.1 rfl rfl rfl hl.2 hR) ⟨fo_PB, fun U hU hW9 => fo_pre hP hS C.vk C.ok C.zq hU hW9⟩ rfl hn (hl9.1.trans C.nl) rfl (lv_room hW) d ⟨hf.1, hf.2⟩) hS (fun q _ h => h) (fun q h => h) (fun u t H1 locs1 ht hvm hw hB hz1 hk1 hS1 => ?_)
  · obtain ⟨I', D', J', X'⟩ := u
    exact k I' D' J' X' hw H1 locs1 ls (by rw [← ht]; exact hB) hS1 hl9
end FOS
/-- the parser at a word -/
def fq_wd (n : Nat) (t : Nat → Nat) : List Nat → Nat → Bool × Nat
  | [], p => (true, p)
  | c :: w, p => if fq_at n t p c then fq_wd n t w (p + 1) else (false, p)
theorem fq_wd_step {n : Nat} {t : Nat → Nat} {w : List Nat} {k q : Nat} (h : k < w.length) : fq_wd n t (w.drop k) q = if fq_at n t q (w.getD k 0) then fq_wd n t (w.drop (k + 1)) (q + 1) else (false, q) := by
  rw [List.drop_eq_getElem_cons h, fq_wd, List.getD_eq_getElem?_getD, List.getElem?_eq_getElem h]
  rfl
theorem fq_wd_end {n : Nat} {t : Nat → Nat} {w : List Nat} {k q : Nat} (h : w.length ≤ k) : fq_wd n t (w.drop k) q = (true, q) := by
  rw [List.drop_eq_nil_iff.mpr h]
  rfl
theorem fq_wd_in {n : Nat} {t : Nat → Nat} : ∀ {w : List Nat} {p : Nat}, p ≤ n → p ≤ (fq_wd n t w p).2 ∧ (fq_wd n t w p).2 ≤ n ∧ ((fq_wd n t w p).1 = true → p + w.length ≤ (fq_wd n t w p).2)
  | [], p, h => ⟨Nat.le_refl _, h, fun _ => Nat.le_refl _⟩
  | c :: w, p, h => by
    rw [fq_wd]
    cases hc : fq_at n t p c with
    | false => rw [if_neg (by decide)]; exact ⟨Nat.le_refl _, h, fun q => by cases q⟩
    | true =>
      have hh := fq_at_in hc
      rw [if_pos rfl]
      obtain ⟨a, b, e⟩ := fq_wd_in (n := n) (t := t) (w := w) (p := p + 1) (by omega)
      exact ⟨by omega, b, fun q => by have := e q; rw [List.length_cons]; omega⟩
def fq_th (w : Bool × Nat) (f : Nat → fq_r) : fq_r := if w.1 then f w.2 else (none, w.2)
/-- a command -/
def fq_pc (n : Nat) (t : Nat → Nat) (o p : Nat) : fq_r := if fq_at n t p 112 then fq_th (fq_wd n t (fo_wd 0) p) (fq_pp n t o) else if fq_at n t p 115 then fq_th (fq_wd n t (fo_wd 1) p) (fq_ps n t o) else if fq_at n t p 108 then fq_th (fq_wd n t (fo_wd 2) p) (fq_pd n t 108 o) else fq_th (fq_wd n t (fo_wd 3) p) (fq_pd n t 102 o)
/-- all commands -/
abbrev fq_q : Type := Option (List fq_s × Nat) × Nat
def fq_aq (l : List fq_s) (r : fq_q) : fq_q := (r.1.map (fun x => (l ++ x.1, x.2)), r.2)
theorem fq_aq_nil (r : fq_q) : fq_aq [] r = r := by
  obtain ⟨a, b⟩ := r
  cases a <;> rfl
theorem fq_aq_aq (l m : List fq_s) (r : fq_q) : fq_aq l (fq_aq m r) = fq_aq (l ++ m) r := by
  obtain ⟨a, b⟩ := r
  cases a <;> simp [fq_aq]
def fq_all (n : Nat) (t : Nat → Nat) : Nat → Nat → Nat → fq_q
  | 0, _, p => (none, p)
  | f + 1, o, p => match fq_pc n t o p with
    | (none, e) => (none, e)
    | (some l, e) => if fq_at n t e 59 then fq_aq l (fq_all n t f (o + 1) (e + 1)) else if e = n then (some (l, o + 1), e) else (none, e)
theorem fq_all_some {n : Nat} {t : Nat → Nat} {f o p : Nat} {ql : List fq_s} (h : (fq_pc n t o p).1 = some ql) : fq_all n t (f + 1) o p = if fq_at n t (fq_pc n t o p).2 59 then fq_aq ql (fq_all n t f (o + 1) ((fq_pc n t o p).2 + 1)) else if (fq_pc n t o p).2 = n then (some (ql, o + 1), (fq_pc n t o p).2) else (none, (fq_pc n t o p).2) := by
  rw [fq_all]
  generalize fq_pc n t o p = z at *
  obtain ⟨a, b⟩ := z
  cases h
  rfl
theorem fq_all_none {n : Nat} {t : Nat → Nat} {f o p : Nat} (h : (fq_pc n t o p).1.isSome = false) : fq_all n t (f + 1) o p = (none, (fq_pc n t o p).2) := by
  rw [fq_all]
  generalize fq_pc n t o p = z at *
  obtain ⟨a, b⟩ := z
  cases a with
  | none => rfl
  | some a => cases h
theorem fq_vs_in {n : Nat} {t : Nat → Nat} {a o : Nat} : ∀ {f p : Nat}, p ≤ (fq_vs n t a o f p).2
  | 0, p => Nat.le_refl _
  | f + 1, p => by
    rw [fq_vs]
    cases hd : fq_dg n t p with
    | false => rw [if_neg (by decide)]; exact Nat.le_refl _
    | true =>
      have hn := fq_num_in hd
      rw [if_pos rfl]
      split
      · have := fq_vs_in (n := n) (t := t) (a := a) (o := o) (f := f) (p := (fq_num n t p).2 + 1)
        show p ≤ (fq_vs n t a o f ((fq_num n t p).2 + 1)).2
        omega
      · show p ≤ (fq_num n t p).2
        omega
theorem fq_pp_in {n : Nat} {t : Nat → Nat} {o p : Nat} : p ≤ (fq_pp n t o p).2 := by
  unfold fq_pp
  repeat' split
  all_goals first | exact Nat.le_refl _ | exact Nat.le_succ _ | exact Nat.le_add_right _ 2
theorem fq_pd_in {n : Nat} {t : Nat → Nat} {w o p : Nat} : p ≤ (fq_pd n t w o p).2 := by
  unfold fq_pd
  repeat' split
  all_goals first | exact Nat.le_refl _ | exact Nat.le_succ _ | exact Nat.le_add_right _ 2
theorem fq_ps_in {n : Nat} {t : Nat → Nat} {o p : Nat} : p ≤ (fq_ps n t o p).2 := by
  unfold fq_ps
  repeat' split
  · exact Nat.le_trans (Nat.le_add_right p 2) fq_vs_in
  · exact Nat.le_succ _
  · exact Nat.le_refl _
theorem fq_th_in {n : Nat} {t : Nat → Nat} {w : List Nat} {p : Nat} {f : Nat → fq_r} (hw : 0 < w.length) (hp : p ≤ n) (hf : ∀ q, q ≤ (f q).2) (h : (fq_th (fq_wd n t w p) f).1.isSome = true) : p < (fq_th (fq_wd n t w p) f).2 := by
  obtain ⟨a, b, c⟩ := fq_wd_in (n := n) (t := t) (w := w) hp
  unfold fq_th at h ⊢
  cases hz : (fq_wd n t w p).1 with
  | false => rw [hz, if_neg (by decide)] at h; cases h
  | true =>
    rw [if_pos rfl]
    have := c hz
    have := hf (fq_wd n t w p).2
    omega
theorem fq_pc_in {n : Nat} {t : Nat → Nat} {o p : Nat} (hp : p ≤ n) (h : (fq_pc n t o p).1.isSome = true) : p < (fq_pc n t o p).2 := by
  unfold fq_pc at h ⊢
  repeat' split
  · rename_i c1; rw [if_pos c1] at h; exact fq_th_in (by decide) hp (fun q => fq_pp_in) h
  · rename_i c1 c2; rw [if_neg c1, if_pos c2] at h; exact fq_th_in (by decide) hp (fun q => fq_ps_in) h
  · rename_i c1 c2 c3; rw [if_neg c1, if_neg c2, if_pos c3] at h; exact fq_th_in (by decide) hp (fun q => fq_pd_in) h
  · rename_i c1 c2 c3; rw [if_neg c1, if_neg c2, if_neg c3] at h; exact fq_th_in (by decide) hp (fun q => fq_pd_in) h
theorem fs_R.pre {I I2 I' : fo_Mi} {n : Nat} {t : Nat → Nat} {o : Nat} {st : List fq_s} {r : fq_r} (h : fs_R I2 n t o st r I') (hf : fs_vf I I2) : fs_R I n t o st r I' := ⟨h.1, hf.trans h.2⟩
/-- what the parser leaves -/
def fs_E (I : fo_Mi) (n : Nat) (t : Nat → Nat) (r : fq_q) (I' : fo_Mi) : Prop := fs_Q I' n t ∧ I' 608 2 = nI r.2 ∧ (∀ x, r.1 = some x → fs_V I' n t r.2 x.2 x.1) ∧ fs_vf I I'
theorem fs_Q.start {I : fo_Mi} {n : Nat} {t : Nat → Nat} (h : fs_Q I n t) : fs_V (fo_r (fo_r (fo_r I 608 (upd (I 608) 2 (nI 0))) 608 (upd (fo_r I 608 (upd (I 608) 2 (nI 0)) 608) 3 (nI 0))) 608 (upd (fo_r (fo_r I 608 (upd (I 608) 2 (nI 0))) 608 (upd (fo_r I 608 (upd (I 608) 2 (nI 0)) 608) 3 (nI 0)) 608) 8 (nI 0))) n t 0 0 [] := by
  obtain ⟨a1, a2, a3⟩ := h
  refine ⟨⟨a1, ?_, fun j hj => ?_⟩, Nat.zero_le _, Nat.zero_le _, Nat.zero_le _, ?_, ?_, ?_, fun j q hq => by cases hq⟩
  · rw [fo_rs, pk_un (by decide), fo_rs, pk_un (by decide), fo_rs, pk_un (by decide)]; exact a2
  · rw [fo_rn _ _ (by decide), fo_rn _ _ (by decide), fo_rn _ _ (by decide)]; exact a3 j hj
  · rw [fo_rs, pk_un (by decide), fo_rs, pk_un (by decide), fo_rs, pk_us]
  · rw [fo_rs, pk_un (by decide), fo_rs, pk_us]
  · rw [fo_rs, pk_us]; rfl
theorem fs_V.cmd {I : fo_Mi} {n : Nat} {t : Nat → Nat} {p o : Nat} {st : List fq_s} (h : fs_V I n t p o st) (hp : o < p) : fs_V (fo_r I 608 (upd (I 608) 3 (nI (o + 1)))) n t p (o + 1) st := by
  obtain ⟨⟨a1, a2, a3⟩, h1, h2, h3, h4, h5, h6, h7⟩ := h
  refine ⟨⟨a1, by rw [fo_rs, pk_un (by decide)]; exact a2, fun j hj => by rw [fo_rn _ _ (by decide)]; exact a3 j hj⟩, h1, hp, h3, by rw [fo_rs, pk_un (by decide)]; exact h4, by rw [fo_rs, pk_us], by rw [fo_rs, pk_un (by decide)]; exact h6, fun j q hq => ?_⟩
  rw [fo_rn _ _ (by decide), fo_rn _ _ (by decide), fo_rn _ _ (by decide), fo_rn _ _ (by decide)]
  exact h7 j q hq

theorem fj_val : Cond.fieldLink RJ0 9 "java/lang/String" "value" "[B" ∈ fo_W0 := fo_in 1640 (by decide +kernel) (by decide +kernel)
theorem fj_cod : Cond.fieldLink RJ0 15 "java/lang/String" "coder" "B" ∈ fo_W0 := fo_in 1641 (by decide +kernel) (by decide +kernel)
theorem fj_cs : Cond.fieldLink RJ0 38 "java/lang/String" "COMPACT_STRINGS" "Z" ∈ fo_W0 := fo_in 1007 (by decide +kernel) (by decide +kernel)
theorem fj_sf : Cond.fieldLink RJ0 1053 "jdk/internal/util/Preconditions" "SIOOBE_FORMATTER" "Ljava/util/function/BiFunction;" ∈ fo_W0 := fo_in 1023 (by decide +kernel) (by decide +kernel)
theorem fn_X2_87 : Cond.methodLink RX2 87 yJ0_length_8abf5 ∈ fo_W0 := fo_in 999 (by decide +kernel) (by decide +kernel)
theorem fi_J0 : Cond.initialized RJ0 ∈ fo_W0 := fo_in 88 (by decide +kernel) (by decide +kernel)
theorem fm_J0_length_8abf5 : Cond.instanceMethod yJ0_length_8abf5 ∈ fo_W0 := fo_in 1000 (by decide +kernel) (by decide +kernel)
theorem fs_J0_length_8abf5 : Cond.selects yJ0_length_8abf5.cls yJ0_length_8abf5 yJ0_length_8abf5 ∈ fo_W0 := fo_in 1001 (by decide +kernel) (by decide +kernel)
theorem fc_J0_length_8abf5 : Cond.code yJ0_length_8abf5 cJ0_length_8abf5 1 (some .int) ∈ fo_W0 := fo_in 1002 (by decide +kernel) (by decide +kernel)
theorem lv_X2_87 : fo_lv RX2 87 yJ0_length_8abf5 cJ0_length_8abf5 1 (some .int) 0 := fo_lv_of fn_X2_87 fm_J0_length_8abf5 fs_J0_length_8abf5 fi_J0 fc_J0_length_8abf5 (by decide +kernel)
theorem fn_X2_91 : Cond.methodLink RX2 91 yJ0_charAt_5068e ∈ fo_W0 := fo_in 1009 (by decide +kernel) (by decide +kernel)
theorem fm_J0_charAt_5068e : Cond.instanceMethod yJ0_charAt_5068e ∈ fo_W0 := fo_in 1010 (by decide +kernel) (by decide +kernel)
theorem fs_J0_charAt_5068e : Cond.selects yJ0_charAt_5068e.cls yJ0_charAt_5068e yJ0_charAt_5068e ∈ fo_W0 := fo_in 1011 (by decide +kernel) (by decide +kernel)
theorem fc_J0_charAt_5068e : Cond.code yJ0_charAt_5068e cJ0_charAt_5068e 2 (some .char) ∈ fo_W0 := fo_in 1012 (by decide +kernel) (by decide +kernel)
theorem lv_X2_91 : fo_lv RX2 91 yJ0_charAt_5068e cJ0_charAt_5068e 2 (some .char) 1 := fo_lv_of fn_X2_91 fm_J0_charAt_5068e fs_J0_charAt_5068e fi_J0 fc_J0_charAt_5068e (by decide +kernel)
theorem fn_J0_335 : Cond.methodLink RJ0 335 yJ0_coder_7d493 ∈ fo_W0 := fo_in 1003 (by decide +kernel) (by decide +kernel)
theorem fm_J0_coder_7d493 : Cond.instanceMethod yJ0_coder_7d493 ∈ fo_W0 := fo_in 1004 (by decide +kernel) (by decide +kernel)
theorem fs_J0_coder_7d493 : Cond.selects yJ0_coder_7d493.cls yJ0_coder_7d493 yJ0_coder_7d493 ∈ fo_W0 := fo_in 1005 (by decide +kernel) (by decide +kernel)
theorem fc_J0_coder_7d493 : Cond.code yJ0_coder_7d493 cJ0_coder_7d493 1 (some .byte) ∈ fo_W0 := fo_in 1006 (by decide +kernel) (by decide +kernel)
theorem lv_J0_335 : fo_lv RJ0 335 yJ0_coder_7d493 cJ0_coder_7d493 1 (some .byte) 0 := fo_lv_of fn_J0_335 fm_J0_coder_7d493 fs_J0_coder_7d493 fi_J0 fc_J0_coder_7d493 (by decide +kernel)
theorem fn_J0_492 : Cond.methodLink RJ0 492 yJ0_isLatin1_aae02 ∈ fo_W0 := fo_in 1013 (by decide +kernel) (by decide +kernel)
theorem fm_J0_isLatin1_aae02 : Cond.instanceMethod yJ0_isLatin1_aae02 ∈ fo_W0 := fo_in 1014 (by decide +kernel) (by decide +kernel)
theorem fs_J0_isLatin1_aae02 : Cond.selects yJ0_isLatin1_aae02.cls yJ0_isLatin1_aae02 yJ0_isLatin1_aae02 ∈ fo_W0 := fo_in 1015 (by decide +kernel) (by decide +kernel)
theorem fc_J0_isLatin1_aae02 : Cond.code yJ0_isLatin1_aae02 cJ0_isLatin1_aae02 1 (some .boolean) ∈ fo_W0 := fo_in 1016 (by decide +kernel) (by decide +kernel)
theorem lv_J0_492 : fo_lv RJ0 492 yJ0_isLatin1_aae02 cJ0_isLatin1_aae02 1 (some .boolean) 0 := fo_lv_of fn_J0_492 fm_J0_isLatin1_aae02 fs_J0_isLatin1_aae02 fi_J0 fc_J0_isLatin1_aae02 (by decide +kernel)
theorem fn_J0_495 : Cond.methodLink RJ0 495 yJ1_charAt_3b067 ∈ fo_W0 := fo_in 1017 (by decide +kernel) (by decide +kernel)
theorem fi_J1 : Cond.initialized RJ1 ∈ fo_W0 := fo_in 94 (by decide +kernel) (by decide +kernel)
theorem ft_J1_charAt_3b067 : Cond.static yJ1_charAt_3b067 ∈ fo_W0 := fo_in 1018 (by decide +kernel) (by decide +kernel)
theorem fc_J1_charAt_3b067 : Cond.code yJ1_charAt_3b067 cJ1_charAt_3b067 2 (some .char) ∈ fo_W0 := fo_in 1019 (by decide +kernel) (by decide +kernel)
theorem lt_J0_495 : fo_la3 RJ0 495 yJ1_charAt_3b067 cJ1_charAt_3b067 2 (some .char) 2 := fo_la3_of fn_J0_495 ft_J1_charAt_3b067 fi_J1 fc_J1_charAt_3b067 (by decide +kernel)
theorem fn_J1_9 : Cond.methodLink RJ1 9 yJ0_checkIndex_df160 ∈ fo_W0 := fo_in 1020 (by decide +kernel) (by decide +kernel)
theorem ft_J0_checkIndex_df160 : Cond.static yJ0_checkIndex_df160 ∈ fo_W0 := fo_in 1021 (by decide +kernel) (by decide +kernel)
theorem fc_J0_checkIndex_df160 : Cond.code yJ0_checkIndex_df160 cJ0_checkIndex_df160 2 none ∈ fo_W0 := fo_in 1022 (by decide +kernel) (by decide +kernel)
theorem lt_J1_9 : fo_la3 RJ1 9 yJ0_checkIndex_df160 cJ0_checkIndex_df160 2 none 2 := fo_la3_of fn_J1_9 ft_J0_checkIndex_df160 fi_J0 fc_J0_checkIndex_df160 (by decide +kernel)
theorem fn_J0_1059 : Cond.methodLink RJ0 1059 yJ3_checkIndex_8e157 ∈ fo_W0 := fo_in 1025 (by decide +kernel) (by decide +kernel)
theorem fi_J3 : Cond.initialized RJ3 ∈ fo_W0 := fo_in 95 (by decide +kernel) (by decide +kernel)
theorem ft_J3_checkIndex_8e157 : Cond.static yJ3_checkIndex_8e157 ∈ fo_W0 := fo_in 1026 (by decide +kernel) (by decide +kernel)
theorem fc_J3_checkIndex_8e157 : Cond.code yJ3_checkIndex_8e157 cJ3_checkIndex_8e157 3 (some .int) ∈ fo_W0 := fo_in 1027 (by decide +kernel) (by decide +kernel)
theorem lt_J0_1059 : fo_la3 RJ0 1059 yJ3_checkIndex_8e157 cJ3_checkIndex_8e157 3 (some .int) 3 := fo_la3_of fn_J0_1059 ft_J3_checkIndex_8e157 fi_J3 fc_J3_checkIndex_8e157 (by decide +kernel)
set_option maxRecDepth 10000 in
set_option maxHeartbeats 4000000 in
theorem mJ0_coder_7d493 {l : Launch} {Λ : fo_Lt} {I : fo_Mi} {D : fo_Md} {J : fo_Mj} {X : fo_Mi} {i : Nat} (hi : i < 4) : fk_i l yJ0_coder_7d493 cJ0_coder_7d493 1 .byte 0 0 Λ [.ref (Λ.2.2.1 (700 + i))] I D J X (fo_pr (nI 0) I D J X) := by
  refine fo_si (by decide) [(0, .ref (Λ.2.2.1 (700 + i)))] rfl (Nat.le_of_ble_eq_true rfl) (fun K C fin => ?_)
  refine fo_gets C (v := .int (nI 1)) C.zs.2.2.1 dJ0_coder_7d493_0 fj_cs 3 rfl ?_
  refine fo_nif_eq C (by omega) dJ0_coder_7d493_3 13 (by decide) 6 rfl (fun c1 => ?_) (fun c1 => ?_)
  · omega
  · refine fo_aload_n C dJ0_coder_7d493_6 0 rfl rfl 7 rfl ?_
    refine fo_scod C hi dJ0_coder_7d493_7 fj_cod 10 rfl ?_
    refine fo_goto C dJ0_coder_7d493_10 14 (by decide) ?_
    exact fin dJ0_coder_7d493_14 (by first | rfl | decide) (⟨rfl, rfl, rfl, rfl, rfl⟩)
set_option maxRecDepth 10000 in
set_option maxHeartbeats 4000000 in
theorem mJ0_isLatin1_aae02 {l : Launch} {Λ : fo_Lt} {I : fo_Mi} {D : fo_Md} {J : fo_Mj} {X : fo_Mi} {i : Nat} (hi : i < 4) : fk_i l yJ0_isLatin1_aae02 cJ0_isLatin1_aae02 1 .boolean 0 0 Λ [.ref (Λ.2.2.1 (700 + i))] I D J X (fo_pr (nI 1) I D J X) := by
  refine fo_si (by decide) [(0, .ref (Λ.2.2.1 (700 + i)))] rfl (Nat.le_of_ble_eq_true rfl) (fun K C fin => ?_)
  refine fo_gets C (v := .int (nI 1)) C.zs.2.2.1 dJ0_isLatin1_aae02_0 fj_cs 3 rfl ?_
  refine fo_nif_eq C (by omega) dJ0_isLatin1_aae02_3 17 (by decide) 6 rfl (fun c1 => ?_) (fun c1 => ?_)
  · omega
  · refine fo_aload_n C dJ0_isLatin1_aae02_6 0 rfl rfl 7 rfl ?_
    refine fo_scod C hi dJ0_isLatin1_aae02_7 fj_cod 10 rfl ?_
    refine fo_nif_ne C (by omega) dJ0_isLatin1_aae02_10 17 (by decide) 13 rfl (fun c2 => ?_) (fun c2 => ?_)
    · omega
    · refine fo_iconst C dJ0_isLatin1_aae02_13 (nI 1) ki_1 14 rfl ?_
      refine fo_goto C dJ0_isLatin1_aae02_14 18 (by decide) ?_
      exact fin dJ0_isLatin1_aae02_18 (by first | rfl | exact fo_nb _) (⟨rfl, rfl, rfl, rfl, rfl⟩)
set_option maxRecDepth 10000 in
set_option maxHeartbeats 4000000 in
theorem mJ0_length_8abf5 {l : Launch} {Λ : fo_Lt} {I : fo_Mi} {D : fo_Md} {J : fo_Mj} {X : fo_Mi} {i : Nat} (hi : i < 4) : fk_i l yJ0_length_8abf5 cJ0_length_8abf5 1 .int 1 20 Λ [.ref (Λ.2.2.1 (700 + i))] I D J X (fo_pr (nI (fo_txl.getD i 0)) I D J X) := by
  have h8 := fo_wdi i hi
  refine fo_si (by decide) [(0, .ref (Λ.2.2.1 (700 + i)))] rfl (Nat.le_of_ble_eq_true rfl) (fun K C fin => ?_)
  refine fo_aload_n C dJ0_length_8abf5_0 0 rfl rfl 1 rfl ?_
  refine fo_sval C hi dJ0_length_8abf5_1 fj_val 4 rfl ?_
  refine fo_slen C hi dJ0_length_8abf5_4 5 rfl ?_
  refine fo_aload_n C dJ0_length_8abf5_5 0 rfl rfl 6 rfl ?_
  refine fo_sqi C dJ0_length_8abf5_6 (mJ0_coder_7d493 hi) lv_J0_335 hi rfl rfl ⟨Nat.le_of_ble_eq_true rfl, Nat.le_of_ble_eq_true rfl⟩ ⟨Nat.le_of_ble_eq_true rfl, Nat.le_of_ble_eq_true rfl⟩ [.int (nI (fo_txl.getD i 0))] rfl (Nat.le_of_ble_eq_true rfl) 9 rfl (fo_er ?_)
  refine fo_ishr C dJ0_length_8abf5_9 (nI (fo_txl.getD i 0)) (sc_shr0 (by omega)) 10 rfl ?_
  exact fin dJ0_length_8abf5_10 rfl (⟨rfl, rfl, rfl, rfl, rfl⟩)
set_option maxRecDepth 10000 in
set_option maxHeartbeats 4000000 in
theorem mJ3_checkIndex_n {l : Launch} {Λ : fo_Lt} {I : fo_Mi} {D : fo_Md} {J : fo_Mj} {X : fo_Mi} {k m : Nat} (hk : k < m) (hm : m < 2 ^ 31) : fk_i l yJ3_checkIndex_8e157 cJ3_checkIndex_8e157 3 .int 0 0 Λ [.int (nI k), .int (nI m), .null] I D J X (fo_pr (nI k) I D J X) := by
  refine fo_si (by decide) [(0, .int (nI k)), (1, .int (nI m)), (2, .null)] rfl (Nat.le_of_ble_eq_true rfl) (fun K C fin => ?_)
  refine fo_iload_n C dJ3_checkIndex_8e157_0 0 rfl rfl 1 rfl ?_
  refine fo_nif_lt C (by omega) dJ3_checkIndex_8e157_1 4 rfl 9 (by decide) ?_
  refine fo_iload_n C dJ3_checkIndex_8e157_4 0 rfl rfl 5 rfl ?_
  refine fo_iload_n C dJ3_checkIndex_8e157_5 1 rfl rfl 6 rfl ?_
  refine fo_ncmp_lt C (by omega) (by omega) dJ3_checkIndex_8e157_6 16 (by decide) 9 rfl (fun c1 => ?_) (fun c1 => ?_)
  · refine fo_iload_n C dJ3_checkIndex_8e157_16 0 rfl rfl 17 rfl ?_
    exact fin dJ3_checkIndex_8e157_17 rfl (⟨rfl, rfl, rfl, rfl, rfl⟩)
  · omega
set_option maxRecDepth 10000 in
set_option maxHeartbeats 4000000 in
theorem mJ3_checkIndex_8e157 {l : Launch} {Λ : fo_Lt} {I : fo_Mi} {D : fo_Md} {J : fo_Mj} {X : fo_Mi} {k m t9 : Nat} (hk : k < m) (hm : m < 2 ^ 31) : fk_i l yJ3_checkIndex_8e157 cJ3_checkIndex_8e157 3 .int 0 0 Λ [.int (nI k), .int (nI m), .ref t9] I D J X (fo_pr (nI k) I D J X) := by
  refine fo_si (by decide) [(0, .int (nI k)), (1, .int (nI m)), (2, .ref t9)] rfl (Nat.le_of_ble_eq_true rfl) (fun K C fin => ?_)
  refine fo_iload_n C dJ3_checkIndex_8e157_0 0 rfl rfl 1 rfl ?_
  refine fo_nif_lt C (by omega) dJ3_checkIndex_8e157_1 4 rfl 9 (by decide) ?_
  refine fo_iload_n C dJ3_checkIndex_8e157_4 0 rfl rfl 5 rfl ?_
  refine fo_iload_n C dJ3_checkIndex_8e157_5 1 rfl rfl 6 rfl ?_
  refine fo_ncmp_lt C (by omega) (by omega) dJ3_checkIndex_8e157_6 16 (by decide) 9 rfl (fun c1 => ?_) (fun c1 => ?_)
  · refine fo_iload_n C dJ3_checkIndex_8e157_16 0 rfl rfl 17 rfl ?_
    exact fin dJ3_checkIndex_8e157_17 rfl (⟨rfl, rfl, rfl, rfl, rfl⟩)
  · omega
set_option maxRecDepth 10000 in
set_option maxHeartbeats 4000000 in
theorem mJ0_checkIndex_df160 {l : Launch} {Λ : fo_Lt} {I : fo_Mi} {D : fo_Md} {J : fo_Mj} {X : fo_Mi} {k m : Nat} (hk : k < m) (hm : m < 2 ^ 31) : fk_v l yJ0_checkIndex_df160 cJ0_checkIndex_df160 2 1 22 Λ [.int (nI k), .int (nI m)] I D J X (fo_prv I D J X) := by
  refine fo_sv (by decide) [(0, .int (nI k)), (1, .int (nI m))] rfl (Nat.le_of_ble_eq_true rfl) (fun K C fin => ?_)
  refine fo_iload_n C dJ0_checkIndex_df160_0 0 rfl rfl 1 rfl ?_
  refine fo_iload_n C dJ0_checkIndex_df160_1 1 rfl rfl 2 rfl ?_
  rcases C.zs.2.2.2 with hz9 | ⟨t9, hz9⟩
  · refine fo_gets C hz9 dJ0_checkIndex_df160_2 fj_sf 5 rfl ?_
    refine fo_tqi C dJ0_checkIndex_df160_5 (mJ3_checkIndex_n (k := k) (m := m) (by omega) (by omega)) lt_J0_1059 rfl ⟨Nat.le_of_ble_eq_true rfl, Nat.le_of_ble_eq_true rfl⟩ ⟨Nat.le_of_ble_eq_true rfl, Nat.le_of_ble_eq_true rfl⟩ [] rfl (Nat.le_of_ble_eq_true rfl) 8 rfl (fo_er ?_)
    refine fo_pop C dJ0_checkIndex_df160_8 rfl 9 rfl ?_
    exact fin dJ0_checkIndex_df160_9 (⟨rfl, rfl, rfl, rfl⟩)
  · refine fo_gets C hz9 dJ0_checkIndex_df160_2 fj_sf 5 rfl ?_
    refine fo_tqi C dJ0_checkIndex_df160_5 (mJ3_checkIndex_8e157 (t9 := t9) (k := k) (m := m) (by omega) (by omega)) lt_J0_1059 rfl ⟨Nat.le_of_ble_eq_true rfl, Nat.le_of_ble_eq_true rfl⟩ ⟨Nat.le_of_ble_eq_true rfl, Nat.le_of_ble_eq_true rfl⟩ [] rfl (Nat.le_of_ble_eq_true rfl) 8 rfl (fo_er ?_)
    refine fo_pop C dJ0_checkIndex_df160_8 rfl 9 rfl ?_
    exact fin dJ0_checkIndex_df160_9 (⟨rfl, rfl, rfl, rfl⟩)
set_option maxRecDepth 10000 in
set_option maxHeartbeats 4000000 in
theorem mJ1_charAt_3b067 {l : Launch} {Λ : fo_Lt} {I : fo_Mi} {D : fo_Md} {J : fo_Mj} {X : fo_Mi} {i k : Nat} (hi : i < 4) (hk : k < fo_txl.getD i 0) : fk_i l yJ1_charAt_3b067 cJ1_charAt_3b067 2 .char 2 43 Λ [.ref (Λ.2.2.1 (710 + i)), .int (nI k)] I D J X (fo_pr (nI ((fo_wd i).getD k 0)) I D J X) := by
  have h8 := fo_wdi i hi
  obtain ⟨hw, hwc⟩ := fo_wdc i hi k hk
  refine fo_si (by decide) [(0, .ref (Λ.2.2.1 (710 + i))), (1, .int (nI k))] rfl (Nat.le_of_ble_eq_true rfl) (fun K C fin => ?_)
  refine fo_iload_n C dJ1_charAt_3b067_0 1 rfl rfl 1 rfl ?_
  refine fo_aload_n C dJ1_charAt_3b067_1 0 rfl rfl 2 rfl ?_
  refine fo_slen C hi dJ1_charAt_3b067_2 3 rfl ?_
  refine fo_tqv C dJ1_charAt_3b067_3 (mJ0_checkIndex_df160 (k := k) (m := fo_txl.getD i 0) (by omega) (by omega)) lt_J1_9 rfl ⟨Nat.le_of_ble_eq_true rfl, Nat.le_of_ble_eq_true rfl⟩ ⟨Nat.le_of_ble_eq_true rfl, Nat.le_of_ble_eq_true rfl⟩ [] rfl (Nat.le_of_ble_eq_true rfl) 6 rfl (fo_erv ?_)
  refine fo_aload_n C dJ1_charAt_3b067_6 0 rfl rfl 7 rfl ?_
  refine fo_iload_n C dJ1_charAt_3b067_7 1 rfl rfl 8 rfl ?_
  refine fo_sbald C hi (by omega) dJ1_charAt_3b067_8 9 rfl ?_
  refine fo_sipush C dJ1_charAt_3b067_9 (nI 255) ks_255 12 rfl ?_
  refine fo_iand C dJ1_charAt_3b067_12 _ rfl 13 rfl ?_
  refine fo_i2c C dJ1_charAt_3b067_13 _ rfl 14 rfl ?_
  refine fo_ti (b := nI ((fo_wd i).getD k 0)) hw ?_
  exact fin dJ1_charAt_3b067_14 (pk_charN hwc).1 (⟨rfl, rfl, rfl, rfl, rfl⟩)
set_option maxRecDepth 10000 in
set_option maxHeartbeats 4000000 in
theorem mJ0_charAt_5068e {l : Launch} {Λ : fo_Lt} {I : fo_Mi} {D : fo_Md} {J : fo_Mj} {X : fo_Mi} {i k : Nat} (hi : i < 4) (hk : k < fo_txl.getD i 0) : fk_i l yJ0_charAt_5068e cJ0_charAt_5068e 2 .char 3 64 Λ [.ref (Λ.2.2.1 (700 + i)), .int (nI k)] I D J X (fo_pr (nI ((fo_wd i).getD k 0)) I D J X) := by
  have h8 := fo_wdi i hi
  obtain ⟨hw, hwc⟩ := fo_wdc i hi k hk
  refine fo_si (by decide) [(0, .ref (Λ.2.2.1 (700 + i))), (1, .int (nI k))] rfl (Nat.le_of_ble_eq_true rfl) (fun K C fin => ?_)
  refine fo_aload_n C dJ0_charAt_5068e_0 0 rfl rfl 1 rfl ?_
  refine fo_sqi C dJ0_charAt_5068e_1 (mJ0_isLatin1_aae02 hi) lv_J0_492 hi rfl rfl ⟨Nat.le_of_ble_eq_true rfl, Nat.le_of_ble_eq_true rfl⟩ ⟨Nat.le_of_ble_eq_true rfl, Nat.le_of_ble_eq_true rfl⟩ [] rfl (Nat.le_of_ble_eq_true rfl) 4 rfl (fo_er ?_)
  refine fo_nif_eq C (by omega) dJ0_charAt_5068e_4 16 (by decide) 7 rfl (fun c1 => ?_) (fun c1 => ?_)
  · omega
  · refine fo_aload_n C dJ0_charAt_5068e_7 0 rfl rfl 8 rfl ?_
    refine fo_sval C hi dJ0_charAt_5068e_8 fj_val 11 rfl ?_
    refine fo_iload_n C dJ0_charAt_5068e_11 1 rfl rfl 12 rfl ?_
    refine fo_tqi C dJ0_charAt_5068e_12 (mJ1_charAt_3b067 (k := k) hi (by omega)) lt_J0_495 rfl ⟨Nat.le_of_ble_eq_true rfl, Nat.le_of_ble_eq_true rfl⟩ ⟨Nat.le_of_ble_eq_true rfl, Nat.le_of_ble_eq_true rfl⟩ [] rfl (Nat.le_of_ble_eq_true rfl) 15 rfl (fo_er ?_)
    exact fin dJ0_charAt_5068e_15 (pk_charN hwc).1 (⟨rfl, rfl, rfl, rfl, rfl⟩)
set_option maxRecDepth 10000 in
set_option maxHeartbeats 4000000 in
theorem mX2_acceptsWord {l : Launch} {Λ : fo_Lt} {I : fo_Mi} {D : fo_Md} {J : fo_Mj} {X : fo_Mi} {n : Nat} {t : Nat → Nat} {p o : Nat} {st : List fq_s} {i : Nat} (hi : i < 4) (h : fs_V I n t p o st) : fk_i l yX2_acceptsWord cX2_acceptsWord 3 .boolean 6 160 Λ [.ref (Λ.2.2.1 608), .ref (Λ.2.2.1 (700 + i))] I D J X ((fun r I' D' J' X' => r = fo_b (fq_wd n t (fo_wd i) p).1 ∧ fs_V I' n t (fq_wd n t (fo_wd i) p).2 o st ∧ fs_vf I I' ∧ D' = D ∧ J' = J ∧ X' = X)) := by
  have hb60 := h.1.1
  have hpn := h.2.1
  have hst := h.2.2.2.1
  have hop := h.2.2.1
  have hwl := fo_wdl i hi
  have h8 := fo_wdi i hi
  refine fo_si (by decide) [(0, .ref (Λ.2.2.1 608)), (1, .ref (Λ.2.2.1 (700 + i)))] rfl (Nat.le_of_ble_eq_true rfl) (fun K C fin => ?_)
  refine fo_iconst C dX2_acceptsWord_0 (nI 0) ki_0 1 rfl ?_
  refine fo_istore_n C dX2_acceptsWord_1 rfl [(2, .int (nI 0)), (0, .ref (Λ.2.2.1 608)), (1, .ref (Λ.2.2.1 (700 + i)))] rfl (by decide) 2 rfl ?_
  have hL2 : ∀ (m2 : Nat) (k q : Nat) (Y : fo_Mi), fo_txl.getD i 0 - k < m2 → k ≤ fo_txl.getD i 0 → fq_wd n t ((fo_wd i).drop k) q = fq_wd n t (fo_wd i) p → fs_V Y n t q o st → fs_vf I Y → fo_G l Λ { frames := 6, cells := 0, slots := 0, locals := 160 } K 0 0 2 [(2, .int (nI k)), (0, .ref (Λ.2.2.1 608)), (1, .ref (Λ.2.2.1 (700 + i)))] [] Y D J X := by
    intro m2
    induction m2 with
    | zero => intro k q Y hm; exact absurd hm (Nat.not_lt_zero _)
    | succ m2 ih2 =>
      intro k q Y hm2 hk hR hY hF
      refine fo_iload_n C dX2_acceptsWord_2 0 rfl rfl 3 rfl ?_
      refine fo_aload_n C dX2_acceptsWord_3 2 rfl rfl 4 rfl ?_
      refine fo_sqi C dX2_acceptsWord_4 (mJ0_length_8abf5 hi) lv_X2_87 hi rfl rfl ⟨Nat.le_of_ble_eq_true rfl, Nat.le_of_ble_eq_true rfl⟩ ⟨Nat.le_of_ble_eq_true rfl, Nat.le_of_ble_eq_true rfl⟩ [.int (nI k)] rfl (Nat.le_of_ble_eq_true rfl) 7 rfl (fo_er ?_)
      refine fo_ncmp_ge C (by omega) (by omega) dX2_acceptsWord_7 30 (by decide) 10 rfl (fun c1 => ?_) (fun c1 => ?_)
      · refine fo_iconst C dX2_acceptsWord_30 (nI 1) ki_1 31 rfl ?_
        exact fin dX2_acceptsWord_31 (by first | rfl | exact fo_nb _) ((by rw [← hR, fq_wd_end (by omega)]; exact ⟨rfl, hY, hF, rfl, rfl, rfl⟩))
      · refine fo_aload_n C dX2_acceptsWord_10 1 rfl rfl 11 rfl ?_
        refine fo_aload_n C dX2_acceptsWord_11 2 rfl rfl 12 rfl ?_
        refine fo_iload_n C dX2_acceptsWord_12 0 rfl rfl 13 rfl ?_
        have hwc := fo_wdc i hi k (by omega)
        refine fo_sqi C dX2_acceptsWord_13 (mJ0_charAt_5068e (k := k) hi (by omega)) lv_X2_91 hi rfl rfl ⟨Nat.le_of_ble_eq_true rfl, Nat.le_of_ble_eq_true rfl⟩ ⟨Nat.le_of_ble_eq_true rfl, Nat.le_of_ble_eq_true rfl⟩ [.ref (Λ.2.2.1 608)] rfl (Nat.le_of_ble_eq_true rfl) 16 rfl (fo_er ?_)
        refine fo_qvi C dX2_acceptsWord_16 (mX2_accepts (c := (fo_wd i).getD k 0) (by omega) hY) lv_X2_45 (by decide : fo_k 608 = 4) rfl (by decide) rfl ⟨Nat.le_of_ble_eq_true rfl, Nat.le_of_ble_eq_true rfl⟩ ⟨Nat.le_of_ble_eq_true rfl, Nat.le_of_ble_eq_true rfl⟩ [] rfl (Nat.le_of_ble_eq_true rfl) 19 rfl (fun r2 I3 D4 J5 X6 p7 => ?_)
        obtain ⟨rfl, g8, f9, z9⟩ := p7
        obtain ⟨rfl, rfl, rfl⟩ := fo_sym3 z9
        refine fo_bif_ne C dX2_acceptsWord_19 24 (by decide) 22 rfl (fun c10 => ?_) (fun c10 => ?_)
        · rw [if_pos c10] at g8
          refine fo_iinc C dX2_acceptsWord_24 0 rfl (nI (k + 1)) (nI_inc1 _) [(2, .int (nI (k + 1))), (0, .ref (Λ.2.2.1 608)), (1, .ref (Λ.2.2.1 (700 + i)))] rfl (by decide) 27 rfl ?_
          refine fo_goto C dX2_acceptsWord_27 2 (by decide) ?_
          exact ih2 (k + 1) (q + 1) I3 (by omega) (by omega) (by rw [← hR, fq_wd_step (k := k) (q := q) (by omega), if_pos (by assumption)]) g8 (hF.trans f9)
        · rw [if_neg (by simp_all)] at g8
          refine fo_iconst C dX2_acceptsWord_22 (nI 0) ki_0 23 rfl ?_
          exact fin dX2_acceptsWord_23 (by first | rfl | exact fo_nb _) ((by rw [← hR, fq_wd_step (k := k) (q := q) (by omega), if_neg (by simp_all)]; exact ⟨rfl, g8, (hF.trans f9), rfl, rfl, rfl⟩))
  exact hL2 (9 + 1) 0 p I (by omega) (by omega) rfl h fs_vf.rfl
set_option maxRecDepth 10000 in
set_option maxHeartbeats 4000000 in
theorem mX2_parseCommand {l : Launch} {Λ : fo_Lt} {I : fo_Mi} {D : fo_Md} {J : fo_Mj} {X : fo_Mi} {n : Nat} {t : Nat → Nat} {p o : Nat} {st : List fq_s} (h : fs_V I n t p o st) : fk_i l yX2_parseCommand cX2_parseCommand 1 .boolean 7 182 Λ [.ref (Λ.2.2.1 608)] I D J X ((fun r I' D' J' X' => r = fo_b (fq_pc n t o p).1.isSome ∧ fs_R I n t o st (fq_pc n t o p) I' ∧ D' = D ∧ J' = J ∧ X' = X)) := by
  have hb60 := h.1.1
  have hpn := h.2.1
  have hst := h.2.2.2.1
  have hop := h.2.2.1
  refine fo_si (by decide) [(0, .ref (Λ.2.2.1 608))] rfl (Nat.le_of_ble_eq_true rfl) (fun K C fin => ?_)
  refine fo_aload_n C dX2_parseCommand_0 0 rfl rfl 1 rfl ?_
  refine fo_bipush C dX2_parseCommand_1 (nI 112) kb_112 3 rfl ?_
  refine fo_qvi C dX2_parseCommand_3 (mX2_isAt (c := 112) (by omega) h) lv_X2_49 (by decide : fo_k 608 = 4) rfl (by decide) rfl ⟨Nat.le_of_ble_eq_true rfl, Nat.le_of_ble_eq_true rfl⟩ ⟨Nat.le_of_ble_eq_true rfl, Nat.le_of_ble_eq_true rfl⟩ [] rfl (Nat.le_of_ble_eq_true rfl) 6 rfl (fo_er ?_)
  refine fo_bif_eq C dX2_parseCommand_6 31 (by decide) 9 rfl (fun c7 => ?_) (fun c7 => ?_)
  · refine fo_aload_n C dX2_parseCommand_31 0 rfl rfl 32 rfl ?_
    refine fo_bipush C dX2_parseCommand_32 (nI 115) kb_115 34 rfl ?_
    refine fo_qvi C dX2_parseCommand_34 (mX2_isAt (c := 115) (by omega) h) lv_X2_49 (by decide : fo_k 608 = 4) rfl (by decide) rfl ⟨Nat.le_of_ble_eq_true rfl, Nat.le_of_ble_eq_true rfl⟩ ⟨Nat.le_of_ble_eq_true rfl, Nat.le_of_ble_eq_true rfl⟩ [] rfl (Nat.le_of_ble_eq_true rfl) 37 rfl (fo_er ?_)
    refine fo_bif_eq C dX2_parseCommand_37 62 (by decide) 40 rfl (fun c14 => ?_) (fun c14 => ?_)
    · refine fo_aload_n C dX2_parseCommand_62 0 rfl rfl 63 rfl ?_
      refine fo_bipush C dX2_parseCommand_63 (nI 108) kb_108 65 rfl ?_
      refine fo_qvi C dX2_parseCommand_65 (mX2_isAt (c := 108) (by omega) h) lv_X2_49 (by decide : fo_k 608 = 4) rfl (by decide) rfl ⟨Nat.le_of_ble_eq_true rfl, Nat.le_of_ble_eq_true rfl⟩ ⟨Nat.le_of_ble_eq_true rfl, Nat.le_of_ble_eq_true rfl⟩ [] rfl (Nat.le_of_ble_eq_true rfl) 68 rfl (fo_er ?_)
      refine fo_bif_eq C dX2_parseCommand_68 95 (by decide) 71 rfl (fun c21 => ?_) (fun c21 => ?_)
      · refine fo_aload_n C dX2_parseCommand_95 0 rfl rfl 96 rfl ?_
        refine fo_ldcS C dX2_parseCommand_96 (tx := "forget ") (i := 3) (by decide) 98 rfl ?_
        refine fo_qvi C dX2_parseCommand_98 (mX2_acceptsWord (i := 3) (by decide) h) lv_X2_54 (by decide : fo_k 608 = 4) rfl (by decide) rfl ⟨Nat.le_of_ble_eq_true rfl, Nat.le_of_ble_eq_true rfl⟩ ⟨Nat.le_of_ble_eq_true rfl, Nat.le_of_ble_eq_true rfl⟩ [] rfl (Nat.le_of_ble_eq_true rfl) 101 rfl (fun r22 I23 D24 J25 X26 p27 => ?_)
        obtain ⟨rfl, g28, f29, z9⟩ := p27
        obtain ⟨rfl, rfl, rfl⟩ := fo_sym3 z9
        refine fo_bif_eq C dX2_parseCommand_101 117 (by decide) 104 rfl (fun c30 => ?_) (fun c30 => ?_)
        · refine fo_iconst C dX2_parseCommand_117 (nI 0) ki_0 118 rfl ?_
          exact fin dX2_parseCommand_118 (by first | rfl | exact fo_nb _) ((by rw [fq_pc, if_neg (by simp_all), if_neg (by simp_all), if_neg (by simp_all), fq_th, if_neg (by simp_all)]; exact ⟨fo_b0 rfl, ⟨⟨st, g28, fun q hq => by cases hq⟩, f29⟩, rfl, rfl, rfl⟩))
        · refine fo_aload_n C dX2_parseCommand_104 0 rfl rfl 105 rfl ?_
          refine fo_bipush C dX2_parseCommand_105 (nI 102) kb_102 107 rfl ?_
          refine fo_qvi C dX2_parseCommand_107 (mX2_parseDigit (c := 102) (by decide) g28) lv_X2_68 (by decide : fo_k 608 = 4) rfl (by decide) rfl ⟨Nat.le_of_ble_eq_true rfl, Nat.le_of_ble_eq_true rfl⟩ ⟨Nat.le_of_ble_eq_true rfl, Nat.le_of_ble_eq_true rfl⟩ [] rfl (Nat.le_of_ble_eq_true rfl) 110 rfl (fun r31 I32 D33 J34 X35 p36 => ?_)
          obtain ⟨rfl, g37, z9⟩ := p36
          obtain ⟨rfl, rfl, rfl⟩ := fo_sym3 z9
          refine fo_bif_eq C dX2_parseCommand_110 117 (by decide) 113 rfl (fun c38 => ?_) (fun c38 => ?_)
          · refine fo_iconst C dX2_parseCommand_117 (nI 0) ki_0 118 rfl ?_
            exact fin dX2_parseCommand_118 (by first | rfl | exact fo_nb _) ((by rw [fq_pc, if_neg (by simp_all), if_neg (by simp_all), if_neg (by simp_all), fq_th, if_pos (by assumption)]; exact ⟨by first | exact fo_b1 (by assumption) | exact fo_b0 (by simp_all), g37.pre f29, rfl, rfl, rfl⟩))
          · refine fo_iconst C dX2_parseCommand_113 (nI 1) ki_1 114 rfl ?_
            refine fo_goto C dX2_parseCommand_114 118 (by decide) ?_
            exact fin dX2_parseCommand_118 (by first | rfl | exact fo_nb _) ((by rw [fq_pc, if_neg (by simp_all), if_neg (by simp_all), if_neg (by simp_all), fq_th, if_pos (by assumption)]; exact ⟨by first | exact fo_b1 (by assumption) | exact fo_b0 (by simp_all), g37.pre f29, rfl, rfl, rfl⟩))
      · refine fo_aload_n C dX2_parseCommand_71 0 rfl rfl 72 rfl ?_
        refine fo_ldcS C dX2_parseCommand_72 (tx := "limit ") (i := 2) (by decide) 74 rfl ?_
        refine fo_qvi C dX2_parseCommand_74 (mX2_acceptsWord (i := 2) (by decide) h) lv_X2_54 (by decide : fo_k 608 = 4) rfl (by decide) rfl ⟨Nat.le_of_ble_eq_true rfl, Nat.le_of_ble_eq_true rfl⟩ ⟨Nat.le_of_ble_eq_true rfl, Nat.le_of_ble_eq_true rfl⟩ [] rfl (Nat.le_of_ble_eq_true rfl) 77 rfl (fun r39 I40 D41 J42 X43 p44 => ?_)
        obtain ⟨rfl, g45, f46, z9⟩ := p44
        obtain ⟨rfl, rfl, rfl⟩ := fo_sym3 z9
        refine fo_bif_eq C dX2_parseCommand_77 93 (by decide) 80 rfl (fun c47 => ?_) (fun c47 => ?_)
        · refine fo_iconst C dX2_parseCommand_93 (nI 0) ki_0 94 rfl ?_
          exact fin dX2_parseCommand_94 (by first | rfl | exact fo_nb _) ((by rw [fq_pc, if_neg (by simp_all), if_neg (by simp_all), if_pos (by assumption), fq_th, if_neg (by simp_all)]; exact ⟨fo_b0 rfl, ⟨⟨st, g45, fun q hq => by cases hq⟩, f46⟩, rfl, rfl, rfl⟩))
        · refine fo_aload_n C dX2_parseCommand_80 0 rfl rfl 81 rfl ?_
          refine fo_bipush C dX2_parseCommand_81 (nI 108) kb_108 83 rfl ?_
          refine fo_qvi C dX2_parseCommand_83 (mX2_parseDigit (c := 108) (by decide) g45) lv_X2_68 (by decide : fo_k 608 = 4) rfl (by decide) rfl ⟨Nat.le_of_ble_eq_true rfl, Nat.le_of_ble_eq_true rfl⟩ ⟨Nat.le_of_ble_eq_true rfl, Nat.le_of_ble_eq_true rfl⟩ [] rfl (Nat.le_of_ble_eq_true rfl) 86 rfl (fun r48 I49 D50 J51 X52 p53 => ?_)
          obtain ⟨rfl, g54, z9⟩ := p53
          obtain ⟨rfl, rfl, rfl⟩ := fo_sym3 z9
          refine fo_bif_eq C dX2_parseCommand_86 93 (by decide) 89 rfl (fun c55 => ?_) (fun c55 => ?_)
          · refine fo_iconst C dX2_parseCommand_93 (nI 0) ki_0 94 rfl ?_
            exact fin dX2_parseCommand_94 (by first | rfl | exact fo_nb _) ((by rw [fq_pc, if_neg (by simp_all), if_neg (by simp_all), if_pos (by assumption), fq_th, if_pos (by assumption)]; exact ⟨by first | exact fo_b1 (by assumption) | exact fo_b0 (by simp_all), g54.pre f46, rfl, rfl, rfl⟩))
          · refine fo_iconst C dX2_parseCommand_89 (nI 1) ki_1 90 rfl ?_
            refine fo_goto C dX2_parseCommand_90 94 (by decide) ?_
            exact fin dX2_parseCommand_94 (by first | rfl | exact fo_nb _) ((by rw [fq_pc, if_neg (by simp_all), if_neg (by simp_all), if_pos (by assumption), fq_th, if_pos (by assumption)]; exact ⟨by first | exact fo_b1 (by assumption) | exact fo_b0 (by simp_all), g54.pre f46, rfl, rfl, rfl⟩))
    · refine fo_aload_n C dX2_parseCommand_40 0 rfl rfl 41 rfl ?_
      refine fo_ldcS C dX2_parseCommand_41 (tx := "see ") (i := 1) (by decide) 43 rfl ?_
      refine fo_qvi C dX2_parseCommand_43 (mX2_acceptsWord (i := 1) (by decide) h) lv_X2_54 (by decide : fo_k 608 = 4) rfl (by decide) rfl ⟨Nat.le_of_ble_eq_true rfl, Nat.le_of_ble_eq_true rfl⟩ ⟨Nat.le_of_ble_eq_true rfl, Nat.le_of_ble_eq_true rfl⟩ [] rfl (Nat.le_of_ble_eq_true rfl) 46 rfl (fun r56 I57 D58 J59 X60 p61 => ?_)
      obtain ⟨rfl, g62, f63, z9⟩ := p61
      obtain ⟨rfl, rfl, rfl⟩ := fo_sym3 z9
      refine fo_bif_eq C dX2_parseCommand_46 60 (by decide) 49 rfl (fun c64 => ?_) (fun c64 => ?_)
      · refine fo_iconst C dX2_parseCommand_60 (nI 0) ki_0 61 rfl ?_
        exact fin dX2_parseCommand_61 (by first | rfl | exact fo_nb _) ((by rw [fq_pc, if_neg (by simp_all), if_pos (by assumption), fq_th, if_neg (by simp_all)]; exact ⟨fo_b0 rfl, ⟨⟨st, g62, fun q hq => by cases hq⟩, f63⟩, rfl, rfl, rfl⟩))
      · refine fo_aload_n C dX2_parseCommand_49 0 rfl rfl 50 rfl ?_
        refine fo_qvi C dX2_parseCommand_50 (mX2_parseSee g62) lv_X2_63 (by decide : fo_k 608 = 4) rfl (by decide) rfl ⟨Nat.le_of_ble_eq_true rfl, Nat.le_of_ble_eq_true rfl⟩ ⟨Nat.le_of_ble_eq_true rfl, Nat.le_of_ble_eq_true rfl⟩ [] rfl (Nat.le_of_ble_eq_true rfl) 53 rfl (fun r65 I66 D67 J68 X69 p70 => ?_)
        obtain ⟨rfl, g71, z9⟩ := p70
        obtain ⟨rfl, rfl, rfl⟩ := fo_sym3 z9
        refine fo_bif_eq C dX2_parseCommand_53 60 (by decide) 56 rfl (fun c72 => ?_) (fun c72 => ?_)
        · refine fo_iconst C dX2_parseCommand_60 (nI 0) ki_0 61 rfl ?_
          exact fin dX2_parseCommand_61 (by first | rfl | exact fo_nb _) ((by rw [fq_pc, if_neg (by simp_all), if_pos (by assumption), fq_th, if_pos (by assumption)]; exact ⟨by first | exact fo_b1 (by assumption) | exact fo_b0 (by simp_all), g71.pre f63, rfl, rfl, rfl⟩))
        · refine fo_iconst C dX2_parseCommand_56 (nI 1) ki_1 57 rfl ?_
          refine fo_goto C dX2_parseCommand_57 61 (by decide) ?_
          exact fin dX2_parseCommand_61 (by first | rfl | exact fo_nb _) ((by rw [fq_pc, if_neg (by simp_all), if_pos (by assumption), fq_th, if_pos (by assumption)]; exact ⟨by first | exact fo_b1 (by assumption) | exact fo_b0 (by simp_all), g71.pre f63, rfl, rfl, rfl⟩))
  · refine fo_aload_n C dX2_parseCommand_9 0 rfl rfl 10 rfl ?_
    refine fo_ldcS C dX2_parseCommand_10 (tx := "prophet ") (i := 0) (by decide) 12 rfl ?_
    refine fo_qvi C dX2_parseCommand_12 (mX2_acceptsWord (i := 0) (by decide) h) lv_X2_54 (by decide : fo_k 608 = 4) rfl (by decide) rfl ⟨Nat.le_of_ble_eq_true rfl, Nat.le_of_ble_eq_true rfl⟩ ⟨Nat.le_of_ble_eq_true rfl, Nat.le_of_ble_eq_true rfl⟩ [] rfl (Nat.le_of_ble_eq_true rfl) 15 rfl (fun r73 I74 D75 J76 X77 p78 => ?_)
    obtain ⟨rfl, g79, f80, z9⟩ := p78
    obtain ⟨rfl, rfl, rfl⟩ := fo_sym3 z9
    refine fo_bif_eq C dX2_parseCommand_15 29 (by decide) 18 rfl (fun c81 => ?_) (fun c81 => ?_)
    · refine fo_iconst C dX2_parseCommand_29 (nI 0) ki_0 30 rfl ?_
      exact fin dX2_parseCommand_30 (by first | rfl | exact fo_nb _) ((by rw [fq_pc, if_pos (by assumption), fq_th, if_neg (by simp_all)]; exact ⟨fo_b0 rfl, ⟨⟨st, g79, fun q hq => by cases hq⟩, f80⟩, rfl, rfl, rfl⟩))
    · refine fo_aload_n C dX2_parseCommand_18 0 rfl rfl 19 rfl ?_
      refine fo_qvi C dX2_parseCommand_19 (mX2_parseProphet g79) lv_X2_58 (by decide : fo_k 608 = 4) rfl (by decide) rfl ⟨Nat.le_of_ble_eq_true rfl, Nat.le_of_ble_eq_true rfl⟩ ⟨Nat.le_of_ble_eq_true rfl, Nat.le_of_ble_eq_true rfl⟩ [] rfl (Nat.le_of_ble_eq_true rfl) 22 rfl (fun r82 I83 D84 J85 X86 p87 => ?_)
      obtain ⟨rfl, g88, z9⟩ := p87
      obtain ⟨rfl, rfl, rfl⟩ := fo_sym3 z9
      refine fo_bif_eq C dX2_parseCommand_22 29 (by decide) 25 rfl (fun c89 => ?_) (fun c89 => ?_)
      · refine fo_iconst C dX2_parseCommand_29 (nI 0) ki_0 30 rfl ?_
        exact fin dX2_parseCommand_30 (by first | rfl | exact fo_nb _) ((by rw [fq_pc, if_pos (by assumption), fq_th, if_pos (by assumption)]; exact ⟨by first | exact fo_b1 (by assumption) | exact fo_b0 (by simp_all), g88.pre f80, rfl, rfl, rfl⟩))
      · refine fo_iconst C dX2_parseCommand_25 (nI 1) ki_1 26 rfl ?_
        refine fo_goto C dX2_parseCommand_26 30 (by decide) ?_
        exact fin dX2_parseCommand_30 (by first | rfl | exact fo_nb _) ((by rw [fq_pc, if_pos (by assumption), fq_th, if_pos (by assumption)]; exact ⟨by first | exact fo_b1 (by assumption) | exact fo_b0 (by simp_all), g88.pre f80, rfl, rfl, rfl⟩))
set_option maxRecDepth 10000 in
set_option maxHeartbeats 4000000 in
theorem mX2_parse {l : Launch} {Λ : fo_Lt} {I : fo_Mi} {D : fo_Md} {J : fo_Mj} {X : fo_Mi} {n : Nat} {t : Nat → Nat} (h : fs_Q I n t) : fk_i l yX2_parse cX2_parse 2 .boolean 8 202 Λ [.ref (Λ.2.2.1 608)] I D J X ((fun r I' D' J' X' => r = fo_b (fq_all n t 60 0 0).1.isSome ∧ fs_Q I' n t ∧ I' 608 2 = nI (fq_all n t 60 0 0).2 ∧ (∀ x, (fq_all n t 60 0 0).1 = some x → fs_V I' n t (fq_all n t 60 0 0).2 x.2 x.1) ∧ fs_vf I I' ∧ D' = D ∧ J' = J ∧ X' = X)) := by
  refine fo_si (by decide) [(0, .ref (Λ.2.2.1 608))] rfl (Nat.le_of_ble_eq_true rfl) (fun K C fin => ?_)
  refine fo_aload_n C dX2_parse_0 0 rfl rfl 1 rfl ?_
  refine fo_iconst C dX2_parse_1 (nI 0) ki_0 2 rfl ?_
  refine fo_put C dX2_parse_2 fK4 (by decide : fo_k 608 = 4) (by decide) 2 (by decide) fl_X2_32 rfl rfl rfl rfl (Nat.le_of_ble_eq_true rfl) 5 rfl ?_
  refine fo_aload_n C dX2_parse_5 0 rfl rfl 6 rfl ?_
  refine fo_iconst C dX2_parse_6 (nI 0) ki_0 7 rfl ?_
  refine fo_put C dX2_parse_7 fK4 (by decide : fo_k 608 = 4) (by decide) 3 (by decide) fl_X2_35 rfl rfl rfl rfl (Nat.le_of_ble_eq_true rfl) 10 rfl ?_
  refine fo_aload_n C dX2_parse_10 0 rfl rfl 11 rfl ?_
  refine fo_iconst C dX2_parse_11 (nI 0) ki_0 12 rfl ?_
  refine fo_put C dX2_parse_12 fK4 (by decide : fo_k 608 = 4) (by decide) 8 (by decide) fl_X2_38 rfl rfl rfl rfl (Nat.le_of_ble_eq_true rfl) 15 rfl ?_
  refine fo_iconst C dX2_parse_15 (nI 0) ki_0 16 rfl ?_
  refine fo_istore_n C dX2_parse_16 rfl [(1, .int (nI 0)), (0, .ref (Λ.2.2.1 608))] rfl (by decide) 17 rfl ?_
  have hL17 : ∀ (m17 : Nat) (i q : Nat) (Y : fo_Mi) (vl : List fq_s), 61 - i < m17 → i ≤ 60 → fs_V Y n t q i vl → fs_vf I Y → fq_all n t 60 0 0 = fq_aq vl (fq_all n t (60 - i) i q) → fo_G l Λ { frames := 8, cells := 0, slots := 0, locals := 202 } K 0 0 17 [(1, .int (nI i)), (0, .ref (Λ.2.2.1 608))] [] Y D J X := by
    intro m17
    induction m17 with
    | zero => intro i q Y vl hm; exact absurd hm (Nat.not_lt_zero _)
    | succ m17 ih17 =>
      intro i q Y vl hm17 hi hY hF hR
      have hqn := hY.2.1
      have hoq := hY.2.2.1
      have hb60 := hY.1.1
      refine fo_iload_n C dX2_parse_17 0 rfl rfl 18 rfl ?_
      refine fo_bipush C dX2_parse_18 (nI 60) kb_60 20 rfl ?_
      refine fo_ncmp_ge C (by omega) (by omega) dX2_parse_20 74 (by decide) 23 rfl (fun c1 => ?_) (fun c1 => ?_)
      · refine fo_iconst C dX2_parse_74 (nI 0) ki_0 75 rfl ?_
        exact fin dX2_parse_75 (by first | rfl | exact fo_nb _) ((by rw [hR, show 60 - i = 0 by omega]; exact ⟨rfl, hY.1, hY.2.2.2.2.1, fun x hx => (by cases hx), hF, rfl, rfl, rfl⟩))
      · refine fo_aload_n C dX2_parse_23 1 rfl rfl 24 rfl ?_
        refine fo_qvi C dX2_parse_24 (mX2_parseCommand hY) lv_X2_41 (by decide : fo_k 608 = 4) rfl (by decide) rfl ⟨Nat.le_of_ble_eq_true rfl, Nat.le_of_ble_eq_true rfl⟩ ⟨Nat.le_of_ble_eq_true rfl, Nat.le_of_ble_eq_true rfl⟩ [] rfl (Nat.le_of_ble_eq_true rfl) 27 rfl (fun r2 I3 D4 J5 X6 p7 => ?_)
        obtain ⟨rfl, g8, z9⟩ := p7
        obtain ⟨rfl, rfl, rfl⟩ := fo_sym3 z9
        refine fo_bif_ne C dX2_parse_27 32 (by decide) 30 rfl (fun c9 => ?_) (fun c9 => ?_)
        · have hpi := fq_pc_in hqn c9
          obtain ⟨ql, hql⟩ := Option.isSome_iff_exists.mp c9
          obtain ⟨⟨s2, g77, hq77⟩, f77⟩ := g8
          obtain rfl := hq77 ql hql
          have hen := g77.2.1
          refine fo_aload_n C dX2_parse_32 1 rfl rfl 33 rfl ?_
          refine fo_dup C dX2_parse_33 rfl 34 rfl ?_
          refine fo_get C dX2_parse_34 fK4 (by decide : fo_k 608 = 4) (by decide) 3 (by decide) fl_X2_35 (v := .int (nI i)) (congrArg (fun x => some (Value.int x)) (g77.2.2.2.2.2.1)) 37 rfl ?_
          refine fo_iconst C dX2_parse_37 (nI 1) ki_1 38 rfl ?_
          refine fo_iadd C dX2_parse_38 (nI (i + 1)) (nI_add _ _) 39 rfl ?_
          refine fo_put C dX2_parse_39 fK4 (by decide : fo_k 608 = 4) (by decide) 3 (by decide) fl_X2_35 rfl rfl rfl rfl (Nat.le_of_ble_eq_true rfl) 42 rfl ?_
          have h78 := g77.cmd (by omega)
          have f78 : fs_vf I3 (fo_r I3 608 (upd (I3 608) 3 (nI (i + 1)))) := fs_vf.pos
          refine fo_aload_n C dX2_parse_42 1 rfl rfl 43 rfl ?_
          refine fo_bipush C dX2_parse_43 (nI 59) kb_59 45 rfl ?_
          refine fo_qvi C dX2_parse_45 (mX2_accepts (c := 59) (by omega) h78) lv_X2_45 (by decide : fo_k 608 = 4) rfl (by decide) rfl ⟨Nat.le_of_ble_eq_true rfl, Nat.le_of_ble_eq_true rfl⟩ ⟨Nat.le_of_ble_eq_true rfl, Nat.le_of_ble_eq_true rfl⟩ [] rfl (Nat.le_of_ble_eq_true rfl) 48 rfl (fun r10 I11 D12 J13 X14 p15 => ?_)
          obtain ⟨rfl, g16, f17, z9⟩ := p15
          obtain ⟨rfl, rfl, rfl⟩ := fo_sym3 z9
          refine fo_bif_ne C dX2_parse_48 68 (by decide) 51 rfl (fun c18 => ?_) (fun c18 => ?_)
          · rw [if_pos c18] at g16
            refine fo_iinc C dX2_parse_68 0 rfl (nI (i + 1)) (nI_inc1 _) [(1, .int (nI (i + 1))), (0, .ref (Λ.2.2.1 608))] rfl (by decide) 71 rfl ?_
            refine fo_goto C dX2_parse_71 17 (by decide) ?_
            exact ih17 (i + 1) ((fq_pc n t i q).2 + 1) I11 (vl ++ ql) (by omega) (by omega) g16 (hF.trans ((f77.trans f78).trans f17)) (by rw [hR, show 60 - i = (60 - (i + 1)) + 1 by omega, fq_all_some hql, if_pos (by assumption), fq_aq_aq])
          · rw [if_neg (by simp_all)] at g16
            refine fo_aload_n C dX2_parse_51 1 rfl rfl 52 rfl ?_
            refine fo_get C dX2_parse_52 fK4 (by decide : fo_k 608 = 4) (by decide) 2 (by decide) fl_X2_32 (v := .int (nI ((fq_pc n t i q).2))) (congrArg (fun x => some (Value.int x)) (g16.2.2.2.2.1)) 55 rfl ?_
            refine fo_aload_n C dX2_parse_55 1 rfl rfl 56 rfl ?_
            refine fo_get C dX2_parse_56 fK4 (by decide : fo_k 608 = 4) (by decide) 1 (by decide) fl_X2_28 (v := .int (nI n)) (congrArg (fun x => some (Value.int x)) (g16.1.2.1)) 59 rfl ?_
            refine fo_ncmp_ne C (by omega) (by omega) dX2_parse_59 66 (by decide) 62 rfl (fun c19 => ?_) (fun c19 => ?_)
            · refine fo_iconst C dX2_parse_66 (nI 0) ki_0 67 rfl ?_
              exact fin dX2_parse_67 (by first | rfl | exact fo_nb _) ((by rw [hR, show 60 - i = (60 - (i + 1)) + 1 by omega, fq_all_some hql, if_neg (by simp_all), if_neg (by omega)]; exact ⟨rfl, g16.1, g16.2.2.2.2.1, fun x hx => (by cases hx), hF.trans ((f77.trans f78).trans f17), rfl, rfl, rfl⟩))
            · refine fo_iconst C dX2_parse_62 (nI 1) ki_1 63 rfl ?_
              refine fo_goto C dX2_parse_63 67 (by decide) ?_
              exact fin dX2_parse_67 (by first | rfl | exact fo_nb _) ((by rw [hR, show 60 - i = (60 - (i + 1)) + 1 by omega, fq_all_some hql, if_neg (by simp_all), if_pos (by omega)]; exact ⟨rfl, g16.1, g16.2.2.2.2.1, fun x hx => (by cases hx; exact g16), hF.trans ((f77.trans f78).trans f17), rfl, rfl, rfl⟩))
        · refine fo_iconst C dX2_parse_30 (nI 0) ki_0 31 rfl ?_
          exact fin dX2_parse_31 (by first | rfl | exact fo_nb _) ((by obtain ⟨⟨s2, g77, hq77⟩, f77⟩ := g8; rw [hR, show 60 - i = (60 - (i + 1)) + 1 by omega, fq_all_none (by simp_all)]; exact ⟨rfl, g77.1, g77.2.2.2.2.1, fun x hx => (by cases hx), hF.trans f77, rfl, rfl, rfl⟩))
  exact hL17 (61 + 1) 0 0 (fo_r (fo_r (fo_r I 608 (upd (I 608) 2 (nI (0)))) 608 (upd ((fo_r I 608 (upd (I 608) 2 (nI (0)))) 608) 3 (nI (0)))) 608 (upd ((fo_r (fo_r I 608 (upd (I 608) 2 (nI (0)))) 608 (upd ((fo_r I 608 (upd (I 608) 2 (nI (0)))) 608) 3 (nI (0)))) 608) 8 (nI (0)))) [] (by omega) (by omega) h.start (fun b h1 _ _ _ _ => by rw [fo_rn _ _ h1, fo_rn _ _ h1, fo_rn _ _ h1]) (by rw [fq_aq_nil])
