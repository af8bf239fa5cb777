/-! CONTRACTS: a method's start, its end, its calls, its throws -/
abbrev fo_U : Type := fo_Mi × fo_Md × fo_Mj × fo_Mi
def fo_P (Λ : fo_Lt) (av : List Value) (I : fo_Mi) (D : fo_Md) (J : fo_Mj) (X : fo_Mi) : Array Value → State → Prop := va_Pc av (fun U => va_P Λ.1 vwCl (fo_w Λ I D J X) U.heap ∧ va_K Λ.1 vwCl (fo_t Λ) U ∧ fo_O Λ ∧ fo_Z Λ U)
def fo_B (Λ : fo_Lt) : fo_U → State → Prop := fun u t => va_P Λ.1 vwCl (fo_w Λ u.1 u.2.1 u.2.2.1 u.2.2.2) t.heap
theorem fo_PB {Λ : fo_Lt} {av : List Value} {I : fo_Mi} {D : fo_Md} {J : fo_Mj} {X : fo_Mi} : FrameBlind (fo_P Λ av I D J X) := fun a U g mk h =>
  ⟨h.1, h.2.1, va_K.moved (u := U) (U := U.calling g mk a) (Vm.Alike.refl U.vm) h.2.2.1, h.2.2.2.1, h.2.2.2.2.calling g mk a⟩
theorem fo_co {Λ : fo_Lt} {k id : Nat} {ri : Nat → Int32} {rd : Nat → UInt64} {rj : Nat → Int64} {rx : Nat → Int32} (h : k < 20) : fo_c Λ k id ri rd rj rx = .inr (k, fo_f Λ.2.2.1 ri k id) := by
  unfold fo_c
  split <;> first | omega | rfl
theorem fo_obj {Λ : fo_Lt} {I : fo_Mi} {D : fo_Md} {J : fo_Mj} {X : fo_Mi} {id k : Nat} (h : fo_k id = k) (hk : k < 20) : (fo_w Λ I D J X)[id]? = some (Λ.2.2.1 id, .inr (k, fo_f Λ.2.2.1 (I id) k id)) := by
  rw [fo_wat h (by omega), fo_co hk]
theorem fo_pre {Λ : fo_Lt} {s U : State} {av : List Value} {I : fo_Mi} {D : fo_Md} {J : fo_Mj} {X : fo_Mi} {H : Heap} {locs : List Loc} (hP : va_P Λ.1 vwCl (fo_w Λ I D J X) H) (hS : va_S (fo_A Λ) s.heap H locs) (hK : va_K Λ.1 vwCl (fo_t Λ) s) (hO : fo_O Λ) (hZ : fo_Z Λ s) (hU : U.heap = H) (hW : s.WarmedH U.vm) : fo_P Λ av I D J X av.toArray U :=
  ⟨rfl, by rw [hU]; exact hP, va_K.moved hW.alike hK, hO, hZ.kept (by rw [hU]; exact hS) hW⟩
theorem fo_in {w : Cond} (i : Nat) (h : lw_tbl[i]? = some w) (g : goodWord w = true) : w ∈ fo_W0 := List.mem_filter.mpr ⟨List.mem_of_getElem? h, g⟩
theorem fo_gd {w : Cond} (h : w ∈ fo_W0) : w ∈ fo_W0 ∧ ((w.onTables && w.keeps) = true ∨ ∃ ty, w = .arrayClass ty) := ⟨h, good_of_word (List.mem_filter.mp h).2⟩
theorem fo_gl {ws : List Cond} (h : ∀ w ∈ ws, w ∈ fo_W0) : GoodIn fo_W0 ws := fun w hw => fo_gd (h w hw)
/-- what a call needs of the tables: of an instance method, of a static one -/
def fo_lv (own : String) (idx : Nat) (y : MethodName) (cc : ByteArray) (nL : Nat) (ret : Option FieldType) (n : Nat) : Prop := GoodIn fo_W0 (wsV own idx y.cls y (.code y cc nL ret :: fo_W0)) ∧ (y.cls ≠ "java/lang/invoke/MethodHandle" ∧ y.cls ≠ "java/lang/invoke/VarHandle" ∧ (parseMethodDescriptor y.desc).map (fun d => d.parameters.length) = some n)
theorem fo_lv_of {own : String} {idx : Nat} {y : MethodName} {cc : ByteArray} {nL : Nat} {ret : Option FieldType} {n : Nat} (h1 : Cond.methodLink own idx y ∈ fo_W0) (h2 : Cond.instanceMethod y ∈ fo_W0) (h3 : Cond.selects y.cls y y ∈ fo_W0) (h4 : Cond.initialized y.cls ∈ fo_W0) (h5 : Cond.code y cc nL ret ∈ fo_W0) (hd : y.cls ≠ "java/lang/invoke/MethodHandle" ∧ y.cls ≠ "java/lang/invoke/VarHandle" ∧ (parseMethodDescriptor y.desc).map (fun d => d.parameters.length) = some n) : fo_lv own idx y cc nL ret n := by
  refine ⟨fo_gl (fun w hw => ?_), hd⟩
  simp only [wsV, List.cons_append, List.nil_append, List.mem_cons] at hw
  rcases hw with rfl | rfl | rfl | rfl | rfl | hw
  · exact h1
  · exact h2
  · exact h3
  · exact h4
  · exact h5
  · exact hw
def fo_ls (own : String) (idx : Nat) (y : MethodName) (cc : ByteArray) (nL : Nat) (ret : Option FieldType) (n : Nat) : Prop := GoodIn fo_W0 (wsS own idx y (.code y cc nL ret :: fo_W0)) ∧ (y.cls = own ∧ y.cls ≠ "java/lang/invoke/MethodHandle" ∧ y.cls ≠ "java/lang/invoke/VarHandle" ∧ (parseMethodDescriptor y.desc).map (fun d => d.parameters.length) = some n)
theorem fo_ls_of {own : String} {idx : Nat} {y : MethodName} {cc : ByteArray} {nL : Nat} {ret : Option FieldType} {n : Nat} (h1 : Cond.methodLink own idx y ∈ fo_W0) (h2 : Cond.static y ∈ fo_W0) (h4 : Cond.initialized own ∈ fo_W0) (h5 : Cond.code y cc nL ret ∈ fo_W0) (hd : y.cls = own ∧ y.cls ≠ "java/lang/invoke/MethodHandle" ∧ y.cls ≠ "java/lang/invoke/VarHandle" ∧ (parseMethodDescriptor y.desc).map (fun d => d.parameters.length) = some n) : fo_ls own idx y cc nL ret n := by
  refine ⟨fo_gl (fun w hw => ?_), hd⟩
  simp only [wsS, List.cons_append, List.nil_append, List.mem_cons] at hw
  rcases hw with rfl | rfl | rfl | rfl | hw
  · exact h1
  · exact h2
  · exact h4
  · exact h5
  · exact hw
/-- a static call of a nest mate's private method -/
def fo_ln (own : String) (idx : Nat) (y : MethodName) (cc : ByteArray) (nL : Nat) (ret : Option FieldType) (n : Nat) : Prop := (own, idx, y) ∈ fo_nn ∧ Cond.initialized y.cls ∈ fo_W0 ∧ Cond.static y ∈ fo_W0 ∧ Cond.code y cc nL ret ∈ fo_W0 ∧ (y.cls ≠ "java/lang/invoke/MethodHandle" ∧ y.cls ≠ "java/lang/invoke/VarHandle" ∧ (parseMethodDescriptor y.desc).map (fun d => d.parameters.length) = some n)
def fk_i (l : Launch) (y : MethodName) (cc : ByteArray) (nL : Nat) (ty : FieldType) (fr lo : Nat) (Λ : fo_Lt) (av : List Value) (I : fo_Mi) (D : fo_Md) (J : fo_Mj) (X : fo_Mi) (post : (Int32) → fo_Mi → fo_Md → fo_Mj → fo_Mi → Prop) : Prop := Met l y (.code y cc nL (some ty) :: fo_W0) { frames := fr, cells := 0, slots := 0, locals := lo } (fo_P Λ av I D J X) (va_Qi (fun r (u : fo_U) => post r u.1 u.2.1 u.2.2.1 u.2.2.2) (fo_B Λ) (fo_A Λ)) 0 0 (fo_A Λ)
def fx_i (l : Launch) (y : MethodName) (cc : ByteArray) (nL : Nat) (ty : FieldType) (fr lo mc ms : Nat) (Λ : fo_Lt) (av : List Value) (I : fo_Mi) (D : fo_Md) (J : fo_Mj) (X : fo_Mi) (post : (Int32) → fo_Mi → fo_Md → fo_Mj → fo_Mi → Prop) (px : String → fo_Mi → fo_Md → fo_Mj → fo_Mi → Prop) : Prop := vx_Met l y (.code y cc nL (some ty) :: fo_W0) { frames := fr, cells := mc, slots := ms, locals := lo } (fo_P Λ av I D J X) (va_Qi (fun r (u : fo_U) => post r u.1 u.2.1 u.2.2.1 u.2.2.2) (fo_B Λ) (fo_A Λ)) (vx_X (fun _ : fo_U => True) (fun E u t => px E u.1 u.2.1 u.2.2.1 u.2.2.2 ∧ fo_B Λ u t) (fo_A Λ)) mc ms (fo_A Λ)
def fk_d (l : Launch) (y : MethodName) (cc : ByteArray) (nL : Nat) (fr lo : Nat) (Λ : fo_Lt) (av : List Value) (I : fo_Mi) (D : fo_Md) (J : fo_Mj) (X : fo_Mi) (post : (UInt64) → fo_Mi → fo_Md → fo_Mj → fo_Mi → Prop) : Prop := Met l y (.code y cc nL (some .double) :: fo_W0) { frames := fr, cells := 0, slots := 0, locals := lo } (fo_P Λ av I D J X) (va_Qd (fun r (u : fo_U) => post r u.1 u.2.1 u.2.2.1 u.2.2.2) (fo_B Λ) (fo_A Λ)) 0 0 (fo_A Λ)
def fx_d (l : Launch) (y : MethodName) (cc : ByteArray) (nL : Nat) (fr lo mc ms : Nat) (Λ : fo_Lt) (av : List Value) (I : fo_Mi) (D : fo_Md) (J : fo_Mj) (X : fo_Mi) (post : (UInt64) → fo_Mi → fo_Md → fo_Mj → fo_Mi → Prop) (px : String → fo_Mi → fo_Md → fo_Mj → fo_Mi → Prop) : Prop := vx_Met l y (.code y cc nL (some .double) :: fo_W0) { frames := fr, cells := mc, slots := ms, locals := lo } (fo_P Λ av I D J X) (va_Qd (fun r (u : fo_U) => post r u.1 u.2.1 u.2.2.1 u.2.2.2) (fo_B Λ) (fo_A Λ)) (vx_X (fun _ : fo_U => True) (fun E u t => px E u.1 u.2.1 u.2.2.1 u.2.2.2 ∧ fo_B Λ u t) (fo_A Λ)) mc ms (fo_A Λ)
def fk_l (l : Launch) (y : MethodName) (cc : ByteArray) (nL : Nat) (fr lo : Nat) (Λ : fo_Lt) (av : List Value) (I : fo_Mi) (D : fo_Md) (J : fo_Mj) (X : fo_Mi) (post : (Int64) → fo_Mi → fo_Md → fo_Mj → fo_Mi → Prop) : Prop := Met l y (.code y cc nL (some .long) :: fo_W0) { frames := fr, cells := 0, slots := 0, locals := lo } (fo_P Λ av I D J X) (va_Ql (fun r (u : fo_U) => post r u.1 u.2.1 u.2.2.1 u.2.2.2) (fo_B Λ) (fo_A Λ)) 0 0 (fo_A Λ)
def fx_l (l : Launch) (y : MethodName) (cc : ByteArray) (nL : Nat) (fr lo mc ms : Nat) (Λ : fo_Lt) (av : List Value) (I : fo_Mi) (D : fo_Md) (J : fo_Mj) (X : fo_Mi) (post : (Int64) → fo_Mi → fo_Md → fo_Mj → fo_Mi → Prop) (px : String → fo_Mi → fo_Md → fo_Mj → fo_Mi → Prop) : Prop := vx_Met l y (.code y cc nL (some .long) :: fo_W0) { frames := fr, cells := mc, slots := ms, locals := lo } (fo_P Λ av I D J X) (va_Ql (fun r (u : fo_U) => post r u.1 u.2.1 u.2.2.1 u.2.2.2) (fo_B Λ) (fo_A Λ)) (vx_X (fun _ : fo_U => True) (fun E u t => px E u.1 u.2.1 u.2.2.1 u.2.2.2 ∧ fo_B Λ u t) (fo_A Λ)) mc ms (fo_A Λ)
def fk_f (l : Launch) (y : MethodName) (cc : ByteArray) (nL : Nat) (fr lo : Nat) (Λ : fo_Lt) (av : List Value) (I : fo_Mi) (D : fo_Md) (J : fo_Mj) (X : fo_Mi) (post : (UInt32) → fo_Mi → fo_Md → fo_Mj → fo_Mi → Prop) : Prop := Met l y (.code y cc nL (some .float) :: fo_W0) { frames := fr, cells := 0, slots := 0, locals := lo } (fo_P Λ av I D J X) (va_Qf (fun r (u : fo_U) => post r u.1 u.2.1 u.2.2.1 u.2.2.2) (fo_B Λ) (fo_A Λ)) 0 0 (fo_A Λ)
def fx_f (l : Launch) (y : MethodName) (cc : ByteArray) (nL : Nat) (fr lo mc ms : Nat) (Λ : fo_Lt) (av : List Value) (I : fo_Mi) (D : fo_Md) (J : fo_Mj) (X : fo_Mi) (post : (UInt32) → fo_Mi → fo_Md → fo_Mj → fo_Mi → Prop) (px : String → fo_Mi → fo_Md → fo_Mj → fo_Mi → Prop) : Prop := vx_Met l y (.code y cc nL (some .float) :: fo_W0) { frames := fr, cells := mc, slots := ms, locals := lo } (fo_P Λ av I D J X) (va_Qf (fun r (u : fo_U) => post r u.1 u.2.1 u.2.2.1 u.2.2.2) (fo_B Λ) (fo_A Λ)) (vx_X (fun _ : fo_U => True) (fun E u t => px E u.1 u.2.1 u.2.2.1 u.2.2.2 ∧ fo_B Λ u t) (fo_A Λ)) mc ms (fo_A Λ)
def fk_v (l : Launch) (y : MethodName) (cc : ByteArray) (nL : Nat) (fr lo : Nat) (Λ : fo_Lt) (av : List Value) (I : fo_Mi) (D : fo_Md) (J : fo_Mj) (X : fo_Mi) (post : fo_Mi → fo_Md → fo_Mj → fo_Mi → Prop) : Prop := Met l y (.code y cc nL none :: fo_W0) { frames := fr, cells := 0, slots := 0, locals := lo } (fo_P Λ av I D J X) (va_Qv (fun (u : fo_U) => post u.1 u.2.1 u.2.2.1 u.2.2.2) (fo_B Λ) (fo_A Λ)) 0 0 (fo_A Λ)
def fx_v (l : Launch) (y : MethodName) (cc : ByteArray) (nL : Nat) (fr lo mc ms : Nat) (Λ : fo_Lt) (av : List Value) (I : fo_Mi) (D : fo_Md) (J : fo_Mj) (X : fo_Mi) (post : fo_Mi → fo_Md → fo_Mj → fo_Mi → Prop) (px : String → fo_Mi → fo_Md → fo_Mj → fo_Mi → Prop) : Prop := vx_Met l y (.code y cc nL none :: fo_W0) { frames := fr, cells := mc, slots := ms, locals := lo } (fo_P Λ av I D J X) (va_Qv (fun (u : fo_U) => post u.1 u.2.1 u.2.2.1 u.2.2.2) (fo_B Λ) (fo_A Λ)) (vx_X (fun _ : fo_U => True) (fun E u t => px E u.1 u.2.1 u.2.2.1 u.2.2.2 ∧ fo_B Λ u t) (fo_A Λ)) mc ms (fo_A Λ)
def fx_q (l : Launch) (y : MethodName) (cc : ByteArray) (nL : Nat) (ty : FieldType) (fr lo mc ms : Nat) (Λ : fo_Lt) (av : List Value) (I : fo_Mi) (D : fo_Md) (J : fo_Mj) (X : fo_Mi) (post : (Option Nat) → fo_Mi → fo_Md → fo_Mj → fo_Mi → Prop) (px : String → fo_Mi → fo_Md → fo_Mj → fo_Mi → Prop) : Prop := vx_Met l y (.code y cc nL (some ty) :: fo_W0) { frames := fr, cells := mc, slots := ms, locals := lo } (fo_P Λ av I D J X) (va_Qq (fun r (u : fo_U) => post r u.1 u.2.1 u.2.2.1 u.2.2.2) (fo_B Λ) (fo_A Λ)) (vx_X (fun _ : fo_U => True) (fun E u t => px E u.1 u.2.1 u.2.2.1 u.2.2.2 ∧ fo_B Λ u t) (fo_A Λ)) mc ms (fo_A Λ)
/-- an exception E lies thrown over the frame at pc -/
def fo_T (l : Launch) (Λ : fo_Lt) (R : Room) (K : fo_K) (cs ss pc : Nat) (lv : List (Nat × Value)) (st : List Value) (E : String) (I : fo_Mi) (D : fo_Md) (J : fo_Mj) (X : fo_Mi) : Prop :=
  ∀ (H : Heap) (locs : List Loc) (ls : Array Slot) (q : Nat) (ce : Cell), va_P Λ.1 vwCl (fo_w Λ I D J X) H → va_S (fo_A Λ) K.2.2.1.heap H locs → lv_has ls K.2.2.2.2.2.2.2.2.1 lv → H[q]? = some ce → ce.vm = .none → K.2.2.1.vm.findClass E = some ce.cls → vx_W K.1 l K.2.1 R K.2.2.1 K.2.2.2.1 K.2.2.2.2.1 K.2.2.2.2.2.1 K.2.2.2.2.2.2.1 K.2.2.2.2.2.2.2.1 H locs cs ss K.2.2.2.2.2.2.2.2.2 (F0 K.2.2.2.1 pc ls st) q
/-- what 'throw new cls()' needs of the tables -/
def fo_tf (own : String) (ik ic : Nat) (cls : String) (names : List String) : Prop := Cond.classLink own ik cls ∈ fo_W0 ∧ Cond.initialized cls ∈ fo_W0 ∧ (∀ w ∈ (vx_at0 own ic cls names).filter goodWord, w ∈ fo_W0) ∧ (∀ w ∈ (vx_at0 own ic cls names).filter (fun w => !goodWord w), w ∈ Cond.castable cls cls :: fo_ds.map Cond.declares) ∧ cls ∈ fo_xs ∧ Bundle.fit cls = true ∧ (∀ n ∈ names, Bundle.fit n = true) ∧ (∀ w ∈ Cond.classLink own ik cls :: Cond.initialized cls :: vx_at0 own ic cls names, vx_ot w = true)
theorem fo_si {l : Launch} {y : MethodName} {cc : ByteArray} {nL : Nat} {ty : FieldType} {fr lo : Nat} {Λ : fo_Lt} {av : List Value} {I : fo_Mi} {D : fo_Md} {J : fo_Mj} {X : fo_Mi} {post : (Int32) → fo_Mi → fo_Md → fo_Mj → fo_Mi → Prop} (hy : plainName y.cls = true) (lv : List (Nat × Value)) (hlv : lv_args 0 av = lv) (hfit : (lg_sl av).length ≤ nL)
  (body : ∀ K : fo_K, fo_C Λ K cc y.cls nL → (∀ {pc : Nat} {lv : List (Nat × Value)} {v : Int32} {I' : fo_Mi} {D' : fo_Md} {J' : fo_Mj} {X' : fo_Mi}, decode cc pc = .ok (.ireturn, 1) → narrow ty (.int v) = .int v → post v I' D' J' X' → fo_G l Λ { frames := fr, cells := 0, slots := 0, locals := lo } K 0 0 pc lv [.int v] I' D' J' X') → fo_G l Λ { frames := fr, cells := 0, slots := 0, locals := lo } K 0 0 0 lv [] I D J X) : fk_i l y cc nL ty fr lo Λ av I D J X post := by
  refine Met.ofW (cc := cc) (maxL := nL) (ret := (some ty)) hy rfl ?_
  intro p e s m args below meth c s₁ B hml hv
  obtain ⟨rfl, hP, hK, hO, hZ⟩ := hv
  have hx := B.exec
  have hb := B.bytes
  have hr := B.returns
  have hts := atoms_spec (ws := .code y cc nL (some ty) :: fo_W0) B.pre
  have hown : s.vm.findClass y.cls = some m.cls := findClass_of_methodNamed B.named
  have hlocks := B.notSynchronized
  have hl := lv_entry av (n := nL) hfit
  rw [hlv] at hl
  rw [lg_entry_eq]
  exact body (p, e, s, m, av.toArray, below, meth, c, nL, MQ below (va_Qi (fun r (u : fo_U) => post r u.1 u.2.1 u.2.2.1 u.2.2.2) (fo_B Λ) (fo_A Λ)) av.toArray s 0 0 (fo_A Λ)) ⟨hx, hb, hml, hown, fun w h => hts w (List.mem_cons_of_mem _ h), hK, hO, hZ, rfl⟩ (fun {pc lv} {v} {I' D' J' X'} d hn hp H locs ls hP' hS' hl' => W.zret (v := v) hx hb hr hn (fun t ht hW => ⟨⟨v, (I', D', J', X'), rfl, hp, by show va_P _ _ _ t.heap; rw [ht]; exact hP'⟩, hS'.F ht⟩) hS'.2.2 d hlocks) s.heap [] _ hP va_S.rf hl
theorem fo_sd {l : Launch} {y : MethodName} {cc : ByteArray} {nL : Nat} {fr lo : Nat} {Λ : fo_Lt} {av : List Value} {I : fo_Mi} {D : fo_Md} {J : fo_Mj} {X : fo_Mi} {post : (UInt64) → fo_Mi → fo_Md → fo_Mj → fo_Mi → Prop} (hy : plainName y.cls = true) (lv : List (Nat × Value)) (hlv : lv_args 0 av = lv) (hfit : (lg_sl av).length ≤ nL)
  (body : ∀ K : fo_K, fo_C Λ K cc y.cls nL → (∀ {pc : Nat} {lv : List (Nat × Value)} {v : UInt64} {I' : fo_Mi} {D' : fo_Md} {J' : fo_Mj} {X' : fo_Mi}, decode cc pc = .ok (.dreturn, 1) → post v I' D' J' X' → fo_G l Λ { frames := fr, cells := 0, slots := 0, locals := lo } K 0 0 pc lv [.double v] I' D' J' X') → fo_G l Λ { frames := fr, cells := 0, slots := 0, locals := lo } K 0 0 0 lv [] I D J X) : fk_d l y cc nL fr lo Λ av I D J X post := by
  refine Met.ofW (cc := cc) (maxL := nL) (ret := (some .double)) hy rfl ?_
  intro p e s m args below meth c s₁ B hml hv
  obtain ⟨rfl, hP, hK, hO, hZ⟩ := hv
  have hx := B.exec
  have hb := B.bytes
  have hr := B.returns
  have hts := atoms_spec (ws := .code y cc nL (some .double) :: fo_W0) B.pre
  have hown : s.vm.findClass y.cls = some m.cls := findClass_of_methodNamed B.named
  have hlocks := B.notSynchronized
  have hl := lv_entry av (n := nL) hfit
  rw [hlv] at hl
  rw [lg_entry_eq]
  exact body (p, e, s, m, av.toArray, below, meth, c, nL, MQ below (va_Qd (fun r (u : fo_U) => post r u.1 u.2.1 u.2.2.1 u.2.2.2) (fo_B Λ) (fo_A Λ)) av.toArray s 0 0 (fo_A Λ)) ⟨hx, hb, hml, hown, fun w h => hts w (List.mem_cons_of_mem _ h), hK, hO, hZ, rfl⟩ (fun {pc lv} {v} {I' D' J' X'} d hp H locs ls hP' hS' hl' => W.dret (v := v) hx hb hr (fun t ht hW => ⟨⟨v, (I', D', J', X'), rfl, hp, by show va_P _ _ _ t.heap; rw [ht]; exact hP'⟩, hS'.F ht⟩) hS'.2.2 d hlocks) s.heap [] _ hP va_S.rf hl
theorem fo_sl {l : Launch} {y : MethodName} {cc : ByteArray} {nL : Nat} {fr lo : Nat} {Λ : fo_Lt} {av : List Value} {I : fo_Mi} {D : fo_Md} {J : fo_Mj} {X : fo_Mi} {post : (Int64) → fo_Mi → fo_Md → fo_Mj → fo_Mi → Prop} (hy : plainName y.cls = true) (lv : List (Nat × Value)) (hlv : lv_args 0 av = lv) (hfit : (lg_sl av).length ≤ nL)
  (body : ∀ K : fo_K, fo_C Λ K cc y.cls nL → (∀ {pc : Nat} {lv : List (Nat × Value)} {v : Int64} {I' : fo_Mi} {D' : fo_Md} {J' : fo_Mj} {X' : fo_Mi}, decode cc pc = .ok (.lreturn, 1) → post v I' D' J' X' → fo_G l Λ { frames := fr, cells := 0, slots := 0, locals := lo } K 0 0 pc lv [.long v] I' D' J' X') → fo_G l Λ { frames := fr, cells := 0, slots := 0, locals := lo } K 0 0 0 lv [] I D J X) : fk_l l y cc nL fr lo Λ av I D J X post := by
  refine Met.ofW (cc := cc) (maxL := nL) (ret := (some .long)) hy rfl ?_
  intro p e s m args below meth c s₁ B hml hv
  obtain ⟨rfl, hP, hK, hO, hZ⟩ := hv
  have hx := B.exec
  have hb := B.bytes
  have hr := B.returns
  have hts := atoms_spec (ws := .code y cc nL (some .long) :: fo_W0) B.pre
  have hown : s.vm.findClass y.cls = some m.cls := findClass_of_methodNamed B.named
  have hlocks := B.notSynchronized
  have hl := lv_entry av (n := nL) hfit
  rw [hlv] at hl
  rw [lg_entry_eq]
  exact body (p, e, s, m, av.toArray, below, meth, c, nL, MQ below (va_Ql (fun r (u : fo_U) => post r u.1 u.2.1 u.2.2.1 u.2.2.2) (fo_B Λ) (fo_A Λ)) av.toArray s 0 0 (fo_A Λ)) ⟨hx, hb, hml, hown, fun w h => hts w (List.mem_cons_of_mem _ h), hK, hO, hZ, rfl⟩ (fun {pc lv} {v} {I' D' J' X'} d hp H locs ls hP' hS' hl' => W.lret (v := v) hx hb hr (fun t ht hW => ⟨⟨v, (I', D', J', X'), rfl, hp, by show va_P _ _ _ t.heap; rw [ht]; exact hP'⟩, hS'.F ht⟩) hS'.2.2 d hlocks) s.heap [] _ hP va_S.rf hl
theorem fo_sf {l : Launch} {y : MethodName} {cc : ByteArray} {nL : Nat} {fr lo : Nat} {Λ : fo_Lt} {av : List Value} {I : fo_Mi} {D : fo_Md} {J : fo_Mj} {X : fo_Mi} {post : (UInt32) → fo_Mi → fo_Md → fo_Mj → fo_Mi → Prop} (hy : plainName y.cls = true) (lv : List (Nat × Value)) (hlv : lv_args 0 av = lv) (hfit : (lg_sl av).length ≤ nL)
  (body : ∀ K : fo_K, fo_C Λ K cc y.cls nL → (∀ {pc : Nat} {lv : List (Nat × Value)} {v : UInt32} {I' : fo_Mi} {D' : fo_Md} {J' : fo_Mj} {X' : fo_Mi}, decode cc pc = .ok (.freturn, 1) → post v I' D' J' X' → fo_G l Λ { frames := fr, cells := 0, slots := 0, locals := lo } K 0 0 pc lv [.float v] I' D' J' X') → fo_G l Λ { frames := fr, cells := 0, slots := 0, locals := lo } K 0 0 0 lv [] I D J X) : fk_f l y cc nL fr lo Λ av I D J X post := by
  refine Met.ofW (cc := cc) (maxL := nL) (ret := (some .float)) hy rfl ?_
  intro p e s m args below meth c s₁ B hml hv
  obtain ⟨rfl, hP, hK, hO, hZ⟩ := hv
  have hx := B.exec
  have hb := B.bytes
  have hr := B.returns
  have hts := atoms_spec (ws := .code y cc nL (some .float) :: fo_W0) B.pre
  have hown : s.vm.findClass y.cls = some m.cls := findClass_of_methodNamed B.named
  have hlocks := B.notSynchronized
  have hl := lv_entry av (n := nL) hfit
  rw [hlv] at hl
  rw [lg_entry_eq]
  exact body (p, e, s, m, av.toArray, below, meth, c, nL, MQ below (va_Qf (fun r (u : fo_U) => post r u.1 u.2.1 u.2.2.1 u.2.2.2) (fo_B Λ) (fo_A Λ)) av.toArray s 0 0 (fo_A Λ)) ⟨hx, hb, hml, hown, fun w h => hts w (List.mem_cons_of_mem _ h), hK, hO, hZ, rfl⟩ (fun {pc lv} {v} {I' D' J' X'} d hp H locs ls hP' hS' hl' => W.fret (v := v) hx hb hr (fun t ht hW => ⟨⟨v, (I', D', J', X'), rfl, hp, by show va_P _ _ _ t.heap; rw [ht]; exact hP'⟩, hS'.F ht⟩) hS'.2.2 d hlocks) s.heap [] _ hP va_S.rf hl
theorem fo_sv {l : Launch} {y : MethodName} {cc : ByteArray} {nL : Nat} {fr lo : Nat} {Λ : fo_Lt} {av : List Value} {I : fo_Mi} {D : fo_Md} {J : fo_Mj} {X : fo_Mi} {post : fo_Mi → fo_Md → fo_Mj → fo_Mi → Prop} (hy : plainName y.cls = true) (lv : List (Nat × Value)) (hlv : lv_args 0 av = lv) (hfit : (lg_sl av).length ≤ nL)
  (body : ∀ K : fo_K, fo_C Λ K cc y.cls nL → (∀ {pc : Nat} {lv : List (Nat × Value)} {I' : fo_Mi} {D' : fo_Md} {J' : fo_Mj} {X' : fo_Mi}, decode cc pc = .ok (.return_, 1) → post I' D' J' X' → fo_G l Λ { frames := fr, cells := 0, slots := 0, locals := lo } K 0 0 pc lv [] I' D' J' X') → fo_G l Λ { frames := fr, cells := 0, slots := 0, locals := lo } K 0 0 0 lv [] I D J X) : fk_v l y cc nL fr lo Λ av I D J X post := by
  refine Met.ofW (cc := cc) (maxL := nL) (ret := none) hy rfl ?_
  intro p e s m args below meth c s₁ B hml hv
  obtain ⟨rfl, hP, hK, hO, hZ⟩ := hv
  have hx := B.exec
  have hb := B.bytes
  have hr := B.returns
  have hts := atoms_spec (ws := .code y cc nL none :: fo_W0) B.pre
  have hown : s.vm.findClass y.cls = some m.cls := findClass_of_methodNamed B.named
  have hlocks := B.notSynchronized
  have hl := lv_entry av (n := nL) hfit
  rw [hlv] at hl
  rw [lg_entry_eq]
  exact body (p, e, s, m, av.toArray, below, meth, c, nL, MQ below (va_Qv (fun (u : fo_U) => post u.1 u.2.1 u.2.2.1 u.2.2.2) (fo_B Λ) (fo_A Λ)) av.toArray s 0 0 (fo_A Λ)) ⟨hx, hb, hml, hown, fun w h => hts w (List.mem_cons_of_mem _ h), hK, hO, hZ, rfl⟩ (fun {pc lv} {I' D' J' X'} d hp H locs ls hP' hS' hl' => W.vret hx hb hr (fun t ht hW => ⟨⟨(I', D', J', X'), rfl, hp, by show va_P _ _ _ t.heap; rw [ht]; exact hP'⟩, hS'.F ht⟩) hS'.2.2 d hlocks) s.heap [] _ hP va_S.rf hl
theorem fo_sxi {l : Launch} {y : MethodName} {cc : ByteArray} {nL : Nat} {ty : FieldType} {fr lo : Nat} {mc ms : Nat} {Λ : fo_Lt} {av : List Value} {I : fo_Mi} {D : fo_Md} {J : fo_Mj} {X : fo_Mi} {post : (Int32) → fo_Mi → fo_Md → fo_Mj → fo_Mi → Prop} {px : String → fo_Mi → fo_Md → fo_Mj → fo_Mi → Prop} (hfl : l.stackTraces = false) (hy : plainName y.cls = true) (lv : List (Nat × Value)) (hlv : lv_args 0 av = lv) (hfit : (lg_sl av).length ≤ nL)
  (body : ∀ K : fo_K, fo_C Λ K cc y.cls nL → (∀ {cs ss : Nat} {pc : Nat} {lv : List (Nat × Value)} {v : Int32} {I' : fo_Mi} {D' : fo_Md} {J' : fo_Mj} {X' : fo_Mi}, decode cc pc = .ok (.ireturn, 1) → narrow ty (.int v) = .int v → cs ≤ mc → ss ≤ ms → post v I' D' J' X' → fo_G l Λ { frames := fr, cells := mc, slots := ms, locals := lo } K cs ss pc lv [.int v] I' D' J' X') → (∀ {cs ss pc : Nat} {lv : List (Nat × Value)} {st : List Value} {E : String} {I' : fo_Mi} {D' : fo_Md} {J' : fo_Mj} {X' : fo_Mi}, cs ≤ mc → ss ≤ ms → px E I' D' J' X' → fo_T l Λ { frames := fr, cells := mc, slots := ms, locals := lo } K cs ss pc lv st E I' D' J' X') → (∀ {cs ss pc ik ic : Nat} {cls : String} {names : List String} {lv : List (Nat × Value)} {st : List Value} {I' : fo_Mi} {D' : fo_Md} {J' : fo_Mj} {X' : fo_Mi}, fo_tf y.cls ik ic cls names → decode cc pc = .ok (.new ik, 3) → decode cc (pc + 3) = .ok (.dup, 1) → decode cc (pc + 4) = .ok (.invokespecial ic, 3) → decode cc (pc + 7) = .ok (.athrow, 1) → names.length + 3 < fr → (st.map fun v => v.category).sum + (13 * (names.length + 1) + 42) ≤ lo → cs + 1 ≤ mc → ss + 6 ≤ ms → px cls I' D' J' X' → fo_G l Λ { frames := fr, cells := mc, slots := ms, locals := lo } K cs ss pc lv st I' D' J' X') → fo_G l Λ { frames := fr, cells := mc, slots := ms, locals := lo } K 0 0 0 lv [] I D J X) : fx_i l y cc nL ty fr lo mc ms Λ av I D J X post px := by
  refine vx_ofW (cc := cc) (maxL := nL) (ret := (some ty)) hy rfl ?_
  intro p e s m args below meth c s₁ B hml htab hv
  obtain ⟨rfl, hP, hK, hO, hZ⟩ := hv
  have hx := B.exec
  have hb := B.bytes
  have hr := B.returns
  have hts := atoms_spec (ws := .code y cc nL (some ty) :: fo_W0) B.pre
  have hown : s.vm.findClass y.cls = some m.cls := findClass_of_methodNamed B.named
  have hlocks := B.notSynchronized
  have hl := lv_entry av (n := nL) hfit
  rw [hlv] at hl
  rw [lg_entry_eq]
  refine body (p, e, s, m, av.toArray, below, meth, c, nL, vx_MQ below (va_Qi (fun r (u : fo_U) => post r u.1 u.2.1 u.2.2.1 u.2.2.2) (fo_B Λ) (fo_A Λ)) (vx_X (fun _ : fo_U => True) (fun E u t => px E u.1 u.2.1 u.2.2.1 u.2.2.2 ∧ fo_B Λ u t) (fo_A Λ)) av.toArray s mc ms (fo_A Λ)) ⟨hx, hb, hml, hown, fun w h => hts w (List.mem_cons_of_mem _ h), hK, hO, hZ, rfl⟩ ?_ ?_ ?_ s.heap [] _ hP va_S.rf hl
  · intro cs ss pc lv v I' D' J' X' d hn h1 h2 hp H locs ls hP' hS' hl'
    refine W.widen h1 h2 (vx_ret ?_)
    exact W.zret (v := v) hx hb hr hn (fun t ht hW => ⟨⟨v, (I', D', J', X'), rfl, hp, by show va_P _ _ _ t.heap; rw [ht]; exact hP'⟩, hS'.F ht⟩) hS'.2.2 d hlocks
  · intro cs ss pc lv st E I' D' J' X' h1 h2 hp H locs ls q ce hP' hS' hl' hc hv hcl
    exact vx_out (fun z hz => absurd hz (htab z)) hlocks hc hv hcl (fun t ht hvm => ⟨(I', D', J', X'), trivial, ⟨hp, by show va_P _ _ _ _; rw [ht]; exact hP'⟩, hS'.F ht⟩) hS'.2.2 h1 h2
  · intro cs ss pc ik ic cls names lv st I' D' J' X' tf d0 d3 d4 d7 h1 h2 h3 h4 hp H locs ls hP' hS' hl'
    obtain ⟨f1, f2, f3, f4, f5, f6, f7, f8⟩ := tf
    have hw : ∀ w ∈ fo_W0, w.before av.toArray s = true := fun w h => hts w (List.mem_cons_of_mem _ h)
    refine vx_throw0 hx hb hfl hown f6 f7 (hw _ f1) (hw _ f2) (vx_hat (fun w h => hw w (f3 w h)) f4 (vx_c (va_Nw.use rfl (hZ.1.2.2.2.1 cls f5)) (fun w h => by obtain ⟨q, hq, rfl⟩ := List.mem_map.mp h; exact va_Nw.use rfl (hZ.1.2.2.2.2.2.2 q hq)))) f8 hZ.1.1 hZ.1.2.1 hS' (hl'.1.trans hml.symm) d0 d3 d4 d7 (fun z hz => absurd hz (htab z)) h1 h2 h3 h4 hlocks ?_ hS'.2.2 h3 h4
    intro t hvm hz hk
    refine ⟨(I', D', J', X'), trivial, ⟨hp, ?_⟩, ?_, ?_⟩
    · exact hP'.kept (fun k q hq => hk q.1 (hP' k q hq).lt)
    · exact Nat.le_trans hS'.1 hz
    · exact fun q h1 h2 => (hk q (Nat.lt_of_lt_of_le h1 hS'.1)).trans (hS'.2.1 q h1 h2)
theorem fo_sxd {l : Launch} {y : MethodName} {cc : ByteArray} {nL : Nat} {fr lo : Nat} {mc ms : Nat} {Λ : fo_Lt} {av : List Value} {I : fo_Mi} {D : fo_Md} {J : fo_Mj} {X : fo_Mi} {post : (UInt64) → fo_Mi → fo_Md → fo_Mj → fo_Mi → Prop} {px : String → fo_Mi → fo_Md → fo_Mj → fo_Mi → Prop} (hfl : l.stackTraces = false) (hy : plainName y.cls = true) (lv : List (Nat × Value)) (hlv : lv_args 0 av = lv) (hfit : (lg_sl av).length ≤ nL)
  (body : ∀ K : fo_K, fo_C Λ K cc y.cls nL → (∀ {cs ss : Nat} {pc : Nat} {lv : List (Nat × Value)} {v : UInt64} {I' : fo_Mi} {D' : fo_Md} {J' : fo_Mj} {X' : fo_Mi}, decode cc pc = .ok (.dreturn, 1) → cs ≤ mc → ss ≤ ms → post v I' D' J' X' → fo_G l Λ { frames := fr, cells := mc, slots := ms, locals := lo } K cs ss pc lv [.double v] I' D' J' X') → (∀ {cs ss pc : Nat} {lv : List (Nat × Value)} {st : List Value} {E : String} {I' : fo_Mi} {D' : fo_Md} {J' : fo_Mj} {X' : fo_Mi}, cs ≤ mc → ss ≤ ms → px E I' D' J' X' → fo_T l Λ { frames := fr, cells := mc, slots := ms, locals := lo } K cs ss pc lv st E I' D' J' X') → (∀ {cs ss pc ik ic : Nat} {cls : String} {names : List String} {lv : List (Nat × Value)} {st : List Value} {I' : fo_Mi} {D' : fo_Md} {J' : fo_Mj} {X' : fo_Mi}, fo_tf y.cls ik ic cls names → decode cc pc = .ok (.new ik, 3) → decode cc (pc + 3) = .ok (.dup, 1) → decode cc (pc + 4) = .ok (.invokespecial ic, 3) → decode cc (pc + 7) = .ok (.athrow, 1) → names.length + 3 < fr → (st.map fun v => v.category).sum + (13 * (names.length + 1) + 42) ≤ lo → cs + 1 ≤ mc → ss + 6 ≤ ms → px cls I' D' J' X' → fo_G l Λ { frames := fr, cells := mc, slots := ms, locals := lo } K cs ss pc lv st I' D' J' X') → fo_G l Λ { frames := fr, cells := mc, slots := ms, locals := lo } K 0 0 0 lv [] I D J X) : fx_d l y cc nL fr lo mc ms Λ av I D J X post px := by
  refine vx_ofW (cc := cc) (maxL := nL) (ret := (some .double)) hy rfl ?_
  intro p e s m args below meth c s₁ B hml htab hv
  obtain ⟨rfl, hP, hK, hO, hZ⟩ := hv
  have hx := B.exec
  have hb := B.bytes
  have hr := B.returns
  have hts := atoms_spec (ws := .code y cc nL (some .double) :: fo_W0) B.pre
  have hown : s.vm.findClass y.cls = some m.cls := findClass_of_methodNamed B.named
  have hlocks := B.notSynchronized
  have hl := lv_entry av (n := nL) hfit
  rw [hlv] at hl
  rw [lg_entry_eq]
  refine body (p, e, s, m, av.toArray, below, meth, c, nL, vx_MQ below (va_Qd (fun r (u : fo_U) => post r u.1 u.2.1 u.2.2.1 u.2.2.2) (fo_B Λ) (fo_A Λ)) (vx_X (fun _ : fo_U => True) (fun E u t => px E u.1 u.2.1 u.2.2.1 u.2.2.2 ∧ fo_B Λ u t) (fo_A Λ)) av.toArray s mc ms (fo_A Λ)) ⟨hx, hb, hml, hown, fun w h => hts w (List.mem_cons_of_mem _ h), hK, hO, hZ, rfl⟩ ?_ ?_ ?_ s.heap [] _ hP va_S.rf hl
  · intro cs ss pc lv v I' D' J' X' d h1 h2 hp H locs ls hP' hS' hl'
    refine W.widen h1 h2 (vx_ret ?_)
    exact W.dret (v := v) hx hb hr (fun t ht hW => ⟨⟨v, (I', D', J', X'), rfl, hp, by show va_P _ _ _ t.heap; rw [ht]; exact hP'⟩, hS'.F ht⟩) hS'.2.2 d hlocks
  · intro cs ss pc lv st E I' D' J' X' h1 h2 hp H locs ls q ce hP' hS' hl' hc hv hcl
    exact vx_out (fun z hz => absurd hz (htab z)) hlocks hc hv hcl (fun t ht hvm => ⟨(I', D', J', X'), trivial, ⟨hp, by show va_P _ _ _ _; rw [ht]; exact hP'⟩, hS'.F ht⟩) hS'.2.2 h1 h2
  · intro cs ss pc ik ic cls names lv st I' D' J' X' tf d0 d3 d4 d7 h1 h2 h3 h4 hp H locs ls hP' hS' hl'
    obtain ⟨f1, f2, f3, f4, f5, f6, f7, f8⟩ := tf
    have hw : ∀ w ∈ fo_W0, w.before av.toArray s = true := fun w h => hts w (List.mem_cons_of_mem _ h)
    refine vx_throw0 hx hb hfl hown f6 f7 (hw _ f1) (hw _ f2) (vx_hat (fun w h => hw w (f3 w h)) f4 (vx_c (va_Nw.use rfl (hZ.1.2.2.2.1 cls f5)) (fun w h => by obtain ⟨q, hq, rfl⟩ := List.mem_map.mp h; exact va_Nw.use rfl (hZ.1.2.2.2.2.2.2 q hq)))) f8 hZ.1.1 hZ.1.2.1 hS' (hl'.1.trans hml.symm) d0 d3 d4 d7 (fun z hz => absurd hz (htab z)) h1 h2 h3 h4 hlocks ?_ hS'.2.2 h3 h4
    intro t hvm hz hk
    refine ⟨(I', D', J', X'), trivial, ⟨hp, ?_⟩, ?_, ?_⟩
    · exact hP'.kept (fun k q hq => hk q.1 (hP' k q hq).lt)
    · exact Nat.le_trans hS'.1 hz
    · exact fun q h1 h2 => (hk q (Nat.lt_of_lt_of_le h1 hS'.1)).trans (hS'.2.1 q h1 h2)
theorem fo_sxl {l : Launch} {y : MethodName} {cc : ByteArray} {nL : Nat} {fr lo : Nat} {mc ms : Nat} {Λ : fo_Lt} {av : List Value} {I : fo_Mi} {D : fo_Md} {J : fo_Mj} {X : fo_Mi} {post : (Int64) → fo_Mi → fo_Md → fo_Mj → fo_Mi → Prop} {px : String → fo_Mi → fo_Md → fo_Mj → fo_Mi → Prop} (hfl : l.stackTraces = false) (hy : plainName y.cls = true) (lv : List (Nat × Value)) (hlv : lv_args 0 av = lv) (hfit : (lg_sl av).length ≤ nL)
  (body : ∀ K : fo_K, fo_C Λ K cc y.cls nL → (∀ {cs ss : Nat} {pc : Nat} {lv : List (Nat × Value)} {v : Int64} {I' : fo_Mi} {D' : fo_Md} {J' : fo_Mj} {X' : fo_Mi}, decode cc pc = .ok (.lreturn, 1) → cs ≤ mc → ss ≤ ms → post v I' D' J' X' → fo_G l Λ { frames := fr, cells := mc, slots := ms, locals := lo } K cs ss pc lv [.long v] I' D' J' X') → (∀ {cs ss pc : Nat} {lv : List (Nat × Value)} {st : List Value} {E : String} {I' : fo_Mi} {D' : fo_Md} {J' : fo_Mj} {X' : fo_Mi}, cs ≤ mc → ss ≤ ms → px E I' D' J' X' → fo_T l Λ { frames := fr, cells := mc, slots := ms, locals := lo } K cs ss pc lv st E I' D' J' X') → (∀ {cs ss pc ik ic : Nat} {cls : String} {names : List String} {lv : List (Nat × Value)} {st : List Value} {I' : fo_Mi} {D' : fo_Md} {J' : fo_Mj} {X' : fo_Mi}, fo_tf y.cls ik ic cls names → decode cc pc = .ok (.new ik, 3) → decode cc (pc + 3) = .ok (.dup, 1) → decode cc (pc + 4) = .ok (.invokespecial ic, 3) → decode cc (pc + 7) = .ok (.athrow, 1) → names.length + 3 < fr → (st.map fun v => v.category).sum + (13 * (names.length + 1) + 42) ≤ lo → cs + 1 ≤ mc → ss + 6 ≤ ms → px cls I' D' J' X' → fo_G l Λ { frames := fr, cells := mc, slots := ms, locals := lo } K cs ss pc lv st I' D' J' X') → fo_G l Λ { frames := fr, cells := mc, slots := ms, locals := lo } K 0 0 0 lv [] I D J X) : fx_l l y cc nL fr lo mc ms Λ av I D J X post px := by
  refine vx_ofW (cc := cc) (maxL := nL) (ret := (some .long)) hy rfl ?_
  intro p e s m args below meth c s₁ B hml htab hv
  obtain ⟨rfl, hP, hK, hO, hZ⟩ := hv
  have hx := B.exec
  have hb := B.bytes
  have hr := B.returns
  have hts := atoms_spec (ws := .code y cc nL (some .long) :: fo_W0) B.pre
  have hown : s.vm.findClass y.cls = some m.cls := findClass_of_methodNamed B.named
  have hlocks := B.notSynchronized
  have hl := lv_entry av (n := nL) hfit
  rw [hlv] at hl
  rw [lg_entry_eq]
  refine body (p, e, s, m, av.toArray, below, meth, c, nL, vx_MQ below (va_Ql (fun r (u : fo_U) => post r u.1 u.2.1 u.2.2.1 u.2.2.2) (fo_B Λ) (fo_A Λ)) (vx_X (fun _ : fo_U => True) (fun E u t => px E u.1 u.2.1 u.2.2.1 u.2.2.2 ∧ fo_B Λ u t) (fo_A Λ)) av.toArray s mc ms (fo_A Λ)) ⟨hx, hb, hml, hown, fun w h => hts w (List.mem_cons_of_mem _ h), hK, hO, hZ, rfl⟩ ?_ ?_ ?_ s.heap [] _ hP va_S.rf hl
  · intro cs ss pc lv v I' D' J' X' d h1 h2 hp H locs ls hP' hS' hl'
    refine W.widen h1 h2 (vx_ret ?_)
    exact W.lret (v := v) hx hb hr (fun t ht hW => ⟨⟨v, (I', D', J', X'), rfl, hp, by show va_P _ _ _ t.heap; rw [ht]; exact hP'⟩, hS'.F ht⟩) hS'.2.2 d hlocks
  · intro cs ss pc lv st E I' D' J' X' h1 h2 hp H locs ls q ce hP' hS' hl' hc hv hcl
    exact vx_out (fun z hz => absurd hz (htab z)) hlocks hc hv hcl (fun t ht hvm => ⟨(I', D', J', X'), trivial, ⟨hp, by show va_P _ _ _ _; rw [ht]; exact hP'⟩, hS'.F ht⟩) hS'.2.2 h1 h2
  · intro cs ss pc ik ic cls names lv st I' D' J' X' tf d0 d3 d4 d7 h1 h2 h3 h4 hp H locs ls hP' hS' hl'
    obtain ⟨f1, f2, f3, f4, f5, f6, f7, f8⟩ := tf
    have hw : ∀ w ∈ fo_W0, w.before av.toArray s = true := fun w h => hts w (List.mem_cons_of_mem _ h)
    refine vx_throw0 hx hb hfl hown f6 f7 (hw _ f1) (hw _ f2) (vx_hat (fun w h => hw w (f3 w h)) f4 (vx_c (va_Nw.use rfl (hZ.1.2.2.2.1 cls f5)) (fun w h => by obtain ⟨q, hq, rfl⟩ := List.mem_map.mp h; exact va_Nw.use rfl (hZ.1.2.2.2.2.2.2 q hq)))) f8 hZ.1.1 hZ.1.2.1 hS' (hl'.1.trans hml.symm) d0 d3 d4 d7 (fun z hz => absurd hz (htab z)) h1 h2 h3 h4 hlocks ?_ hS'.2.2 h3 h4
    intro t hvm hz hk
    refine ⟨(I', D', J', X'), trivial, ⟨hp, ?_⟩, ?_, ?_⟩
    · exact hP'.kept (fun k q hq => hk q.1 (hP' k q hq).lt)
    · exact Nat.le_trans hS'.1 hz
    · exact fun q h1 h2 => (hk q (Nat.lt_of_lt_of_le h1 hS'.1)).trans (hS'.2.1 q h1 h2)
theorem fo_sxf {l : Launch} {y : MethodName} {cc : ByteArray} {nL : Nat} {fr lo : Nat} {mc ms : Nat} {Λ : fo_Lt} {av : List Value} {I : fo_Mi} {D : fo_Md} {J : fo_Mj} {X : fo_Mi} {post : (UInt32) → fo_Mi → fo_Md → fo_Mj → fo_Mi → Prop} {px : String → fo_Mi → fo_Md → fo_Mj → fo_Mi → Prop} (hfl : l.stackTraces = false) (hy : plainName y.cls = true) (lv : List (Nat × Value)) (hlv : lv_args 0 av = lv) (hfit : (lg_sl av).length ≤ nL)
  (body : ∀ K : fo_K, fo_C Λ K cc y.cls nL → (∀ {cs ss : Nat} {pc : Nat} {lv : List (Nat × Value)} {v : UInt32} {I' : fo_Mi} {D' : fo_Md} {J' : fo_Mj} {X' : fo_Mi}, decode cc pc = .ok (.freturn, 1) → cs ≤ mc → ss ≤ ms → post v I' D' J' X' → fo_G l Λ { frames := fr, cells := mc, slots := ms, locals := lo } K cs ss pc lv [.float v] I' D' J' X') → (∀ {cs ss pc : Nat} {lv : List (Nat × Value)} {st : List Value} {E : String} {I' : fo_Mi} {D' : fo_Md} {J' : fo_Mj} {X' : fo_Mi}, cs ≤ mc → ss ≤ ms → px E I' D' J' X' → fo_T l Λ { frames := fr, cells := mc, slots := ms, locals := lo } K cs ss pc lv st E I' D' J' X') → (∀ {cs ss pc ik ic : Nat} {cls : String} {names : List String} {lv : List (Nat × Value)} {st : List Value} {I' : fo_Mi} {D' : fo_Md} {J' : fo_Mj} {X' : fo_Mi}, fo_tf y.cls ik ic cls names → decode cc pc = .ok (.new ik, 3) → decode cc (pc + 3) = .ok (.dup, 1) → decode cc (pc + 4) = .ok (.invokespecial ic, 3) → decode cc (pc + 7) = .ok (.athrow, 1) → names.length + 3 < fr → (st.map fun v => v.category).sum + (13 * (names.length + 1) + 42) ≤ lo → cs + 1 ≤ mc → ss + 6 ≤ ms → px cls I' D' J' X' → fo_G l Λ { frames := fr, cells := mc, slots := ms, locals := lo } K cs ss pc lv st I' D' J' X') → fo_G l Λ { frames := fr, cells := mc, slots := ms, locals := lo } K 0 0 0 lv [] I D J X) : fx_f l y cc nL fr lo mc ms Λ av I D J X post px := by
  refine vx_ofW (cc := cc) (maxL := nL) (ret := (some .float)) hy rfl ?_
  intro p e s m args below meth c s₁ B hml htab hv
  obtain ⟨rfl, hP, hK, hO, hZ⟩ := hv
  have hx := B.exec
  have hb := B.bytes
  have hr := B.returns
  have hts := atoms_spec (ws := .code y cc nL (some .float) :: fo_W0) B.pre
  have hown : s.vm.findClass y.cls = some m.cls := findClass_of_methodNamed B.named
  have hlocks := B.notSynchronized
  have hl := lv_entry av (n := nL) hfit
  rw [hlv] at hl
  rw [lg_entry_eq]
  refine body (p, e, s, m, av.toArray, below, meth, c, nL, vx_MQ below (va_Qf (fun r (u : fo_U) => post r u.1 u.2.1 u.2.2.1 u.2.2.2) (fo_B Λ) (fo_A Λ)) (vx_X (fun _ : fo_U => True) (fun E u t => px E u.1 u.2.1 u.2.2.1 u.2.2.2 ∧ fo_B Λ u t) (fo_A Λ)) av.toArray s mc ms (fo_A Λ)) ⟨hx, hb, hml, hown, fun w h => hts w (List.mem_cons_of_mem _ h), hK, hO, hZ, rfl⟩ ?_ ?_ ?_ s.heap [] _ hP va_S.rf hl
  · intro cs ss pc lv v I' D' J' X' d h1 h2 hp H locs ls hP' hS' hl'
    refine W.widen h1 h2 (vx_ret ?_)
    exact W.fret (v := v) hx hb hr (fun t ht hW => ⟨⟨v, (I', D', J', X'), rfl, hp, by show va_P _ _ _ t.heap; rw [ht]; exact hP'⟩, hS'.F ht⟩) hS'.2.2 d hlocks
  · intro cs ss pc lv st E I' D' J' X' h1 h2 hp H locs ls q ce hP' hS' hl' hc hv hcl
    exact vx_out (fun z hz => absurd hz (htab z)) hlocks hc hv hcl (fun t ht hvm => ⟨(I', D', J', X'), trivial, ⟨hp, by show va_P _ _ _ _; rw [ht]; exact hP'⟩, hS'.F ht⟩) hS'.2.2 h1 h2
  · intro cs ss pc ik ic cls names lv st I' D' J' X' tf d0 d3 d4 d7 h1 h2 h3 h4 hp H locs ls hP' hS' hl'
    obtain ⟨f1, f2, f3, f4, f5, f6, f7, f8⟩ := tf
    have hw : ∀ w ∈ fo_W0, w.before av.toArray s = true := fun w h => hts w (List.mem_cons_of_mem _ h)
    refine vx_throw0 hx hb hfl hown f6 f7 (hw _ f1) (hw _ f2) (vx_hat (fun w h => hw w (f3 w h)) f4 (vx_c (va_Nw.use rfl (hZ.1.2.2.2.1 cls f5)) (fun w h => by obtain ⟨q, hq, rfl⟩ := List.mem_map.mp h; exact va_Nw.use rfl (hZ.1.2.2.2.2.2.2 q hq)))) f8 hZ.1.1 hZ.1.2.1 hS' (hl'.1.trans hml.symm) d0 d3 d4 d7 (fun z hz => absurd hz (htab z)) h1 h2 h3 h4 hlocks ?_ hS'.2.2 h3 h4
    intro t hvm hz hk
    refine ⟨(I', D', J', X'), trivial, ⟨hp, ?_⟩, ?_, ?_⟩
    · exact hP'.kept (fun k q hq => hk q.1 (hP' k q hq).lt)
    · exact Nat.le_trans hS'.1 hz
    · exact fun q h1 h2 => (hk q (Nat.lt_of_lt_of_le h1 hS'.1)).trans (hS'.2.1 q h1 h2)
theorem fo_sxv {l : Launch} {y : MethodName} {cc : ByteArray} {nL : Nat} {fr lo : Nat} {mc ms : Nat} {Λ : fo_Lt} {av : List Value} {I : fo_Mi} {D : fo_Md} {J : fo_Mj} {X : fo_Mi} {post : fo_Mi → fo_Md → fo_Mj → fo_Mi → Prop} {px : String → fo_Mi → fo_Md → fo_Mj → fo_Mi → Prop} (hfl : l.stackTraces = false) (hy : plainName y.cls = true) (lv : List (Nat × Value)) (hlv : lv_args 0 av = lv) (hfit : (lg_sl av).length ≤ nL)
  (body : ∀ K : fo_K, fo_C Λ K cc y.cls nL → (∀ {cs ss : Nat} {pc : Nat} {lv : List (Nat × Value)} {I' : fo_Mi} {D' : fo_Md} {J' : fo_Mj} {X' : fo_Mi}, decode cc pc = .ok (.return_, 1) → cs ≤ mc → ss ≤ ms → post I' D' J' X' → fo_G l Λ { frames := fr, cells := mc, slots := ms, locals := lo } K cs ss pc lv [] I' D' J' X') → (∀ {cs ss pc : Nat} {lv : List (Nat × Value)} {st : List Value} {E : String} {I' : fo_Mi} {D' : fo_Md} {J' : fo_Mj} {X' : fo_Mi}, cs ≤ mc → ss ≤ ms → px E I' D' J' X' → fo_T l Λ { frames := fr, cells := mc, slots := ms, locals := lo } K cs ss pc lv st E I' D' J' X') → (∀ {cs ss pc ik ic : Nat} {cls : String} {names : List String} {lv : List (Nat × Value)} {st : List Value} {I' : fo_Mi} {D' : fo_Md} {J' : fo_Mj} {X' : fo_Mi}, fo_tf y.cls ik ic cls names → decode cc pc = .ok (.new ik, 3) → decode cc (pc + 3) = .ok (.dup, 1) → decode cc (pc + 4) = .ok (.invokespecial ic, 3) → decode cc (pc + 7) = .ok (.athrow, 1) → names.length + 3 < fr → (st.map fun v => v.category).sum + (13 * (names.length + 1) + 42) ≤ lo → cs + 1 ≤ mc → ss + 6 ≤ ms → px cls I' D' J' X' → fo_G l Λ { frames := fr, cells := mc, slots := ms, locals := lo } K cs ss pc lv st I' D' J' X') → fo_G l Λ { frames := fr, cells := mc, slots := ms, locals := lo } K 0 0 0 lv [] I D J X) : fx_v l y cc nL fr lo mc ms Λ av I D J X post px := by
  refine vx_ofW (cc := cc) (maxL := nL) (ret := none) hy rfl ?_
  intro p e s m args below meth c s₁ B hml htab hv
  obtain ⟨rfl, hP, hK, hO, hZ⟩ := hv
  have hx := B.exec
  have hb := B.bytes
  have hr := B.returns
  have hts := atoms_spec (ws := .code y cc nL none :: fo_W0) B.pre
  have hown : s.vm.findClass y.cls = some m.cls := findClass_of_methodNamed B.named
  have hlocks := B.notSynchronized
  have hl := lv_entry av (n := nL) hfit
  rw [hlv] at hl
  rw [lg_entry_eq]
  refine body (p, e, s, m, av.toArray, below, meth, c, nL, vx_MQ below (va_Qv (fun (u : fo_U) => post u.1 u.2.1 u.2.2.1 u.2.2.2) (fo_B Λ) (fo_A Λ)) (vx_X (fun _ : fo_U => True) (fun E u t => px E u.1 u.2.1 u.2.2.1 u.2.2.2 ∧ fo_B Λ u t) (fo_A Λ)) av.toArray s mc ms (fo_A Λ)) ⟨hx, hb, hml, hown, fun w h => hts w (List.mem_cons_of_mem _ h), hK, hO, hZ, rfl⟩ ?_ ?_ ?_ s.heap [] _ hP va_S.rf hl
  · intro cs ss pc lv I' D' J' X' d h1 h2 hp H locs ls hP' hS' hl'
    refine W.widen h1 h2 (vx_ret ?_)
    exact W.vret hx hb hr (fun t ht hW => ⟨⟨(I', D', J', X'), rfl, hp, by show va_P _ _ _ t.heap; rw [ht]; exact hP'⟩, hS'.F ht⟩) hS'.2.2 d hlocks
  · intro cs ss pc lv st E I' D' J' X' h1 h2 hp H locs ls q ce hP' hS' hl' hc hv hcl
    exact vx_out (fun z hz => absurd hz (htab z)) hlocks hc hv hcl (fun t ht hvm => ⟨(I', D', J', X'), trivial, ⟨hp, by show va_P _ _ _ _; rw [ht]; exact hP'⟩, hS'.F ht⟩) hS'.2.2 h1 h2
  · intro cs ss pc ik ic cls names lv st I' D' J' X' tf d0 d3 d4 d7 h1 h2 h3 h4 hp H locs ls hP' hS' hl'
    obtain ⟨f1, f2, f3, f4, f5, f6, f7, f8⟩ := tf
    have hw : ∀ w ∈ fo_W0, w.before av.toArray s = true := fun w h => hts w (List.mem_cons_of_mem _ h)
    refine vx_throw0 hx hb hfl hown f6 f7 (hw _ f1) (hw _ f2) (vx_hat (fun w h => hw w (f3 w h)) f4 (vx_c (va_Nw.use rfl (hZ.1.2.2.2.1 cls f5)) (fun w h => by obtain ⟨q, hq, rfl⟩ := List.mem_map.mp h; exact va_Nw.use rfl (hZ.1.2.2.2.2.2.2 q hq)))) f8 hZ.1.1 hZ.1.2.1 hS' (hl'.1.trans hml.symm) d0 d3 d4 d7 (fun z hz => absurd hz (htab z)) h1 h2 h3 h4 hlocks ?_ hS'.2.2 h3 h4
    intro t hvm hz hk
    refine ⟨(I', D', J', X'), trivial, ⟨hp, ?_⟩, ?_, ?_⟩
    · exact hP'.kept (fun k q hq => hk q.1 (hP' k q hq).lt)
    · exact Nat.le_trans hS'.1 hz
    · exact fun q h1 h2 => (hk q (Nat.lt_of_lt_of_le h1 hS'.1)).trans (hS'.2.1 q h1 h2)
theorem fo_sxq {l : Launch} {y : MethodName} {cc : ByteArray} {nL : Nat} {ty : FieldType} {fr lo : Nat} {mc ms : Nat} {Λ : fo_Lt} {av : List Value} {I : fo_Mi} {D : fo_Md} {J : fo_Mj} {X : fo_Mi} {post : (Option Nat) → fo_Mi → fo_Md → fo_Mj → fo_Mi → Prop} {px : String → fo_Mi → fo_Md → fo_Mj → fo_Mi → Prop} (hfl : l.stackTraces = false) (hy : plainName y.cls = true) (lv : List (Nat × Value)) (hlv : lv_args 0 av = lv) (hfit : (lg_sl av).length ≤ nL)
  (body : ∀ K : fo_K, fo_C Λ K cc y.cls nL → (∀ {cs ss : Nat} {pc : Nat} {lv : List (Nat × Value)} {v : Option Nat} {I' : fo_Mi} {D' : fo_Md} {J' : fo_Mj} {X' : fo_Mi}, decode cc pc = .ok (.areturn, 1) → ((∃ n, ty = .object n) ∨ ∃ t, ty = .array t) → cs ≤ mc → ss ≤ ms → post v I' D' J' X' → fo_G l Λ { frames := fr, cells := mc, slots := ms, locals := lo } K cs ss pc lv [va_rf v] I' D' J' X') → (∀ {cs ss pc : Nat} {lv : List (Nat × Value)} {st : List Value} {E : String} {I' : fo_Mi} {D' : fo_Md} {J' : fo_Mj} {X' : fo_Mi}, cs ≤ mc → ss ≤ ms → px E I' D' J' X' → fo_T l Λ { frames := fr, cells := mc, slots := ms, locals := lo } K cs ss pc lv st E I' D' J' X') → (∀ {cs ss pc ik ic : Nat} {cls : String} {names : List String} {lv : List (Nat × Value)} {st : List Value} {I' : fo_Mi} {D' : fo_Md} {J' : fo_Mj} {X' : fo_Mi}, fo_tf y.cls ik ic cls names → decode cc pc = .ok (.new ik, 3) → decode cc (pc + 3) = .ok (.dup, 1) → decode cc (pc + 4) = .ok (.invokespecial ic, 3) → decode cc (pc + 7) = .ok (.athrow, 1) → names.length + 3 < fr → (st.map fun v => v.category).sum + (13 * (names.length + 1) + 42) ≤ lo → cs + 1 ≤ mc → ss + 6 ≤ ms → px cls I' D' J' X' → fo_G l Λ { frames := fr, cells := mc, slots := ms, locals := lo } K cs ss pc lv st I' D' J' X') → fo_G l Λ { frames := fr, cells := mc, slots := ms, locals := lo } K 0 0 0 lv [] I D J X) : fx_q l y cc nL ty fr lo mc ms Λ av I D J X post px := by
  refine vx_ofW (cc := cc) (maxL := nL) (ret := (some ty)) hy rfl ?_
  intro p e s m args below meth c s₁ B hml htab hv
  obtain ⟨rfl, hP, hK, hO, hZ⟩ := hv
  have hx := B.exec
  have hb := B.bytes
  have hr := B.returns
  have hts := atoms_spec (ws := .code y cc nL (some ty) :: fo_W0) B.pre
  have hown : s.vm.findClass y.cls = some m.cls := findClass_of_methodNamed B.named
  have hlocks := B.notSynchronized
  have hl := lv_entry av (n := nL) hfit
  rw [hlv] at hl
  rw [lg_entry_eq]
  refine body (p, e, s, m, av.toArray, below, meth, c, nL, vx_MQ below (va_Qq (fun r (u : fo_U) => post r u.1 u.2.1 u.2.2.1 u.2.2.2) (fo_B Λ) (fo_A Λ)) (vx_X (fun _ : fo_U => True) (fun E u t => px E u.1 u.2.1 u.2.2.1 u.2.2.2 ∧ fo_B Λ u t) (fo_A Λ)) av.toArray s mc ms (fo_A Λ)) ⟨hx, hb, hml, hown, fun w h => hts w (List.mem_cons_of_mem _ h), hK, hO, hZ, rfl⟩ ?_ ?_ ?_ s.heap [] _ hP va_S.rf hl
  · intro cs ss pc lv v I' D' J' X' d hn h1 h2 hp H locs ls hP' hS' hl'
    refine W.widen h1 h2 (vx_ret ?_)
    exact W.aret (v := va_rf v) hx hb hr hn (by cases v with | none => exact Or.inl rfl | some a => exact Or.inr ⟨a, rfl⟩) (fun t ht hW => ⟨⟨v, (I', D', J', X'), rfl, hp, by show va_P _ _ _ t.heap; rw [ht]; exact hP'⟩, hS'.F ht⟩) hS'.2.2 d hlocks
  · intro cs ss pc lv st E I' D' J' X' h1 h2 hp H locs ls q ce hP' hS' hl' hc hv hcl
    exact vx_out (fun z hz => absurd hz (htab z)) hlocks hc hv hcl (fun t ht hvm => ⟨(I', D', J', X'), trivial, ⟨hp, by show va_P _ _ _ _; rw [ht]; exact hP'⟩, hS'.F ht⟩) hS'.2.2 h1 h2
  · intro cs ss pc ik ic cls names lv st I' D' J' X' tf d0 d3 d4 d7 h1 h2 h3 h4 hp H locs ls hP' hS' hl'
    obtain ⟨f1, f2, f3, f4, f5, f6, f7, f8⟩ := tf
    have hw : ∀ w ∈ fo_W0, w.before av.toArray s = true := fun w h => hts w (List.mem_cons_of_mem _ h)
    refine vx_throw0 hx hb hfl hown f6 f7 (hw _ f1) (hw _ f2) (vx_hat (fun w h => hw w (f3 w h)) f4 (vx_c (va_Nw.use rfl (hZ.1.2.2.2.1 cls f5)) (fun w h => by obtain ⟨q, hq, rfl⟩ := List.mem_map.mp h; exact va_Nw.use rfl (hZ.1.2.2.2.2.2.2 q hq)))) f8 hZ.1.1 hZ.1.2.1 hS' (hl'.1.trans hml.symm) d0 d3 d4 d7 (fun z hz => absurd hz (htab z)) h1 h2 h3 h4 hlocks ?_ hS'.2.2 h3 h4
    intro t hvm hz hk
    refine ⟨(I', D', J', X'), trivial, ⟨hp, ?_⟩, ?_, ?_⟩
    · exact hP'.kept (fun k q hq => hk q.1 (hP' k q hq).lt)
    · exact Nat.le_trans hS'.1 hz
    · exact fun q h1 h2 => (hk q (Nat.lt_of_lt_of_le h1 hS'.1)).trans (hS'.2.1 q h1 h2)
section
variable {p : Program} {l : Launch} {e : Env} {R : Room} {s : State} {m : MethodId} {args : Array Value} {below : List Frame} {meth : Method} {c : Code} {H : Heap} {locs : List Loc} {cells slots : Nat} {Q : State → Prop}
variable {mc ms : Nat} {free : Addr → Prop} {A0 A1 : Nat → Prop} {H0 : Heap} {a : Array Value} {pc : Nat} {ls : Array Slot} {st0 rest : List Value}
theorem vx_callq {S SX : Type} {post : Option Nat → S → Prop} {px : SX → Prop} {B : S → State → Prop} {BX : String → SX → State → Prop} {AX : Nat → Prop} (hr : vx_Run p l e R s m args below meth c H locs cells slots mc ms (F0 m pc ls st0) rest (va_Qq post B A1 a) (vx_X px BX AX) free) (hS : va_S A0 H0 H locs) (hA : ∀ q, q < H.size → A1 q → A0 q) (hf : ∀ q, free q → A0 q) (hAX : ∀ q, q < H.size → AX q → A0 q)
    (kx : ∀ (E : String) (ce : Cell) (q9 : Addr) (u : SX) (t : State) (H1 : Heap) (locs1 : List Loc), t.heap = H1 → s.vm.Alike t.vm → px u → BX E u t → H.size ≤ H1.size → (∀ q : Nat, q < H.size → ¬ AX q → H1[q]? = H[q]?) → va_S A0 H0 H1 locs1 → H1[q9]? = some ce → ce.vm = .none → s.vm.findClass E = some ce.cls → vx_W p l e R s m args below meth c H1 locs1 (cells + mc) (slots + ms) Q (F0 m pc ls rest) q9)
    (kk : ∀ (r : Option Nat) (u : S) (t : State) (H1 : Heap) (locs1 : List Loc), t.heap = H1 → s.vm.Alike t.vm → post r u → B u t → H.size ≤ H1.size → (∀ q : Nat, q < H.size → ¬ A1 q → H1[q]? = H[q]?) → va_S A0 H0 H1 locs1 → W p l e R s m args below meth c H1 locs1 (cells + mc) (slots + ms) Q (F0 m (pc + 3) ls (va_rf r :: rest))) : W p l e R s m args below meth c H locs cells slots Q (F0 m pc ls st0) := by
  intro T hT X
  rcases hr T hT X with ⟨v, st₀, t, T', L, h0, X', hL, e1, e2, ⟨⟨r, u, hv, hp, hb⟩, hF⟩, st⟩ | ⟨q, st₀, t, T', L, E, ce, h0, X', hL, e1, e2, ⟨u, hp, hb, hF⟩, hce, hcv, hcl, st⟩
  · cases hv
    obtain ⟨k1, k2, k3⟩ := vx_keep h0 e1 hS hA hf hL hF
    obtain ⟨t2, a1, b1⟩ := kk r u t T'.heap (locs ++ L) e1.symm (by rw [← e2]; exact X'.warmed.alike) hp hb k1 k2 k3 T' rfl X'
    exact ⟨t2, st t2 a1, b1⟩
  · obtain ⟨k1, k2, k3⟩ := vx_keep h0 e1 hS hAX hf hL hF
    obtain ⟨t2, a1, b1⟩ := kx E ce q u t T'.heap (locs ++ L) e1.symm (by rw [← e2]; exact X'.warmed.alike) hp hb k1 k2 k3 (by rw [e1]; exact hce) hcv hcl T' rfl X'
    exact ⟨t2, st.trans a1, b1⟩
end
section FOC
variable {l : Launch} {Λ : fo_Lt} {R : Room} {K : fo_K} {cc : ByteArray} {own : String} {nL cs ss pc : Nat} {lv : List (Nat × Value)} {st st0 : List Value} {I : fo_Mi} {D : fo_Md} {J : fo_Mj} {X : fo_Mi}
variable {y : MethodName} {bytes : ByteArray} {maxL fr lo mc ms n idx id ci : Nat} {As : List Value}
theorem fo_qvi (C : fo_C Λ K cc own nL) {ty : FieldType} {post : (Int32) → fo_Mi → fo_Md → fo_Mj → fo_Mi → Prop} (d : decode cc pc = .ok (.invokevirtual idx, 3)) (hM : fk_i l y bytes maxL ty fr lo Λ (.ref (Λ.2.2.1 id) :: As) I D J X post) (hl : fo_lv own idx y bytes maxL (some ty) n) (hk : fo_k id = ci) (hcl : (vwCl[ci]?).map (fun q => q.1) = some y.cls) (hci : ci < 20) (hn : As.length = n) (hR : fr + 1 ≤ R.frames ∧ 8 + (maxL + 11) + lo ≤ R.locals) (hf : cs ≤ R.cells ∧ ss ≤ R.slots) (st : List Value) (hst : st0 = As.reverse ++ .ref (Λ.2.2.1 id) :: st) (hW : (st.map fun v => v.category).sum ≤ 8) (n' : Nat) (hn' : pc + 3 = n') (k : ∀ (r : Int32) (I' : fo_Mi) (D' : fo_Md) (J' : fo_Mj) (X' : fo_Mi), post r I' D' J' X' → fo_G l Λ R K cs ss n' lv (.int r :: st) I' D' J' X') : fo_G l Λ R K cs ss pc lv st0 I D J X := by
  intro H locs ls hP hS hl9
  subst hn'
  subst hst
  refine va_calli (va_runV (As := As) (rest := st) C.fix hM (cwV n C.2.2.2.2.1 hl.1 rfl rfl rfl ⟨rfl, hl.2⟩ hR) ⟨fo_PB, by obtain ⟨q, hq, hq1⟩ : ∃ q, vwCl[ci]? = some q ∧ q.1 = y.cls := (by cases hz : vwCl[ci]? with | none => (rw [hz] at hcl; cases hcl) | some q => (rw [hz] at hcl; exact ⟨q, rfl, Option.some.inj hcl⟩)); rw [← hq1]; exact va_recv C.vk hP hq (fo_obj hk hci), fun U hU hW9 => fo_pre hP hS C.vk C.ok C.zq hU hW9⟩ rfl hn (hl9.1.trans C.nl) rfl (lv_room hW) d ⟨hf.1, hf.2⟩) hS (fun q _ h => h) (fun q h => h) (fun r u t H1 locs1 ht hvm hw hB hz1 hk1 hS1 => ?_)
  · obtain ⟨I', D', J', X'⟩ := u
    exact k r I' D' J' X' hw H1 locs1 ls (by rw [← ht]; exact hB) hS1 hl9
theorem fo_qsi (C : fo_C Λ K cc own nL) {ty : FieldType} {post : (Int32) → fo_Mi → fo_Md → fo_Mj → fo_Mi → Prop} (d : decode cc pc = .ok (.invokestatic idx, 3)) (hM : fk_i l y bytes maxL ty fr lo Λ As I D J X post) (hl : fo_ls own idx y bytes maxL (some ty) n) (hn : As.length = n) (hR : fr + 1 ≤ R.frames ∧ 8 + (maxL + 11) + lo ≤ R.locals) (hf : cs ≤ R.cells ∧ ss ≤ R.slots) (st : List Value) (hst : st0 = As.reverse ++ st) (hW : (st.map fun v => v.category).sum ≤ 8) (n' : Nat) (hn' : pc + 3 = n') (k : ∀ (r : Int32) (I' : fo_Mi) (D' : fo_Md) (J' : fo_Mj) (X' : fo_Mi), post r I' D' J' X' → fo_G l Λ R K cs ss n' lv (.int r :: st) I' D' J' X') : fo_G l Λ R K cs ss pc lv st0 I D J X := by
  intro H locs ls hP hS hl9
  subst hn'
  subst hst
  refine va_calli (va_runS (As := As) (rest := st) C.fix hM (cwS n C.2.2.2.2.1 hl.1 rfl rfl rfl hl.2 hR) ⟨fo_PB, fun U hU hW9 => fo_pre hP hS C.vk C.ok C.zq hU hW9⟩ rfl hn (hl9.1.trans C.nl) rfl (lv_room hW) d ⟨hf.1, hf.2⟩) hS (fun q _ h => h) (fun q h => h) (fun r u t H1 locs1 ht hvm hw hB hz1 hk1 hS1 => ?_)
  · obtain ⟨I', D', J', X'⟩ := u
    exact k r I' D' J' X' hw H1 locs1 ls (by rw [← ht]; exact hB) hS1 hl9
theorem fo_qni (C : fo_C Λ K cc own nL) {ty : FieldType} {post : (Int32) → fo_Mi → fo_Md → fo_Mj → fo_Mi → Prop} (d : decode cc pc = .ok (.invokestatic idx, 3)) (hM : fk_i l y bytes maxL ty fr lo Λ As I D J X post) (hl : fo_ln own idx y bytes maxL (some ty) n) (hn : As.length = n) (hR : fr + 1 ≤ R.frames ∧ 8 + (maxL + 11) + lo ≤ R.locals) (hf : cs ≤ R.cells ∧ ss ≤ R.slots) (st : List Value) (hst : st0 = As.reverse ++ st) (hW : (st.map fun v => v.category).sum ≤ 8) (n' : Nat) (hn' : pc + 3 = n') (k : ∀ (r : Int32) (I' : fo_Mi) (D' : fo_Md) (J' : fo_Mj) (X' : fo_Mi), post r I' D' J' X' → fo_G l Λ R K cs ss n' lv (.int r :: st) I' D' J' X') : fo_G l Λ R K cs ss pc lv st0 I D J X := by
  intro H locs ls hP hS hl9
  subst hn'
  subst hst
  refine va_calli (va_runSN (As := As) (rest := st) C.fix hM ⟨va_cnB n C.2.2.2.2.1 (fo_gl (fun w hw => (List.mem_cons.mp hw).elim (fun q => by rw [q]; exact hl.2.2.2.1) (fun q => q))) rfl rfl rfl (C.zz.2.2.2.2.1 _ hl.1) (C.2.2.2.2.1 _ hl.2.1) hl.2.2.2.2 hR, C.2.2.2.2.1 _ hl.2.2.1, trivial⟩ ⟨fo_PB, fun U hU hW9 => fo_pre hP hS C.vk C.ok C.zq hU hW9⟩ rfl hn (hl9.1.trans C.nl) rfl (lv_room hW) d ⟨hf.1, hf.2⟩) hS (fun q _ h => h) (fun q h => h) (fun r u t H1 locs1 ht hvm hw hB hz1 hk1 hS1 => ?_)
  · obtain ⟨I', D', J', X'⟩ := u
    exact k r I' D' J' X' hw H1 locs1 ls (by rw [← ht]; exact hB) hS1 hl9
theorem fo_qvd (C : fo_C Λ K cc own nL) {post : (UInt64) → fo_Mi → fo_Md → fo_Mj → fo_Mi → Prop} (d : decode cc pc = .ok (.invokevirtual idx, 3)) (hM : fk_d l y bytes maxL fr lo Λ (.ref (Λ.2.2.1 id) :: As) I D J X post) (hl : fo_lv own idx y bytes maxL (some .double) n) (hk : fo_k id = ci) (hcl : (vwCl[ci]?).map (fun q => q.1) = some y.cls) (hci : ci < 20) (hn : As.length = n) (hR : fr + 1 ≤ R.frames ∧ 8 + (maxL + 11) + lo ≤ R.locals) (hf : cs ≤ R.cells ∧ ss ≤ R.slots) (st : List Value) (hst : st0 = As.reverse ++ .ref (Λ.2.2.1 id) :: st) (hW : (st.map fun v => v.category).sum ≤ 8) (n' : Nat) (hn' : pc + 3 = n') (k : ∀ (r : UInt64) (I' : fo_Mi) (D' : fo_Md) (J' : fo_Mj) (X' : fo_Mi), post r I' D' J' X' → fo_G l Λ R K cs ss n' lv (.double r :: st) I' D' J' X') : fo_G l Λ R K cs ss pc lv st0 I D J X := by
  intro H locs ls hP hS hl9
  subst hn'
  subst hst
  refine va_calld (va_runV (As := As) (rest := st) C.fix hM (cwV n C.2.2.2.2.1 hl.1 rfl rfl rfl ⟨rfl, hl.2⟩ hR) ⟨fo_PB, by obtain ⟨q, hq, hq1⟩ : ∃ q, vwCl[ci]? = some q ∧ q.1 = y.cls := (by cases hz : vwCl[ci]? with | none => (rw [hz] at hcl; cases hcl) | some q => (rw [hz] at hcl; exact ⟨q, rfl, Option.some.inj hcl⟩)); rw [← hq1]; exact va_recv C.vk hP hq (fo_obj hk hci), fun U hU hW9 => fo_pre hP hS C.vk C.ok C.zq hU hW9⟩ rfl hn (hl9.1.trans C.nl) rfl (lv_room hW) d ⟨hf.1, hf.2⟩) hS (fun q _ h => h) (fun q h => h) (fun r u t H1 locs1 ht hvm hw hB hz1 hk1 hS1 => ?_)
  · obtain ⟨I', D', J', X'⟩ := u
    exact k r I' D' J' X' hw H1 locs1 ls (by rw [← ht]; exact hB) hS1 hl9
theorem fo_qsd (C : fo_C Λ K cc own nL) {post : (UInt64) → fo_Mi → fo_Md → fo_Mj → fo_Mi → Prop} (d : decode cc pc = .ok (.invokestatic idx, 3)) (hM : fk_d l y bytes maxL fr lo Λ As I D J X post) (hl : fo_ls own idx y bytes maxL (some .double) n) (hn : As.length = n) (hR : fr + 1 ≤ R.frames ∧ 8 + (maxL + 11) + lo ≤ R.locals) (hf : cs ≤ R.cells ∧ ss ≤ R.slots) (st : List Value) (hst : st0 = As.reverse ++ st) (hW : (st.map fun v => v.category).sum ≤ 8) (n' : Nat) (hn' : pc + 3 = n') (k : ∀ (r : UInt64) (I' : fo_Mi) (D' : fo_Md) (J' : fo_Mj) (X' : fo_Mi), post r I' D' J' X' → fo_G l Λ R K cs ss n' lv (.double r :: st) I' D' J' X') : fo_G l Λ R K cs ss pc lv st0 I D J X := by
  intro H locs ls hP hS hl9
  subst hn'
  subst hst
  refine va_calld (va_runS (As := As) (rest := st) C.fix hM (cwS n C.2.2.2.2.1 hl.1 rfl rfl rfl hl.2 hR) ⟨fo_PB, fun U hU hW9 => fo_pre hP hS C.vk C.ok C.zq hU hW9⟩ rfl hn (hl9.1.trans C.nl) rfl (lv_room hW) d ⟨hf.1, hf.2⟩) hS (fun q _ h => h) (fun q h => h) (fun r u t H1 locs1 ht hvm hw hB hz1 hk1 hS1 => ?_)
  · obtain ⟨I', D', J', X'⟩ := u
    exact k r I' D' J' X' hw H1 locs1 ls (by rw [← ht]; exact hB) hS1 hl9
theorem fo_qnd (C : fo_C Λ K cc own nL) {post : (UInt64) → fo_Mi → fo_Md → fo_Mj → fo_Mi → Prop} (d : decode cc pc = .ok (.invokestatic idx, 3)) (hM : fk_d l y bytes maxL fr lo Λ As I D J X post) (hl : fo_ln own idx y bytes maxL (some .double) n) (hn : As.length = n) (hR : fr + 1 ≤ R.frames ∧ 8 + (maxL + 11) + lo ≤ R.locals) (hf : cs ≤ R.cells ∧ ss ≤ R.slots) (st : List Value) (hst : st0 = As.reverse ++ st) (hW : (st.map fun v => v.category).sum ≤ 8) (n' : Nat) (hn' : pc + 3 = n') (k : ∀ (r : UInt64) (I' : fo_Mi) (D' : fo_Md) (J' : fo_Mj) (X' : fo_Mi), post r I' D' J' X' → fo_G l Λ R K cs ss n' lv (.double r :: st) I' D' J' X') : fo_G l Λ R K cs ss pc lv st0 I D J X := by
  intro H locs ls hP hS hl9
  subst hn'
  subst hst
  refine va_calld (va_runSN (As := As) (rest := st) C.fix hM ⟨va_cnB n C.2.2.2.2.1 (fo_gl (fun w hw => (List.mem_cons.mp hw).elim (fun q => by rw [q]; exact hl.2.2.2.1) (fun q => q))) rfl rfl rfl (C.zz.2.2.2.2.1 _ hl.1) (C.2.2.2.2.1 _ hl.2.1) hl.2.2.2.2 hR, C.2.2.2.2.1 _ hl.2.2.1, trivial⟩ ⟨fo_PB, fun U hU hW9 => fo_pre hP hS C.vk C.ok C.zq hU hW9⟩ rfl hn (hl9.1.trans C.nl) rfl (lv_room hW) d ⟨hf.1, hf.2⟩) hS (fun q _ h => h) (fun q h => h) (fun r u t H1 locs1 ht hvm hw hB hz1 hk1 hS1 => ?_)
  · obtain ⟨I', D', J', X'⟩ := u
    exact k r I' D' J' X' hw H1 locs1 ls (by rw [← ht]; exact hB) hS1 hl9
theorem fo_qvl (C : fo_C Λ K cc own nL) {post : (Int64) → fo_Mi → fo_Md → fo_Mj → fo_Mi → Prop} (d : decode cc pc = .ok (.invokevirtual idx, 3)) (hM : fk_l l y bytes maxL fr lo Λ (.ref (Λ.2.2.1 id) :: As) I D J X post) (hl : fo_lv own idx y bytes maxL (some .long) n) (hk : fo_k id = ci) (hcl : (vwCl[ci]?).map (fun q => q.1) = some y.cls) (hci : ci < 20) (hn : As.length = n) (hR : fr + 1 ≤ R.frames ∧ 8 + (maxL + 11) + lo ≤ R.locals) (hf : cs ≤ R.cells ∧ ss ≤ R.slots) (st : List Value) (hst : st0 = As.reverse ++ .ref (Λ.2.2.1 id) :: st) (hW : (st.map fun v => v.category).sum ≤ 8) (n' : Nat) (hn' : pc + 3 = n') (k : ∀ (r : Int64) (I' : fo_Mi) (D' : fo_Md) (J' : fo_Mj) (X' : fo_Mi), post r I' D' J' X' → fo_G l Λ R K cs ss n' lv (.long r :: st) I' D' J' X') : fo_G l Λ R K cs ss pc lv st0 I D J X := by
  intro H locs ls hP hS hl9
  subst hn'
  subst hst
  refine va_calll (va_runV (As := As) (rest := st) C.fix hM (cwV n C.2.2.2.2.1 hl.1 rfl rfl rfl ⟨rfl, hl.2⟩ hR) ⟨fo_PB, by obtain ⟨q, hq, hq1⟩ : ∃ q, vwCl[ci]? = some q ∧ q.1 = y.cls := (by cases hz : vwCl[ci]? with | none => (rw [hz] at hcl; cases hcl) | some q => (rw [hz] at hcl; exact ⟨q, rfl, Option.some.inj hcl⟩)); rw [← hq1]; exact va_recv C.vk hP hq (fo_obj hk hci), fun U hU hW9 => fo_pre hP hS C.vk C.ok C.zq hU hW9⟩ rfl hn (hl9.1.trans C.nl) rfl (lv_room hW) d ⟨hf.1, hf.2⟩) hS (fun q _ h => h) (fun q h => h) (fun r u t H1 locs1 ht hvm hw hB hz1 hk1 hS1 => ?_)
  · obtain ⟨I', D', J', X'⟩ := u
    exact k r I' D' J' X' hw H1 locs1 ls (by rw [← ht]; exact hB) hS1 hl9
theorem fo_qsl (C : fo_C Λ K cc own nL) {post : (Int64) → fo_Mi → fo_Md → fo_Mj → fo_Mi → Prop} (d : decode cc pc = .ok (.invokestatic idx, 3)) (hM : fk_l l y bytes maxL fr lo Λ As I D J X post) (hl : fo_ls own idx y bytes maxL (some .long) n) (hn : As.length = n) (hR : fr + 1 ≤ R.frames ∧ 8 + (maxL + 11) + lo ≤ R.locals) (hf : cs ≤ R.cells ∧ ss ≤ R.slots) (st : List Value) (hst : st0 = As.reverse ++ st) (hW : (st.map fun v => v.category).sum ≤ 8) (n' : Nat) (hn' : pc + 3 = n') (k : ∀ (r : Int64) (I' : fo_Mi) (D' : fo_Md) (J' : fo_Mj) (X' : fo_Mi), post r I' D' J' X' → fo_G l Λ R K cs ss n' lv (.long r :: st) I' D' J' X') : fo_G l Λ R K cs ss pc lv st0 I D J X := by
  intro H locs ls hP hS hl9
  subst hn'
  subst hst
  refine va_calll (va_runS (As := As) (rest := st) C.fix hM (cwS n C.2.2.2.2.1 hl.1 rfl rfl rfl hl.2 hR) ⟨fo_PB, fun U hU hW9 => fo_pre hP hS C.vk C.ok C.zq hU hW9⟩ rfl hn (hl9.1.trans C.nl) rfl (lv_room hW) d ⟨hf.1, hf.2⟩) hS (fun q _ h => h) (fun q h => h) (fun r u t H1 locs1 ht hvm hw hB hz1 hk1 hS1 => ?_)
  · obtain ⟨I', D', J', X'⟩ := u
    exact k r I' D' J' X' hw H1 locs1 ls (by rw [← ht]; exact hB) hS1 hl9
theorem fo_qnl (C : fo_C Λ K cc own nL) {post : (Int64) → fo_Mi → fo_Md → fo_Mj → fo_Mi → Prop} (d : decode cc pc = .ok (.invokestatic idx, 3)) (hM : fk_l l y bytes maxL fr lo Λ As I D J X post) (hl : fo_ln own idx y bytes maxL (some .long) n) (hn : As.length = n) (hR : fr + 1 ≤ R.frames ∧ 8 + (maxL + 11) + lo ≤ R.locals) (hf : cs ≤ R.cells ∧ ss ≤ R.slots) (st : List Value) (hst : st0 = As.reverse ++ st) (hW : (st.map fun v => v.category).sum ≤ 8) (n' : Nat) (hn' : pc + 3 = n') (k : ∀ (r : Int64) (I' : fo_Mi) (D' : fo_Md) (J' : fo_Mj) (X' : fo_Mi), post r I' D' J' X' → fo_G l Λ R K cs ss n' lv (.long r :: st) I' D' J' X') : fo_G l Λ R K cs ss pc lv st0 I D J X := by
  intro H locs ls hP hS hl9
  subst hn'
  subst hst
  refine va_calll (va_runSN (As := As) (rest := st) C.fix hM ⟨va_cnB n C.2.2.2.2.1 (fo_gl (fun w hw => (List.mem_cons.mp hw).elim (fun q => by rw [q]; exact hl.2.2.2.1) (fun q => q))) rfl rfl rfl (C.zz.2.2.2.2.1 _ hl.1) (C.2.2.2.2.1 _ hl.2.1) hl.2.2.2.2 hR, C.2.2.2.2.1 _ hl.2.2.1, trivial⟩ ⟨fo_PB, fun U hU hW9 => fo_pre hP hS C.vk C.ok C.zq hU hW9⟩ rfl hn (hl9.1.trans C.nl) rfl (lv_room hW) d ⟨hf.1, hf.2⟩) hS (fun q _ h => h) (fun q h => h) (fun r u t H1 locs1 ht hvm hw hB hz1 hk1 hS1 => ?_)
  · obtain ⟨I', D', J', X'⟩ := u
    exact k r I' D' J' X' hw H1 locs1 ls (by rw [← ht]; exact hB) hS1 hl9
theorem fo_qvf (C : fo_C Λ K cc own nL) {post : (UInt32) → fo_Mi → fo_Md → fo_Mj → fo_Mi → Prop} (d : decode cc pc = .ok (.invokevirtual idx, 3)) (hM : fk_f l y bytes maxL fr lo Λ (.ref (Λ.2.2.1 id) :: As) I D J X post) (hl : fo_lv own idx y bytes maxL (some .float) n) (hk : fo_k id = ci) (hcl : (vwCl[ci]?).map (fun q => q.1) = some y.cls) (hci : ci < 20) (hn : As.length = n) (hR : fr + 1 ≤ R.frames ∧ 8 + (maxL + 11) + lo ≤ R.locals) (hf : cs ≤ R.cells ∧ ss ≤ R.slots) (st : List Value) (hst : st0 = As.reverse ++ .ref (Λ.2.2.1 id) :: st) (hW : (st.map fun v => v.category).sum ≤ 8) (n' : Nat) (hn' : pc + 3 = n') (k : ∀ (r : UInt32) (I' : fo_Mi) (D' : fo_Md) (J' : fo_Mj) (X' : fo_Mi), post r I' D' J' X' → fo_G l Λ R K cs ss n' lv (.float r :: st) I' D' J' X') : fo_G l Λ R K cs ss pc lv st0 I D J X := by
  intro H locs ls hP hS hl9
  subst hn'
  subst hst
  refine va_callf (va_runV (As := As) (rest := st) C.fix hM (cwV n C.2.2.2.2.1 hl.1 rfl rfl rfl ⟨rfl, hl.2⟩ hR) ⟨fo_PB, by obtain ⟨q, hq, hq1⟩ : ∃ q, vwCl[ci]? = some q ∧ q.1 = y.cls := (by cases hz : vwCl[ci]? with | none => (rw [hz] at hcl; cases hcl) | some q => (rw [hz] at hcl; exact ⟨q, rfl, Option.some.inj hcl⟩)); rw [← hq1]; exact va_recv C.vk hP hq (fo_obj hk hci), fun U hU hW9 => fo_pre hP hS C.vk C.ok C.zq hU hW9⟩ rfl hn (hl9.1.trans C.nl) rfl (lv_room hW) d ⟨hf.1, hf.2⟩) hS (fun q _ h => h) (fun q h => h) (fun r u t H1 locs1 ht hvm hw hB hz1 hk1 hS1 => ?_)
  · obtain ⟨I', D', J', X'⟩ := u
    exact k r I' D' J' X' hw H1 locs1 ls (by rw [← ht]; exact hB) hS1 hl9
theorem fo_qsf (C : fo_C Λ K cc own nL) {post : (UInt32) → fo_Mi → fo_Md → fo_Mj → fo_Mi → Prop} (d : decode cc pc = .ok (.invokestatic idx, 3)) (hM : fk_f l y bytes maxL fr lo Λ As I D J X post) (hl : fo_ls own idx y bytes maxL (some .float) n) (hn : As.length = n) (hR : fr + 1 ≤ R.frames ∧ 8 + (maxL + 11) + lo ≤ R.locals) (hf : cs ≤ R.cells ∧ ss ≤ R.slots) (st : List Value) (hst : st0 = As.reverse ++ st) (hW : (st.map fun v => v.category).sum ≤ 8) (n' : Nat) (hn' : pc + 3 = n') (k : ∀ (r : UInt32) (I' : fo_Mi) (D' : fo_Md) (J' : fo_Mj) (X' : fo_Mi), post r I' D' J' X' → fo_G l Λ R K cs ss n' lv (.float r :: st) I' D' J' X') : fo_G l Λ R K cs ss pc lv st0 I D J X := by
  intro H locs ls hP hS hl9
  subst hn'
  subst hst
  refine va_callf (va_runS (As := As) (rest := st) C.fix hM (cwS n C.2.2.2.2.1 hl.1 rfl rfl rfl hl.2 hR) ⟨fo_PB, fun U hU hW9 => fo_pre hP hS C.vk C.ok C.zq hU hW9⟩ rfl hn (hl9.1.trans C.nl) rfl (lv_room hW) d ⟨hf.1, hf.2⟩) hS (fun q _ h => h) (fun q h => h) (fun r u t H1 locs1 ht hvm hw hB hz1 hk1 hS1 => ?_)
  · obtain ⟨I', D', J', X'⟩ := u
    exact k r I' D' J' X' hw H1 locs1 ls (by rw [← ht]; exact hB) hS1 hl9
theorem fo_qnf (C : fo_C Λ K cc own nL) {post : (UInt32) → fo_Mi → fo_Md → fo_Mj → fo_Mi → Prop} (d : decode cc pc = .ok (.invokestatic idx, 3)) (hM : fk_f l y bytes maxL fr lo Λ As I D J X post) (hl : fo_ln own idx y bytes maxL (some .float) n) (hn : As.length = n) (hR : fr + 1 ≤ R.frames ∧ 8 + (maxL + 11) + lo ≤ R.locals) (hf : cs ≤ R.cells ∧ ss ≤ R.slots) (st : List Value) (hst : st0 = As.reverse ++ st) (hW : (st.map fun v => v.category).sum ≤ 8) (n' : Nat) (hn' : pc + 3 = n') (k : ∀ (r : UInt32) (I' : fo_Mi) (D' : fo_Md) (J' : fo_Mj) (X' : fo_Mi), post r I' D' J' X' → fo_G l Λ R K cs ss n' lv (.float r :: st) I' D' J' X') : fo_G l Λ R K cs ss pc lv st0 I D J X := by
  intro H locs ls hP hS hl9
  subst hn'
  subst hst
  refine va_callf (va_runSN (As := As) (rest := st) C.fix hM ⟨va_cnB n C.2.2.2.2.1 (fo_gl (fun w hw => (List.mem_cons.mp hw).elim (fun q => by rw [q]; exact hl.2.2.2.1) (fun q => q))) rfl rfl rfl (C.zz.2.2.2.2.1 _ hl.1) (C.2.2.2.2.1 _ hl.2.1) hl.2.2.2.2 hR, C.2.2.2.2.1 _ hl.2.2.1, trivial⟩ ⟨fo_PB, fun U hU hW9 => fo_pre hP hS C.vk C.ok C.zq hU hW9⟩ rfl hn (hl9.1.trans C.nl) rfl (lv_room hW) d ⟨hf.1, hf.2⟩) hS (fun q _ h => h) (fun q h => h) (fun r u t H1 locs1 ht hvm hw hB hz1 hk1 hS1 => ?_)
  · obtain ⟨I', D', J', X'⟩ := u
    exact k r I' D' J' X' hw H1 locs1 ls (by rw [← ht]; exact hB) hS1 hl9
theorem fo_qvv (C : fo_C Λ K cc own nL) {post : fo_Mi → fo_Md → fo_Mj → fo_Mi → Prop} (d : decode cc pc = .ok (.invokevirtual idx, 3)) (hM : fk_v l y bytes maxL fr lo Λ (.ref (Λ.2.2.1 id) :: As) I D J X post) (hl : fo_lv own idx y bytes maxL none n) (hk : fo_k id = ci) (hcl : (vwCl[ci]?).map (fun q => q.1) = some y.cls) (hci : ci < 20) (hn : As.length = n) (hR : fr + 1 ≤ R.frames ∧ 8 + (maxL + 11) + lo ≤ R.locals) (hf : cs ≤ R.cells ∧ ss ≤ R.slots) (st : List Value) (hst : st0 = As.reverse ++ .ref (Λ.2.2.1 id) :: st) (hW : (st.map fun v => v.category).sum ≤ 8) (n' : Nat) (hn' : pc + 3 = n') (k : ∀ (I' : fo_Mi) (D' : fo_Md) (J' : fo_Mj) (X' : fo_Mi), post I' D' J' X' → fo_G l Λ R K cs ss n' lv (st) I' D' J' X') : fo_G l Λ R K cs ss pc lv st0 I D J X := by
  intro H locs ls hP hS hl9
  subst hn'
  subst hst
  refine va_callv (va_runV (As := As) (rest := st) C.fix hM (cwV n C.2.2.2.2.1 hl.1 rfl rfl rfl ⟨rfl, hl.2⟩ hR) ⟨fo_PB, by obtain ⟨q, hq, hq1⟩ : ∃ q, vwCl[ci]? = some q ∧ q.1 = y.cls := (by cases hz : vwCl[ci]? with | none => (rw [hz] at hcl; cases hcl) | some q => (rw [hz] at hcl; exact ⟨q, rfl, Option.some.inj hcl⟩)); rw [← hq1]; exact va_recv C.vk hP hq (fo_obj hk hci), fun U hU hW9 => fo_pre hP hS C.vk C.ok C.zq hU hW9⟩ rfl hn (hl9.1.trans C.nl) rfl (lv_room hW) d ⟨hf.1, hf.2⟩) hS (fun q _ h => h) (fun q h => h) (fun u t H1 locs1 ht hvm hw hB hz1 hk1 hS1 => ?_)
  · obtain ⟨I', D', J', X'⟩ := u
    exact k I' D' J' X' hw H1 locs1 ls (by rw [← ht]; exact hB) hS1 hl9
theorem fo_qsv (C : fo_C Λ K cc own nL) {post : fo_Mi → fo_Md → fo_Mj → fo_Mi → Prop} (d : decode cc pc = .ok (.invokestatic idx, 3)) (hM : fk_v l y bytes maxL fr lo Λ As I D J X post) (hl : fo_ls own idx y bytes maxL none n) (hn : As.length = n) (hR : fr + 1 ≤ R.frames ∧ 8 + (maxL + 11) + lo ≤ R.locals) (hf : cs ≤ R.cells ∧ ss ≤ R.slots) (st : List Value) (hst : st0 = As.reverse ++ st) (hW : (st.map fun v => v.category).sum ≤ 8) (n' : Nat) (hn' : pc + 3 = n') (k : ∀ (I' : fo_Mi) (D' : fo_Md) (J' : fo_Mj) (X' : fo_Mi), post I' D' J' X' → fo_G l Λ R K cs ss n' lv (st) I' D' J' X') : fo_G l Λ R K cs ss pc lv st0 I D J X := by
  intro H locs ls hP hS hl9
  subst hn'
  subst hst
  refine va_callv (va_runS (As := As) (rest := st) C.fix hM (cwS n C.2.2.2.2.1 hl.1 rfl rfl rfl hl.2 hR) ⟨fo_PB, fun U hU hW9 => fo_pre hP hS C.vk C.ok C.zq hU hW9⟩ rfl hn (hl9.1.trans C.nl) rfl (lv_room hW) d ⟨hf.1, hf.2⟩) hS (fun q _ h => h) (fun q h => h) (fun u t H1 locs1 ht hvm hw hB hz1 hk1 hS1 => ?_)
  · obtain ⟨I', D', J', X'⟩ := u
    exact k I' D' J' X' hw H1 locs1 ls (by rw [← ht]; exact hB) hS1 hl9
theorem fo_qnv (C : fo_C Λ K cc own nL) {post : fo_Mi → fo_Md → fo_Mj → fo_Mi → Prop} (d : decode cc pc = .ok (.invokestatic idx, 3)) (hM : fk_v l y bytes maxL fr lo Λ As I D J X post) (hl : fo_ln own idx y bytes maxL none n) (hn : As.length = n) (hR : fr + 1 ≤ R.frames ∧ 8 + (maxL + 11) + lo ≤ R.locals) (hf : cs ≤ R.cells ∧ ss ≤ R.slots) (st : List Value) (hst : st0 = As.reverse ++ st) (hW : (st.map fun v => v.category).sum ≤ 8) (n' : Nat) (hn' : pc + 3 = n') (k : ∀ (I' : fo_Mi) (D' : fo_Md) (J' : fo_Mj) (X' : fo_Mi), post I' D' J' X' → fo_G l Λ R K cs ss n' lv (st) I' D' J' X') : fo_G l Λ R K cs ss pc lv st0 I D J X := by
  intro H locs ls hP hS hl9
  subst hn'
  subst hst
  refine va_callv (va_runSN (As := As) (rest := st) C.fix hM ⟨va_cnB n C.2.2.2.2.1 (fo_gl (fun w hw => (List.mem_cons.mp hw).elim (fun q => by rw [q]; exact hl.2.2.2.1) (fun q => q))) rfl rfl rfl (C.zz.2.2.2.2.1 _ hl.1) (C.2.2.2.2.1 _ hl.2.1) hl.2.2.2.2 hR, C.2.2.2.2.1 _ hl.2.2.1, trivial⟩ ⟨fo_PB, fun U hU hW9 => fo_pre hP hS C.vk C.ok C.zq hU hW9⟩ rfl hn (hl9.1.trans C.nl) rfl (lv_room hW) d ⟨hf.1, hf.2⟩) hS (fun q _ h => h) (fun q h => h) (fun u t H1 locs1 ht hvm hw hB hz1 hk1 hS1 => ?_)
  · obtain ⟨I', D', J', X'⟩ := u
    exact k I' D' J' X' hw H1 locs1 ls (by rw [← ht]; exact hB) hS1 hl9
theorem fo_yvi (C : fo_C Λ K cc own nL) {ty : FieldType} {post : (Int32) → fo_Mi → fo_Md → fo_Mj → fo_Mi → Prop} {px : String → fo_Mi → fo_Md → fo_Mj → fo_Mi → Prop} (d : decode cc pc = .ok (.invokevirtual idx, 3)) (hM : fx_i l y bytes maxL ty fr lo mc ms Λ (.ref (Λ.2.2.1 id) :: As) I D J X post px) (hl : fo_lv own idx y bytes maxL (some ty) n) (hk : fo_k id = ci) (hcl : (vwCl[ci]?).map (fun q => q.1) = some y.cls) (hci : ci < 20) (hn : As.length = n) (hR : fr + 1 ≤ R.frames ∧ 8 + (maxL + 11) + lo ≤ R.locals) (hf : cs + mc ≤ R.cells ∧ ss + ms ≤ R.slots) (st : List Value) (hst : st0 = As.reverse ++ .ref (Λ.2.2.1 id) :: st) (hW : (st.map fun v => v.category).sum ≤ 8) (n' : Nat) (hn' : pc + 3 = n') (kx : ∀ (E : String) (I' : fo_Mi) (D' : fo_Md) (J' : fo_Mj) (X' : fo_Mi), px E I' D' J' X' → fo_T l Λ R K (cs + mc) (ss + ms) pc lv st E I' D' J' X') (k : ∀ (r : Int32) (I' : fo_Mi) (D' : fo_Md) (J' : fo_Mj) (X' : fo_Mi), post r I' D' J' X' → fo_G l Λ R K (cs + mc) (ss + ms) n' lv (.int r :: st) I' D' J' X') : fo_G l Λ R K cs ss pc lv st0 I D J X := by
  intro H locs ls hP hS hl9
  subst hn'
  subst hst
  refine vx_calli (vx_runV (As := As) (rest := st) C.fix hM (cwV n C.2.2.2.2.1 hl.1 rfl rfl rfl ⟨rfl, hl.2⟩ hR) ⟨fo_PB, by obtain ⟨q, hq, hq1⟩ : ∃ q, vwCl[ci]? = some q ∧ q.1 = y.cls := (by cases hz : vwCl[ci]? with | none => (rw [hz] at hcl; cases hcl) | some q => (rw [hz] at hcl; exact ⟨q, rfl, Option.some.inj hcl⟩)); rw [← hq1]; exact va_recv C.vk hP hq (fo_obj hk hci), fun U hU hW9 => fo_pre hP hS C.vk C.ok C.zq hU hW9⟩ rfl hn (hl9.1.trans C.nl) rfl (lv_room hW) d ⟨hf.1, hf.2⟩) hS (fun q _ h => h) (fun q h => h) (fun q _ h => h) (fun E ce q9 u t H1 locs1 ht hvm _ hB hz1 hk1 hS1 hc9 hv9 hcl9 => ?_) (fun r u t H1 locs1 ht hvm hw hB hz1 hk1 hS1 => ?_)
  · obtain ⟨I', D', J', X'⟩ := u
    exact kx E I' D' J' X' hB.1 H1 locs1 ls q9 ce (by rw [← ht]; exact hB.2) hS1 hl9 hc9 hv9 hcl9
  · obtain ⟨I', D', J', X'⟩ := u
    exact k r I' D' J' X' hw H1 locs1 ls (by rw [← ht]; exact hB) hS1 hl9
theorem fo_ysi (C : fo_C Λ K cc own nL) {ty : FieldType} {post : (Int32) → fo_Mi → fo_Md → fo_Mj → fo_Mi → Prop} {px : String → fo_Mi → fo_Md → fo_Mj → fo_Mi → Prop} (d : decode cc pc = .ok (.invokestatic idx, 3)) (hM : fx_i l y bytes maxL ty fr lo mc ms Λ As I D J X post px) (hl : fo_ls own idx y bytes maxL (some ty) n) (hn : As.length = n) (hR : fr + 1 ≤ R.frames ∧ 8 + (maxL + 11) + lo ≤ R.locals) (hf : cs + mc ≤ R.cells ∧ ss + ms ≤ R.slots) (st : List Value) (hst : st0 = As.reverse ++ st) (hW : (st.map fun v => v.category).sum ≤ 8) (n' : Nat) (hn' : pc + 3 = n') (kx : ∀ (E : String) (I' : fo_Mi) (D' : fo_Md) (J' : fo_Mj) (X' : fo_Mi), px E I' D' J' X' → fo_T l Λ R K (cs + mc) (ss + ms) pc lv st E I' D' J' X') (k : ∀ (r : Int32) (I' : fo_Mi) (D' : fo_Md) (J' : fo_Mj) (X' : fo_Mi), post r I' D' J' X' → fo_G l Λ R K (cs + mc) (ss + ms) n' lv (.int r :: st) I' D' J' X') : fo_G l Λ R K cs ss pc lv st0 I D J X := by
  intro H locs ls hP hS hl9
  subst hn'
  subst hst
  refine vx_calli (vx_runS (As := As) (rest := st) C.fix hM (cwS n C.2.2.2.2.1 hl.1 rfl rfl rfl hl.2 hR) ⟨fo_PB, fun U hU hW9 => fo_pre hP hS C.vk C.ok C.zq hU hW9⟩ rfl hn (hl9.1.trans C.nl) rfl (lv_room hW) d ⟨hf.1, hf.2⟩) hS (fun q _ h => h) (fun q h => h) (fun q _ h => h) (fun E ce q9 u t H1 locs1 ht hvm _ hB hz1 hk1 hS1 hc9 hv9 hcl9 => ?_) (fun r u t H1 locs1 ht hvm hw hB hz1 hk1 hS1 => ?_)
  · obtain ⟨I', D', J', X'⟩ := u
    exact kx E I' D' J' X' hB.1 H1 locs1 ls q9 ce (by rw [← ht]; exact hB.2) hS1 hl9 hc9 hv9 hcl9
  · obtain ⟨I', D', J', X'⟩ := u
    exact k r I' D' J' X' hw H1 locs1 ls (by rw [← ht]; exact hB) hS1 hl9
theorem fo_yvd (C : fo_C Λ K cc own nL) {post : (UInt64) → fo_Mi → fo_Md → fo_Mj → fo_Mi → Prop} {px : String → fo_Mi → fo_Md → fo_Mj → fo_Mi → Prop} (d : decode cc pc = .ok (.invokevirtual idx, 3)) (hM : fx_d l y bytes maxL fr lo mc ms Λ (.ref (Λ.2.2.1 id) :: As) I D J X post px) (hl : fo_lv own idx y bytes maxL (some .double) n) (hk : fo_k id = ci) (hcl : (vwCl[ci]?).map (fun q => q.1) = some y.cls) (hci : ci < 20) (hn : As.length = n) (hR : fr + 1 ≤ R.frames ∧ 8 + (maxL + 11) + lo ≤ R.locals) (hf : cs + mc ≤ R.cells ∧ ss + ms ≤ R.slots) (st : List Value) (hst : st0 = As.reverse ++ .ref (Λ.2.2.1 id) :: st) (hW : (st.map fun v => v.category).sum ≤ 8) (n' : Nat) (hn' : pc + 3 = n') (kx : ∀ (E : String) (I' : fo_Mi) (D' : fo_Md) (J' : fo_Mj) (X' : fo_Mi), px E I' D' J' X' → fo_T l Λ R K (cs + mc) (ss + ms) pc lv st E I' D' J' X') (k : ∀ (r : UInt64) (I' : fo_Mi) (D' : fo_Md) (J' : fo_Mj) (X' : fo_Mi), post r I' D' J' X' → fo_G l Λ R K (cs + mc) (ss + ms) n' lv (.double r :: st) I' D' J' X') : fo_G l Λ R K cs ss pc lv st0 I D J X := by
  intro H locs ls hP hS hl9
  subst hn'
  subst hst
  refine vx_calld (vx_runV (As := As) (rest := st) C.fix hM (cwV n C.2.2.2.2.1 hl.1 rfl rfl rfl ⟨rfl, hl.2⟩ hR) ⟨fo_PB, by obtain ⟨q, hq, hq1⟩ : ∃ q, vwCl[ci]? = some q ∧ q.1 = y.cls := (by cases hz : vwCl[ci]? with | none => (rw [hz] at hcl; cases hcl) | some q => (rw [hz] at hcl; exact ⟨q, rfl, Option.some.inj hcl⟩)); rw [← hq1]; exact va_recv C.vk hP hq (fo_obj hk hci), fun U hU hW9 => fo_pre hP hS C.vk C.ok C.zq hU hW9⟩ rfl hn (hl9.1.trans C.nl) rfl (lv_room hW) d ⟨hf.1, hf.2⟩) hS (fun q _ h => h) (fun q h => h) (fun q _ h => h) (fun E ce q9 u t H1 locs1 ht hvm _ hB hz1 hk1 hS1 hc9 hv9 hcl9 => ?_) (fun r u t H1 locs1 ht hvm hw hB hz1 hk1 hS1 => ?_)
  · obtain ⟨I', D', J', X'⟩ := u
    exact kx E I' D' J' X' hB.1 H1 locs1 ls q9 ce (by rw [← ht]; exact hB.2) hS1 hl9 hc9 hv9 hcl9
  · obtain ⟨I', D', J', X'⟩ := u
    exact k r I' D' J' X' hw H1 locs1 ls (by rw [← ht]; exact hB) hS1 hl9
theorem fo_ysd (C : fo_C Λ K cc own nL) {post : (UInt64) → fo_Mi → fo_Md → fo_Mj → fo_Mi → Prop} {px : String → fo_Mi → fo_Md → fo_Mj → fo_Mi → Prop} (d : decode cc pc = .ok (.invokestatic idx, 3)) (hM : fx_d l y bytes maxL fr lo mc ms Λ As I D J X post px) (hl : fo_ls own idx y bytes maxL (some .double) n) (hn : As.length = n) (hR : fr + 1 ≤ R.frames ∧ 8 + (maxL + 11) + lo ≤ R.locals) (hf : cs + mc ≤ R.cells ∧ ss + ms ≤ R.slots) (st : List Value) (hst : st0 = As.reverse ++ st) (hW : (st.map fun v => v.category).sum ≤ 8) (n' : Nat) (hn' : pc + 3 = n') (kx : ∀ (E : String) (I' : fo_Mi) (D' : fo_Md) (J' : fo_Mj) (X' : fo_Mi), px E I' D' J' X' → fo_T l Λ R K (cs + mc) (ss + ms) pc lv st E I' D' J' X') (k : ∀ (r : UInt64) (I' : fo_Mi) (D' : fo_Md) (J' : fo_Mj) (X' : fo_Mi), post r I' D' J' X' → fo_G l Λ R K (cs + mc) (ss + ms) n' lv (.double r :: st) I' D' J' X') : fo_G l Λ R K cs ss pc lv st0 I D J X := by
  intro H locs ls hP hS hl9
  subst hn'
  subst hst
  refine vx_calld (vx_runS (As := As) (rest := st) C.fix hM (cwS n C.2.2.2.2.1 hl.1 rfl rfl rfl hl.2 hR) ⟨fo_PB, fun U hU hW9 => fo_pre hP hS C.vk C.ok C.zq hU hW9⟩ rfl hn (hl9.1.trans C.nl) rfl (lv_room hW) d ⟨hf.1, hf.2⟩) hS (fun q _ h => h) (fun q h => h) (fun q _ h => h) (fun E ce q9 u t H1 locs1 ht hvm _ hB hz1 hk1 hS1 hc9 hv9 hcl9 => ?_) (fun r u t H1 locs1 ht hvm hw hB hz1 hk1 hS1 => ?_)
  · obtain ⟨I', D', J', X'⟩ := u
    exact kx E I' D' J' X' hB.1 H1 locs1 ls q9 ce (by rw [← ht]; exact hB.2) hS1 hl9 hc9 hv9 hcl9
  · obtain ⟨I', D', J', X'⟩ := u
    exact k r I' D' J' X' hw H1 locs1 ls (by rw [← ht]; exact hB) hS1 hl9
theorem fo_yvl (C : fo_C Λ K cc own nL) {post : (Int64) → fo_Mi → fo_Md → fo_Mj → fo_Mi → Prop} {px : String → fo_Mi → fo_Md → fo_Mj → fo_Mi → Prop} (d : decode cc pc = .ok (.invokevirtual idx, 3)) (hM : fx_l l y bytes maxL fr lo mc ms Λ (.ref (Λ.2.2.1 id) :: As) I D J X post px) (hl : fo_lv own idx y bytes maxL (some .long) n) (hk : fo_k id = ci) (hcl : (vwCl[ci]?).map (fun q => q.1) = some y.cls) (hci : ci < 20) (hn : As.length = n) (hR : fr + 1 ≤ R.frames ∧ 8 + (maxL + 11) + lo ≤ R.locals) (hf : cs + mc ≤ R.cells ∧ ss + ms ≤ R.slots) (st : List Value) (hst : st0 = As.reverse ++ .ref (Λ.2.2.1 id) :: st) (hW : (st.map fun v => v.category).sum ≤ 8) (n' : Nat) (hn' : pc + 3 = n') (kx : ∀ (E : String) (I' : fo_Mi) (D' : fo_Md) (J' : fo_Mj) (X' : fo_Mi), px E I' D' J' X' → fo_T l Λ R K (cs + mc) (ss + ms) pc lv st E I' D' J' X') (k : ∀ (r : Int64) (I' : fo_Mi) (D' : fo_Md) (J' : fo_Mj) (X' : fo_Mi), post r I' D' J' X' → fo_G l Λ R K (cs + mc) (ss + ms) n' lv (.long r :: st) I' D' J' X') : fo_G l Λ R K cs ss pc lv st0 I D J X := by
  intro H locs ls hP hS hl9
  subst hn'
  subst hst
  refine vx_calll (vx_runV (As := As) (rest := st) C.fix hM (cwV n C.2.2.2.2.1 hl.1 rfl rfl rfl ⟨rfl, hl.2⟩ hR) ⟨fo_PB, by obtain ⟨q, hq, hq1⟩ : ∃ q, vwCl[ci]? = some q ∧ q.1 = y.cls := (by cases hz : vwCl[ci]? with | none => (rw [hz] at hcl; cases hcl) | some q => (rw [hz] at hcl; exact ⟨q, rfl, Option.some.inj hcl⟩)); rw [← hq1]; exact va_recv C.vk hP hq (fo_obj hk hci), fun U hU hW9 => fo_pre hP hS C.vk C.ok C.zq hU hW9⟩ rfl hn (hl9.1.trans C.nl) rfl (lv_room hW) d ⟨hf.1, hf.2⟩) hS (fun q _ h => h) (fun q h => h) (fun q _ h => h) (fun E ce q9 u t H1 locs1 ht hvm _ hB hz1 hk1 hS1 hc9 hv9 hcl9 => ?_) (fun r u t H1 locs1 ht hvm hw hB hz1 hk1 hS1 => ?_)
  · obtain ⟨I', D', J', X'⟩ := u
    exact kx E I' D' J' X' hB.1 H1 locs1 ls q9 ce (by rw [← ht]; exact hB.2) hS1 hl9 hc9 hv9 hcl9
  · obtain ⟨I', D', J', X'⟩ := u
    exact k r I' D' J' X' hw H1 locs1 ls (by rw [← ht]; exact hB) hS1 hl9
theorem fo_ysl (C : fo_C Λ K cc own nL) {post : (Int64) → fo_Mi → fo_Md → fo_Mj → fo_Mi → Prop} {px : String → fo_Mi → fo_Md → fo_Mj → fo_Mi → Prop} (d : decode cc pc = .ok (.invokestatic idx, 3)) (hM : fx_l l y bytes maxL fr lo mc ms Λ As I D J X post px) (hl : fo_ls own idx y bytes maxL (some .long) n) (hn : As.length = n) (hR : fr + 1 ≤ R.frames ∧ 8 + (maxL + 11) + lo ≤ R.locals) (hf : cs + mc ≤ R.cells ∧ ss + ms ≤ R.slots) (st : List Value) (hst : st0 = As.reverse ++ st) (hW : (st.map fun v => v.category).sum ≤ 8) (n' : Nat) (hn' : pc + 3 = n') (kx : ∀ (E : String) (I' : fo_Mi) (D' : fo_Md) (J' : fo_Mj) (X' : fo_Mi), px E I' D' J' X' → fo_T l Λ R K (cs + mc) (ss + ms) pc lv st E I' D' J' X') (k : ∀ (r : Int64) (I' : fo_Mi) (D' : fo_Md) (J' : fo_Mj) (X' : fo_Mi), post r I' D' J' X' → fo_G l Λ R K (cs + mc) (ss + ms) n' lv (.long r :: st) I' D' J' X') : fo_G l Λ R K cs ss pc lv st0 I D J X := by
  intro H locs ls hP hS hl9
  subst hn'
  subst hst
  refine vx_calll (vx_runS (As := As) (rest := st) C.fix hM (cwS n C.2.2.2.2.1 hl.1 rfl rfl rfl hl.2 hR) ⟨fo_PB, fun U hU hW9 => fo_pre hP hS C.vk C.ok C.zq hU hW9⟩ rfl hn (hl9.1.trans C.nl) rfl (lv_room hW) d ⟨hf.1, hf.2⟩) hS (fun q _ h => h) (fun q h => h) (fun q _ h => h) (fun E ce q9 u t H1 locs1 ht hvm _ hB hz1 hk1 hS1 hc9 hv9 hcl9 => ?_) (fun r u t H1 locs1 ht hvm hw hB hz1 hk1 hS1 => ?_)
  · obtain ⟨I', D', J', X'⟩ := u
    exact kx E I' D' J' X' hB.1 H1 locs1 ls q9 ce (by rw [← ht]; exact hB.2) hS1 hl9 hc9 hv9 hcl9
  · obtain ⟨I', D', J', X'⟩ := u
    exact k r I' D' J' X' hw H1 locs1 ls (by rw [← ht]; exact hB) hS1 hl9
theorem fo_yvf (C : fo_C Λ K cc own nL) {post : (UInt32) → fo_Mi → fo_Md → fo_Mj → fo_Mi → Prop} {px : String → fo_Mi → fo_Md → fo_Mj → fo_Mi → Prop} (d : decode cc pc = .ok (.invokevirtual idx, 3)) (hM : fx_f l y bytes maxL fr lo mc ms Λ (.ref (Λ.2.2.1 id) :: As) I D J X post px) (hl : fo_lv own idx y bytes maxL (some .float) n) (hk : fo_k id = ci) (hcl : (vwCl[ci]?).map (fun q => q.1) = some y.cls) (hci : ci < 20) (hn : As.length = n) (hR : fr + 1 ≤ R.frames ∧ 8 + (maxL + 11) + lo ≤ R.locals) (hf : cs + mc ≤ R.cells ∧ ss + ms ≤ R.slots) (st : List Value) (hst : st0 = As.reverse ++ .ref (Λ.2.2.1 id) :: st) (hW : (st.map fun v => v.category).sum ≤ 8) (n' : Nat) (hn' : pc + 3 = n') (kx : ∀ (E : String) (I' : fo_Mi) (D' : fo_Md) (J' : fo_Mj) (X' : fo_Mi), px E I' D' J' X' → fo_T l Λ R K (cs + mc) (ss + ms) pc lv st E I' D' J' X') (k : ∀ (r : UInt32) (I' : fo_Mi) (D' : fo_Md) (J' : fo_Mj) (X' : fo_Mi), post r I' D' J' X' → fo_G l Λ R K (cs + mc) (ss + ms) n' lv (.float r :: st) I' D' J' X') : fo_G l Λ R K cs ss pc lv st0 I D J X := by
  intro H locs ls hP hS hl9
  subst hn'
  subst hst
  refine vx_callf (vx_runV (As := As) (rest := st) C.fix hM (cwV n C.2.2.2.2.1 hl.1 rfl rfl rfl ⟨rfl, hl.2⟩ hR) ⟨fo_PB, by obtain ⟨q, hq, hq1⟩ : ∃ q, vwCl[ci]? = some q ∧ q.1 = y.cls := (by cases hz : vwCl[ci]? with | none => (rw [hz] at hcl; cases hcl) | some q => (rw [hz] at hcl; exact ⟨q, rfl, Option.some.inj hcl⟩)); rw [← hq1]; exact va_recv C.vk hP hq (fo_obj hk hci), fun U hU hW9 => fo_pre hP hS C.vk C.ok C.zq hU hW9⟩ rfl hn (hl9.1.trans C.nl) rfl (lv_room hW) d ⟨hf.1, hf.2⟩) hS (fun q _ h => h) (fun q h => h) (fun q _ h => h) (fun E ce q9 u t H1 locs1 ht hvm _ hB hz1 hk1 hS1 hc9 hv9 hcl9 => ?_) (fun r u t H1 locs1 ht hvm hw hB hz1 hk1 hS1 => ?_)
  · obtain ⟨I', D', J', X'⟩ := u
    exact kx E I' D' J' X' hB.1 H1 locs1 ls q9 ce (by rw [← ht]; exact hB.2) hS1 hl9 hc9 hv9 hcl9
  · obtain ⟨I', D', J', X'⟩ := u
    exact k r I' D' J' X' hw H1 locs1 ls (by rw [← ht]; exact hB) hS1 hl9
theorem fo_ysf (C : fo_C Λ K cc own nL) {post : (UInt32) → fo_Mi → fo_Md → fo_Mj → fo_Mi → Prop} {px : String → fo_Mi → fo_Md → fo_Mj → fo_Mi → Prop} (d : decode cc pc = .ok (.invokestatic idx, 3)) (hM : fx_f l y bytes maxL fr lo mc ms Λ As I D J X post px) (hl : fo_ls own idx y bytes maxL (some .float) n) (hn : As.length = n) (hR : fr + 1 ≤ R.frames ∧ 8 + (maxL + 11) + lo ≤ R.locals) (hf : cs + mc ≤ R.cells ∧ ss + ms ≤ R.slots) (st : List Value) (hst : st0 = As.reverse ++ st) (hW : (st.map fun v => v.category).sum ≤ 8) (n' : Nat) (hn' : pc + 3 = n') (kx : ∀ (E : String) (I' : fo_Mi) (D' : fo_Md) (J' : fo_Mj) (X' : fo_Mi), px E I' D' J' X' → fo_T l Λ R K (cs + mc) (ss + ms) pc lv st E I' D' J' X') (k : ∀ (r : UInt32) (I' : fo_Mi) (D' : fo_Md) (J' : fo_Mj) (X' : fo_Mi), post r I' D' J' X' → fo_G l Λ R K (cs + mc) (ss + ms) n' lv (.float r :: st) I' D' J' X') : fo_G l Λ R K cs ss pc lv st0 I D J X := by
  intro H locs ls hP hS hl9
  subst hn'
  subst hst
  refine vx_callf (vx_runS (As := As) (rest := st) C.fix hM (cwS n C.2.2.2.2.1 hl.1 rfl rfl rfl hl.2 hR) ⟨fo_PB, fun U hU hW9 => fo_pre hP hS C.vk C.ok C.zq hU hW9⟩ rfl hn (hl9.1.trans C.nl) rfl (lv_room hW) d ⟨hf.1, hf.2⟩) hS (fun q _ h => h) (fun q h => h) (fun q _ h => h) (fun E ce q9 u t H1 locs1 ht hvm _ hB hz1 hk1 hS1 hc9 hv9 hcl9 => ?_) (fun r u t H1 locs1 ht hvm hw hB hz1 hk1 hS1 => ?_)
  · obtain ⟨I', D', J', X'⟩ := u
    exact kx E I' D' J' X' hB.1 H1 locs1 ls q9 ce (by rw [← ht]; exact hB.2) hS1 hl9 hc9 hv9 hcl9
  · obtain ⟨I', D', J', X'⟩ := u
    exact k r I' D' J' X' hw H1 locs1 ls (by rw [← ht]; exact hB) hS1 hl9
theorem fo_yvv (C : fo_C Λ K cc own nL) {post : fo_Mi → fo_Md → fo_Mj → fo_Mi → Prop} {px : String → fo_Mi → fo_Md → fo_Mj → fo_Mi → Prop} (d : decode cc pc = .ok (.invokevirtual idx, 3)) (hM : fx_v l y bytes maxL fr lo mc ms Λ (.ref (Λ.2.2.1 id) :: As) I D J X post px) (hl : fo_lv own idx y bytes maxL none n) (hk : fo_k id = ci) (hcl : (vwCl[ci]?).map (fun q => q.1) = some y.cls) (hci : ci < 20) (hn : As.length = n) (hR : fr + 1 ≤ R.frames ∧ 8 + (maxL + 11) + lo ≤ R.locals) (hf : cs + mc ≤ R.cells ∧ ss + ms ≤ R.slots) (st : List Value) (hst : st0 = As.reverse ++ .ref (Λ.2.2.1 id) :: st) (hW : (st.map fun v => v.category).sum ≤ 8) (n' : Nat) (hn' : pc + 3 = n') (kx : ∀ (E : String) (I' : fo_Mi) (D' : fo_Md) (J' : fo_Mj) (X' : fo_Mi), px E I' D' J' X' → fo_T l Λ R K (cs + mc) (ss + ms) pc lv st E I' D' J' X') (k : ∀ (I' : fo_Mi) (D' : fo_Md) (J' : fo_Mj) (X' : fo_Mi), post I' D' J' X' → fo_G l Λ R K (cs + mc) (ss + ms) n' lv (st) I' D' J' X') : fo_G l Λ R K cs ss pc lv st0 I D J X := by
  intro H locs ls hP hS hl9
  subst hn'
  subst hst
  refine vx_callv (vx_runV (As := As) (rest := st) C.fix hM (cwV n C.2.2.2.2.1 hl.1 rfl rfl rfl ⟨rfl, hl.2⟩ hR) ⟨fo_PB, by obtain ⟨q, hq, hq1⟩ : ∃ q, vwCl[ci]? = some q ∧ q.1 = y.cls := (by cases hz : vwCl[ci]? with | none => (rw [hz] at hcl; cases hcl) | some q => (rw [hz] at hcl; exact ⟨q, rfl, Option.some.inj hcl⟩)); rw [← hq1]; exact va_recv C.vk hP hq (fo_obj hk hci), fun U hU hW9 => fo_pre hP hS C.vk C.ok C.zq hU hW9⟩ rfl hn (hl9.1.trans C.nl) rfl (lv_room hW) d ⟨hf.1, hf.2⟩) hS (fun q _ h => h) (fun q h => h) (fun q _ h => h) (fun E ce q9 u t H1 locs1 ht hvm _ hB hz1 hk1 hS1 hc9 hv9 hcl9 => ?_) (fun u t H1 locs1 ht hvm hw hB hz1 hk1 hS1 => ?_)
  · obtain ⟨I', D', J', X'⟩ := u
    exact kx E I' D' J' X' hB.1 H1 locs1 ls q9 ce (by rw [← ht]; exact hB.2) hS1 hl9 hc9 hv9 hcl9
  · obtain ⟨I', D', J', X'⟩ := u
    exact k I' D' J' X' hw H1 locs1 ls (by rw [← ht]; exact hB) hS1 hl9
theorem fo_ysv (C : fo_C Λ K cc own nL) {post : fo_Mi → fo_Md → fo_Mj → fo_Mi → Prop} {px : String → fo_Mi → fo_Md → fo_Mj → fo_Mi → Prop} (d : decode cc pc = .ok (.invokestatic idx, 3)) (hM : fx_v l y bytes maxL fr lo mc ms Λ As I D J X post px) (hl : fo_ls own idx y bytes maxL none n) (hn : As.length = n) (hR : fr + 1 ≤ R.frames ∧ 8 + (maxL + 11) + lo ≤ R.locals) (hf : cs + mc ≤ R.cells ∧ ss + ms ≤ R.slots) (st : List Value) (hst : st0 = As.reverse ++ st) (hW : (st.map fun v => v.category).sum ≤ 8) (n' : Nat) (hn' : pc + 3 = n') (kx : ∀ (E : String) (I' : fo_Mi) (D' : fo_Md) (J' : fo_Mj) (X' : fo_Mi), px E I' D' J' X' → fo_T l Λ R K (cs + mc) (ss + ms) pc lv st E I' D' J' X') (k : ∀ (I' : fo_Mi) (D' : fo_Md) (J' : fo_Mj) (X' : fo_Mi), post I' D' J' X' → fo_G l Λ R K (cs + mc) (ss + ms) n' lv (st) I' D' J' X') : fo_G l Λ R K cs ss pc lv st0 I D J X := by
  intro H locs ls hP hS hl9
  subst hn'
  subst hst
  refine vx_callv (vx_runS (As := As) (rest := st) C.fix hM (cwS n C.2.2.2.2.1 hl.1 rfl rfl rfl hl.2 hR) ⟨fo_PB, fun U hU hW9 => fo_pre hP hS C.vk C.ok C.zq hU hW9⟩ rfl hn (hl9.1.trans C.nl) rfl (lv_room hW) d ⟨hf.1, hf.2⟩) hS (fun q _ h => h) (fun q h => h) (fun q _ h => h) (fun E ce q9 u t H1 locs1 ht hvm _ hB hz1 hk1 hS1 hc9 hv9 hcl9 => ?_) (fun u t H1 locs1 ht hvm hw hB hz1 hk1 hS1 => ?_)
  · obtain ⟨I', D', J', X'⟩ := u
    exact kx E I' D' J' X' hB.1 H1 locs1 ls q9 ce (by rw [← ht]; exact hB.2) hS1 hl9 hc9 hv9 hcl9
  · obtain ⟨I', D', J', X'⟩ := u
    exact k I' D' J' X' hw H1 locs1 ls (by rw [← ht]; exact hB) hS1 hl9
theorem fo_yvq (C : fo_C Λ K cc own nL) {ty : FieldType} {post : (Option Nat) → fo_Mi → fo_Md → fo_Mj → fo_Mi → Prop} {px : String → fo_Mi → fo_Md → fo_Mj → fo_Mi → Prop} (d : decode cc pc = .ok (.invokevirtual idx, 3)) (hM : fx_q l y bytes maxL ty fr lo mc ms Λ (.ref (Λ.2.2.1 id) :: As) I D J X post px) (hl : fo_lv own idx y bytes maxL (some ty) n) (hk : fo_k id = ci) (hcl : (vwCl[ci]?).map (fun q => q.1) = some y.cls) (hci : ci < 20) (hn : As.length = n) (hR : fr + 1 ≤ R.frames ∧ 8 + (maxL + 11) + lo ≤ R.locals) (hf : cs + mc ≤ R.cells ∧ ss + ms ≤ R.slots) (st : List Value) (hst : st0 = As.reverse ++ .ref (Λ.2.2.1 id) :: st) (hW : (st.map fun v => v.category).sum ≤ 8) (n' : Nat) (hn' : pc + 3 = n') (kx : ∀ (E : String) (I' : fo_Mi) (D' : fo_Md) (J' : fo_Mj) (X' : fo_Mi), px E I' D' J' X' → fo_T l Λ R K (cs + mc) (ss + ms) pc lv st E I' D' J' X') (k : ∀ (r : Option Nat) (I' : fo_Mi) (D' : fo_Md) (J' : fo_Mj) (X' : fo_Mi), post r I' D' J' X' → fo_G l Λ R K (cs + mc) (ss + ms) n' lv (va_rf r :: st) I' D' J' X') : fo_G l Λ R K cs ss pc lv st0 I D J X := by
  intro H locs ls hP hS hl9
  subst hn'
  subst hst
  refine vx_callq (vx_runV (As := As) (rest := st) C.fix hM (cwV n C.2.2.2.2.1 hl.1 rfl rfl rfl ⟨rfl, hl.2⟩ hR) ⟨fo_PB, by obtain ⟨q, hq, hq1⟩ : ∃ q, vwCl[ci]? = some q ∧ q.1 = y.cls := (by cases hz : vwCl[ci]? with | none => (rw [hz] at hcl; cases hcl) | some q => (rw [hz] at hcl; exact ⟨q, rfl, Option.some.inj hcl⟩)); rw [← hq1]; exact va_recv C.vk hP hq (fo_obj hk hci), fun U hU hW9 => fo_pre hP hS C.vk C.ok C.zq hU hW9⟩ rfl hn (hl9.1.trans C.nl) rfl (lv_room hW) d ⟨hf.1, hf.2⟩) hS (fun q _ h => h) (fun q h => h) (fun q _ h => h) (fun E ce q9 u t H1 locs1 ht hvm _ hB hz1 hk1 hS1 hc9 hv9 hcl9 => ?_) (fun r u t H1 locs1 ht hvm hw hB hz1 hk1 hS1 => ?_)
  · obtain ⟨I', D', J', X'⟩ := u
    exact kx E I' D' J' X' hB.1 H1 locs1 ls q9 ce (by rw [← ht]; exact hB.2) hS1 hl9 hc9 hv9 hcl9
  · obtain ⟨I', D', J', X'⟩ := u
    exact k r I' D' J' X' hw H1 locs1 ls (by rw [← ht]; exact hB) hS1 hl9
theorem fo_ysq (C : fo_C Λ K cc own nL) {ty : FieldType} {post : (Option Nat) → fo_Mi → fo_Md → fo_Mj → fo_Mi → Prop} {px : String → fo_Mi → fo_Md → fo_Mj → fo_Mi → Prop} (d : decode cc pc = .ok (.invokestatic idx, 3)) (hM : fx_q l y bytes maxL ty fr lo mc ms Λ As I D J X post px) (hl : fo_ls own idx y bytes maxL (some ty) n) (hn : As.length = n) (hR : fr + 1 ≤ R.frames ∧ 8 + (maxL + 11) + lo ≤ R.locals) (hf : cs + mc ≤ R.cells ∧ ss + ms ≤ R.slots) (st : List Value) (hst : st0 = As.reverse ++ st) (hW : (st.map fun v => v.category).sum ≤ 8) (n' : Nat) (hn' : pc + 3 = n') (kx : ∀ (E : String) (I' : fo_Mi) (D' : fo_Md) (J' : fo_Mj) (X' : fo_Mi), px E I' D' J' X' → fo_T l Λ R K (cs + mc) (ss + ms) pc lv st E I' D' J' X') (k : ∀ (r : Option Nat) (I' : fo_Mi) (D' : fo_Md) (J' : fo_Mj) (X' : fo_Mi), post r I' D' J' X' → fo_G l Λ R K (cs + mc) (ss + ms) n' lv (va_rf r :: st) I' D' J' X') : fo_G l Λ R K cs ss pc lv st0 I D J X := by
  intro H locs ls hP hS hl9
  subst hn'
  subst hst
  refine vx_callq (vx_runS (As := As) (rest := st) C.fix hM (cwS n C.2.2.2.2.1 hl.1 rfl rfl rfl hl.2 hR) ⟨fo_PB, fun U hU hW9 => fo_pre hP hS C.vk C.ok C.zq hU hW9⟩ rfl hn (hl9.1.trans C.nl) rfl (lv_room hW) d ⟨hf.1, hf.2⟩) hS (fun q _ h => h) (fun q h => h) (fun q _ h => h) (fun E ce q9 u t H1 locs1 ht hvm _ hB hz1 hk1 hS1 hc9 hv9 hcl9 => ?_) (fun r u t H1 locs1 ht hvm hw hB hz1 hk1 hS1 => ?_)
  · obtain ⟨I', D', J', X'⟩ := u
    exact kx E I' D' J' X' hB.1 H1 locs1 ls q9 ce (by rw [← ht]; exact hB.2) hS1 hl9 hc9 hv9 hcl9
  · obtain ⟨I', D', J', X'⟩ := u
    exact k r I' D' J' X' hw H1 locs1 ls (by rw [← ht]; exact hB) hS1 hl9
/-! MEMORY -/
def fo_kf (ci : Nat) (Cn : String) (T : u_T) (N : Nat) (ty0 : Nat → FieldType) : Prop := vwCl[ci]? = some (Cn, T, N) ∧ (∀ w ∈ u_ws Cn T N, w ∈ fo_W0) ∧ (∀ k, k < N → parseFieldDescriptor (T k).2.2.1 = some (ty0 k)) ∧ (∀ a, a < N → ∀ b, b < N → a ≠ b → (T a).2.1 ≠ (T b).2.1)
theorem fo_nle (id : Nat) : fo_n id ≤ 1200 := by
  unfold fo_n
  split
  · repeat' split
    all_goals omega
  · rw [List.getD_eq_getElem?_getD]
    rcases Nat.lt_or_ge (id - 605) 26 with q | q
    · exact (by decide +kernel : ∀ k, k < 26 → (fo_nt[k]?).getD 0 ≤ 1200) _ q
    · rw [List.getElem?_eq_none (by show 26 ≤ id - 605; omega)]
      exact Nat.zero_le _
theorem fo_ix {i : Nat} {id : Nat} (h : i < fo_n id) : vp_in (nI i) (fo_n id) := vp_in_nI h (Nat.lt_of_le_of_lt (fo_nle id) (by decide))
theorem fo_icl {i : Nat} {id : Nat} (h : i < fo_n id) : (nI i).toNatClampNeg = i := nI_clamp (Nat.lt_trans h (Nat.lt_of_le_of_lt (fo_nle id) (by decide)))
theorem fo_get (C : fo_C Λ K cc own nL) {Cn : String} {T : u_T} {N : Nat} {ty0 : Nat → FieldType} (d : decode cc pc = .ok (.getfield idx, 3)) (cf : fo_kf ci Cn T N ty0) (hk : fo_k id = ci) (hci : ci < 20) (j : Nat) (hj : j < N) (hl : Cond.fieldLink own idx (T j).1 (T j).2.1 (T j).2.2.1 ∈ fo_W0) {v : Value} (hv : (fo_f Λ.2.2.1 (I id) ci id)[j]? = some v) (n' : Nat) (hn : pc + 3 = n') (k : fo_G l Λ R K cs ss n' lv (v :: st) I D J X) : fo_G l Λ R K cs ss pc lv (.ref (Λ.2.2.1 id) :: st) I D J X := by
  intro H locs ls hP hS hl9
  subst hn
  exact va_get C.1 C.2.1 C.2.2.2.2.1 cf.2.1 C.2.2.2.1 C.vk hP id (fo_obj hk hci) cf.1 j hj (C.2.2.2.2.1 _ hl) (fun _ h => h) hv d (k H locs ls hP hS hl9)
theorem fo_put (C : fo_C Λ K cc own nL) {Cn : String} {T : u_T} {N : Nat} {ty0 : Nat → FieldType} {v : Int32} (d : decode cc pc = .ok (.putfield idx, 3)) (cf : fo_kf ci Cn T N ty0) (hk : fo_k id = ci) (hci : ci < 20) (j : Nat) (hj : j < N) (hl : Cond.fieldLink own idx (T j).1 (T j).2.1 (T j).2.2.1 ∈ fo_W0) (hfin : (T j).2.2.2 = false) (hnar : narrow (ty0 j) (.int v) = .int v) (hfit : fits (ty0 j) (.int v) = true) (hf : fo_f Λ.2.2.1 (upd (I id) j v) ci id = (fo_f Λ.2.2.1 (I id) ci id).set j (.int v)) (hlen : j < (fo_f Λ.2.2.1 (I id) ci id).length) (n' : Nat) (hn : pc + 3 = n') (k : fo_G l Λ R K cs ss n' lv st (fo_r I id (upd (I id) j v)) D J X) : fo_G l Λ R K cs ss pc lv (.int v :: .ref (Λ.2.2.1 id) :: st) I D J X := by
  intro H locs ls hP hS hl9
  subst hn
  refine va_put C.1 C.2.1 C.2.2.2.2.1 cf.2.1 ty0 cf.2.2.1 cf.2.2.2 C.2.2.2.1 C.vk hP (fo_wD C.ok I D J X) hS id (fo_obj hk hci) cf.1 j hj (C.2.2.2.2.1 _ hl) (fun _ h => h) hfin (cf.2.2.1 j hj) hnar hfit hlen d (fun H1 locs1 hP1 hD1 hS1 => k H1 locs1 ls ?_ hS1 hl9)
  rw [fo_wset (I' := fo_r I id (upd (I id) j v)) (D' := D) (J' := J) (X' := X) (fo_lt hk (by omega)) (by rw [hk, fo_co hci, fo_rs, hf]) (fun b hb => ⟨fo_rn _ _ hb, rfl, rfl, rfl⟩)] at hP1
  exact hP1
theorem fo_iald (C : fo_C Λ K cc own nL) {i : Nat} (d : decode cc pc = .ok (.iaload, 1)) (hk : fo_k id = 20) (hi : i < fo_n id) (x : Int32) (hx : I id i = x) (n' : Nat) (hn : pc + 1 = n') (k : fo_G l Λ R K cs ss n' lv (.int x :: st) I D J X) : fo_G l Λ R K cs ss pc lv (.int (nI i) :: .ref (Λ.2.2.1 id) :: st) I D J X := by
  intro H locs ls hP hS hl9
  subst hn
  subst hx
  refine va_iald C.1 C.2.1 C.vk hP id 2 (fo_wat hk (by decide)) rfl (fo_ix hi) d ?_
  rw [fo_icl hi]
  exact k H locs ls hP hS hl9
theorem fo_xald (C : fo_C Λ K cc own nL) {i : Nat} (d : decode cc pc = .ok (.iaload, 1)) (hk : fo_k id = 21) (hi : i < fo_n id) (x : Int32) (hx : X id i = x) (n' : Nat) (hn : pc + 1 = n') (k : fo_G l Λ R K cs ss n' lv (.int x :: st) I D J X) : fo_G l Λ R K cs ss pc lv (.int (nI i) :: .ref (Λ.2.2.1 id) :: st) I D J X := by
  intro H locs ls hP hS hl9
  subst hn
  subst hx
  refine va_iald C.1 C.2.1 C.vk hP id 2 (fo_wat hk (by decide)) rfl (fo_ix hi) d ?_
  rw [fo_icl hi]
  exact k H locs ls hP hS hl9
theorem fo_cald (C : fo_C Λ K cc own nL) {i : Nat} (d : decode cc pc = .ok (.caload, 1)) (hk : fo_k id = 23) (hi : i < fo_n id) (x : Int32) (hx : I id i = x) (n' : Nat) (hn : pc + 1 = n') (k : fo_G l Λ R K cs ss n' lv (.int x :: st) I D J X) : fo_G l Λ R K cs ss pc lv (.int (nI i) :: .ref (Λ.2.2.1 id) :: st) I D J X := by
  intro H locs ls hP hS hl9
  subst hn
  subst hx
  refine va_cald C.1 C.2.1 C.vk hP id 0 (fo_wat hk (by decide)) rfl (fo_ix hi) d ?_
  rw [fo_icl hi]
  exact k H locs ls hP hS hl9
theorem fo_dald (C : fo_C Λ K cc own nL) {i : Nat} (d : decode cc pc = .ok (.daload, 1)) (hk : fo_k id = 22) (hi : i < fo_n id) (x : UInt64) (hx : D id i = x) (n' : Nat) (hn : pc + 1 = n') (k : fo_G l Λ R K cs ss n' lv (.double x :: st) I D J X) : fo_G l Λ R K cs ss pc lv (.int (nI i) :: .ref (Λ.2.2.1 id) :: st) I D J X := by
  intro H locs ls hP hS hl9
  subst hn
  subst hx
  refine va_dald C.1 C.2.1 C.vk hP id 1 (fo_wat hk (by decide)) rfl (fo_ix hi) d ?_
  rw [fo_icl hi]
  exact k H locs ls hP hS hl9
theorem fo_lald (C : fo_C Λ K cc own nL) {i : Nat} (d : decode cc pc = .ok (.laload, 1)) (hk : fo_k id = 24) (hi : i < fo_n id) (x : Int64) (hx : J id i = x) (n' : Nat) (hn : pc + 1 = n') (k : fo_G l Λ R K cs ss n' lv (.long x :: st) I D J X) : fo_G l Λ R K cs ss pc lv (.int (nI i) :: .ref (Λ.2.2.1 id) :: st) I D J X := by
  intro H locs ls hP hS hl9
  subst hn
  subst hx
  refine va_lald C.1 C.2.1 C.vk hP id 3 (fo_wat hk (by decide)) rfl (fo_ix hi) d ?_
  rw [fo_icl hi]
  exact k H locs ls hP hS hl9
theorem fo_iast (C : fo_C Λ K cc own nL) {i : Nat} {x : Int32} (d : decode cc pc = .ok (.iastore, 1)) (hk : fo_k id = 20) (hi : i < fo_n id) (n' : Nat) (hn : pc + 1 = n') (k : fo_G l Λ R K cs ss n' lv st (fo_r I id (upd (I id) i x)) D J X) : fo_G l Λ R K cs ss pc lv (.int x :: .int (nI i) :: .ref (Λ.2.2.1 id) :: st) I D J X := by
  intro H locs ls hP hS hl9
  subst hn
  refine va_iast C.1 C.2.1 C.vk hP (fo_wD C.ok I D J X) hS id 2 (fo_wat hk (by decide)) rfl (fo_ix hi) d (fun H1 locs1 hP1 hD1 hS1 => k H1 locs1 ls ?_ hS1 hl9)
  rw [fo_icl hi, fo_wset (I' := fo_r I id (upd (I id) i x)) (D' := D) (J' := J) (X' := X) (fo_lt hk (by decide)) (by rw [hk, fo_rs]; rfl) (fun b hb => ⟨fo_rn _ _ hb, rfl, rfl, rfl⟩)] at hP1
  exact hP1
theorem fo_xast (C : fo_C Λ K cc own nL) {i : Nat} {x : Int32} (d : decode cc pc = .ok (.iastore, 1)) (hk : fo_k id = 21) (hi : i < fo_n id) (n' : Nat) (hn : pc + 1 = n') (k : fo_G l Λ R K cs ss n' lv st I D J (fo_r X id (upd (X id) i x))) : fo_G l Λ R K cs ss pc lv (.int x :: .int (nI i) :: .ref (Λ.2.2.1 id) :: st) I D J X := by
  intro H locs ls hP hS hl9
  subst hn
  refine va_iast C.1 C.2.1 C.vk hP (fo_wD C.ok I D J X) hS id 2 (fo_wat hk (by decide)) rfl (fo_ix hi) d (fun H1 locs1 hP1 hD1 hS1 => k H1 locs1 ls ?_ hS1 hl9)
  rw [fo_icl hi, fo_wset (I' := I) (D' := D) (J' := J) (X' := fo_r X id (upd (X id) i x)) (fo_lt hk (by decide)) (by rw [hk, fo_rs]; rfl) (fun b hb => ⟨rfl, rfl, rfl, fo_rn _ _ hb⟩)] at hP1
  exact hP1
theorem fo_cast (C : fo_C Λ K cc own nL) {i : Nat} {x : Int32} (d : decode cc pc = .ok (.castore, 1)) (hk : fo_k id = 23) (hi : i < fo_n id) (hx : vp_nar .char x = x) (n' : Nat) (hn : pc + 1 = n') (k : fo_G l Λ R K cs ss n' lv st (fo_r I id (upd (I id) i x)) D J X) : fo_G l Λ R K cs ss pc lv (.int x :: .int (nI i) :: .ref (Λ.2.2.1 id) :: st) I D J X := by
  intro H locs ls hP hS hl9
  subst hn
  refine va_cast C.1 C.2.1 C.vk hP (fo_wD C.ok I D J X) hS id 0 (fo_wat hk (by decide)) rfl (fo_ix hi) d (fun H1 locs1 hP1 hD1 hS1 => k H1 locs1 ls ?_ hS1 hl9)
  rw [fo_icl hi, hx, fo_wset (I' := fo_r I id (upd (I id) i x)) (D' := D) (J' := J) (X' := X) (fo_lt hk (by decide)) (by rw [hk, fo_rs]; rfl) (fun b hb => ⟨fo_rn _ _ hb, rfl, rfl, rfl⟩)] at hP1
  exact hP1
theorem fo_dast (C : fo_C Λ K cc own nL) {i : Nat} {x : UInt64} (d : decode cc pc = .ok (.dastore, 1)) (hk : fo_k id = 22) (hi : i < fo_n id) (n' : Nat) (hn : pc + 1 = n') (k : fo_G l Λ R K cs ss n' lv st I (fo_r D id (vf_upd (D id) i x)) J X) : fo_G l Λ R K cs ss pc lv (.double x :: .int (nI i) :: .ref (Λ.2.2.1 id) :: st) I D J X := by
  intro H locs ls hP hS hl9
  subst hn
  refine va_dast C.1 C.2.1 C.vk hP (fo_wD C.ok I D J X) hS id 1 (fo_wat hk (by decide)) rfl (fo_ix hi) d (fun H1 locs1 hP1 hD1 hS1 => k H1 locs1 ls ?_ hS1 hl9)
  rw [fo_icl hi, fo_wset (I' := I) (D' := fo_r D id (vf_upd (D id) i x)) (J' := J) (X' := X) (fo_lt hk (by decide)) (by rw [hk, fo_rs]; rfl) (fun b hb => ⟨rfl, fo_rn _ _ hb, rfl, rfl⟩)] at hP1
  exact hP1
theorem fo_last (C : fo_C Λ K cc own nL) {i : Nat} {x : Int64} (d : decode cc pc = .ok (.lastore, 1)) (hk : fo_k id = 24) (hi : i < fo_n id) (n' : Nat) (hn : pc + 1 = n') (k : fo_G l Λ R K cs ss n' lv st I D (fo_r J id (vp_updL (J id) i x)) X) : fo_G l Λ R K cs ss pc lv (.long x :: .int (nI i) :: .ref (Λ.2.2.1 id) :: st) I D J X := by
  intro H locs ls hP hS hl9
  subst hn
  refine va_last C.1 C.2.1 C.vk hP (fo_wD C.ok I D J X) hS id 3 (fo_wat hk (by decide)) rfl (fo_ix hi) d (fun H1 locs1 hP1 hD1 hS1 => k H1 locs1 ls ?_ hS1 hl9)
  rw [fo_icl hi, fo_wset (I' := I) (D' := D) (J' := fo_r J id (vp_updL (J id) i x)) (X' := X) (fo_lt hk (by decide)) (by rw [hk, fo_rs]; rfl) (fun b hb => ⟨rfl, rfl, fo_rn _ _ hb, rfl⟩)] at hP1
  exact hP1
theorem fo_aald (C : fo_C Λ K cc own nL) {i kd : Nat} (d : decode cc pc = .ok (.aaload, 1)) (hk : fo_k id = kd) (hkd : kd = 25 ∨ kd = 26 ∨ kd = 27) (hi : i < fo_n id) (tg : Nat) (htg : (if kd = 25 then id + 2 + 5 * i else if kd = 26 then id + 21 + 4 * i else 110 + 55 * i) = tg) (n' : Nat) (hn : pc + 1 = n') (k : fo_G l Λ R K cs ss n' lv (.ref (Λ.2.2.1 tg) :: st) I D J X) : fo_G l Λ R K cs ss pc lv (.int (nI i) :: .ref (Λ.2.2.1 id) :: st) I D J X := by
  intro H locs ls hP hS hl9
  subst hn
  subst htg
  rcases hkd with rfl | rfl | rfl
  · refine va_aldq C.1 C.2.1 C.vk hP id 4 (fo_wat hk (by decide)) rfl (fo_ix hi) d ?_
    rw [fo_icl hi]
    exact k H locs ls hP hS hl9
  · refine va_aldq C.1 C.2.1 C.vk hP id 5 (fo_wat hk (by decide)) rfl (fo_ix hi) d ?_
    rw [fo_icl hi]
    exact k H locs ls hP hS hl9
  · refine va_aldq C.1 C.2.1 C.vk hP id 6 (fo_wat hk (by decide)) rfl (fo_ix hi) d ?_
    rw [fo_icl hi]
    exact k H locs ls hP hS hl9
/-- what a call of Math needs -/
def fo_lm (own : String) (idx : Nat) (y : MethodName) (cc : ByteArray) (nL : Nat) : Prop := Cond.methodLink own idx y ∈ fo_W0 ∧ Cond.static y ∈ fo_W0 ∧ Cond.initialized "java/lang/Math" ∈ fo_W0 ∧ Cond.code y cc nL (some .int) ∈ fo_W0
theorem fo_max (C : fo_C Λ K cc own nL) {x z : Int32} (d : decode cc pc = .ok (.invokestatic idx, 3)) (hm : fo_lm own idx Lib.Math.max.name Lib.Math.max.code 2) (hR : 1 ≤ R.frames ∧ (st.map fun v => v.category).sum + 13 ≤ R.locals) (hf : cs ≤ R.cells ∧ ss ≤ R.slots) (v : Int32) (hv : (if x < z then z else x) = v) (n' : Nat) (hn : pc + 3 = n') (k : fo_G l Λ R K cs ss n' lv (.int v :: st) I D J X) : fo_G l Λ R K cs ss pc lv (.int z :: .int x :: st) I D J X := by
  intro H locs ls hP hS hl9
  subst hn
  subst hv
  exact va_mmax C.1 C.2.1 (C.2.2.1.trans (hl9.1.trans C.nl).symm) C.2.2.2.1 (C.2.2.2.2.1 _ hm.1) (C.2.2.2.2.1 _ hm.2.1) (C.2.2.2.2.1 _ hm.2.2.1) (C.2.2.2.2.1 _ hm.2.2.2) hR.1 hR.2 hf.1 hf.2 d (k H locs ls hP hS hl9)
theorem fo_min (C : fo_C Λ K cc own nL) {x z : Int32} (d : decode cc pc = .ok (.invokestatic idx, 3)) (hm : fo_lm own idx Lib.Math.min.name Lib.Math.min.code 2) (hR : 1 ≤ R.frames ∧ (st.map fun v => v.category).sum + 13 ≤ R.locals) (hf : cs ≤ R.cells ∧ ss ≤ R.slots) (v : Int32) (hv : (if z < x then z else x) = v) (n' : Nat) (hn : pc + 3 = n') (k : fo_G l Λ R K cs ss n' lv (.int v :: st) I D J X) : fo_G l Λ R K cs ss pc lv (.int z :: .int x :: st) I D J X := by
  intro H locs ls hP hS hl9
  subst hn
  subst hv
  exact va_mmin C.1 C.2.1 (C.2.2.1.trans (hl9.1.trans C.nl).symm) C.2.2.2.1 (C.2.2.2.2.1 _ hm.1) (C.2.2.2.2.1 _ hm.2.1) (C.2.2.2.2.1 _ hm.2.2.1) (C.2.2.2.2.1 _ hm.2.2.2) hR.1 hR.2 hf.1 hf.2 d (k H locs ls hP hS hl9)
theorem fo_abs (C : fo_C Λ K cc own nL) {x : Int32} (d : decode cc pc = .ok (.invokestatic idx, 3)) (hm : fo_lm own idx Lib.Math.abs.name Lib.Math.abs.code 1) (hR : 1 ≤ R.frames ∧ (st.map fun v => v.category).sum + 13 ≤ R.locals) (hf : cs ≤ R.cells ∧ ss ≤ R.slots) (v : Int32) (hv : (if 0 ≤ x then x else 0 - x) = v) (n' : Nat) (hn : pc + 3 = n') (k : fo_G l Λ R K cs ss n' lv (.int v :: st) I D J X) : fo_G l Λ R K cs ss pc lv (.int x :: st) I D J X := by
  intro H locs ls hP hS hl9
  subst hn
  subst hv
  exact va_mabs C.1 C.2.1 (C.2.2.1.trans (hl9.1.trans C.nl).symm) C.2.2.2.1 (C.2.2.2.2.1 _ hm.1) (C.2.2.2.2.1 _ hm.2.1) (C.2.2.2.2.1 _ hm.2.2.1) (C.2.2.2.2.1 _ hm.2.2.2) hR.1 hR.2 hf.1 hf.2 d (k H locs ls hP hS hl9)
/-- System.arraycopy, from the beginning to the beginning, of whole ints or doubles -/
def fo_la (own : String) (idx : Nat) : Prop := Cond.methodLink own idx arraycopyName ∈ fo_W0 ∧ Cond.native arraycopyName ∈ fo_W0 ∧ Cond.static arraycopyName ∈ fo_W0 ∧ Cond.initialized "java/lang/System" ∈ fo_W0
theorem fo_copi (C : fo_C Λ K cc own nL) {id2 m : Nat} (d : decode cc pc = .ok (.invokestatic idx, 3)) (hm : fo_la own idx) (hk : fo_k id = 20) (hk2 : fo_k id2 = 20) (h4 : m ≤ fo_n id) (h5 : m ≤ fo_n id2) (hR : 1 ≤ R.frames ∧ (st.map fun v => v.category).sum + (nativeFrameWords "java/lang/System" "arraycopy" 5 + 11) ≤ R.locals) (n' : Nat) (hn : pc + 3 = n') (k : fo_G l Λ R K cs ss n' lv st (fo_r I id2 (va_cpy (I id) (I id2) 0 0 m)) D J X) : fo_G l Λ R K cs ss pc lv (.int (nI m) :: .int (nI 0) :: .ref (Λ.2.2.1 id2) :: .int (nI 0) :: .ref (Λ.2.2.1 id) :: st) I D J X := by
  intro H locs ls hP hS hl9
  subst hn
  have z0 : (nI 0).toNatClampNeg = 0 := nI_clamp (by decide)
  have hmb : m < 2 ^ 31 := Nat.lt_of_le_of_lt h4 (Nat.lt_of_le_of_lt (fo_nle id) (by decide))
  have zm : (nI m).toNatClampNeg = m := nI_clamp hmb
  refine va_copyi C.1 C.2.1 (C.2.2.1.trans (hl9.1.trans C.nl).symm) C.2.2.2.1 (C.2.2.2.2.1 _ hm.1) (C.2.2.2.2.1 _ hm.2.1) (C.2.2.2.2.1 _ hm.2.2.1) (C.2.2.2.2.1 _ hm.2.2.2) C.vk hP (fo_wD C.ok I D J X) hS id id2 2 2 (fo_wat hk (by decide)) (fo_wat hk2 (by decide)) rfl rfl rfl (nI_pos (by decide)) (nI_pos (by decide)) (nI_pos hmb) (by rw [z0, zm, Nat.zero_add]; exact h4) (by rw [z0, zm, Nat.zero_add]; exact h5) (fun _ _ => rfl) hR.1 hR.2 d (fun H1 locs1 hP1 hD1 hS1 => k H1 locs1 ls ?_ hS1 hl9)
  rw [z0, zm, fo_wset (I' := fo_r I id2 (va_cpy (I id) (I id2) 0 0 m)) (D' := D) (J' := J) (X' := X) (fo_lt hk2 (by decide)) (by rw [hk2, fo_rs]; rfl) (fun b hb => ⟨fo_rn _ _ hb, rfl, rfl, rfl⟩)] at hP1
  exact hP1
theorem fo_copd (C : fo_C Λ K cc own nL) {id2 m : Nat} (d : decode cc pc = .ok (.invokestatic idx, 3)) (hm : fo_la own idx) (hk : fo_k id = 22) (hk2 : fo_k id2 = 22) (h4 : m ≤ fo_n id) (h5 : m ≤ fo_n id2) (hR : 1 ≤ R.frames ∧ (st.map fun v => v.category).sum + (nativeFrameWords "java/lang/System" "arraycopy" 5 + 11) ≤ R.locals) (n' : Nat) (hn : pc + 3 = n') (k : fo_G l Λ R K cs ss n' lv st I (fo_r D id2 (va_cpy (D id) (D id2) 0 0 m)) J X) : fo_G l Λ R K cs ss pc lv (.int (nI m) :: .int (nI 0) :: .ref (Λ.2.2.1 id2) :: .int (nI 0) :: .ref (Λ.2.2.1 id) :: st) I D J X := by
  intro H locs ls hP hS hl9
  subst hn
  have z0 : (nI 0).toNatClampNeg = 0 := nI_clamp (by decide)
  have hmb : m < 2 ^ 31 := Nat.lt_of_le_of_lt h4 (Nat.lt_of_le_of_lt (fo_nle id) (by decide))
  have zm : (nI m).toNatClampNeg = m := nI_clamp hmb
  refine va_copyd C.1 C.2.1 (C.2.2.1.trans (hl9.1.trans C.nl).symm) C.2.2.2.1 (C.2.2.2.2.1 _ hm.1) (C.2.2.2.2.1 _ hm.2.1) (C.2.2.2.2.1 _ hm.2.2.1) (C.2.2.2.2.1 _ hm.2.2.2) C.vk hP (fo_wD C.ok I D J X) hS id id2 1 1 (fo_wat hk (by decide)) (fo_wat hk2 (by decide)) rfl rfl rfl (nI_pos (by decide)) (nI_pos (by decide)) (nI_pos hmb) (by rw [z0, zm, Nat.zero_add]; exact h4) (by rw [z0, zm, Nat.zero_add]; exact h5) (fun _ _ => rfl) hR.1 hR.2 d (fun H1 locs1 hP1 hD1 hS1 => k H1 locs1 ls ?_ hS1 hl9)
  rw [z0, zm, fo_wset (I' := I) (D' := fo_r D id2 (va_cpy (D id) (D id2) 0 0 m)) (J' := J) (X' := X) (fo_lt hk2 (by decide)) (by rw [hk2, fo_rs]; rfl) (fun b hb => ⟨rfl, fo_rn _ _ hb, rfl, rfl⟩)] at hP1
  exact hP1
/-- a constant of the pool -/
theorem fo_ldcd (C : fo_C Λ K cc own nL) {v : UInt64} (d : decode cc pc = .ok (.ldc2_w idx, 3)) (h : Cond.constantDouble own idx v ∈ fo_W0) (n' : Nat) (hn : pc + 3 = n') (k : fo_G l Λ R K cs ss n' lv (.double v :: st) I D J X) : fo_G l Λ R K cs ss pc lv st I D J X := by
  intro H locs ls hP hS hl9
  subst hn
  exact lv_ldc2d C.1 C.2.1 C.2.2.2.1 (C.2.2.2.2.1 _ h) d (k H locs ls hP hS hl9)
theorem fo_ldcl (C : fo_C Λ K cc own nL) {v : Int64} (d : decode cc pc = .ok (.ldc2_w idx, 3)) (h : Cond.constantLong own idx v ∈ fo_W0) (n' : Nat) (hn : pc + 3 = n') (k : fo_G l Λ R K cs ss n' lv (.long v :: st) I D J X) : fo_G l Λ R K cs ss pc lv st I D J X := by
  intro H locs ls hP hS hl9
  subst hn
  exact lv_ldc2 C.1 C.2.1 C.2.2.2.1 (C.2.2.2.2.1 _ h) d (k H locs ls hP hS hl9)
end FOC
