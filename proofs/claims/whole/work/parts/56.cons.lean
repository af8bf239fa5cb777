
/-! CONSTRUCTORS: a judgement over a world that grows -/
abbrev gn_D : Type := va_G × (Nat → ClassId)
abbrev gn_t (Δ : gn_D) : List (ClassId × FieldType) := [(Δ.2 0, .char), (Δ.2 1, .double), (Δ.2 2, .int), (Δ.2 3, .long), (Δ.2 4, .object "ForecastLab$Series"), (Δ.2 5, .object "ForecastLab$Prophet"), (Δ.2 6, .object "ForecastLab$State")]
def gn_Z (U : State) : Prop := (∀ q ∈ fo_nn, va_Nw (.methodLinkNest q.1 q.2.1 q.2.2 RX6) U) ∧ va_AO "ForecastLab$Series" U ∧ va_AO "ForecastLab$Prophet" U ∧ va_AO "ForecastLab$State" U
theorem gn_Z.warm {s U : State} (h : gn_Z s) (hW : s.WarmedH U.vm) : gn_Z U := ⟨fun q hq => va_Nw.warmM hW (h.1 q hq), h.2.1.moved hW.alike, h.2.2.1.moved hW.alike, h.2.2.2.moved hW.alike⟩
theorem gn_Z.calling {U : State} (h : gn_Z U) (g : JFrame) (mk : MethodId) (a : Array Value) : gn_Z (U.calling g mk a) := ⟨fun q hq => va_Nw.same rfl rfl (h.1 q hq), va_AO.moved (u := U) (U := U.calling g mk a) (Vm.Alike.refl U.vm) h.2.1, va_AO.moved (u := U) (U := U.calling g mk a) (Vm.Alike.refl U.vm) h.2.2.1, va_AO.moved (u := U) (U := U.calling g mk a) (Vm.Alike.refl U.vm) h.2.2.2⟩
def gn_G (l : Launch) (Δ : gn_D) (A : Nat → Prop) (R : Room) (K : fo_K) (cs ss pc : Nat) (lv : List (Nat × Value)) (st : List Value) (ws : va_W) : Prop :=
  ∀ (H : Heap) (locs : List Loc) (ls : Array Slot), va_P Δ.1 vwCl ws H → va_D A ws → va_S A K.2.2.1.heap H locs → lv_has ls K.2.2.2.2.2.2.2.2.1 lv → W K.1 l K.2.1 R K.2.2.1 K.2.2.2.1 K.2.2.2.2.1 K.2.2.2.2.2.1 K.2.2.2.2.2.2.1 K.2.2.2.2.2.2.2.1 H locs cs ss K.2.2.2.2.2.2.2.2.2 (F0 K.2.2.2.1 pc ls st)
def gn_C (Δ : gn_D) (A : Nat → Prop) (K : fo_K) (cc : ByteArray) (own : String) (nL : Nat) : Prop :=
  K.1.tables.exec = Jvm.exec ∧ K.2.2.2.2.2.2.2.1.code = cc ∧ K.2.2.2.2.2.2.2.1.maxLocals = nL ∧ K.2.2.1.vm.findClass own = some K.2.2.2.1.cls ∧ (∀ w ∈ fo_W0, w.before K.2.2.2.2.1 K.2.2.1 = true) ∧ va_K Δ.1 vwCl (gn_t Δ) K.2.2.1 ∧ (∀ q, K.2.2.1.heap.size ≤ q → A q) ∧ gn_Z K.2.2.1 ∧ K.2.2.2.2.2.2.2.2.1 = nL
section GNC
variable {Δ : gn_D} {A : Nat → Prop} {K : fo_K} {cc : ByteArray} {own : String} {nL : Nat}
theorem gn_C.fix (C : gn_C Δ A K cc own nL) : CallFix K.1 K.2.2.2.1 K.2.2.2.2.2.2.2.1 cc nL K.2.2.1 K.2.2.2.2.1 fo_W0 own := ⟨C.1, C.2.1, C.2.2.1, C.2.2.2.1, C.2.2.2.2.1⟩
theorem gn_C.vk (C : gn_C Δ A K cc own nL) : va_K Δ.1 vwCl (gn_t Δ) K.2.2.1 := C.2.2.2.2.2.1
theorem gn_C.aa (C : gn_C Δ A K cc own nL) : ∀ q, K.2.2.1.heap.size ≤ q → A q := C.2.2.2.2.2.2.1
theorem gn_C.zz (C : gn_C Δ A K cc own nL) : gn_Z K.2.2.1 := C.2.2.2.2.2.2.2.1
theorem gn_C.nl (C : gn_C Δ A K cc own nL) : K.2.2.2.2.2.2.2.2.1 = nL := C.2.2.2.2.2.2.2.2
end GNC
theorem gn_ra {U : State} {c : ClassId} {ty : FieldType} (h : va_RA U c ty) : U.vm.findClass ("[" ++ ty.toString) = some c := by
  cases ty <;> first | exact h | (obtain ⟨_, _, _, _, _, h⟩ := h; exact h)
theorem gn_uniq {D : va_G} {cl : List vw_C} {tys : List (ClassId × FieldType)} {U : State} {i : Nat} {c c' : ClassId} {ty : FieldType} (hK : va_K D cl (tys ++ [(c', ty)]) U) (hi : tys[i]? = some (c, ty)) : c' = c := by
  have h1 := gn_ra (hK.2 tys.length (c', ty) (by rw [List.getElem?_append_right (Nat.le_refl _), Nat.sub_self]; rfl)).2
  have h2 := gn_ra (hK.2 i (c, ty) (by rw [List.getElem?_append_left (List.getElem?_eq_some_iff.mp hi).1]; exact hi)).2
  exact Option.some.inj (h1.symm.trans h2)
/-- a constructor's contract -/
def gk (l : Launch) (y : MethodName) (cc : ByteArray) (nL : Nat) (fr lo mc ms : Nat) (Δ : gn_D) (ci : Nat) (fs : List Value) (post : Nat → va_W → Prop) : Prop := ∀ h0 sz, Met l y (.code y cc nL none :: fo_W0) { frames := fr, cells := mc, slots := ms, locals := lo } (va_Pc [.ref h0] (fun U => U.heap.size = sz ∧ va_P Δ.1 vwCl [(h0, .inr (ci, fs))] U.heap ∧ va_K Δ.1 vwCl (gn_t Δ) U ∧ gn_Z U)) (va_Qv (fun (u : va_W) => post h0 u) (fun u t => va_P Δ.1 vwCl u t.heap ∧ va_D (va_A [(h0, .inr (ci, fs))] sz) u) (va_A [(h0, .inr (ci, fs))] sz)) mc ms (va_A [(h0, .inr (ci, fs))] sz)
theorem gn_sv {l : Launch} {y : MethodName} {cc : ByteArray} {nL fr lo mc ms : Nat} {Δ : gn_D} {ci : Nat} {fs : List Value} {post : Nat → va_W → Prop} (hy : plainName y.cls = true) (hyn : y.name = "<init>") (hfit : 1 ≤ nL)
  (body : ∀ (h0 : Nat) (A : Nat → Prop) (K : fo_K), gn_C Δ A K cc y.cls nL → K.2.2.2.2.2.2.1.name = "<init>" → (∀ {pc cs ss : Nat} {lv : List (Nat × Value)} {ws : va_W}, decode cc pc = .ok (.return_, 1) → post h0 ws → cs ≤ mc → ss ≤ ms → gn_G l Δ A { frames := fr, cells := mc, slots := ms, locals := lo } K cs ss pc lv [] ws) → gn_G l Δ A { frames := fr, cells := mc, slots := ms, locals := lo } K 0 0 0 [(0, .ref h0)] [] [(h0, .inr (ci, fs))]) : gk l y cc nL fr lo mc ms Δ ci fs post := by
  intro h0 sz
  refine Met.ofW (cc := cc) (maxL := nL) (ret := none) hy rfl ?_
  intro p e s m args below meth c s₁ B hml hv
  obtain ⟨rfl, hsz, hP, hK, hZ⟩ := hv
  subst hsz
  have hx := B.exec
  have hb := B.bytes
  have hr := B.returns
  have hts := atoms_spec (ws := .code y cc nL none :: fo_W0) B.pre
  have hown : s.vm.findClass y.cls = some m.cls := findClass_of_methodNamed B.named
  have hlocks := B.notSynchronized
  have hin : meth.name = "<init>" := (name_of_methodNamed B.named B.method).1.trans hyn
  have hl := lv_entry [.ref h0] (n := nL) hfit
  rw [lg_entry_eq]
  have hD : va_D (va_A [(h0, .inr (ci, fs))] s.heap.size) [(h0, .inr (ci, fs))] := va_D.self (A := fun _ => True) ⟨fun i j p q hi hj _ => by
    have h1 := (List.getElem?_eq_some_iff.mp hi).1
    have h2 := (List.getElem?_eq_some_iff.mp hj).1
    have h3 : [(h0, (Sum.inr (ci, fs) : va_E))].length = 1 := rfl
    omega, fun _ _ _ => trivial⟩
  exact body h0 (va_A [(h0, .inr (ci, fs))] s.heap.size) (p, e, s, m, #[.ref h0], below, meth, c, nL, MQ below (va_Qv (fun (u : va_W) => post h0 u) (fun u t => va_P Δ.1 vwCl u t.heap ∧ va_D (va_A [(h0, .inr (ci, fs))] s.heap.size) u) (va_A [(h0, .inr (ci, fs))] s.heap.size)) #[.ref h0] s mc ms (va_A [(h0, .inr (ci, fs))] s.heap.size)) ⟨hx, hb, hml, hown, fun w h => hts w (List.mem_cons_of_mem _ h), hK, fun q h => Or.inr h, hZ, rfl⟩ hin (fun {pc cs ss lv ws} d hp h1 h2 H locs ls hP' hD' hS' hl' => W.widen (k := mc) (n := ms) h1 h2 (W.vret hx hb hr (fun t ht hW => ⟨⟨ws, rfl, hp, by rw [ht]; exact hP', hD'⟩, hS'.F ht⟩) hS'.2.2 d hlocks)) s.heap [] _ hP hD va_S.rf hl
section GNR
variable {l : Launch} {Δ : gn_D} {A : Nat → Prop} {R : Room} {K : fo_K} {cc : ByteArray} {own : String} {nL cs ss pc : Nat} {lv : List (Nat × Value)} {st : List Value} {ws : va_W}

theorem gn_iconst (C : gn_C Δ A K cc own nL) {n : Int} (d : decode cc pc = .ok (.iconst n, 1)) (v : Int32) (hv : Int32.ofInt n = v) (n' : Nat) (hn : pc + 1 = n') (k : gn_G l Δ A R K cs ss n' lv (.int v :: st) ws) : gn_G l Δ A R K cs ss pc lv st ws := by
  intro H locs ls hP hD hS hl
  subst hn
  exact lv_iconst C.1 C.2.1 d hv (k H locs ls hP hD hS hl)
theorem gn_bipush (C : gn_C Δ A K cc own nL) {n : Int} (d : decode cc pc = .ok (.bipush n, 2)) (v : Int32) (hv : (Int8.ofInt n).toInt32 = v) (n' : Nat) (hn : pc + 2 = n') (k : gn_G l Δ A R K cs ss n' lv (.int v :: st) ws) : gn_G l Δ A R K cs ss pc lv st ws := by
  intro H locs ls hP hD hS hl
  subst hn
  exact lv_bipush C.1 C.2.1 d hv (k H locs ls hP hD hS hl)
theorem gn_sipush (C : gn_C Δ A K cc own nL) {n : Int} (d : decode cc pc = .ok (.sipush n, 3)) (v : Int32) (hv : (Int16.ofInt n).toInt32 = v) (n' : Nat) (hn : pc + 3 = n') (k : gn_G l Δ A R K cs ss n' lv (.int v :: st) ws) : gn_G l Δ A R K cs ss pc lv st ws := by
  intro H locs ls hP hD hS hl
  subst hn
  exact lv_sipush C.1 C.2.1 d hv (k H locs ls hP hD hS hl)
theorem gn_iload_n (C : gn_C Δ A K cc own nL) {q : Fin 4} {i : Nat} {x : Int32} (d : decode cc pc = .ok (.iload_n q, 1)) (j : Nat) (hj : lv[j]? = some (i, .int x)) (hi : (q : Nat) = i) (n' : Nat) (hn : pc + 1 = n') (k : gn_G l Δ A R K cs ss n' lv (.int x :: st) ws) : gn_G l Δ A R K cs ss pc lv st ws := by
  intro H locs ls hP hD hS hl
  subst hn
  exact lv_iload_n C.1 C.2.1 d hi (lv_at hl j hj) (k H locs ls hP hD hS hl)
theorem gn_aload_n (C : gn_C Δ A K cc own nL) {q : Fin 4} {i : Nat} {x : Nat} (d : decode cc pc = .ok (.aload_n q, 1)) (j : Nat) (hj : lv[j]? = some (i, .ref x)) (hi : (q : Nat) = i) (n' : Nat) (hn : pc + 1 = n') (k : gn_G l Δ A R K cs ss n' lv (.ref x :: st) ws) : gn_G l Δ A R K cs ss pc lv st ws := by
  intro H locs ls hP hD hS hl
  subst hn
  exact lv_aload_n C.1 C.2.1 d hi (lv_at hl j hj) (k H locs ls hP hD hS hl)
theorem gn_istore_n (C : gn_C Δ A K cc own nL) {q : Fin 4} {x : Int32} {i : Nat} (d : decode cc pc = .ok (.istore_n q, 1)) (hi : (q : Nat) = i) (lv' : List (Nat × Value)) (hl' : (i, Value.int x) :: lv.filter (fun q => !(q.1 == i) && !(q.1 + 1 == i && q.2.category == 2)) = lv') (hb : i < nL) (n' : Nat) (hn : pc + 1 = n') (k : gn_G l Δ A R K cs ss n' lv' st ws) : gn_G l Δ A R K cs ss pc lv (Value.int x :: st) ws := by
  intro H locs ls hP hD hS hl
  subst hn
  exact lv_istore_n C.1 C.2.1 d hi hl (by rw [C.nl]; exact hb) hl' (fun ls' h' => k H locs ls' hP hD hS h')
theorem gn_iinc (C : gn_C Δ A K cc own nL) {i : Nat} {n : Int} {x : Int32} (d : decode cc pc = .ok (.iinc i n, 3)) (j : Nat) (hj : lv[j]? = some (i, .int x)) (v : Int32) (hv : x + Int32.ofInt n = v) (lv' : List (Nat × Value)) (hl' : (i, Value.int v) :: lv.filter (fun q => !(q.1 == i) && !(q.1 + 1 == i && q.2.category == 2)) = lv') (hb : i < nL) (n' : Nat) (hn : pc + 3 = n') (k : gn_G l Δ A R K cs ss n' lv' st ws) : gn_G l Δ A R K cs ss pc lv st ws := by
  intro H locs ls hP hD hS hl
  subst hn
  exact lv_iinc C.1 C.2.1 d hl hj hv (by rw [C.nl]; exact hb) hl' (fun ls' h' => k H locs ls' hP hD hS h')
theorem gn_dup (C : gn_C Δ A K cc own nL) {va : Value} (d : decode cc pc = .ok (.dup, 1)) (hva : va.category = 1) (n' : Nat) (hn : pc + 1 = n') (k : gn_G l Δ A R K cs ss n' lv (va :: va :: st) ws) : gn_G l Δ A R K cs ss pc lv (va :: st) ws := by
  intro H locs ls hP hD hS hl
  subst hn
  exact lv_dup C.1 C.2.1 d hva (k H locs ls hP hD hS hl)
theorem gn_goto (C : gn_C Δ A K cc own nL) {off : Int} (d : decode cc pc = .ok (.goto off, 3)) (n' : Nat) (hn : (pc : Int) + off = (n' : Int)) (k : gn_G l Δ A R K cs ss n' lv st ws) : gn_G l Δ A R K cs ss pc lv st ws := by
  intro H locs ls hP hD hS hl
  exact lv_goto C.1 C.2.1 d hn (k H locs ls hP hD hS hl)
theorem gn_icmp_ge (C : gn_C Δ A K cc own nL) {x y : Int32} {off : Int} (d : decode cc pc = .ok (.if_icmp .ge off, 3)) (m' : Nat) (hm : (pc : Int) + off = (m' : Int)) (n' : Nat) (hn : pc + 3 = n') (kt : y ≤ x → gn_G l Δ A R K cs ss m' lv st ws) (kf : ¬ y ≤ x → gn_G l Δ A R K cs ss n' lv st ws) : gn_G l Δ A R K cs ss pc lv (.int y :: .int x :: st) ws := by
  intro H locs ls hP hD hS hl
  subst hn
  exact lv_icmp_ge C.1 C.2.1 d hm (fun h => kt h H locs ls hP hD hS hl) (fun h => kf h H locs ls hP hD hS hl)
theorem gn_ncmp_ge (C : gn_C Δ A K cc own nL) {a b : Nat} (ha : a < 2 ^ 31) (hb : b < 2 ^ 31) {off : Int} (d : decode cc pc = .ok (.if_icmp .ge off, 3)) (m' : Nat) (hm : (pc : Int) + off = (m' : Int)) (n' : Nat) (hn : pc + 3 = n') (kt : b ≤ a → gn_G l Δ A R K cs ss m' lv st ws) (kf : a < b → gn_G l Δ A R K cs ss n' lv st ws) : gn_G l Δ A R K cs ss pc lv (.int (nI b) :: .int (nI a) :: st) ws := by
  exact gn_icmp_ge C d m' hm n' hn (fun h => kt ((nI_leI hb ha).mp h)) (fun h => kf (Nat.not_le.mp (fun q => h ((nI_leI hb ha).mpr q))))

theorem gn_obj (C : gn_C Δ A K cc own nL) {idx a : Nat} (d : decode cc pc = .ok (.invokespecial idx, 3)) (hl : Cond.methodLink own idx Lib.objectInit ∈ fo_W0) (hi : Cond.instanceMethod Lib.objectInit ∈ fo_W0) (hc : Cond.code Lib.objectInit ⟨#[0xb1]⟩ 1 none ∈ fo_W0) (hR : 1 ≤ R.frames ∧ (st.map fun v => v.category).sum + 12 ≤ R.locals) (n' : Nat) (hn : pc + 3 = n') (k : gn_G l Δ A R K cs ss n' lv st ws) : gn_G l Δ A R K cs ss pc lv (.ref a :: st) ws := by
  intro H locs ls hP hD hS hl9
  subst hn
  exact W.objInit C.1 C.2.1 C.2.2.2.1 (C.2.2.2.2.1 _ hl) (C.2.2.2.2.1 _ hi) (C.2.2.2.2.1 _ hc) (g := F0 K.2.2.2.1 pc ls (.ref a :: st)) rfl ((hl9.1.trans C.nl).trans C.2.2.1.symm) rfl d hR.1 (by show 2 * 0 + _ + 12 ≤ _; have := hR.2; omega) (W.eq (g2 := F0 K.2.2.2.1 (pc + 3) ls st) rfl (k H locs ls hP hD hS hl9))
theorem gn_newa (C : gn_C Δ A K cc own nL) {atype : ArrayType} {ty : FieldType} {cA : ClassId} {N : Nat} {a0 : vp_A} (d : decode cc pc = .ok (.newarray atype, 2)) (hty : newarray.typeOf atype = ty) (harr : Cond.arrayClass (newarray.typeOf atype) ∈ fo_W0) (i : Nat) (hi : (gn_t Δ)[i]? = some (cA, ty)) (ha : ∀ cA : ClassId, vp_cell cA a0 = arrV cA N (fun _ => defaultValue ty)) (hN : N < 2000) (hb : N * componentBytes ty ≤ 536870912) (hcs : cs + 1 ≤ R.cells) (hss : ss + N ≤ R.slots) (n' : Nat) (hn : pc + 2 = n') (k : ∀ q, gn_G l Δ A R K (cs + 1) (ss + N) n' lv (.ref q :: st) (ws ++ [(q, .inl (cA, a0))])) : gn_G l Δ A R K cs ss pc lv (.int (nI N) :: st) ws := by
  intro H locs ls hP hD hS hl9
  subst hn
  refine va_newa (atype := atype) C.1 C.2.1 (C.2.2.2.2.1 _ harr) hty C.vk hP hD hS C.aa (N' := N) (a0 := a0) ha (nI_pos (by omega)) (nI_clamp (by omega)) hb hcs hss d (fun q c1 H1 hK1 hP1 hD1 hS1 => ?_)
  have e := gn_uniq hK1 hi
  subst e
  exact k q H1 locs ls hP1 hD1 hS1 hl9
theorem gn_newq (C : gn_C Δ A K cc own nL) {Cn : String} {idx : Nat} {cA : ClassId} {N : Nat} (d : decode cc pc = .ok (.anewarray idx, 3)) (hcl : Cond.classLink own idx Cn ∈ fo_W0) (hao : va_AO Cn K.2.2.1) (i : Nat) (hi : (gn_t Δ)[i]? = some (cA, .object Cn)) (hN : N < 2000) (hcs : cs + 1 ≤ R.cells) (hss : ss + N ≤ R.slots) (n' : Nat) (hn : pc + 3 = n') (k : ∀ q, gn_G l Δ A R K (cs + 1) (ss + N) n' lv (.ref q :: st) (ws ++ [(q, .inl (cA, N, .inr (.inr (.inr (.inr (fun _ => none))))))])) : gn_G l Δ A R K cs ss pc lv (.int (nI N) :: st) ws := by
  intro H locs ls hP hD hS hl9
  subst hn
  refine va_newq C.1 C.2.1 C.2.2.2.1 (C.2.2.2.2.1 _ hcl) hao C.vk hP hD hS C.aa (N' := N) (nI_pos (by omega)) (nI_clamp (by omega)) (by omega) hcs hss d (fun q c1 H1 hK1 hP1 hD1 hS1 => ?_)
  have e := gn_uniq hK1 hi
  subst e
  exact k q H1 locs ls hP1 hD1 hS1 hl9
theorem gn_putF (C : gn_C Δ A K cc own nL) (hin : K.2.2.2.2.2.2.1.name = "<init>") {ci idx : Nat} {Cn : String} {T : u_T} {N : Nat} {ty0 : Nat → FieldType} {a : Nat} {fs : List Value} {v : Value} (d : decode cc pc = .ok (.putfield idx, 3)) (cf : fo_kf ci Cn T N ty0) (q0 : Nat) (he : ws[q0]? = some (a, .inr (ci, fs))) (j : Nat) (hj : j < N) (hl : Cond.fieldLink own idx (T j).1 (T j).2.1 (T j).2.2.1 ∈ fo_W0) (hfin : (T j).2.2.2 = true) (hdecl : (T j).1 = own) (hnar : narrow (ty0 j) v = v) (hfit : fits (ty0 j) v = true) (hlen : j < fs.length) (ws' : va_W) (hw : ws.set q0 (a, .inr (ci, fs.set j v)) = ws') (n' : Nat) (hn : pc + 3 = n') (k : gn_G l Δ A R K cs ss n' lv st ws') : gn_G l Δ A R K cs ss pc lv (v :: .ref a :: st) ws := by
  intro H locs ls hP hD hS hl9
  subst hn
  subst hw
  exact va_putF C.1 C.2.1 C.2.2.2.2.1 cf.2.1 ty0 cf.2.2.1 cf.2.2.2 C.2.2.2.1 C.vk hP hD hS q0 he cf.1 j hj (C.2.2.2.2.1 _ hl) (fun _ h => h) hfin hin hdecl (cf.2.2.1 j hj) hnar hfit hlen d (fun H1 locs1 hP1 hD1 hS1 => k H1 locs1 ls hP1 hD1 hS1 hl9)
theorem gn_put (C : gn_C Δ A K cc own nL) {ci idx : Nat} {Cn : String} {T : u_T} {N : Nat} {ty0 : Nat → FieldType} {a : Nat} {fs : List Value} {v : Value} (d : decode cc pc = .ok (.putfield idx, 3)) (cf : fo_kf ci Cn T N ty0) (q0 : Nat) (he : ws[q0]? = some (a, .inr (ci, fs))) (j : Nat) (hj : j < N) (hl : Cond.fieldLink own idx (T j).1 (T j).2.1 (T j).2.2.1 ∈ fo_W0) (hfin : (T j).2.2.2 = false) (hnar : narrow (ty0 j) v = v) (hfit : fits (ty0 j) v = true) (hlen : j < fs.length) (ws' : va_W) (hw : ws.set q0 (a, .inr (ci, fs.set j v)) = ws') (n' : Nat) (hn : pc + 3 = n') (k : gn_G l Δ A R K cs ss n' lv st ws') : gn_G l Δ A R K cs ss pc lv (v :: .ref a :: st) ws := by
  intro H locs ls hP hD hS hl9
  subst hn
  subst hw
  exact va_put C.1 C.2.1 C.2.2.2.2.1 cf.2.1 ty0 cf.2.2.1 cf.2.2.2 C.2.2.2.1 C.vk hP hD hS q0 he cf.1 j hj (C.2.2.2.2.1 _ hl) (fun _ h => h) hfin (cf.2.2.1 j hj) hnar hfit hlen d (fun H1 locs1 hP1 hD1 hS1 => k H1 locs1 ls hP1 hD1 hS1 hl9)
theorem gn_get (C : gn_C Δ A K cc own nL) {ci idx : Nat} {Cn : String} {T : u_T} {N : Nat} {ty0 : Nat → FieldType} {a : Nat} {fs : List Value} (d : decode cc pc = .ok (.getfield idx, 3)) (cf : fo_kf ci Cn T N ty0) (q0 : Nat) (he : ws[q0]? = some (a, .inr (ci, fs))) (j : Nat) (hj : j < N) (hl : Cond.fieldLink own idx (T j).1 (T j).2.1 (T j).2.2.1 ∈ fo_W0) (v : Value) (hv : fs[j]? = some v) (n' : Nat) (hn : pc + 3 = n') (k : gn_G l Δ A R K cs ss n' lv (v :: st) ws) : gn_G l Δ A R K cs ss pc lv (.ref a :: st) ws := by
  intro H locs ls hP hD hS hl9
  subst hn
  exact va_get C.1 C.2.1 C.2.2.2.2.1 cf.2.1 C.2.2.2.1 C.vk hP q0 he cf.1 j hj (C.2.2.2.2.1 _ hl) (fun _ h => h) hv d (k H locs ls hP hD hS hl9)
theorem gn_new (C : gn_C Δ A K cc own nL) {ci idx : Nat} {Cn : String} {T : u_T} {N : Nat} {ty0 : Nat → FieldType} {fs : List Value} (d : decode cc pc = .ok (.new idx, 3)) (cf : fo_kf ci Cn T N ty0) (h1 : Cond.classLink own idx Cn ∈ fo_W0) (h2 : Cond.instantiable Cn N ∈ fo_W0) (h3 : Cond.initialized Cn ∈ fo_W0) (hfs : ∀ j, j < N → defaultValue (ty0 j) = vp_V fs j) (hcs : cs + 1 ≤ R.cells) (hss : ss + N ≤ R.slots) (n' : Nat) (hn : pc + 3 = n') (k : ∀ q, gn_G l Δ A R K (cs + 1) (ss + N) n' lv (.ref q :: st) (ws ++ [(q, .inr (ci, fs))])) : gn_G l Δ A R K cs ss pc lv st ws := by
  intro H locs ls hP hD hS hl9
  subst hn
  exact va_new C.1 C.2.1 C.2.2.2.2.1 cf.2.1 ty0 cf.2.2.1 C.2.2.2.1 (C.2.2.2.2.1 _ h1) (C.2.2.2.2.1 _ h2) (C.2.2.2.2.1 _ h3) C.vk hP hD hS C.aa cf.1 hfs hcs hss d (fun q H1 hP1 hD1 hS1 => k q H1 locs ls hP1 hD1 hS1 hl9)
theorem gn_astq (C : gn_C Δ A K cc own nL) {a n v ci i : Nat} {cA : ClassId} {r : vw_C} {vs : List Value} {f : Nat → Option Nat} (d : decode cc pc = .ok (.aastore, 1)) (q0 t0 qk : Nat) (ha : ws[q0]? = some (a, .inl (cA, n, .inr (.inr (.inr (.inr f)))))) (ht : (gn_t Δ)[t0]? = some (cA, .object r.1)) (hv : ws[qk]? = some (v, .inr (ci, vs))) (hc : vwCl[ci]? = some r) (hi : i < n) (hn2 : n < 2000) (ws' : va_W) (hw : ws.set q0 (a, .inl (cA, n, .inr (.inr (.inr (.inr (va_up f i (some v))))))) = ws') (n' : Nat) (hn : pc + 1 = n') (k : gn_G l Δ A R K cs ss n' lv st ws') : gn_G l Δ A R K cs ss pc lv (.ref v :: .int (nI i) :: .ref a :: st) ws := by
  intro H locs ls hP hD hS hl9
  subst hn
  subst hw
  refine va_astq C.1 C.2.1 C.vk hP hD hS q0 t0 qk ci ha ht hv hc (vp_in_nI hi (by omega)) d (fun H1 locs1 hP1 hD1 hS1 => ?_)
  rw [nI_clamp (by omega)] at hP1 hD1
  exact k H1 locs1 ls hP1 hD1 hS1 hl9
theorem gn_nd0 : ∀ (l : List Nat), l.Nodup → va_nd l = true
  | [], _ => rfl
  | a :: l, h => by
    obtain ⟨h1, h2⟩ := List.nodup_cons.mp h
    show (decide (a ∉ l) && va_nd l) = true
    rw [decide_eq_true h1, gn_nd0 l h2]
    rfl
theorem gn_nd (n : Nat) : va_nd (List.range n) = true := gn_nd0 _ List.nodup_range
theorem gn_rng {α : Type} (l : List α) (x : List α) : (List.range l.length).map (fun i => (l ++ x)[i]?) = l.map some := by
  apply List.ext_getElem?
  intro k
  rw [List.getElem?_map, List.getElem?_map]
  by_cases h : k < l.length
  · rw [List.getElem?_range h, List.getElem?_eq_getElem h]
    show some ((l ++ x)[k]?) = some (some _)
    rw [List.getElem?_append_left h, List.getElem?_eq_getElem h]
  · rw [List.getElem?_eq_none (by rw [List.length_range]; omega), List.getElem?_eq_none (by omega)]
    rfl
/-- what a call of a constructor needs of the tables -/
def gn_li (own : String) (idx : Nat) (y : MethodName) (cc : ByteArray) (nL : Nat) : Prop := Cond.initialized y.cls ∈ fo_W0 ∧ Cond.methodLink own idx y ∈ fo_W0 ∧ Cond.instanceMethod y ∈ fo_W0 ∧ Cond.code y cc nL none ∈ fo_W0 ∧ y.name = "<init>" ∧ (y.cls ≠ "java/lang/invoke/MethodHandle" ∧ y.cls ≠ "java/lang/invoke/VarHandle" ∧ (parseMethodDescriptor y.desc).map (fun d => d.parameters.length) = some 0)
def gn_ln (own : String) (idx : Nat) (y : MethodName) (cc : ByteArray) (nL : Nat) : Prop := Cond.initialized y.cls ∈ fo_W0 ∧ (own, idx, y) ∈ fo_nn ∧ Cond.instanceMethod y ∈ fo_W0 ∧ Cond.code y cc nL none ∈ fo_W0 ∧ y.name = "<init>" ∧ (y.cls ≠ "java/lang/invoke/MethodHandle" ∧ y.cls ≠ "java/lang/invoke/VarHandle" ∧ (parseMethodDescriptor y.desc).map (fun d => d.parameters.length) = some 0)
variable {y : MethodName} {bytes : ByteArray} {maxL fr lo mc ms ci idx q : Nat} {fs : List Value} {post : Nat → va_W → Prop}
theorem gn_blind {h0 sz : Nat} : FrameBlind (va_Pc [.ref h0] (fun U => U.heap.size = sz ∧ va_P Δ.1 vwCl [(h0, .inr (ci, fs))] U.heap ∧ va_K Δ.1 vwCl (gn_t Δ) U ∧ gn_Z U)) := fun a U g mk h => ⟨h.1, h.2.1, h.2.2.1, va_K.moved (u := U) (U := U.calling g mk a) (Vm.Alike.refl U.vm) h.2.2.2.1, h.2.2.2.2.calling g mk a⟩
theorem gn_joins (C : gn_C Δ A K cc own nL) (k : ∀ u, post q u → gn_G l Δ A R K (cs + mc) (ss + ms) (pc + 3) lv st (ws ++ u)) {H : Heap} {locs : List Loc} {ls : Array Slot} (hP : va_P Δ.1 vwCl (ws ++ [(q, .inr (ci, fs))]) H) (hD : va_D A (ws ++ [(q, .inr (ci, fs))])) (hS : va_S A K.2.2.1.heap H locs) (hl9 : lv_has ls K.2.2.2.2.2.2.2.2.1 lv)
  (hrun : va_Run K.1 l K.2.1 R K.2.2.1 K.2.2.2.1 K.2.2.2.2.1 K.2.2.2.2.2.1 K.2.2.2.2.2.2.1 K.2.2.2.2.2.2.2.1 H locs cs ss mc ms (F0 K.2.2.2.1 pc ls (.ref q :: st)) st (va_Qv (fun (u : va_W) => post q u) (fun u t => va_P Δ.1 vwCl u t.heap ∧ va_D (va_A [(q, .inr (ci, fs))] H.size) u) (va_A [(q, .inr (ci, fs))] H.size) #[.ref q]) (va_A [(q, .inr (ci, fs))] H.size)) : W K.1 l K.2.1 R K.2.2.1 K.2.2.2.1 K.2.2.2.2.1 K.2.2.2.2.2.1 K.2.2.2.2.2.2.1 K.2.2.2.2.2.2.2.1 H locs cs ss K.2.2.2.2.2.2.2.2.2 (F0 K.2.2.2.1 pc ls (.ref q :: st)) := by
  have hC1 : [ws.length].map (fun i => (ws ++ [(q, (Sum.inr (ci, fs) : va_E))])[i]?) = [(q, (Sum.inr (ci, fs) : va_E))].map some := by
    show [(ws ++ [(q, (Sum.inr (ci, fs) : va_E))])[ws.length]?] = _
    rw [List.getElem?_append_right (Nat.le_refl _), Nat.sub_self]
    rfl
  have hFc := va_free (wc := [(q, .inr (ci, fs))]) hD hS C.aa [ws.length] hC1
  refine va_callv hrun hS (fun x _ h => hFc x h) hFc (fun u t H1 locs1 ht hvm hw hB hz1 hk1 hS1 => ?_)
  obtain ⟨hP1, hD1⟩ := hB
  rw [ht] at hP1
  obtain ⟨hP2, hD2⟩ := va_join (wr := ws) (w1 := u) hP hD [ws.length] (List.range ws.length) hC1 (gn_rng ws _) (gn_nd _) (fun i hi hc => by have h1 := List.mem_range.mp hi; have h2 := List.mem_singleton.mp hc; omega) hk1 hFc hP1 hD1
  exact k u hw H1 locs1 ls hP2 hD2 hS1 hl9
theorem gn_init (C : gn_C Δ A K cc own nL) (d : decode cc pc = .ok (.invokespecial idx, 3)) (hM : gk l y bytes maxL fr lo mc ms Δ ci fs post) (hl : gn_li own idx y bytes maxL) (hR : fr + 1 ≤ R.frames ∧ 8 + (maxL + 11) + lo ≤ R.locals) (hf : cs + mc ≤ R.cells ∧ ss + ms ≤ R.slots) (hW : (st.map fun v => v.category).sum ≤ 8) (n' : Nat) (hn' : pc + 3 = n') (k : ∀ u, post q u → gn_G l Δ A R K (cs + mc) (ss + ms) n' lv st (ws ++ u)) : gn_G l Δ A R K cs ss pc lv (.ref q :: st) (ws ++ [(q, .inr (ci, fs))]) := by
  intro H locs ls hP hD hS hl9
  subst hn'
  refine gn_joins C k hP hD hS hl9 (va_runI (As := []) (rest := st) C.fix (hM q H.size) (cwI 0 C.2.2.2.2.1 (fo_gl (fun w hw => by rcases List.mem_cons.mp hw with rfl | hw; exact hl.2.2.2.1; exact hw)) rfl rfl rfl (C.2.2.2.2.1 _ hl.1) (C.2.2.2.2.1 _ hl.2.1) (C.2.2.2.2.1 _ hl.2.2.1) hl.2.2.2.2.1 hl.2.2.2.2.2 hR) ⟨gn_blind, fun U hU hW9 => ⟨rfl, by rw [hU], by rw [hU]; exact hP.sub (ws' := [(q, .inr (ci, fs))]) [ws.length] (by show [(ws ++ [(q, (Sum.inr (ci, fs) : va_E))])[ws.length]?].filterMap id = _; rw [List.getElem?_append_right (Nat.le_refl _), Nat.sub_self]; rfl), va_K.moved hW9.alike C.vk, C.zz.warm hW9⟩⟩ rfl rfl (hl9.1.trans C.nl) rfl (lv_room hW) d ⟨hf.1, hf.2⟩)
theorem gn_initN (C : gn_C Δ A K cc own nL) (d : decode cc pc = .ok (.invokespecial idx, 3)) (hM : gk l y bytes maxL fr lo mc ms Δ ci fs post) (hl : gn_ln own idx y bytes maxL) (hR : fr + 1 ≤ R.frames ∧ 8 + (maxL + 11) + lo ≤ R.locals) (hf : cs + mc ≤ R.cells ∧ ss + ms ≤ R.slots) (hW : (st.map fun v => v.category).sum ≤ 8) (n' : Nat) (hn' : pc + 3 = n') (k : ∀ u, post q u → gn_G l Δ A R K (cs + mc) (ss + ms) n' lv st (ws ++ u)) : gn_G l Δ A R K cs ss pc lv (.ref q :: st) (ws ++ [(q, .inr (ci, fs))]) := by
  intro H locs ls hP hD hS hl9
  subst hn'
  refine gn_joins C k hP hD hS hl9 (va_runIN (As := []) (rest := st) C.fix (hM q H.size) ⟨va_cnB 0 C.2.2.2.2.1 (fo_gl (fun w hw => by rcases List.mem_cons.mp hw with rfl | hw; exact hl.2.2.2.1; exact hw)) rfl rfl rfl (C.zz.1 _ hl.2.1) (C.2.2.2.2.1 _ hl.1) hl.2.2.2.2.2 hR, hl.2.2.2.2.1, C.2.2.2.2.1 _ hl.2.2.1⟩ ⟨gn_blind, fun U hU hW9 => ⟨rfl, by rw [hU], by rw [hU]; exact hP.sub (ws' := [(q, .inr (ci, fs))]) [ws.length] (by show [(ws ++ [(q, (Sum.inr (ci, fs) : va_E))])[ws.length]?].filterMap id = _; rw [List.getElem?_append_right (Nat.le_refl _), Nat.sub_self]; rfl), va_K.moved hW9.alike C.vk, C.zz.warm hW9⟩⟩ rfl rfl (hl9.1.trans C.nl) rfl (lv_room hW) d ⟨hf.1, hf.2⟩)
end GNR

