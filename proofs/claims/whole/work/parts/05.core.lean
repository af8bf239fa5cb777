/-! THE SYSTEM'S LAYOUT: every cell has a number (id); ad gives its address. States 0..10 (0 now, 1 kept, 2..10 past) lie at 55*i; 605 lab, 606 past, 607 its row, 608 program, 609..613 its rows, 614 line, 615 signs, 616 model, 617..628 its rows, 629 out, 630 outD. I: ints (fields and rows), D: doubles, J: longs, X: scratch rows. -/
abbrev fo_Mi : Type := Nat → Nat → Int32
abbrev fo_Md : Type := Nat → Nat → UInt64
abbrev fo_Mj : Type := Nat → Nat → Int64
abbrev fo_Lt : Type := va_G × (Nat → ClassId) × (Nat → Nat) × Nat
abbrev fo_A (Λ : fo_Lt) : Nat → Prop := fun q => Λ.2.2.2 ≤ q
def fo_kt : List Nat := [8, 3, 27, 4, 23, 23, 20, 20, 20, 2, 23, 9, 20, 20, 20, 20, 21, 20, 20, 20, 20, 20, 20, 20, 24, 22]
def fo_nt : List Nat := [0, 0, 9, 0, 60, 60, 60, 60, 60, 0, 152, 0, 150, 150, 150, 1200, 30, 160, 60, 32, 32, 32, 32, 60, 1, 1]
/-- kind of a cell: 2..9 an object of that class of vwCl, 20 ints, 21 scratch ints, 22 doubles, 23 chars, 24 longs, 25..27 rows of references -/
def fo_k (id : Nat) : Nat := if id < 605 then (if id % 55 = 0 then 7 else if id % 55 = 1 then 25 else if id % 55 = 2 then 26 else if id % 55 < 23 then (if (id % 55 - 3) % 5 = 0 then 6 else if (id % 55 - 3) % 5 = 1 then 20 else 21) else (if (id % 55 - 23) % 4 = 0 then 5 else if (id % 55 - 23) % 4 = 2 then 22 else 20)) else fo_kt.getD (id - 605) 99
/-- length of a row -/
def fo_n (id : Nat) : Nat := if id < 605 then (if id % 55 = 1 then 4 else if id % 55 = 2 then 8 else if id % 55 < 23 then (if (id % 55 - 3) % 5 = 1 then 30 else if (id % 55 - 3) % 5 = 2 then 30 else if (id % 55 - 3) % 5 = 3 then 5 else 31) else 4) else fo_nt.getD (id - 605) 0
/-- an object's fields -/
def fo_f (ad : Nat → Nat) (r : Nat → Int32) (k id : Nat) : List Value := match k with
  | 7 => [.ref (ad (id + 1)), .ref (ad (id + 2)), .int (r 2), .int (r 3)]
  | 6 => [.ref (ad (id + 1)), .int (r 1), .ref (ad (id + 2)), .ref (ad (id + 3)), .ref (ad (id + 4))]
  | 5 => [.int (r 0), .int (r 1), .ref (ad (id + 1)), .ref (ad (id + 2)), .ref (ad (id + 3))]
  | 8 => [.ref (ad 0), .ref (ad 55), .ref (ad 606), .ref (ad 608), .ref (ad 614), .int (r 5), .int (r 6), .int (r 7)]
  | 3 => [.ref (ad 607), .int (r 1), .int (r 2)]
  | 4 => [.ref (ad 609), .int (r 1), .int (r 2), .int (r 3), .ref (ad 610), .ref (ad 611), .ref (ad 612), .ref (ad 613), .int (r 8)]
  | 2 => [.ref (ad 615), .int (r 1)]
  | 9 => [.ref (ad 617), .ref (ad 618), .ref (ad 619), .ref (ad 620), .ref (ad 621), .int (r 5), .int (r 6), .int (r 7), .int (r 8), .int (r 9), .ref (ad 622), .int (r 11), .ref (ad 623), .ref (ad 624), .ref (ad 625), .ref (ad 626), .ref (ad 627), .ref (ad 628), .int (r 18), .int (r 19), .int (r 20), .int (r 21), .int (r 22), .int (r 23)]
  | _ => []
/-- a cell -/
def fo_c (Λ : fo_Lt) (k id : Nat) (ri : Nat → Int32) (rd : Nat → UInt64) (rj : Nat → Int64) (rx : Nat → Int32) : va_E := match k with
  | 20 => .inl (Λ.2.1 2, fo_n id, .inl ri)
  | 21 => .inl (Λ.2.1 2, fo_n id, .inl rx)
  | 22 => .inl (Λ.2.1 1, fo_n id, .inr (.inr (.inr (.inl rd))))
  | 23 => .inl (Λ.2.1 0, fo_n id, .inl ri)
  | 24 => .inl (Λ.2.1 3, fo_n id, .inr (.inl rj))
  | 25 => .inl (Λ.2.1 4, fo_n id, .inr (.inr (.inr (.inr (fun j => some (Λ.2.2.1 (id + 2 + 5 * j)))))))
  | 26 => .inl (Λ.2.1 5, fo_n id, .inr (.inr (.inr (.inr (fun j => some (Λ.2.2.1 (id + 21 + 4 * j)))))))
  | 27 => .inl (Λ.2.1 6, fo_n id, .inr (.inr (.inr (.inr (fun j => some (Λ.2.2.1 (110 + 55 * j)))))))
  | k => .inr (k, fo_f Λ.2.2.1 ri k id)
def fo_w (Λ : fo_Lt) (I : fo_Mi) (D : fo_Md) (J : fo_Mj) (X : fo_Mi) : va_W := (List.range 631).map (fun id => (Λ.2.2.1 id, fo_c Λ (fo_k id) id (I id) (D id) (J id) (X id)))
abbrev fo_t (Λ : fo_Lt) : List (ClassId × FieldType) := [(Λ.2.1 0, .char), (Λ.2.1 1, .double), (Λ.2.1 2, .int), (Λ.2.1 3, .long), (Λ.2.1 4, .object "ForecastLab$Series"), (Λ.2.1 5, .object "ForecastLab$Prophet"), (Λ.2.1 6, .object "ForecastLab$State")]
/-- the addresses are apart, and from z on -/
def fo_O (Λ : fo_Lt) : Prop := (∀ i j, i < 631 → j < 631 → Λ.2.2.1 i = Λ.2.2.1 j → i = j) ∧ ∀ i, i < 631 → Λ.2.2.2 ≤ Λ.2.2.1 i
/-- a row put in another's place -/
def fo_r {α : Type} (M : Nat → Nat → α) (a : Nat) (f : Nat → α) : Nat → Nat → α := fun b => if b = a then f else M b
theorem fo_rs {α : Type} (M : Nat → Nat → α) (a : Nat) (f : Nat → α) : fo_r M a f a = f := if_pos rfl
theorem fo_rn {α : Type} (M : Nat → Nat → α) {a b : Nat} (f : Nat → α) (h : b ≠ a) : fo_r M a f b = M b := if_neg h
theorem fo_rr {α : Type} (M : Nat → Nat → α) (a : Nat) (f g : Nat → α) : fo_r (fo_r M a f) a g = fo_r M a g := by
  funext b
  by_cases h : b = a
  · subst h; rw [fo_rs, fo_rs]
  · rw [fo_rn _ _ h, fo_rn _ _ h, fo_rn _ _ h]
theorem fo_rc {α : Type} (M : Nat → Nat → α) {a b : Nat} (f g : Nat → α) (h : a ≠ b) : fo_r (fo_r M a f) b g = fo_r (fo_r M b g) a f := by
  funext x
  by_cases h1 : x = a
  · subst h1; rw [fo_rn _ _ h, fo_rs, fo_rs]
  · by_cases h2 : x = b
    · subst h2; rw [fo_rs, fo_rn _ _ h1, fo_rs]
    · rw [fo_rn _ _ h2, fo_rn _ _ h1, fo_rn _ _ h1, fo_rn _ _ h2]
theorem fo_rme {α : Type} (M : Nat → Nat → α) (a : Nat) : fo_r M a (M a) = M := by
  funext b
  by_cases h : b = a
  · subst h; rw [fo_rs]
  · rw [fo_rn _ _ h]
theorem fo_lt {id k : Nat} (h : fo_k id = k) (hk : k < 50) : id < 631 := by
  rcases Nat.lt_or_ge id 631 with q | q
  · exact q
  · exfalso
    have : fo_k id = 99 := by
      unfold fo_k
      rw [if_neg (by omega), List.getD_eq_getElem?_getD, List.getElem?_eq_none (by show 26 ≤ id - 605; omega)]
      rfl
    omega
theorem fo_wat {Λ : fo_Lt} {I : fo_Mi} {D : fo_Md} {J : fo_Mj} {X : fo_Mi} {id k : Nat} (h : fo_k id = k) (hk : k < 50) : (fo_w Λ I D J X)[id]? = some (Λ.2.2.1 id, fo_c Λ k id (I id) (D id) (J id) (X id)) := by
  have hl := fo_lt h hk
  unfold fo_w
  rw [List.getElem?_map, List.getElem?_range hl, ← h]
  rfl
theorem fo_wset {Λ : fo_Lt} {I I' : fo_Mi} {D D' : fo_Md} {J J' : fo_Mj} {X X' : fo_Mi} {id : Nat} {e : va_E} (hl : id < 631) (hc : fo_c Λ (fo_k id) id (I' id) (D' id) (J' id) (X' id) = e) (ho : ∀ j, j ≠ id → I' j = I j ∧ D' j = D j ∧ J' j = J j ∧ X' j = X j) : (fo_w Λ I D J X).set id (Λ.2.2.1 id, e) = fo_w Λ I' D' J' X' := by
  apply List.ext_getElem?
  intro k
  unfold fo_w
  by_cases hk : k = id
  · subst hk
    rw [List.getElem?_set_self (by rw [List.length_map, List.length_range]; exact hl), List.getElem?_map, List.getElem?_range hl, ← hc]
    rfl
  · rw [List.getElem?_set_ne (Ne.symm hk), List.getElem?_map, List.getElem?_map]
    obtain ⟨h1, h2, h3, h4⟩ := ho k hk
    cases hr : (List.range 631)[k]? with
    | none => rfl
    | some q =>
      have hq : q = k := by
        have hlt : k < 631 := by
          have := (List.getElem?_eq_some_iff.mp hr).1
          rwa [List.length_range] at this
        rw [List.getElem?_range hlt] at hr
        exact (Option.some.inj hr).symm
      subst hq
      show some _ = some _
      dsimp only
      rw [h1, h2, h3, h4]
theorem fo_wD {Λ : fo_Lt} (h : fo_O Λ) (I : fo_Mi) (D : fo_Md) (J : fo_Mj) (X : fo_Mi) : va_D (fo_A Λ) (fo_w Λ I D J X) := by
  have key : ∀ (i : Nat) (p : Nat × va_E), (fo_w Λ I D J X)[i]? = some p → i < 631 ∧ p.1 = Λ.2.2.1 i := by
    intro i p hp
    have hl : i < 631 := by
      have := (List.getElem?_eq_some_iff.mp hp).1
      rwa [fo_w, List.length_map, List.length_range] at this
    unfold fo_w at hp
    rw [List.getElem?_map, List.getElem?_range hl] at hp
    cases hp
    exact ⟨hl, rfl⟩
  refine ⟨fun i j p q hi hj hpq => ?_, fun k q hk => ?_⟩
  · obtain ⟨a1, a2⟩ := key i p hi
    obtain ⟨b1, b2⟩ := key j q hj
    exact h.1 i j a1 b1 (by rw [← a2, ← b2, hpq])
  · obtain ⟨a1, a2⟩ := key k q hk
    show Λ.2.2.2 ≤ q.1
    rw [a2]
    exact h.2 k a1
/-- the tables' words that hold in every state of a run -/
def fo_W0 : List Cond := lw_tbl.filter goodWord
/-! THE JUDGEMENT: the machine at pc with these locals, this stack and this memory comes to its end -/
abbrev fo_K : Type := Program × Env × State × MethodId × Array Value × List Frame × Method × Code × Nat × (State → Prop)
def fo_G (l : Launch) (Λ : fo_Lt) (R : Room) (K : fo_K) (cs ss pc : Nat) (lv : List (Nat × Value)) (st : List Value) (I : fo_Mi) (D : fo_Md) (J : fo_Mj) (X : fo_Mi) : Prop :=
  ∀ (H : Heap) (locs : List Loc) (ls : Array Slot), va_P Λ.1 vwCl (fo_w Λ I D J X) H → va_S (fo_A Λ) K.2.2.1.heap H locs → lv_has ls K.2.2.2.2.2.2.2.2.1 lv → W K.1 l K.2.1 R K.2.2.1 K.2.2.2.1 K.2.2.2.2.1 K.2.2.2.2.2.1 K.2.2.2.2.2.2.1 K.2.2.2.2.2.2.2.1 H locs cs ss K.2.2.2.2.2.2.2.2.2 (F0 K.2.2.2.1 pc ls st)
/-- the exceptions that the class throws -/
def fo_xs : List String := ["java/lang/IllegalArgumentException", "java/lang/IllegalStateException", "java/lang/IndexOutOfBoundsException", "java/util/NoSuchElementException", "java/lang/ArithmeticException", "java/lang/UnsupportedOperationException"]
/-- calls of private members of a nest mate -/
def fo_nn : List (String × Nat × MethodName) := [(RX5, 27, yX4_init), (RX5, 28, yX3_init), (RX6, 28, yX2_init), (RX6, 35, yX0_init), (RX5, 90, yX6_isOneToNine), (RX5, 97, yX6_isKind)]
def fo_ds : List MethodName := [⟨"java/lang/RuntimeException", "<init>", "()V"⟩, ⟨"java/lang/Exception", "<init>", "()V"⟩, ⟨"java/lang/Throwable", "<init>", "()V"⟩]
/-- what throws need: two statics of Throwable; words that aren't kept by every state of a run but by every warmed one -/
def fo_Z0 (Λ : fo_Lt) (U : State) : Prop := vx_Zq Bundle.tN "UNASSIGNED_STACK" Bundle.steD (fo_A Λ) U U.heap ∧ vx_Zq Bundle.tN "SUPPRESSED_SENTINEL" Bundle.listD (fo_A Λ) U U.heap ∧ Λ.2.2.2 ≤ U.heap.size ∧ (∀ E ∈ fo_xs, va_Nw (.castable E E) U) ∧ (∀ q ∈ fo_nn, va_Nw (.methodLinkNest q.1 q.2.1 q.2.2 RX6) U) ∧ (∀ E ∈ fo_xs, ∀ F ∈ fo_xs, E ≠ F → va_Nc E F U) ∧ (∀ q ∈ fo_ds, va_Nw (.declares q) U)
/-- the literals of the program's words: their places, texts, lengths, bytes -/
def fo_lits : List (Nat × String × Nat) := [(52, "prophet ", 0), (61, "see ", 1), (66, "limit ", 2), (71, "forget ", 3)]
def fo_txl : List Nat := [8, 4, 6, 7]
def fo_txb : List (List Int32) := [[112, 114, 111, 112, 104, 101, 116, 32], [115, 101, 101, 32], [108, 105, 109, 105, 116, 32], [102, 111, 114, 103, 101, 116, 32]]
def fo_Zs (Λ : fo_Lt) (U : State) : Prop := vk_S 4 fo_txl fo_txb (fun i => Λ.2.2.1 (700 + i)) (fun i => Λ.2.2.1 (710 + i)) (fo_A Λ) U U.heap ∧ (∀ q ∈ fo_lits, vk_R RX2 q.1 q.2.1 (Λ.2.2.1 (700 + q.2.2)) U) ∧ va_Z "java/lang/String" "COMPACT_STRINGS" "Z" (.int 1) (fo_A Λ) U U.heap ∧ va_Zq "jdk/internal/util/Preconditions" "SIOOBE_FORMATTER" "Ljava/util/function/BiFunction;" (fo_A Λ) U U.heap
def fo_Z (Λ : fo_Lt) (U : State) : Prop := fo_Z0 Λ U ∧ fo_Zs Λ U
def fo_C (Λ : fo_Lt) (K : fo_K) (cc : ByteArray) (own : String) (nL : Nat) : Prop :=
  K.1.tables.exec = Jvm.exec ∧ K.2.2.2.2.2.2.2.1.code = cc ∧ K.2.2.2.2.2.2.2.1.maxLocals = nL ∧ K.2.2.1.vm.findClass own = some K.2.2.2.1.cls ∧ (∀ w ∈ fo_W0, w.before K.2.2.2.2.1 K.2.2.1 = true) ∧ va_K Λ.1 vwCl (fo_t Λ) K.2.2.1 ∧ fo_O Λ ∧ fo_Z Λ K.2.2.1 ∧ K.2.2.2.2.2.2.2.2.1 = nL
theorem fo_C.fix {Λ : fo_Lt} {K : fo_K} {cc : ByteArray} {own : String} {nL : Nat} (C : fo_C Λ K cc own nL) : CallFix K.1 K.2.2.2.1 K.2.2.2.2.2.2.2.1 cc nL K.2.2.1 K.2.2.2.2.1 fo_W0 own := ⟨C.1, C.2.1, C.2.2.1, C.2.2.2.1, C.2.2.2.2.1⟩
theorem fo_C.vk {Λ : fo_Lt} {K : fo_K} {cc : ByteArray} {own : String} {nL : Nat} (C : fo_C Λ K cc own nL) : va_K Λ.1 vwCl (fo_t Λ) K.2.2.1 := C.2.2.2.2.2.1
theorem fo_C.ok {Λ : fo_Lt} {K : fo_K} {cc : ByteArray} {own : String} {nL : Nat} (C : fo_C Λ K cc own nL) : fo_O Λ := C.2.2.2.2.2.2.1
theorem fo_C.zz {Λ : fo_Lt} {K : fo_K} {cc : ByteArray} {own : String} {nL : Nat} (C : fo_C Λ K cc own nL) : fo_Z0 Λ K.2.2.1 := C.2.2.2.2.2.2.2.1.1
theorem fo_C.zs {Λ : fo_Lt} {K : fo_K} {cc : ByteArray} {own : String} {nL : Nat} (C : fo_C Λ K cc own nL) : fo_Zs Λ K.2.2.1 := C.2.2.2.2.2.2.2.1.2
theorem fo_C.zq {Λ : fo_Lt} {K : fo_K} {cc : ByteArray} {own : String} {nL : Nat} (C : fo_C Λ K cc own nL) : fo_Z Λ K.2.2.1 := C.2.2.2.2.2.2.2.1
theorem fo_C.nl {Λ : fo_Lt} {K : fo_K} {cc : ByteArray} {own : String} {nL : Nat} (C : fo_C Λ K cc own nL) : K.2.2.2.2.2.2.2.2.1 = nL := C.2.2.2.2.2.2.2.2
theorem fo_Z0.kept {Λ : fo_Lt} {s U : State} {locs : List Loc} (h : fo_Z0 Λ s) (hS : va_S (fo_A Λ) s.heap U.heap locs) (hW : s.WarmedH U.vm) : fo_Z0 Λ U :=
  ⟨(h.1.moved hW.alike).kept (fun a h1 h2 => hS.2.1 a h1 h2), (h.2.1.moved hW.alike).kept (fun a h1 h2 => hS.2.1 a h1 h2), Nat.le_trans h.2.2.1 hS.1, fun E hE => va_Nw.warmC hW (h.2.2.2.1 E hE), fun q hq => va_Nw.warmM hW (h.2.2.2.2.1 q hq), fun E hE F hF n => (h.2.2.2.2.2.1 E hE F hF n).moved hW.alike, fun q hq => va_Nw.warmD hW (h.2.2.2.2.2.2 q hq)⟩
theorem fo_Z0.calling {Λ : fo_Lt} {U : State} (h : fo_Z0 Λ U) (g : JFrame) (mk : MethodId) (a : Array Value) : fo_Z0 Λ (U.calling g mk a) :=
  ⟨h.1.moved (u := U) (U := U.calling g mk a) (Vm.Alike.refl U.vm), h.2.1.moved (u := U) (U := U.calling g mk a) (Vm.Alike.refl U.vm), h.2.2.1, fun E hE => va_Nw.same rfl rfl (h.2.2.2.1 E hE), fun q hq => va_Nw.same rfl rfl (h.2.2.2.2.1 q hq), fun E hE F hF n => (h.2.2.2.2.2.1 E hE F hF n).moved (u := U) (U := U.calling g mk a) (Vm.Alike.refl U.vm), fun q hq => va_Nw.same rfl rfl (h.2.2.2.2.2.2 q hq)⟩
theorem fo_Z.kept {Λ : fo_Lt} {s U : State} {locs : List Loc} (h : fo_Z Λ s) (hS : va_S (fo_A Λ) s.heap U.heap locs) (hW : s.WarmedH U.vm) : fo_Z Λ U :=
  ⟨h.1.kept hS hW, (h.2.1.moved hW.alike).kept (fun a h1 h2 => hS.2.1 a h1 h2), fun q hq => (h.2.2.1 q hq).warm hW, (h.2.2.2.1.moved hW.alike).kept (fun a h1 h2 => hS.2.1 a h1 h2), (h.2.2.2.2.moved hW.alike).kept (fun a h1 h2 => hS.2.1 a h1 h2)⟩
theorem fo_Z.calling {Λ : fo_Lt} {U : State} (h : fo_Z Λ U) (g : JFrame) (mk : MethodId) (a : Array Value) : fo_Z Λ (U.calling g mk a) :=
  ⟨h.1.calling g mk a, h.2.1.moved (u := U) (U := U.calling g mk a) (Vm.Alike.refl U.vm), fun q hq => vk_R.same (u := U) rfl (h.2.2.1 q hq), h.2.2.2.1.moved (u := U) (U := U.calling g mk a) (Vm.Alike.refl U.vm), h.2.2.2.2.moved (u := U) (U := U.calling g mk a) (Vm.Alike.refl U.vm)⟩
/-! rows -/
section FOR
variable {l : Launch} {Λ : fo_Lt} {R : Room} {K : fo_K} {cc : ByteArray} {own : String} {nL cs ss pc : Nat} {lv : List (Nat × Value)} {st : List Value} {I : fo_Mi} {D : fo_Md} {J : fo_Mj} {X : fo_Mi}
theorem fo_iconst (C : fo_C Λ K cc own nL) {n : Int} (d : decode cc pc = .ok (.iconst n, 1)) (v : Int32) (hv : Int32.ofInt n = v) (n' : Nat) (hn : pc + 1 = n') (k : fo_G l Λ R K cs ss n' lv (.int v :: st) I D J X) : fo_G l Λ R K cs ss pc lv st I D J X := by
  intro H locs ls hP hS hl
  subst hn
  exact lv_iconst C.1 C.2.1 d hv (k H locs ls hP hS hl)
theorem fo_bipush (C : fo_C Λ K cc own nL) {n : Int} (d : decode cc pc = .ok (.bipush n, 2)) (v : Int32) (hv : (Int8.ofInt n).toInt32 = v) (n' : Nat) (hn : pc + 2 = n') (k : fo_G l Λ R K cs ss n' lv (.int v :: st) I D J X) : fo_G l Λ R K cs ss pc lv st I D J X := by
  intro H locs ls hP hS hl
  subst hn
  exact lv_bipush C.1 C.2.1 d hv (k H locs ls hP hS hl)
theorem fo_sipush (C : fo_C Λ K cc own nL) {n : Int} (d : decode cc pc = .ok (.sipush n, 3)) (v : Int32) (hv : (Int16.ofInt n).toInt32 = v) (n' : Nat) (hn : pc + 3 = n') (k : fo_G l Λ R K cs ss n' lv (.int v :: st) I D J X) : fo_G l Λ R K cs ss pc lv st I D J X := by
  intro H locs ls hP hS hl
  subst hn
  exact lv_sipush C.1 C.2.1 d hv (k H locs ls hP hS hl)
theorem fo_lconst (C : fo_C Λ K cc own nL) {n : Fin 2} (d : decode cc pc = .ok (.lconst n, 1)) (v : Int64) (hv : Int64.ofNat (n : Nat) = v) (n' : Nat) (hn : pc + 1 = n') (k : fo_G l Λ R K cs ss n' lv (.long v :: st) I D J X) : fo_G l Λ R K cs ss pc lv st I D J X := by
  intro H locs ls hP hS hl
  subst hn
  exact lv_lconst C.1 C.2.1 d hv (k H locs ls hP hS hl)
theorem fo_dconst0 (C : fo_C Λ K cc own nL)  (d : decode cc pc = .ok (.dconst 0, 1)) (n' : Nat) (hn : pc + 1 = n') (k : fo_G l Λ R K cs ss n' lv (.double FP.dconst0 :: st) I D J X) : fo_G l Λ R K cs ss pc lv st I D J X := by
  intro H locs ls hP hS hl
  subst hn
  exact lv_dconst0 C.1 C.2.1 d (k H locs ls hP hS hl)
theorem fo_dconst1 (C : fo_C Λ K cc own nL)  (d : decode cc pc = .ok (.dconst 1, 1)) (n' : Nat) (hn : pc + 1 = n') (k : fo_G l Λ R K cs ss n' lv (.double FP.dconst1 :: st) I D J X) : fo_G l Λ R K cs ss pc lv st I D J X := by
  intro H locs ls hP hS hl
  subst hn
  exact lv_dconst1 C.1 C.2.1 d (k H locs ls hP hS hl)
theorem fo_fconst0 (C : fo_C Λ K cc own nL)  (d : decode cc pc = .ok (.fconst 0, 1)) (n' : Nat) (hn : pc + 1 = n') (k : fo_G l Λ R K cs ss n' lv (.float FP.fconst0 :: st) I D J X) : fo_G l Λ R K cs ss pc lv st I D J X := by
  intro H locs ls hP hS hl
  subst hn
  exact lv_fconst0 C.1 C.2.1 d (k H locs ls hP hS hl)
theorem fo_iload_n (C : fo_C Λ K cc own nL) {q : Fin 4} {i : Nat} {x : Int32} (d : decode cc pc = .ok (.iload_n q, 1)) (j : Nat) (hj : lv[j]? = some (i, .int x)) (hi : (q : Nat) = i) (n' : Nat) (hn : pc + 1 = n') (k : fo_G l Λ R K cs ss n' lv (.int x :: st) I D J X) : fo_G l Λ R K cs ss pc lv st I D J X := by
  intro H locs ls hP hS hl
  subst hn
  exact lv_iload_n C.1 C.2.1 d hi (lv_at hl j hj) (k H locs ls hP hS hl)
theorem fo_iload (C : fo_C Λ K cc own nL) {i : Nat} {x : Int32} (d : decode cc pc = .ok (.iload i, 2)) (j : Nat) (hj : lv[j]? = some (i, .int x)) (n' : Nat) (hn : pc + 2 = n') (k : fo_G l Λ R K cs ss n' lv (.int x :: st) I D J X) : fo_G l Λ R K cs ss pc lv st I D J X := by
  intro H locs ls hP hS hl
  subst hn
  exact lv_iload C.1 C.2.1 d (lv_at hl j hj) (k H locs ls hP hS hl)
theorem fo_lload_n (C : fo_C Λ K cc own nL) {q : Fin 4} {i : Nat} {x : Int64} (d : decode cc pc = .ok (.lload_n q, 1)) (j : Nat) (hj : lv[j]? = some (i, .long x)) (hi : (q : Nat) = i) (n' : Nat) (hn : pc + 1 = n') (k : fo_G l Λ R K cs ss n' lv (.long x :: st) I D J X) : fo_G l Λ R K cs ss pc lv st I D J X := by
  intro H locs ls hP hS hl
  subst hn
  exact lv_lload_n C.1 C.2.1 d hi (lv_at hl j hj) (k H locs ls hP hS hl)
theorem fo_lload (C : fo_C Λ K cc own nL) {i : Nat} {x : Int64} (d : decode cc pc = .ok (.lload i, 2)) (j : Nat) (hj : lv[j]? = some (i, .long x)) (n' : Nat) (hn : pc + 2 = n') (k : fo_G l Λ R K cs ss n' lv (.long x :: st) I D J X) : fo_G l Λ R K cs ss pc lv st I D J X := by
  intro H locs ls hP hS hl
  subst hn
  exact lv_lload C.1 C.2.1 d (lv_at hl j hj) (k H locs ls hP hS hl)
theorem fo_dload_n (C : fo_C Λ K cc own nL) {q : Fin 4} {i : Nat} {x : UInt64} (d : decode cc pc = .ok (.dload_n q, 1)) (j : Nat) (hj : lv[j]? = some (i, .double x)) (hi : (q : Nat) = i) (n' : Nat) (hn : pc + 1 = n') (k : fo_G l Λ R K cs ss n' lv (.double x :: st) I D J X) : fo_G l Λ R K cs ss pc lv st I D J X := by
  intro H locs ls hP hS hl
  subst hn
  exact lv_dload_n C.1 C.2.1 d hi (lv_at hl j hj) (k H locs ls hP hS hl)
theorem fo_dload (C : fo_C Λ K cc own nL) {i : Nat} {x : UInt64} (d : decode cc pc = .ok (.dload i, 2)) (j : Nat) (hj : lv[j]? = some (i, .double x)) (n' : Nat) (hn : pc + 2 = n') (k : fo_G l Λ R K cs ss n' lv (.double x :: st) I D J X) : fo_G l Λ R K cs ss pc lv st I D J X := by
  intro H locs ls hP hS hl
  subst hn
  exact lv_dload C.1 C.2.1 d (lv_at hl j hj) (k H locs ls hP hS hl)
theorem fo_fload_n (C : fo_C Λ K cc own nL) {q : Fin 4} {i : Nat} {x : UInt32} (d : decode cc pc = .ok (.fload_n q, 1)) (j : Nat) (hj : lv[j]? = some (i, .float x)) (hi : (q : Nat) = i) (n' : Nat) (hn : pc + 1 = n') (k : fo_G l Λ R K cs ss n' lv (.float x :: st) I D J X) : fo_G l Λ R K cs ss pc lv st I D J X := by
  intro H locs ls hP hS hl
  subst hn
  exact lv_fload_n C.1 C.2.1 d hi (lv_at hl j hj) (k H locs ls hP hS hl)
theorem fo_fload (C : fo_C Λ K cc own nL) {i : Nat} {x : UInt32} (d : decode cc pc = .ok (.fload i, 2)) (j : Nat) (hj : lv[j]? = some (i, .float x)) (n' : Nat) (hn : pc + 2 = n') (k : fo_G l Λ R K cs ss n' lv (.float x :: st) I D J X) : fo_G l Λ R K cs ss pc lv st I D J X := by
  intro H locs ls hP hS hl
  subst hn
  exact lv_fload C.1 C.2.1 d (lv_at hl j hj) (k H locs ls hP hS hl)
theorem fo_aload_n (C : fo_C Λ K cc own nL) {q : Fin 4} {i : Nat} {x : Nat} (d : decode cc pc = .ok (.aload_n q, 1)) (j : Nat) (hj : lv[j]? = some (i, .ref x)) (hi : (q : Nat) = i) (n' : Nat) (hn : pc + 1 = n') (k : fo_G l Λ R K cs ss n' lv (.ref x :: st) I D J X) : fo_G l Λ R K cs ss pc lv st I D J X := by
  intro H locs ls hP hS hl
  subst hn
  exact lv_aload_n C.1 C.2.1 d hi (lv_at hl j hj) (k H locs ls hP hS hl)
theorem fo_aload (C : fo_C Λ K cc own nL) {i : Nat} {x : Nat} (d : decode cc pc = .ok (.aload i, 2)) (j : Nat) (hj : lv[j]? = some (i, .ref x)) (n' : Nat) (hn : pc + 2 = n') (k : fo_G l Λ R K cs ss n' lv (.ref x :: st) I D J X) : fo_G l Λ R K cs ss pc lv st I D J X := by
  intro H locs ls hP hS hl
  subst hn
  exact lv_aload C.1 C.2.1 d (lv_at hl j hj) (k H locs ls hP hS hl)
theorem fo_istore_n (C : fo_C Λ K cc own nL) {q : Fin 4} {x : Int32} {i : Nat} (d : decode cc pc = .ok (.istore_n q, 1)) (hi : (q : Nat) = i) (lv' : List (Nat × Value)) (hl' : (i, Value.int x) :: lv.filter (fun q => !(q.1 == i) && !(q.1 + 1 == i && q.2.category == 2)) = lv') (hb : i < nL) (n' : Nat) (hn : pc + 1 = n') (k : fo_G l Λ R K cs ss n' lv' st I D J X) : fo_G l Λ R K cs ss pc lv (Value.int x :: st) I D J X := by
  intro H locs ls hP hS hl
  subst hn
  exact lv_istore_n C.1 C.2.1 d hi hl (by rw [C.nl]; exact hb) hl' (fun ls' h' => k H locs ls' hP hS h')
theorem fo_istore (C : fo_C Λ K cc own nL) {x : Int32} {i : Nat} (d : decode cc pc = .ok (.istore i, 2)) (lv' : List (Nat × Value)) (hl' : (i, Value.int x) :: lv.filter (fun q => !(q.1 == i) && !(q.1 + 1 == i && q.2.category == 2)) = lv') (hb : i < nL) (n' : Nat) (hn : pc + 2 = n') (k : fo_G l Λ R K cs ss n' lv' st I D J X) : fo_G l Λ R K cs ss pc lv (Value.int x :: st) I D J X := by
  intro H locs ls hP hS hl
  subst hn
  exact lv_istore C.1 C.2.1 d hl (by rw [C.nl]; exact hb) hl' (fun ls' h' => k H locs ls' hP hS h')
theorem fo_lstore_n (C : fo_C Λ K cc own nL) {q : Fin 4} {x : Int64} {i : Nat} (d : decode cc pc = .ok (.lstore_n q, 1)) (hi : (q : Nat) = i) (lv' : List (Nat × Value)) (hl' : (i, Value.long x) :: lv.filter (fun q => !(q.1 == i) && (!(q.1 == i + 1) && !(q.1 + 1 == i && q.2.category == 2))) = lv') (hb : i + 1 < nL) (n' : Nat) (hn : pc + 1 = n') (k : fo_G l Λ R K cs ss n' lv' st I D J X) : fo_G l Λ R K cs ss pc lv (Value.long x :: st) I D J X := by
  intro H locs ls hP hS hl
  subst hn
  exact lv_lstore_n C.1 C.2.1 d hi hl (by rw [C.nl]; exact hb) hl' (fun ls' h' => k H locs ls' hP hS h')
theorem fo_lstore (C : fo_C Λ K cc own nL) {x : Int64} {i : Nat} (d : decode cc pc = .ok (.lstore i, 2)) (lv' : List (Nat × Value)) (hl' : (i, Value.long x) :: lv.filter (fun q => !(q.1 == i) && (!(q.1 == i + 1) && !(q.1 + 1 == i && q.2.category == 2))) = lv') (hb : i + 1 < nL) (n' : Nat) (hn : pc + 2 = n') (k : fo_G l Λ R K cs ss n' lv' st I D J X) : fo_G l Λ R K cs ss pc lv (Value.long x :: st) I D J X := by
  intro H locs ls hP hS hl
  subst hn
  exact lv_lstore C.1 C.2.1 d hl (by rw [C.nl]; exact hb) hl' (fun ls' h' => k H locs ls' hP hS h')
theorem fo_dstore_n (C : fo_C Λ K cc own nL) {q : Fin 4} {x : UInt64} {i : Nat} (d : decode cc pc = .ok (.dstore_n q, 1)) (hi : (q : Nat) = i) (lv' : List (Nat × Value)) (hl' : (i, Value.double x) :: lv.filter (fun q => !(q.1 == i) && (!(q.1 == i + 1) && !(q.1 + 1 == i && q.2.category == 2))) = lv') (hb : i + 1 < nL) (n' : Nat) (hn : pc + 1 = n') (k : fo_G l Λ R K cs ss n' lv' st I D J X) : fo_G l Λ R K cs ss pc lv (Value.double x :: st) I D J X := by
  intro H locs ls hP hS hl
  subst hn
  exact lv_dstore_n C.1 C.2.1 d hi hl (by rw [C.nl]; exact hb) hl' (fun ls' h' => k H locs ls' hP hS h')
theorem fo_dstore (C : fo_C Λ K cc own nL) {x : UInt64} {i : Nat} (d : decode cc pc = .ok (.dstore i, 2)) (lv' : List (Nat × Value)) (hl' : (i, Value.double x) :: lv.filter (fun q => !(q.1 == i) && (!(q.1 == i + 1) && !(q.1 + 1 == i && q.2.category == 2))) = lv') (hb : i + 1 < nL) (n' : Nat) (hn : pc + 2 = n') (k : fo_G l Λ R K cs ss n' lv' st I D J X) : fo_G l Λ R K cs ss pc lv (Value.double x :: st) I D J X := by
  intro H locs ls hP hS hl
  subst hn
  exact lv_dstore C.1 C.2.1 d hl (by rw [C.nl]; exact hb) hl' (fun ls' h' => k H locs ls' hP hS h')
theorem fo_fstore_n (C : fo_C Λ K cc own nL) {q : Fin 4} {x : UInt32} {i : Nat} (d : decode cc pc = .ok (.fstore_n q, 1)) (hi : (q : Nat) = i) (lv' : List (Nat × Value)) (hl' : (i, Value.float x) :: lv.filter (fun q => !(q.1 == i) && !(q.1 + 1 == i && q.2.category == 2)) = lv') (hb : i < nL) (n' : Nat) (hn : pc + 1 = n') (k : fo_G l Λ R K cs ss n' lv' st I D J X) : fo_G l Λ R K cs ss pc lv (Value.float x :: st) I D J X := by
  intro H locs ls hP hS hl
  subst hn
  exact lv_fstore_n C.1 C.2.1 d hi hl (by rw [C.nl]; exact hb) hl' (fun ls' h' => k H locs ls' hP hS h')
theorem fo_fstore (C : fo_C Λ K cc own nL) {x : UInt32} {i : Nat} (d : decode cc pc = .ok (.fstore i, 2)) (lv' : List (Nat × Value)) (hl' : (i, Value.float x) :: lv.filter (fun q => !(q.1 == i) && !(q.1 + 1 == i && q.2.category == 2)) = lv') (hb : i < nL) (n' : Nat) (hn : pc + 2 = n') (k : fo_G l Λ R K cs ss n' lv' st I D J X) : fo_G l Λ R K cs ss pc lv (Value.float x :: st) I D J X := by
  intro H locs ls hP hS hl
  subst hn
  exact lv_fstore C.1 C.2.1 d hl (by rw [C.nl]; exact hb) hl' (fun ls' h' => k H locs ls' hP hS h')
theorem fo_astore_n (C : fo_C Λ K cc own nL) {q : Fin 4} {x : Nat} {i : Nat} (d : decode cc pc = .ok (.astore_n q, 1)) (hi : (q : Nat) = i) (lv' : List (Nat × Value)) (hl' : (i, Value.ref x) :: lv.filter (fun q => !(q.1 == i) && !(q.1 + 1 == i && q.2.category == 2)) = lv') (hb : i < nL) (n' : Nat) (hn : pc + 1 = n') (k : fo_G l Λ R K cs ss n' lv' st I D J X) : fo_G l Λ R K cs ss pc lv (Value.ref x :: st) I D J X := by
  intro H locs ls hP hS hl
  subst hn
  exact lv_astore_n C.1 C.2.1 d hi hl (by rw [C.nl]; exact hb) hl' (fun ls' h' => k H locs ls' hP hS h')
theorem fo_astore (C : fo_C Λ K cc own nL) {x : Nat} {i : Nat} (d : decode cc pc = .ok (.astore i, 2)) (lv' : List (Nat × Value)) (hl' : (i, Value.ref x) :: lv.filter (fun q => !(q.1 == i) && !(q.1 + 1 == i && q.2.category == 2)) = lv') (hb : i < nL) (n' : Nat) (hn : pc + 2 = n') (k : fo_G l Λ R K cs ss n' lv' st I D J X) : fo_G l Λ R K cs ss pc lv (Value.ref x :: st) I D J X := by
  intro H locs ls hP hS hl
  subst hn
  exact lv_astore C.1 C.2.1 d hl (by rw [C.nl]; exact hb) hl' (fun ls' h' => k H locs ls' hP hS h')
theorem fo_iinc (C : fo_C Λ K cc own nL) {i : Nat} {n : Int} {x : Int32} (d : decode cc pc = .ok (.iinc i n, 3)) (j : Nat) (hj : lv[j]? = some (i, .int x)) (v : Int32) (hv : x + Int32.ofInt n = v) (lv' : List (Nat × Value)) (hl' : (i, Value.int v) :: lv.filter (fun q => !(q.1 == i) && !(q.1 + 1 == i && q.2.category == 2)) = lv') (hb : i < nL) (n' : Nat) (hn : pc + 3 = n') (k : fo_G l Λ R K cs ss n' lv' st I D J X) : fo_G l Λ R K cs ss pc lv st I D J X := by
  intro H locs ls hP hS hl
  subst hn
  exact lv_iinc C.1 C.2.1 d hl hj hv (by rw [C.nl]; exact hb) hl' (fun ls' h' => k H locs ls' hP hS h')
theorem fo_iadd (C : fo_C Λ K cc own nL) {x y : Int32} (d : decode cc pc = .ok (.iadd, 1)) (v : Int32) (hv : x + y = v) (n' : Nat) (hn : pc + 1 = n') (k : fo_G l Λ R K cs ss n' lv (.int v :: st) I D J X) : fo_G l Λ R K cs ss pc lv (.int y :: .int x :: st) I D J X := by
  intro H locs ls hP hS hl
  subst hn
  subst hv
  exact lv_iadd C.1 C.2.1 d (k H locs ls hP hS hl)
theorem fo_isub (C : fo_C Λ K cc own nL) {x y : Int32} (d : decode cc pc = .ok (.isub, 1)) (v : Int32) (hv : x - y = v) (n' : Nat) (hn : pc + 1 = n') (k : fo_G l Λ R K cs ss n' lv (.int v :: st) I D J X) : fo_G l Λ R K cs ss pc lv (.int y :: .int x :: st) I D J X := by
  intro H locs ls hP hS hl
  subst hn
  subst hv
  exact lv_isub C.1 C.2.1 d (k H locs ls hP hS hl)
theorem fo_imul (C : fo_C Λ K cc own nL) {x y : Int32} (d : decode cc pc = .ok (.imul, 1)) (v : Int32) (hv : x * y = v) (n' : Nat) (hn : pc + 1 = n') (k : fo_G l Λ R K cs ss n' lv (.int v :: st) I D J X) : fo_G l Λ R K cs ss pc lv (.int y :: .int x :: st) I D J X := by
  intro H locs ls hP hS hl
  subst hn
  subst hv
  exact lv_imul C.1 C.2.1 d (k H locs ls hP hS hl)
theorem fo_ishr (C : fo_C Λ K cc own nL) {x y : Int32} (d : decode cc pc = .ok (.ishr, 1)) (v : Int32) (hv : x >>> (y &&& 31) = v) (n' : Nat) (hn : pc + 1 = n') (k : fo_G l Λ R K cs ss n' lv (.int v :: st) I D J X) : fo_G l Λ R K cs ss pc lv (.int y :: .int x :: st) I D J X := by
  intro H locs ls hP hS hl
  subst hn
  subst hv
  exact lv_ishr C.1 C.2.1 d (k H locs ls hP hS hl)
theorem fo_iand (C : fo_C Λ K cc own nL) {x y : Int32} (d : decode cc pc = .ok (.iand, 1)) (v : Int32) (hv : x &&& y = v) (n' : Nat) (hn : pc + 1 = n') (k : fo_G l Λ R K cs ss n' lv (.int v :: st) I D J X) : fo_G l Λ R K cs ss pc lv (.int y :: .int x :: st) I D J X := by
  intro H locs ls hP hS hl
  subst hn
  subst hv
  exact lv_iand C.1 C.2.1 d (k H locs ls hP hS hl)
theorem fo_ior (C : fo_C Λ K cc own nL) {x y : Int32} (d : decode cc pc = .ok (.ior, 1)) (v : Int32) (hv : x ||| y = v) (n' : Nat) (hn : pc + 1 = n') (k : fo_G l Λ R K cs ss n' lv (.int v :: st) I D J X) : fo_G l Λ R K cs ss pc lv (.int y :: .int x :: st) I D J X := by
  intro H locs ls hP hS hl
  subst hn
  subst hv
  exact lv_ior C.1 C.2.1 d (k H locs ls hP hS hl)
theorem fo_idiv (C : fo_C Λ K cc own nL) {x y : Int32} (d : decode cc pc = .ok (.idiv, 1)) (hne : ¬ y = 0) (v : Int32) (hv : x / y = v) (n' : Nat) (hn : pc + 1 = n') (k : fo_G l Λ R K cs ss n' lv (.int v :: st) I D J X) : fo_G l Λ R K cs ss pc lv (.int y :: .int x :: st) I D J X := by
  intro H locs ls hP hS hl
  subst hn
  subst hv
  exact lv_idiv C.1 C.2.1 d hne (k H locs ls hP hS hl)
theorem fo_irem (C : fo_C Λ K cc own nL) {x y : Int32} (d : decode cc pc = .ok (.irem, 1)) (hne : ¬ y = 0) (v : Int32) (hv : x - x / y * y = v) (n' : Nat) (hn : pc + 1 = n') (k : fo_G l Λ R K cs ss n' lv (.int v :: st) I D J X) : fo_G l Λ R K cs ss pc lv (.int y :: .int x :: st) I D J X := by
  intro H locs ls hP hS hl
  subst hn
  subst hv
  exact lv_irem C.1 C.2.1 d hne (k H locs ls hP hS hl)
theorem fo_ineg (C : fo_C Λ K cc own nL) {x : Int32} (d : decode cc pc = .ok (.ineg, 1)) (v : Int32) (hv : -x = v) (n' : Nat) (hn : pc + 1 = n') (k : fo_G l Λ R K cs ss n' lv (.int v :: st) I D J X) : fo_G l Λ R K cs ss pc lv (.int x :: st) I D J X := by
  intro H locs ls hP hS hl
  subst hn
  subst hv
  exact lv_ineg C.1 C.2.1 d (k H locs ls hP hS hl)
theorem fo_i2l (C : fo_C Λ K cc own nL) {x : Int32} (d : decode cc pc = .ok (.i2l, 1)) (v : Int64) (hv : x.toInt64 = v) (n' : Nat) (hn : pc + 1 = n') (k : fo_G l Λ R K cs ss n' lv (.long v :: st) I D J X) : fo_G l Λ R K cs ss pc lv (.int x :: st) I D J X := by
  intro H locs ls hP hS hl
  subst hn
  exact lv_i2l C.1 C.2.1 d hv (k H locs ls hP hS hl)
theorem fo_i2c (C : fo_C Λ K cc own nL) {x : Int32} (d : decode cc pc = .ok (.i2c, 1)) (v : Int32) (hv : (x.toUInt32 % 65536).toInt32 = v) (n' : Nat) (hn : pc + 1 = n') (k : fo_G l Λ R K cs ss n' lv (.int v :: st) I D J X) : fo_G l Λ R K cs ss pc lv (.int x :: st) I D J X := by
  intro H locs ls hP hS hl
  subst hn
  exact lv_i2c C.1 C.2.1 d hv (k H locs ls hP hS hl)
theorem fo_i2d (C : fo_C Λ K cc own nL) {x : Int32} (d : decode cc pc = .ok (.i2d, 1)) (n' : Nat) (hn : pc + 1 = n') (k : fo_G l Λ R K cs ss n' lv (.double (FP.i2d x) :: st) I D J X) : fo_G l Λ R K cs ss pc lv (.int x :: st) I D J X := by
  intro H locs ls hP hS hl
  subst hn
  exact lv_i2d C.1 C.2.1 d (k H locs ls hP hS hl)
theorem fo_i2f (C : fo_C Λ K cc own nL) {x : Int32} (d : decode cc pc = .ok (.i2f, 1)) (n' : Nat) (hn : pc + 1 = n') (k : fo_G l Λ R K cs ss n' lv (.float (FP.i2f x) :: st) I D J X) : fo_G l Λ R K cs ss pc lv (.int x :: st) I D J X := by
  intro H locs ls hP hS hl
  subst hn
  exact lv_i2f C.1 C.2.1 d (k H locs ls hP hS hl)
theorem fo_d2l (C : fo_C Λ K cc own nL) {x : UInt64} (d : decode cc pc = .ok (.d2l, 1)) (n' : Nat) (hn : pc + 1 = n') (k : fo_G l Λ R K cs ss n' lv (.long (FP.d2l x) :: st) I D J X) : fo_G l Λ R K cs ss pc lv (.double x :: st) I D J X := by
  intro H locs ls hP hS hl
  subst hn
  exact lv_d2l C.1 C.2.1 d (k H locs ls hP hS hl)
theorem fo_dadd (C : fo_C Λ K cc own nL) {x y : UInt64} (d : decode cc pc = .ok (.dadd, 1)) (h : vf_n64 (FP.dadd x y)) (n' : Nat) (hn : pc + 1 = n') (k : fo_G l Λ R K cs ss n' lv (.double (FP.dadd x y) :: st) I D J X) : fo_G l Λ R K cs ss pc lv (.double y :: .double x :: st) I D J X := by
  intro H locs ls hP hS hl
  subst hn
  exact lv_dadd C.1 C.2.1 d h (k H locs ls hP hS hl)
theorem fo_dsub (C : fo_C Λ K cc own nL) {x y : UInt64} (d : decode cc pc = .ok (.dsub, 1)) (h : vf_n64 (FP.dsub x y)) (n' : Nat) (hn : pc + 1 = n') (k : fo_G l Λ R K cs ss n' lv (.double (FP.dsub x y) :: st) I D J X) : fo_G l Λ R K cs ss pc lv (.double y :: .double x :: st) I D J X := by
  intro H locs ls hP hS hl
  subst hn
  exact lv_dsub C.1 C.2.1 d h (k H locs ls hP hS hl)
theorem fo_dmul (C : fo_C Λ K cc own nL) {x y : UInt64} (d : decode cc pc = .ok (.dmul, 1)) (h : vf_n64 (FP.dmul x y)) (n' : Nat) (hn : pc + 1 = n') (k : fo_G l Λ R K cs ss n' lv (.double (FP.dmul x y) :: st) I D J X) : fo_G l Λ R K cs ss pc lv (.double y :: .double x :: st) I D J X := by
  intro H locs ls hP hS hl
  subst hn
  exact lv_dmul C.1 C.2.1 d h (k H locs ls hP hS hl)
theorem fo_ddiv (C : fo_C Λ K cc own nL) {x y : UInt64} (d : decode cc pc = .ok (.ddiv, 1)) (h : vf_n64 (FP.ddiv x y)) (n' : Nat) (hn : pc + 1 = n') (k : fo_G l Λ R K cs ss n' lv (.double (FP.ddiv x y) :: st) I D J X) : fo_G l Λ R K cs ss pc lv (.double y :: .double x :: st) I D J X := by
  intro H locs ls hP hS hl
  subst hn
  exact lv_ddiv C.1 C.2.1 d h (k H locs ls hP hS hl)
theorem fo_fdiv (C : fo_C Λ K cc own nL) {x y : UInt32} (d : decode cc pc = .ok (.fdiv, 1)) (h : vf_n32 (FP.fdiv x y)) (n' : Nat) (hn : pc + 1 = n') (k : fo_G l Λ R K cs ss n' lv (.float (FP.fdiv x y) :: st) I D J X) : fo_G l Λ R K cs ss pc lv (.float y :: .float x :: st) I D J X := by
  intro H locs ls hP hS hl
  subst hn
  exact lv_fdiv C.1 C.2.1 d h (k H locs ls hP hS hl)
theorem fo_f2d (C : fo_C Λ K cc own nL) {x : UInt32} (d : decode cc pc = .ok (.f2d, 1)) (h : vf_n64 (FP.f2d x)) (n' : Nat) (hn : pc + 1 = n') (k : fo_G l Λ R K cs ss n' lv (.double (FP.f2d x) :: st) I D J X) : fo_G l Λ R K cs ss pc lv (.float x :: st) I D J X := by
  intro H locs ls hP hS hl
  subst hn
  exact lv_f2d C.1 C.2.1 d h (k H locs ls hP hS hl)
theorem fo_dneg (C : fo_C Λ K cc own nL) {x : UInt64} (d : decode cc pc = .ok (.dneg, 1)) (n' : Nat) (hn : pc + 1 = n') (k : fo_G l Λ R K cs ss n' lv (.double (FP.dneg x) :: st) I D J X) : fo_G l Λ R K cs ss pc lv (.double x :: st) I D J X := by
  intro H locs ls hP hS hl
  subst hn
  exact lv_dneg C.1 C.2.1 d (k H locs ls hP hS hl)
theorem fo_dcmp (C : fo_C Λ K cc own nL) {x y : UInt64} {op : CmpOp} (d : decode cc pc = .ok (.dcmp op, 1)) (n' : Nat) (hn : pc + 1 = n') (k : fo_G l Λ R K cs ss n' lv (.int (Op.cmpValue (FP.dcmp x y) op) :: st) I D J X) : fo_G l Λ R K cs ss pc lv (.double y :: .double x :: st) I D J X := by
  intro H locs ls hP hS hl
  subst hn
  exact lv_dcmp C.1 C.2.1 d (k H locs ls hP hS hl)
theorem fo_fcmp (C : fo_C Λ K cc own nL) {x y : UInt32} {op : CmpOp} (d : decode cc pc = .ok (.fcmp op, 1)) (n' : Nat) (hn : pc + 1 = n') (k : fo_G l Λ R K cs ss n' lv (.int (Op.cmpValue (FP.fcmp x y) op) :: st) I D J X) : fo_G l Λ R K cs ss pc lv (.float y :: .float x :: st) I D J X := by
  intro H locs ls hP hS hl
  subst hn
  exact lv_fcmp C.1 C.2.1 d (k H locs ls hP hS hl)
theorem fo_lor (C : fo_C Λ K cc own nL) {x y : Int64} (d : decode cc pc = .ok (.lor, 1)) (v : Int64) (hv : x ||| y = v) (n' : Nat) (hn : pc + 1 = n') (k : fo_G l Λ R K cs ss n' lv (.long v :: st) I D J X) : fo_G l Λ R K cs ss pc lv (.long y :: .long x :: st) I D J X := by
  intro H locs ls hP hS hl
  subst hn
  subst hv
  exact lv_lor C.1 C.2.1 d (k H locs ls hP hS hl)
theorem fo_ladd (C : fo_C Λ K cc own nL) {x y : Int64} (d : decode cc pc = .ok (.ladd, 1)) (v : Int64) (hv : x + y = v) (n' : Nat) (hn : pc + 1 = n') (k : fo_G l Λ R K cs ss n' lv (.long v :: st) I D J X) : fo_G l Λ R K cs ss pc lv (.long y :: .long x :: st) I D J X := by
  intro H locs ls hP hS hl
  subst hn
  subst hv
  exact lv_ladd C.1 C.2.1 d (k H locs ls hP hS hl)
theorem fo_lsub (C : fo_C Λ K cc own nL) {x y : Int64} (d : decode cc pc = .ok (.lsub, 1)) (v : Int64) (hv : x - y = v) (n' : Nat) (hn : pc + 1 = n') (k : fo_G l Λ R K cs ss n' lv (.long v :: st) I D J X) : fo_G l Λ R K cs ss pc lv (.long y :: .long x :: st) I D J X := by
  intro H locs ls hP hS hl
  subst hn
  subst hv
  exact lv_lsub C.1 C.2.1 d (k H locs ls hP hS hl)
theorem fo_lshl (C : fo_C Λ K cc own nL) {x : Int64} {y : Int32} (d : decode cc pc = .ok (.lshl, 1)) (v : Int64) (hv : x <<< (y.toInt64 &&& 63) = v) (n' : Nat) (hn : pc + 1 = n') (k : fo_G l Λ R K cs ss n' lv (.long v :: st) I D J X) : fo_G l Λ R K cs ss pc lv (.int y :: .long x :: st) I D J X := by
  intro H locs ls hP hS hl
  subst hn
  exact lv_lshl C.1 C.2.1 d hv (k H locs ls hP hS hl)
theorem fo_dup (C : fo_C Λ K cc own nL) {va : Value} (d : decode cc pc = .ok (.dup, 1)) (hva : va.category = 1) (n' : Nat) (hn : pc + 1 = n') (k : fo_G l Λ R K cs ss n' lv (va :: va :: st) I D J X) : fo_G l Λ R K cs ss pc lv (va :: st) I D J X := by
  intro H locs ls hP hS hl
  subst hn
  exact lv_dup C.1 C.2.1 d hva (k H locs ls hP hS hl)
theorem fo_pop (C : fo_C Λ K cc own nL) {va : Value} (d : decode cc pc = .ok (.pop, 1)) (hva : va.category = 1) (n' : Nat) (hn : pc + 1 = n') (k : fo_G l Λ R K cs ss n' lv st I D J X) : fo_G l Λ R K cs ss pc lv (va :: st) I D J X := by
  intro H locs ls hP hS hl
  subst hn
  exact lv_pop C.1 C.2.1 d hva (k H locs ls hP hS hl)
theorem fo_dup2 (C : fo_C Λ K cc own nL) {va vb : Value} (d : decode cc pc = .ok (.dup2, 1)) (hva : va.category = 1) (hvb : vb.category = 1) (n' : Nat) (hn : pc + 1 = n') (k : fo_G l Λ R K cs ss n' lv (va :: vb :: va :: vb :: st) I D J X) : fo_G l Λ R K cs ss pc lv (va :: vb :: st) I D J X := by
  intro H locs ls hP hS hl
  subst hn
  exact lv_dup2_11 C.1 C.2.1 d hva hvb (k H locs ls hP hS hl)
theorem fo_goto (C : fo_C Λ K cc own nL) {off : Int} (d : decode cc pc = .ok (.goto off, 3)) (n' : Nat) (hn : (pc : Int) + off = (n' : Int)) (k : fo_G l Λ R K cs ss n' lv st I D J X) : fo_G l Λ R K cs ss pc lv st I D J X := by
  intro H locs ls hP hS hl
  exact lv_goto C.1 C.2.1 d hn (k H locs ls hP hS hl)
theorem fo_icmp_eq (C : fo_C Λ K cc own nL) {x y : Int32} {off : Int} (d : decode cc pc = .ok (.if_icmp .eq off, 3)) (m' : Nat) (hm : (pc : Int) + off = (m' : Int)) (n' : Nat) (hn : pc + 3 = n') (kt : x = y → fo_G l Λ R K cs ss m' lv st I D J X) (kf : ¬ x = y → fo_G l Λ R K cs ss n' lv st I D J X) : fo_G l Λ R K cs ss pc lv (.int y :: .int x :: st) I D J X := by
  intro H locs ls hP hS hl
  subst hn
  exact lv_icmp_eq C.1 C.2.1 d hm (fun h => kt h H locs ls hP hS hl) (fun h => kf h H locs ls hP hS hl)
theorem fo_if_eq (C : fo_C Λ K cc own nL) {x : Int32} {off : Int} (d : decode cc pc = .ok (.ifCond .eq off, 3)) (m' : Nat) (hm : (pc : Int) + off = (m' : Int)) (n' : Nat) (hn : pc + 3 = n') (kt : x = 0 → fo_G l Λ R K cs ss m' lv st I D J X) (kf : ¬ x = 0 → fo_G l Λ R K cs ss n' lv st I D J X) : fo_G l Λ R K cs ss pc lv (.int x :: st) I D J X := by
  intro H locs ls hP hS hl
  subst hn
  exact lv_if_eq C.1 C.2.1 d hm (fun h => kt h H locs ls hP hS hl) (fun h => kf h H locs ls hP hS hl)
theorem fo_ncmp_eq (C : fo_C Λ K cc own nL) {a b : Nat} (ha : a < 2 ^ 31) (hb : b < 2 ^ 31) {off : Int} (d : decode cc pc = .ok (.if_icmp .eq off, 3)) (m' : Nat) (hm : (pc : Int) + off = (m' : Int)) (n' : Nat) (hn : pc + 3 = n') (kt : a = b → fo_G l Λ R K cs ss m' lv st I D J X) (kf : a ≠ b → fo_G l Λ R K cs ss n' lv st I D J X) : fo_G l Λ R K cs ss pc lv (.int (nI b) :: .int (nI a) :: st) I D J X := by
  exact fo_icmp_eq C d m' hm n' hn (fun h => kt ((nI_eq ha hb).mp h)) (fun h => kf (fun q => h ((nI_eq ha hb).mpr q)))
theorem fo_nif_eq (C : fo_C Λ K cc own nL) {a : Nat} (ha : a < 2 ^ 31) {off : Int} (d : decode cc pc = .ok (.ifCond .eq off, 3)) (m' : Nat) (hm : (pc : Int) + off = (m' : Int)) (n' : Nat) (hn : pc + 3 = n') (kt : a = 0 → fo_G l Λ R K cs ss m' lv st I D J X) (kf : 0 < a → fo_G l Λ R K cs ss n' lv st I D J X) : fo_G l Λ R K cs ss pc lv (.int (nI a) :: st) I D J X := by
  exact fo_if_eq C d m' hm n' hn (fun h => kt (by rcases Nat.eq_zero_or_pos a with q | q; exact q; exact absurd h (nI_ne0 q ha))) (fun h => kf (by rcases Nat.eq_zero_or_pos a with q | q; exact absurd (by rw [q]; rfl) h; exact q))
theorem fo_icmp_ne (C : fo_C Λ K cc own nL) {x y : Int32} {off : Int} (d : decode cc pc = .ok (.if_icmp .ne off, 3)) (m' : Nat) (hm : (pc : Int) + off = (m' : Int)) (n' : Nat) (hn : pc + 3 = n') (kt : ¬ x = y → fo_G l Λ R K cs ss m' lv st I D J X) (kf : x = y → fo_G l Λ R K cs ss n' lv st I D J X) : fo_G l Λ R K cs ss pc lv (.int y :: .int x :: st) I D J X := by
  intro H locs ls hP hS hl
  subst hn
  exact lv_icmp_ne C.1 C.2.1 d hm (fun h => kt h H locs ls hP hS hl) (fun h => kf h H locs ls hP hS hl)
theorem fo_if_ne (C : fo_C Λ K cc own nL) {x : Int32} {off : Int} (d : decode cc pc = .ok (.ifCond .ne off, 3)) (m' : Nat) (hm : (pc : Int) + off = (m' : Int)) (n' : Nat) (hn : pc + 3 = n') (kt : ¬ x = 0 → fo_G l Λ R K cs ss m' lv st I D J X) (kf : x = 0 → fo_G l Λ R K cs ss n' lv st I D J X) : fo_G l Λ R K cs ss pc lv (.int x :: st) I D J X := by
  intro H locs ls hP hS hl
  subst hn
  exact lv_if_ne C.1 C.2.1 d hm (fun h => kt h H locs ls hP hS hl) (fun h => kf h H locs ls hP hS hl)
theorem fo_ncmp_ne (C : fo_C Λ K cc own nL) {a b : Nat} (ha : a < 2 ^ 31) (hb : b < 2 ^ 31) {off : Int} (d : decode cc pc = .ok (.if_icmp .ne off, 3)) (m' : Nat) (hm : (pc : Int) + off = (m' : Int)) (n' : Nat) (hn : pc + 3 = n') (kt : a ≠ b → fo_G l Λ R K cs ss m' lv st I D J X) (kf : a = b → fo_G l Λ R K cs ss n' lv st I D J X) : fo_G l Λ R K cs ss pc lv (.int (nI b) :: .int (nI a) :: st) I D J X := by
  exact fo_icmp_ne C d m' hm n' hn (fun h => kt (fun q => h ((nI_eq ha hb).mpr q))) (fun h => kf ((nI_eq ha hb).mp h))
theorem fo_nif_ne (C : fo_C Λ K cc own nL) {a : Nat} (ha : a < 2 ^ 31) {off : Int} (d : decode cc pc = .ok (.ifCond .ne off, 3)) (m' : Nat) (hm : (pc : Int) + off = (m' : Int)) (n' : Nat) (hn : pc + 3 = n') (kt : 0 < a → fo_G l Λ R K cs ss m' lv st I D J X) (kf : a = 0 → fo_G l Λ R K cs ss n' lv st I D J X) : fo_G l Λ R K cs ss pc lv (.int (nI a) :: st) I D J X := by
  exact fo_if_ne C d m' hm n' hn (fun h => kt (by rcases Nat.eq_zero_or_pos a with q | q; exact absurd (by rw [q]; rfl) h; exact q)) (fun h => kf (by rcases Nat.eq_zero_or_pos a with q | q; exact q; exact absurd h (nI_ne0 q ha)))
theorem fo_icmp_lt (C : fo_C Λ K cc own nL) {x y : Int32} {off : Int} (d : decode cc pc = .ok (.if_icmp .lt off, 3)) (m' : Nat) (hm : (pc : Int) + off = (m' : Int)) (n' : Nat) (hn : pc + 3 = n') (kt : x < y → fo_G l Λ R K cs ss m' lv st I D J X) (kf : ¬ x < y → fo_G l Λ R K cs ss n' lv st I D J X) : fo_G l Λ R K cs ss pc lv (.int y :: .int x :: st) I D J X := by
  intro H locs ls hP hS hl
  subst hn
  exact lv_icmp_lt C.1 C.2.1 d hm (fun h => kt h H locs ls hP hS hl) (fun h => kf h H locs ls hP hS hl)
theorem fo_if_lt (C : fo_C Λ K cc own nL) {x : Int32} {off : Int} (d : decode cc pc = .ok (.ifCond .lt off, 3)) (m' : Nat) (hm : (pc : Int) + off = (m' : Int)) (n' : Nat) (hn : pc + 3 = n') (kt : x < 0 → fo_G l Λ R K cs ss m' lv st I D J X) (kf : ¬ x < 0 → fo_G l Λ R K cs ss n' lv st I D J X) : fo_G l Λ R K cs ss pc lv (.int x :: st) I D J X := by
  intro H locs ls hP hS hl
  subst hn
  exact lv_if_lt C.1 C.2.1 d hm (fun h => kt h H locs ls hP hS hl) (fun h => kf h H locs ls hP hS hl)
theorem fo_ncmp_lt (C : fo_C Λ K cc own nL) {a b : Nat} (ha : a < 2 ^ 31) (hb : b < 2 ^ 31) {off : Int} (d : decode cc pc = .ok (.if_icmp .lt off, 3)) (m' : Nat) (hm : (pc : Int) + off = (m' : Int)) (n' : Nat) (hn : pc + 3 = n') (kt : a < b → fo_G l Λ R K cs ss m' lv st I D J X) (kf : b ≤ a → fo_G l Λ R K cs ss n' lv st I D J X) : fo_G l Λ R K cs ss pc lv (.int (nI b) :: .int (nI a) :: st) I D J X := by
  exact fo_icmp_lt C d m' hm n' hn (fun h => kt ((nI_ltI ha hb).mp h)) (fun h => kf (Nat.not_lt.mp (fun q => h ((nI_ltI ha hb).mpr q))))
theorem fo_nif_lt (C : fo_C Λ K cc own nL) {a : Nat} (ha : a < 2 ^ 31) {off : Int} (d : decode cc pc = .ok (.ifCond .lt off, 3)) (n' : Nat) (hn : pc + 3 = n') (m' : Nat) (hm : (pc : Int) + off = (m' : Int)) (kf : fo_G l Λ R K cs ss n' lv st I D J X) : fo_G l Λ R K cs ss pc lv (.int (nI a) :: st) I D J X := by
  exact fo_if_lt C d m' hm n' hn (fun h => absurd h (nI_pos ha)) (fun _ => kf)
theorem fo_icmp_ge (C : fo_C Λ K cc own nL) {x y : Int32} {off : Int} (d : decode cc pc = .ok (.if_icmp .ge off, 3)) (m' : Nat) (hm : (pc : Int) + off = (m' : Int)) (n' : Nat) (hn : pc + 3 = n') (kt : y ≤ x → fo_G l Λ R K cs ss m' lv st I D J X) (kf : ¬ y ≤ x → fo_G l Λ R K cs ss n' lv st I D J X) : fo_G l Λ R K cs ss pc lv (.int y :: .int x :: st) I D J X := by
  intro H locs ls hP hS hl
  subst hn
  exact lv_icmp_ge C.1 C.2.1 d hm (fun h => kt h H locs ls hP hS hl) (fun h => kf h H locs ls hP hS hl)
theorem fo_if_ge (C : fo_C Λ K cc own nL) {x : Int32} {off : Int} (d : decode cc pc = .ok (.ifCond .ge off, 3)) (m' : Nat) (hm : (pc : Int) + off = (m' : Int)) (n' : Nat) (hn : pc + 3 = n') (kt : 0 ≤ x → fo_G l Λ R K cs ss m' lv st I D J X) (kf : ¬ 0 ≤ x → fo_G l Λ R K cs ss n' lv st I D J X) : fo_G l Λ R K cs ss pc lv (.int x :: st) I D J X := by
  intro H locs ls hP hS hl
  subst hn
  exact lv_if_ge C.1 C.2.1 d hm (fun h => kt h H locs ls hP hS hl) (fun h => kf h H locs ls hP hS hl)
theorem fo_ncmp_ge (C : fo_C Λ K cc own nL) {a b : Nat} (ha : a < 2 ^ 31) (hb : b < 2 ^ 31) {off : Int} (d : decode cc pc = .ok (.if_icmp .ge off, 3)) (m' : Nat) (hm : (pc : Int) + off = (m' : Int)) (n' : Nat) (hn : pc + 3 = n') (kt : b ≤ a → fo_G l Λ R K cs ss m' lv st I D J X) (kf : a < b → fo_G l Λ R K cs ss n' lv st I D J X) : fo_G l Λ R K cs ss pc lv (.int (nI b) :: .int (nI a) :: st) I D J X := by
  exact fo_icmp_ge C d m' hm n' hn (fun h => kt ((nI_leI hb ha).mp h)) (fun h => kf (Nat.not_le.mp (fun q => h ((nI_leI hb ha).mpr q))))
theorem fo_nif_ge (C : fo_C Λ K cc own nL) {a : Nat} (ha : a < 2 ^ 31) {off : Int} (d : decode cc pc = .ok (.ifCond .ge off, 3)) (n' : Nat) (hn : pc + 3 = n') (m' : Nat) (hm : (pc : Int) + off = (m' : Int)) (kt : fo_G l Λ R K cs ss m' lv st I D J X) : fo_G l Λ R K cs ss pc lv (.int (nI a) :: st) I D J X := by
  exact fo_if_ge C d m' hm n' hn (fun _ => kt) (fun h => absurd (nI_pos' ha) h)
theorem fo_icmp_gt (C : fo_C Λ K cc own nL) {x y : Int32} {off : Int} (d : decode cc pc = .ok (.if_icmp .gt off, 3)) (m' : Nat) (hm : (pc : Int) + off = (m' : Int)) (n' : Nat) (hn : pc + 3 = n') (kt : y < x → fo_G l Λ R K cs ss m' lv st I D J X) (kf : ¬ y < x → fo_G l Λ R K cs ss n' lv st I D J X) : fo_G l Λ R K cs ss pc lv (.int y :: .int x :: st) I D J X := by
  intro H locs ls hP hS hl
  subst hn
  exact lv_icmp_gt C.1 C.2.1 d hm (fun h => kt h H locs ls hP hS hl) (fun h => kf h H locs ls hP hS hl)
theorem fo_if_gt (C : fo_C Λ K cc own nL) {x : Int32} {off : Int} (d : decode cc pc = .ok (.ifCond .gt off, 3)) (m' : Nat) (hm : (pc : Int) + off = (m' : Int)) (n' : Nat) (hn : pc + 3 = n') (kt : 0 < x → fo_G l Λ R K cs ss m' lv st I D J X) (kf : ¬ 0 < x → fo_G l Λ R K cs ss n' lv st I D J X) : fo_G l Λ R K cs ss pc lv (.int x :: st) I D J X := by
  intro H locs ls hP hS hl
  subst hn
  exact lv_if_gt C.1 C.2.1 d hm (fun h => kt h H locs ls hP hS hl) (fun h => kf h H locs ls hP hS hl)
theorem fo_ncmp_gt (C : fo_C Λ K cc own nL) {a b : Nat} (ha : a < 2 ^ 31) (hb : b < 2 ^ 31) {off : Int} (d : decode cc pc = .ok (.if_icmp .gt off, 3)) (m' : Nat) (hm : (pc : Int) + off = (m' : Int)) (n' : Nat) (hn : pc + 3 = n') (kt : b < a → fo_G l Λ R K cs ss m' lv st I D J X) (kf : a ≤ b → fo_G l Λ R K cs ss n' lv st I D J X) : fo_G l Λ R K cs ss pc lv (.int (nI b) :: .int (nI a) :: st) I D J X := by
  exact fo_icmp_gt C d m' hm n' hn (fun h => kt ((nI_ltI hb ha).mp h)) (fun h => kf (Nat.not_lt.mp (fun q => h ((nI_ltI hb ha).mpr q))))
theorem fo_nif_gt (C : fo_C Λ K cc own nL) {a : Nat} (ha : a < 2 ^ 31) {off : Int} (d : decode cc pc = .ok (.ifCond .gt off, 3)) (m' : Nat) (hm : (pc : Int) + off = (m' : Int)) (n' : Nat) (hn : pc + 3 = n') (kt : 0 < a → fo_G l Λ R K cs ss m' lv st I D J X) (kf : a = 0 → fo_G l Λ R K cs ss n' lv st I D J X) : fo_G l Λ R K cs ss pc lv (.int (nI a) :: st) I D J X := by
  exact fo_if_gt C d m' hm n' hn (fun h => kt (by rcases Nat.eq_zero_or_pos a with q | q; (exact absurd h (by rw [q]; decide)); exact q)) (fun h => kf (by rcases Nat.eq_zero_or_pos a with q | q; exact q; exact absurd ((nI_ltI (a := 0) (b := a) (by decide) ha).mpr q) h))
theorem fo_icmp_le (C : fo_C Λ K cc own nL) {x y : Int32} {off : Int} (d : decode cc pc = .ok (.if_icmp .le off, 3)) (m' : Nat) (hm : (pc : Int) + off = (m' : Int)) (n' : Nat) (hn : pc + 3 = n') (kt : x ≤ y → fo_G l Λ R K cs ss m' lv st I D J X) (kf : ¬ x ≤ y → fo_G l Λ R K cs ss n' lv st I D J X) : fo_G l Λ R K cs ss pc lv (.int y :: .int x :: st) I D J X := by
  intro H locs ls hP hS hl
  subst hn
  exact lv_icmp_le C.1 C.2.1 d hm (fun h => kt h H locs ls hP hS hl) (fun h => kf h H locs ls hP hS hl)
theorem fo_if_le (C : fo_C Λ K cc own nL) {x : Int32} {off : Int} (d : decode cc pc = .ok (.ifCond .le off, 3)) (m' : Nat) (hm : (pc : Int) + off = (m' : Int)) (n' : Nat) (hn : pc + 3 = n') (kt : x ≤ 0 → fo_G l Λ R K cs ss m' lv st I D J X) (kf : ¬ x ≤ 0 → fo_G l Λ R K cs ss n' lv st I D J X) : fo_G l Λ R K cs ss pc lv (.int x :: st) I D J X := by
  intro H locs ls hP hS hl
  subst hn
  exact lv_if_le C.1 C.2.1 d hm (fun h => kt h H locs ls hP hS hl) (fun h => kf h H locs ls hP hS hl)
theorem fo_ncmp_le (C : fo_C Λ K cc own nL) {a b : Nat} (ha : a < 2 ^ 31) (hb : b < 2 ^ 31) {off : Int} (d : decode cc pc = .ok (.if_icmp .le off, 3)) (m' : Nat) (hm : (pc : Int) + off = (m' : Int)) (n' : Nat) (hn : pc + 3 = n') (kt : a ≤ b → fo_G l Λ R K cs ss m' lv st I D J X) (kf : b < a → fo_G l Λ R K cs ss n' lv st I D J X) : fo_G l Λ R K cs ss pc lv (.int (nI b) :: .int (nI a) :: st) I D J X := by
  exact fo_icmp_le C d m' hm n' hn (fun h => kt ((nI_leI ha hb).mp h)) (fun h => kf (Nat.not_le.mp (fun q => h ((nI_leI ha hb).mpr q))))
theorem fo_nif_le (C : fo_C Λ K cc own nL) {a : Nat} (ha : a < 2 ^ 31) {off : Int} (d : decode cc pc = .ok (.ifCond .le off, 3)) (m' : Nat) (hm : (pc : Int) + off = (m' : Int)) (n' : Nat) (hn : pc + 3 = n') (kt : a = 0 → fo_G l Λ R K cs ss m' lv st I D J X) (kf : 0 < a → fo_G l Λ R K cs ss n' lv st I D J X) : fo_G l Λ R K cs ss pc lv (.int (nI a) :: st) I D J X := by
  exact fo_if_le C d m' hm n' hn (fun h => kt (by rcases Nat.eq_zero_or_pos a with q | q; exact q; exact absurd h (nI_nle q ha))) (fun h => kf (by rcases Nat.eq_zero_or_pos a with q | q; (exact absurd (by rw [q]; decide) h); exact q))
/-- a truth value as the machine has it -/
def fo_b (c : Bool) : Int32 := if c then 1 else 0
theorem fo_b_0 {c : Bool} : fo_b c = 0 ↔ c = false := by cases c <;> decide
theorem fo_b_n {c : Bool} : ¬ fo_b c = 0 ↔ c = true := by cases c <;> decide
theorem fo_bif_eq (C : fo_C Λ K cc own nL) {c : Bool} {off : Int} (d : decode cc pc = .ok (.ifCond .eq off, 3)) (m' : Nat) (hm : (pc : Int) + off = (m' : Int)) (n' : Nat) (hn : pc + 3 = n') (kt : c = false → fo_G l Λ R K cs ss m' lv st I D J X) (kf : c = true → fo_G l Λ R K cs ss n' lv st I D J X) : fo_G l Λ R K cs ss pc lv (.int (fo_b c) :: st) I D J X := by
  exact fo_if_eq C d m' hm n' hn (fun h => kt (fo_b_0.mp h)) (fun h => kf (fo_b_n.mp h))
theorem fo_bif_ne (C : fo_C Λ K cc own nL) {c : Bool} {off : Int} (d : decode cc pc = .ok (.ifCond .ne off, 3)) (m' : Nat) (hm : (pc : Int) + off = (m' : Int)) (n' : Nat) (hn : pc + 3 = n') (kt : c = true → fo_G l Λ R K cs ss m' lv st I D J X) (kf : c = false → fo_G l Λ R K cs ss n' lv st I D J X) : fo_G l Λ R K cs ss pc lv (.int (fo_b c) :: st) I D J X := by
  exact fo_if_ne C d m' hm n' hn (fun h => kt (fo_b_n.mp h)) (fun h => kf (fo_b_0.mp h))
end FOR
