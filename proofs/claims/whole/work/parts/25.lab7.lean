
/-! THE LABORATORY: a program's run -/
def fa_run (s : fa_S) : List fq_s → Nat ⊕ fa_S
  | [] => .inr s
  | q :: l => match fa_step s q.1 q.2.1 q.2.2.1 with
    | none => .inl q.2.2.2
    | some s2 => fa_run s2 l
theorem fa_run_end {s : fa_S} {st : List fq_s} {i : Nat} (h : st.length ≤ i) : fa_run s (st.drop i) = .inr s := by
  rw [List.drop_eq_nil_iff.mpr h]
  rfl
theorem fa_run_at {st : List fq_s} {i : Nat} {q : fq_s} (h : st[i]? = some q) : st.drop i = q :: st.drop (i + 1) := by
  obtain ⟨hi, e⟩ := List.getElem?_eq_some_iff.mp h
  rw [List.drop_eq_getElem_cons hi, e]
theorem fa_run_some {s s2 : fa_S} {st : List fq_s} {i w a x o : Nat} (h : st[i]? = some (w, a, x, o)) (hs : fa_step s w a x = some s2) : fa_run s (st.drop i) = fa_run s2 (st.drop (i + 1)) := by
  rw [fa_run_at h, fa_run]
  simp only [hs]
theorem fa_run_none {s : fa_S} {st : List fq_s} {i w a x o : Nat} (h : st[i]? = some (w, a, x, o)) (hs : (fa_step s w a x).isSome = false) : fa_run s (st.drop i) = .inl o := by
  rw [fa_run_at h, fa_run]
  cases hz : fa_step s w a x with
  | none => simp only [hz]
  | some s2 => rw [hz] at hs; cases hs
theorem fa_run_in {o : Nat} : ∀ {l : List fq_s} {s : fa_S}, fa_run s l = .inl o → ∃ q, q ∈ l ∧ q.2.2.2 = o
  | [], s, h => by cases h
  | q :: l, s, h => by
    rw [fa_run] at h
    cases hz : fa_step s q.1 q.2.1 q.2.2.1 with
    | none =>
      simp only [hz] at h
      cases h
      exact ⟨q, List.mem_cons_self, rfl⟩
    | some s2 =>
      simp only [hz] at h
      obtain ⟨q2, h2, h3⟩ := fa_run_in h
      exact ⟨q2, List.mem_cons_of_mem _ h2, h3⟩
/-- the steps lie in the program's rows -/
def fs_St (I : fo_Mi) (st : List fq_s) : Prop := I 608 8 = nI st.length ∧ st.length ≤ 60 ∧ ∀ j q, st[j]? = some q → I 610 j = nI q.1 ∧ I 611 j = nI q.2.1 ∧ I 612 j = nI q.2.2.1 ∧ I 613 j = nI q.2.2.2 ∧ fq_ok q
theorem fs_V.St {I : fo_Mi} {n : Nat} {t : Nat → Nat} {p o : Nat} {st : List fq_s} (h : fs_V I n t p o st) : fs_St I st := ⟨h.2.2.2.2.2.2.1, Nat.le_trans h.2.2.2.1 (Nat.le_trans h.2.1 h.1.1), h.2.2.2.2.2.2.2⟩
theorem fs_St.mono {I I' : fo_Mi} {st : List fq_s} (h : fs_St I st) (h8 : I' 608 8 = I 608 8) (hc : ∀ c, 610 ≤ c → c ≤ 613 → I' c = I c) : fs_St I' st :=
  ⟨h8.trans h.1, h.2.1, fun j q hq => by rw [hc 610 (by omega) (by omega), hc 611 (by omega) (by omega), hc 612 (by omega) (by omega), hc 613 (by omega) (by omega)]; exact h.2.2 j q hq⟩

set_option maxRecDepth 10000 in
set_option maxHeartbeats 4000000 in
theorem mX6_firstFailedCommand {l : Launch} {Λ : fo_Lt} {I : fo_Mi} {D : fo_Md} {J : fo_Mj} {X : fo_Mi} {s0 : fa_S} {st : List fq_s} (hS0 : fs_FS I D 0 s0) (hV : fs_St I st) (hkk : ∀ (i : Nat) (q : fq_s), st[i]? = some q → fq_kk q.1 q.2.1 q.2.2.1) : fk_i l yX6_firstFailedCommand cX6_firstFailedCommand 2 .int 5 126 Λ [.ref (Λ.2.2.1 605)] I D J X ((fun r I' D' J' X' => (∀ o, fa_run s0 st = .inl o → r = nI o) ∧ (∀ s, fa_run s0 st = .inr s → r = -1 ∧ fs_FS I' D' 0 s) ∧ fs_fr 0 I D I' D' ∧ J' = J)) := by
  have hst60 := hV.2.1
  refine fo_si (by decide) [(0, .ref (Λ.2.2.1 605))] rfl (Nat.le_of_ble_eq_true rfl) (fun K C fin => ?_)
  refine fo_iconst C dX6_firstFailedCommand_0 (nI 0) ki_0 1 rfl ?_
  refine fo_istore_n C dX6_firstFailedCommand_1 rfl [(1, .int (nI 0)), (0, .ref (Λ.2.2.1 605))] rfl (by decide) 2 rfl ?_
  have hL2 : ∀ (m2 : Nat) (i : Nat) (s : fa_S) (Y : fo_Mi) (E : fo_Md) (J9 : fo_Mj) (Z : fo_Mi), st.length + 1 - i < m2 → i ≤ st.length → fa_run s0 st = fa_run s (st.drop i) → fs_FS Y E 0 s → fs_fr 0 I D Y E → J9 = J → fo_G l Λ { frames := 5, cells := 0, slots := 0, locals := 126 } K 0 0 2 [(1, .int (nI i)), (0, .ref (Λ.2.2.1 605))] [] Y E J9 Z := by
    intro m2
    induction m2 with
    | zero => intro i s Y E J9 Z hm; exact absurd hm (Nat.not_lt_zero _)
    | succ m2 ih2 =>
      intro i s Y E J9 Z hm2 hi hR hS9 hF hJ
      obtain ⟨np, lim, kd, par, n, v⟩ := s
      refine fo_iload_n C dX6_firstFailedCommand_2 0 rfl rfl 3 rfl ?_
      refine fo_aload_n C dX6_firstFailedCommand_3 1 rfl rfl 4 rfl ?_
      refine fo_get C dX6_firstFailedCommand_4 fK8 (by decide : fo_k 605 = 8) (by decide) 3 (by decide) fl_X6_29 (v := .ref (Λ.2.2.1 608)) rfl 7 rfl ?_
      refine fo_get C dX6_firstFailedCommand_7 fK4 (by decide : fo_k 608 = 4) (by decide) 8 (by decide) fl_X6_294 (v := .int (nI (st.length))) (congrArg (fun x => some (Value.int x)) ((by rw [(hF 608 (by omega)).1]; exact hV.1))) 10 rfl ?_
      refine fo_ncmp_ge C (by omega) (by omega) dX6_firstFailedCommand_10 63 (by decide) 13 rfl (fun c1 => ?_) (fun c1 => ?_)
      · refine fo_iconst C dX6_firstFailedCommand_63 (-1) (by decide) 64 rfl ?_
        exact fin dX6_firstFailedCommand_64 rfl (⟨fun o9 h9 => (by rw [hR, fa_run_end (by omega)] at h9; cases h9), fun s9 h9 => (by rw [hR, fa_run_end (by omega)] at h9; cases h9; exact ⟨rfl, hS9⟩), hF, hJ⟩)
      · obtain ⟨⟨w, a, x, o⟩, hq⟩ : ∃ q, st[i]? = some q := ⟨_, List.getElem?_eq_getElem (by omega)⟩
        obtain ⟨r1, r2, r3, r4, r5⟩ := hV.2.2 i _ hq
        have hkw := hkk i _ hq
        have ho60 : o ≤ 60 := r5.2.2.2
        have hw16 : w < 65536 := r5.1
        have ha16 : a < 65536 := r5.2.1
        have hx9 : x ≤ 999 := r5.2.2.1
        refine fo_aload_n C dX6_firstFailedCommand_13 1 rfl rfl 14 rfl ?_
        refine fo_aload_n C dX6_firstFailedCommand_14 1 rfl rfl 15 rfl ?_
        refine fo_get C dX6_firstFailedCommand_15 fK8 (by decide : fo_k 605 = 8) (by decide) 3 (by decide) fl_X6_29 (v := .ref (Λ.2.2.1 608)) rfl 18 rfl ?_
        refine fo_get C dX6_firstFailedCommand_18 fK4 (by decide : fo_k 608 = 4) (by decide) 4 (by decide) fl_X6_297 (v := .ref (Λ.2.2.1 610)) rfl 21 rfl ?_
        refine fo_iload_n C dX6_firstFailedCommand_21 0 rfl rfl 22 rfl ?_
        refine fo_cald C dX6_firstFailedCommand_22 (by decide : fo_k 610 = 23) (by rw [(show fo_n 610 = 60 from rfl)]; omega) (nI (w)) ((by rw [(hF 610 (by omega)).1]; exact r1)) 23 rfl ?_
        refine fo_aload_n C dX6_firstFailedCommand_23 1 rfl rfl 24 rfl ?_
        refine fo_get C dX6_firstFailedCommand_24 fK8 (by decide : fo_k 605 = 8) (by decide) 3 (by decide) fl_X6_29 (v := .ref (Λ.2.2.1 608)) rfl 27 rfl ?_
        refine fo_get C dX6_firstFailedCommand_27 fK4 (by decide : fo_k 608 = 4) (by decide) 5 (by decide) fl_X6_300 (v := .ref (Λ.2.2.1 611)) rfl 30 rfl ?_
        refine fo_iload_n C dX6_firstFailedCommand_30 0 rfl rfl 31 rfl ?_
        refine fo_iald C dX6_firstFailedCommand_31 (by decide : fo_k 611 = 20) (by rw [(show fo_n 611 = 60 from rfl)]; omega) (nI (a)) ((by rw [(hF 611 (by omega)).1]; exact r2)) 32 rfl ?_
        refine fo_aload_n C dX6_firstFailedCommand_32 1 rfl rfl 33 rfl ?_
        refine fo_get C dX6_firstFailedCommand_33 fK8 (by decide : fo_k 605 = 8) (by decide) 3 (by decide) fl_X6_29 (v := .ref (Λ.2.2.1 608)) rfl 36 rfl ?_
        refine fo_get C dX6_firstFailedCommand_36 fK4 (by decide : fo_k 608 = 4) (by decide) 6 (by decide) fl_X6_303 (v := .ref (Λ.2.2.1 612)) rfl 39 rfl ?_
        refine fo_iload_n C dX6_firstFailedCommand_39 0 rfl rfl 40 rfl ?_
        refine fo_iald C dX6_firstFailedCommand_40 (by decide : fo_k 612 = 20) (by rw [(show fo_n 612 = 60 from rfl)]; omega) (nI (x)) ((by rw [(hF 612 (by omega)).1]; exact r3)) 41 rfl ?_
        refine fo_qvi C dX6_firstFailedCommand_41 (mX6_takeStep (np := np) (lim := lim) (kd := kd) (par := par) (n := n) (v := v) hkw hS9) lv_X6_306 (by decide : fo_k 605 = 8) rfl (by decide) rfl ⟨Nat.le_of_ble_eq_true rfl, Nat.le_of_ble_eq_true rfl⟩ ⟨Nat.le_of_ble_eq_true rfl, Nat.le_of_ble_eq_true rfl⟩ [] rfl (Nat.le_of_ble_eq_true rfl) 44 rfl (fun r2 I3 D4 J5 X6 p7 => ?_)
        obtain ⟨rfl, g2, f2, rfl⟩ := p7
        refine fo_bif_ne C dX6_firstFailedCommand_44 57 (by decide) 47 rfl (fun c8 => ?_) (fun c8 => ?_)
        · obtain ⟨s2, hs2⟩ := Option.isSome_iff_exists.mp c8
          refine fo_iinc C dX6_firstFailedCommand_57 0 rfl (nI (i + 1)) (nI_inc1 _) [(1, .int (nI (i + 1))), (0, .ref (Λ.2.2.1 605))] rfl (by decide) 60 rfl ?_
          refine fo_goto C dX6_firstFailedCommand_60 2 (by decide) ?_
          exact ih2 (i + 1) s2 I3 D4 J5 X6 (by omega) (by omega) (hR.trans (fa_run_some hq hs2)) (g2 s2 hs2) (fun c hc => ⟨(f2 c hc).1.trans (hF c hc).1, (f2 c hc).2.trans (hF c hc).2⟩) hJ
        · refine fo_aload_n C dX6_firstFailedCommand_47 1 rfl rfl 48 rfl ?_
          refine fo_get C dX6_firstFailedCommand_48 fK8 (by decide : fo_k 605 = 8) (by decide) 3 (by decide) fl_X6_29 (v := .ref (Λ.2.2.1 608)) rfl 51 rfl ?_
          refine fo_get C dX6_firstFailedCommand_51 fK4 (by decide : fo_k 608 = 4) (by decide) 7 (by decide) fl_X6_310 (v := .ref (Λ.2.2.1 613)) rfl 54 rfl ?_
          refine fo_iload_n C dX6_firstFailedCommand_54 0 rfl rfl 55 rfl ?_
          refine fo_iald C dX6_firstFailedCommand_55 (by decide : fo_k 613 = 20) (by rw [(show fo_n 613 = 60 from rfl)]; omega) (nI (o)) ((by rw [((f2 613 (by omega)).1.trans (hF 613 (by omega)).1)]; exact r4)) 56 rfl ?_
          exact fin dX6_firstFailedCommand_56 rfl (⟨fun o9 h9 => (by rw [hR, fa_run_none hq (by first | assumption | simp_all)] at h9; cases h9; rfl), fun s9 h9 => (by rw [hR, fa_run_none hq (by first | assumption | simp_all)] at h9; cases h9), fun c hc => ⟨(f2 c hc).1.trans (hF c hc).1, (f2 c hc).2.trans (hF c hc).2⟩, hJ⟩)
  exact hL2 (st.length + 1 + 1) 0 s0 I D J X (by omega) (by omega) rfl hS0 (fun c _ => ⟨rfl, rfl⟩) rfl
