
/-! THE ENTRY: the classes, the statics, the literals -/
theorem wt_in {w : Cond} (i : Nat) (h : lw_tbl[i]? = some w) : w ∈ lw_tbl := List.mem_of_getElem? h
theorem wt_0 {w : Cond} (h : w ∈ fo_W0) : w ∈ lw_tbl := (List.mem_filter.mp h).1
theorem wu_J0 : ∀ w ∈ u_ws RJ0 TJ0 2, w ∈ lw_tbl := show ∀ w ∈ [u_lay RJ0 TJ0 0, u_lay RJ0 TJ0 1], w ∈ lw_tbl from List.forall_mem_cons.mpr ⟨wt_in 569 (by decide +kernel), List.forall_mem_cons.mpr ⟨wt_in 571 (by decide +kernel), fun _ h => absurd h List.not_mem_nil⟩⟩
theorem wu_Jx00060 : ∀ w ∈ u_ws RJx00060 TJx00060 6, w ∈ lw_tbl := show ∀ w ∈ [u_lay RJx00060 TJx00060 0, u_lay RJx00060 TJx00060 1, u_lay RJx00060 TJx00060 2, u_lay RJx00060 TJx00060 3, u_lay RJx00060 TJx00060 4, u_lay RJx00060 TJx00060 5], w ∈ lw_tbl from List.forall_mem_cons.mpr ⟨wt_in 556 (by decide +kernel), List.forall_mem_cons.mpr ⟨wt_in 557 (by decide +kernel), List.forall_mem_cons.mpr ⟨wt_in 558 (by decide +kernel), List.forall_mem_cons.mpr ⟨wt_in 559 (by decide +kernel), List.forall_mem_cons.mpr ⟨wt_in 560 (by decide +kernel), List.forall_mem_cons.mpr ⟨wt_in 561 (by decide +kernel), fun _ h => absurd h List.not_mem_nil⟩⟩⟩⟩⟩⟩
set_option maxRecDepth 10000 in
theorem w_cls {s : State} {args : Array Value} (hts : ∀ w ∈ lw_tbl, w.before args s = true) : ∃ Δ : gn_D, va_K Δ.1 vwCl (gn_t Δ) s := by
  obtain ⟨c0, i0, k0⟩ := u_known (C := RJ0) (T := TJ0) (N := 2) (n := 4) hts wu_J0 (hts _ (wt_in 567 (by decide +kernel)))
  obtain ⟨c1, i1, k1⟩ := u_known (C := RJx00060) (T := TJx00060) (N := 6) (n := 6) hts wu_Jx00060 (hts _ (wt_in 541 (by decide +kernel)))
  obtain ⟨c2, i2, k2⟩ := u_known (C := RX0) (T := TX0) (N := 2) (n := 2) hts (fun w h => wt_0 (fu_X0 w h)) (hts _ (wt_0 gw_is_X0))
  obtain ⟨c3, i3, k3⟩ := u_known (C := RX1) (T := TX1) (N := 3) (n := 3) hts (fun w h => wt_0 (fu_X1 w h)) (hts _ (wt_0 gw_is_X1))
  obtain ⟨c4, i4, k4⟩ := u_known (C := RX2) (T := TX2) (N := 9) (n := 9) hts (fun w h => wt_0 (fu_X2 w h)) (hts _ (wt_0 gw_is_X2))
  obtain ⟨c5, i5, k5⟩ := u_known (C := RX3) (T := TX3) (N := 5) (n := 5) hts (fun w h => wt_0 (fu_X3 w h)) (hts _ (wt_0 gw_is_X3))
  obtain ⟨c6, i6, k6⟩ := u_known (C := RX4) (T := TX4) (N := 5) (n := 5) hts (fun w h => wt_0 (fu_X4 w h)) (hts _ (wt_0 gw_is_X4))
  obtain ⟨c7, i7, k7⟩ := u_known (C := RX5) (T := TX5) (N := 4) (n := 4) hts (fun w h => wt_0 (fu_X5 w h)) (hts _ (wt_0 gw_is_X5))
  obtain ⟨c8, i8, k8⟩ := u_known (C := RX6) (T := TX6) (N := 8) (n := 8) hts (fun w h => wt_0 (fu_X6 w h)) (hts _ (wt_0 gw_is_X6))
  obtain ⟨c9, i9, k9⟩ := u_known (C := RX7) (T := TX7) (N := 24) (n := 24) hts (fun w h => wt_0 (fu_X7 w h)) (hts _ (wt_0 gw_is_X7))
  obtain ⟨t0, K0, m0, a0, b0, d0⟩ := Cond.arrayClass_spec (type := .char) (show (Cond.arrayClass .char).before args s = true from hts _ (wt_0 gw_a_char))
  obtain ⟨t1, K1, m1, a1, b1, d1⟩ := Cond.arrayClass_spec (type := .double) (show (Cond.arrayClass .double).before args s = true from hts _ (wt_0 gw_a_double))
  obtain ⟨t2, K2, m2, a2, b2, d2⟩ := Cond.arrayClass_spec (type := .int) (show (Cond.arrayClass .int).before args s = true from hts _ (wt_0 gw_a_int))
  obtain ⟨t3, K3, m3, a3, b3, d3⟩ := Cond.arrayClass_spec (type := .long) (show (Cond.arrayClass .long).before args s = true from hts _ (wt_0 gw_a_long))
  obtain ⟨m4, t4, K4, a4, -, b4, d4, e4⟩ := Cond.arrayOver_spec (n := "ForecastLab$Series") (show (Cond.arrayOver (.object "ForecastLab$Series")).before args s = true from hts _ (wt_in 113 (by decide +kernel)))
  obtain ⟨m5, t5, K5, a5, -, b5, d5, e5⟩ := Cond.arrayOver_spec (n := "ForecastLab$Prophet") (show (Cond.arrayOver (.object "ForecastLab$Prophet")).before args s = true from hts _ (wt_in 115 (by decide +kernel)))
  obtain ⟨m6, t6, K6, a6, -, b6, d6, e6⟩ := Cond.arrayOver_spec (n := "ForecastLab$State") (show (Cond.arrayOver (.object "ForecastLab$State")).before args s = true from hts _ (wt_in 199 (by decide +kernel)))
  refine ⟨((fun c => match c with | 0 => c0 | 1 => c1 | 2 => c2 | 3 => c3 | 4 => c4 | 5 => c5 | 6 => c6 | 7 => c7 | 8 => c8 | _ => c9, fun c => match c with | 0 => i0 | 1 => i1 | 2 => i2 | 3 => i3 | 4 => i4 | 5 => i5 | 6 => i6 | 7 => i7 | 8 => i8 | _ => i9), fun c => match c with | 0 => t0 | 1 => t1 | 2 => t2 | 3 => t3 | 4 => t4 | 5 => t5 | _ => t6), fun c q hq => ?_, fun c q hq => ?_⟩
  · match c, hq with
    | 0, hq => cases hq; exact k0
    | 1, hq => cases hq; exact k1
    | 2, hq => cases hq; exact k2
    | 3, hq => cases hq; exact k3
    | 4, hq => cases hq; exact k4
    | 5, hq => cases hq; exact k5
    | 6, hq => cases hq; exact k6
    | 7, hq => cases hq; exact k7
    | 8, hq => cases hq; exact k8
    | 9, hq => cases hq; exact k9
    | c + 10, hq => exact absurd hq (by simp [vwCl])
  · match c, hq with
    | 0, hq => cases hq; exact ⟨fun n z => ⟨(fun k h => by cases h), K0, b0, m0, d0⟩, a0⟩
    | 1, hq => cases hq; exact ⟨fun n z => ⟨(fun k h => by cases h), K1, b1, m1, d1⟩, a1⟩
    | 2, hq => cases hq; exact ⟨fun n z => ⟨(fun k h => by cases h), K2, b2, m2, d2⟩, a2⟩
    | 3, hq => cases hq; exact ⟨fun n z => ⟨(fun k h => by cases h), K3, b3, m3, d3⟩, a3⟩
    | 4, hq => cases hq; exact ⟨fun n z => ⟨(fun k h => by cases h), K4, b4, m4, d4⟩, ⟨K4, m4, b4, d4, a4, e4⟩⟩
    | 5, hq => cases hq; exact ⟨fun n z => ⟨(fun k h => by cases h), K5, b5, m5, d5⟩, ⟨K5, m5, b5, d5, a5, e5⟩⟩
    | 6, hq => cases hq; exact ⟨fun n z => ⟨(fun k h => by cases h), K6, b6, m6, d6⟩, ⟨K6, m6, b6, d6, a6, e6⟩⟩
    | c + 7, hq => exact absurd hq (by simp)
theorem w_xs {E : String} (h : E ∈ fo_xs) : E = "java/lang/IllegalArgumentException" ∨ E = "java/lang/IllegalStateException" ∨ E = "java/lang/IndexOutOfBoundsException" ∨ E = "java/util/NoSuchElementException" ∨ E = "java/lang/ArithmeticException" ∨ E = "java/lang/UnsupportedOperationException" := by
  simpa [fo_xs] using h
set_option maxRecDepth 10000 in
theorem w_z0 {Λ : fo_Lt} {s : State} {args : Array Value} (hz : Λ.2.2.2 = s.heap.size) (hts : ∀ w ∈ lw_tbl, w.before args s = true) (hb : (Jvm.Cond.and given_1 narrow_1).before args s = true) : fo_Z0 Λ s := by
  have hs := flat_of_before _ hb
  have hA : ∀ a : Nat, a < s.heap.size → ¬ fo_A Λ a := fun a ha h => Nat.lt_irrefl _ (Nat.lt_of_lt_of_le ha (by rw [← hz]; exact h))
  refine ⟨vx_Zqof (hts _ (wt_in 448 (by decide +kernel))) (hts _ (wt_in 80 (by decide +kernel))) (hs _ (by decide +kernel)) hA, vx_Zqof (hts _ (wt_in 450 (by decide +kernel))) (hts _ (wt_in 80 (by decide +kernel))) (hs _ (by decide +kernel)) hA, Nat.le_of_eq hz, fun E hE => ?_, fun q hq => ?_, fun E hE F hF n => ?_, fun q hq => ?_⟩
  · rcases w_xs hE with rfl | rfl | rfl | rfl | rfl | rfl
    · exact va_Nw.of rfl (hts _ (wt_in 423 (by decide +kernel)))
    · exact va_Nw.of rfl (hts _ (wt_in 499 (by decide +kernel)))
    · exact va_Nw.of rfl (hts _ (wt_in 589 (by decide +kernel)))
    · exact va_Nw.of rfl (hts _ (wt_in 663 (by decide +kernel)))
    · exact va_Nw.of rfl (hts _ (wt_in 888 (by decide +kernel)))
    · exact va_Nw.of rfl (hts _ (wt_in 1096 (by decide +kernel)))
  · have hq6 : q = (RX5, 27, yX4_init) ∨ q = (RX5, 28, yX3_init) ∨ q = (RX6, 28, yX2_init) ∨ q = (RX6, 35, yX0_init) ∨ q = (RX5, 90, yX6_isOneToNine) ∨ q = (RX5, 97, yX6_isKind) := by simpa [fo_nn] using hq
    rcases hq6 with rfl | rfl | rfl | rfl | rfl | rfl
    · exact va_Nw.of rfl (hts _ (wt_in 117 (by decide +kernel)))
    · exact va_Nw.of rfl (hts _ (wt_in 144 (by decide +kernel)))
    · exact va_Nw.of rfl (hts _ (wt_in 214 (by decide +kernel)))
    · exact va_Nw.of rfl (hts _ (wt_in 257 (by decide +kernel)))
    · exact va_Nw.of rfl (hts _ (wt_in 311 (by decide +kernel)))
    · exact va_Nw.of rfl (hts _ (wt_in 314 (by decide +kernel)))
  · rcases w_xs hE with rfl | rfl | rfl | rfl | rfl | rfl <;> rcases w_xs hF with rfl | rfl | rfl | rfl | rfl | rfl
    · exact absurd rfl n
    · exact va_Nc.of (hs _ (by decide +kernel))
    · exact va_Nc.of (hs _ (by decide +kernel))
    · exact va_Nc.of (hs _ (by decide +kernel))
    · exact va_Nc.of (hs _ (by decide +kernel))
    · exact va_Nc.of (hs _ (by decide +kernel))
    · exact va_Nc.of (hs _ (by decide +kernel))
    · exact absurd rfl n
    · exact va_Nc.of (hs _ (by decide +kernel))
    · exact va_Nc.of (hs _ (by decide +kernel))
    · exact va_Nc.of (hs _ (by decide +kernel))
    · exact va_Nc.of (hs _ (by decide +kernel))
    · exact va_Nc.of (hs _ (by decide +kernel))
    · exact va_Nc.of (hs _ (by decide +kernel))
    · exact absurd rfl n
    · exact va_Nc.of (hs _ (by decide +kernel))
    · exact va_Nc.of (hs _ (by decide +kernel))
    · exact va_Nc.of (hs _ (by decide +kernel))
    · exact va_Nc.of (hs _ (by decide +kernel))
    · exact va_Nc.of (hs _ (by decide +kernel))
    · exact va_Nc.of (hs _ (by decide +kernel))
    · exact absurd rfl n
    · exact va_Nc.of (hs _ (by decide +kernel))
    · exact va_Nc.of (hs _ (by decide +kernel))
    · exact va_Nc.of (hs _ (by decide +kernel))
    · exact va_Nc.of (hs _ (by decide +kernel))
    · exact va_Nc.of (hs _ (by decide +kernel))
    · exact va_Nc.of (hs _ (by decide +kernel))
    · exact absurd rfl n
    · exact va_Nc.of (hs _ (by decide +kernel))
    · exact va_Nc.of (hs _ (by decide +kernel))
    · exact va_Nc.of (hs _ (by decide +kernel))
    · exact va_Nc.of (hs _ (by decide +kernel))
    · exact va_Nc.of (hs _ (by decide +kernel))
    · exact va_Nc.of (hs _ (by decide +kernel))
    · exact absurd rfl n
  · have hq3 : q = ⟨"java/lang/RuntimeException", "<init>", "()V"⟩ ∨ q = ⟨"java/lang/Exception", "<init>", "()V"⟩ ∨ q = ⟨"java/lang/Throwable", "<init>", "()V"⟩ := by simpa [fo_ds] using hq
    rcases hq3 with rfl | rfl | rfl
    · exact va_Nw.of rfl (hts _ (wt_in 424 (by decide +kernel)))
    · exact va_Nw.of rfl (hts _ (wt_in 426 (by decide +kernel)))
    · exact va_Nw.of rfl (hts _ (wt_in 428 (by decide +kernel)))
theorem vk_S.cg {N : Nat} {len : List Nat} {byt : List (List Int32)} {adK adV adK' adV' : Nat → Nat} {A : Nat → Prop} {U : State} {H : Heap} (h : vk_S N len byt adK adV A U H) (e1 : ∀ i, i < N → adK' i = adK i) (e2 : ∀ i, i < N → adV' i = adV i) : vk_S N len byt adK' adV' A U H :=
  ⟨fun i hi => by rw [e1 i hi, e2 i hi]; exact h.1 i hi, fun i j hi hj => by rw [e1 i hi, e1 j hj]; exact h.2 i j hi hj⟩
def w_tm (i : Nat) : Term := .string "ForecastLab$Program" ([52, 61, 66, 71].getD i 0)
set_option maxRecDepth 10000 in
theorem w_lit {A : Nat → Prop} {s : State} {args : Array Value} (hA : ∀ a : Nat, a < s.heap.size → ¬ A a) (hb : (Jvm.Cond.and given_1 narrow_1).before args s = true) : ∃ adK adV : Nat → Nat, vk_S 4 fo_txl fo_txb adK adV A s s.heap ∧ ∀ i : Nat, i < 4 → (w_tm i).eval args s none [] s = some (.ref (adK i)) := by
  have hs := flat_of_before _ hb
  refine vk_Sof (tm := w_tm) (fun i hi => ?_) (fun i hi => ?_) (fun i hi => ?_) (fun i hi => ?_) (fun i hi => ?_) (fun i hi j hj => ?_) (fun i j hi hj hij => ?_) hA
  · match i, hi with
    | 0, _ => decide
    | 1, _ => decide
    | 2, _ => decide
    | 3, _ => decide
    | i + 4, h => exact absurd h (by omega)
  · match i, hi with
    | 0, _ => exact hs _ (by decide +kernel)
    | 1, _ => exact hs _ (by decide +kernel)
    | 2, _ => exact hs _ (by decide +kernel)
    | 3, _ => exact hs _ (by decide +kernel)
    | i + 4, h => exact absurd h (by omega)
  · match i, hi with
    | 0, _ => exact hs _ (by decide +kernel)
    | 1, _ => exact hs _ (by decide +kernel)
    | 2, _ => exact hs _ (by decide +kernel)
    | 3, _ => exact hs _ (by decide +kernel)
    | i + 4, h => exact absurd h (by omega)
  · match i, hi with
    | 0, _ => exact hs _ (by decide +kernel)
    | 1, _ => exact hs _ (by decide +kernel)
    | 2, _ => exact hs _ (by decide +kernel)
    | 3, _ => exact hs _ (by decide +kernel)
    | i + 4, h => exact absurd h (by omega)
  · match i, hi with
    | 0, _ => exact hs _ (by decide +kernel)
    | 1, _ => exact hs _ (by decide +kernel)
    | 2, _ => exact hs _ (by decide +kernel)
    | 3, _ => exact hs _ (by decide +kernel)
    | i + 4, h => exact absurd h (by omega)
  · match i, hi with
    | 0, _ =>
      match j, hj with
      | 0, _ => exact hs _ (by decide +kernel)
      | 1, _ => exact hs _ (by decide +kernel)
      | 2, _ => exact hs _ (by decide +kernel)
      | 3, _ => exact hs _ (by decide +kernel)
      | 4, _ => exact hs _ (by decide +kernel)
      | 5, _ => exact hs _ (by decide +kernel)
      | 6, _ => exact hs _ (by decide +kernel)
      | 7, _ => exact hs _ (by decide +kernel)
      | j + 8, h => exact absurd (show j + 8 < 8 from h) (by omega)
    | 1, _ =>
      match j, hj with
      | 0, _ => exact hs _ (by decide +kernel)
      | 1, _ => exact hs _ (by decide +kernel)
      | 2, _ => exact hs _ (by decide +kernel)
      | 3, _ => exact hs _ (by decide +kernel)
      | j + 4, h => exact absurd (show j + 4 < 4 from h) (by omega)
    | 2, _ =>
      match j, hj with
      | 0, _ => exact hs _ (by decide +kernel)
      | 1, _ => exact hs _ (by decide +kernel)
      | 2, _ => exact hs _ (by decide +kernel)
      | 3, _ => exact hs _ (by decide +kernel)
      | 4, _ => exact hs _ (by decide +kernel)
      | 5, _ => exact hs _ (by decide +kernel)
      | j + 6, h => exact absurd (show j + 6 < 6 from h) (by omega)
    | 3, _ =>
      match j, hj with
      | 0, _ => exact hs _ (by decide +kernel)
      | 1, _ => exact hs _ (by decide +kernel)
      | 2, _ => exact hs _ (by decide +kernel)
      | 3, _ => exact hs _ (by decide +kernel)
      | 4, _ => exact hs _ (by decide +kernel)
      | 5, _ => exact hs _ (by decide +kernel)
      | 6, _ => exact hs _ (by decide +kernel)
      | j + 7, h => exact absurd (show j + 7 < 7 from h) (by omega)
    | i + 4, h => exact absurd h (by omega)
  · match i, hi, j, hj with
    | 0, _, 0, _ => exact absurd rfl hij
    | 0, _, 1, _ => exact Or.inl (hs _ (by decide +kernel))
    | 0, _, 2, _ => exact Or.inl (hs _ (by decide +kernel))
    | 0, _, 3, _ => exact Or.inl (hs _ (by decide +kernel))
    | 1, _, 0, _ => exact Or.inr (hs _ (by decide +kernel))
    | 1, _, 1, _ => exact absurd rfl hij
    | 1, _, 2, _ => exact Or.inl (hs _ (by decide +kernel))
    | 1, _, 3, _ => exact Or.inl (hs _ (by decide +kernel))
    | 2, _, 0, _ => exact Or.inr (hs _ (by decide +kernel))
    | 2, _, 1, _ => exact Or.inr (hs _ (by decide +kernel))
    | 2, _, 2, _ => exact absurd rfl hij
    | 2, _, 3, _ => exact Or.inl (hs _ (by decide +kernel))
    | 3, _, 0, _ => exact Or.inr (hs _ (by decide +kernel))
    | 3, _, 1, _ => exact Or.inr (hs _ (by decide +kernel))
    | 3, _, 2, _ => exact Or.inr (hs _ (by decide +kernel))
    | 3, _, 3, _ => exact absurd rfl hij
    | i + 4, h, _, _ => exact absurd h (by omega)
    | _, _, j + 4, h => exact absurd h (by omega)
set_option maxRecDepth 10000 in
theorem w_zs {Λ : fo_Lt} {s : State} {args : Array Value} (hz : Λ.2.2.2 = s.heap.size) (hts : ∀ w ∈ lw_tbl, w.before args s = true) (hb : (Jvm.Cond.and given_1 narrow_1).before args s = true) {adK adV : Nat → Nat} (h1 : vk_S 4 fo_txl fo_txb adK adV (fo_A Λ) s s.heap) (h2 : ∀ i : Nat, i < 4 → (w_tm i).eval args s none [] s = some (.ref (adK i))) (e1 : ∀ i, i < 4 → Λ.2.2.1 (700 + i) = adK i) (e2 : ∀ i, i < 4 → Λ.2.2.1 (710 + i) = adV i) : fo_Zs Λ s := by
  have hs := flat_of_before _ hb
  have hA : ∀ a : Nat, a < s.heap.size → ¬ fo_A Λ a := fun a ha h => Nat.lt_irrefl _ (Nat.lt_of_lt_of_le ha (by rw [← hz]; exact h))
  refine ⟨h1.cg e1 e2, fun q hq => ?_, va_Zof (hts _ (wt_in 1008 (by decide +kernel))) (hts _ (wt_in 88 (by decide +kernel))) (va_eqi (hs _ (by decide +kernel))) hA, (vx_Zqof (hts _ (wt_in 1024 (by decide +kernel))) (hts _ (wt_in 95 (by decide +kernel))) (hs _ (by decide +kernel)) hA).1⟩
  have hq4 : q = (52, "prophet ", 0) ∨ q = (61, "see ", 1) ∨ q = (66, "limit ", 2) ∨ q = (71, "forget ", 3) := by simpa [fo_lits] using hq
  rcases hq4 with rfl | rfl | rfl | rfl
  · refine vk_R.of (A := args) (hts _ (wt_in 994 (by decide +kernel))) ?_
    show (w_tm 0).eval args s none [] s = some (.ref (Λ.2.2.1 (700 + 0)))
    rw [e1 0 (by decide)]
    exact h2 0 (by decide)
  · refine vk_R.of (A := args) (hts _ (wt_in 1067 (by decide +kernel))) ?_
    show (w_tm 1).eval args s none [] s = some (.ref (Λ.2.2.1 (700 + 1)))
    rw [e1 1 (by decide)]
    exact h2 1 (by decide)
  · refine vk_R.of (A := args) (hts _ (wt_in 1076 (by decide +kernel))) ?_
    show (w_tm 2).eval args s none [] s = some (.ref (Λ.2.2.1 (700 + 2)))
    rw [e1 2 (by decide)]
    exact h2 2 (by decide)
  · refine vk_R.of (A := args) (hts _ (wt_in 1081 (by decide +kernel))) ?_
    show (w_tm 3).eval args s none [] s = some (.ref (Λ.2.2.1 (700 + 3)))
    rw [e1 3 (by decide)]
    exact h2 3 (by decide)
