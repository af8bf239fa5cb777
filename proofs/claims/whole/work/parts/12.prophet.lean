
/-! A PROPHET -/
theorem fo_lookup {l : Launch} {Λ : fo_Lt} {R : Room} {K : fo_K} {cc : ByteArray} {own : String} {nL cs ss pc : Nat} {lv : List (Nat × Value)} {st : List Value} {I : fo_Mi} {D : fo_Md} {J : fo_Mj} {X : fo_Mi} (C : fo_C Λ K cc own nL) {dflt : Int} {ps : Array (Int × Int)} {len : Nat} {x : Int32} {off : Int} (d : decode cc pc = .ok (.lookupswitch dflt ps, len)) (hp : (ps.toList.zip (ps.toList.drop 1)).all (fun (a, next) => a.1 < next.1) = true) (ho : Op.lookupswitch.offset ps.toList dflt x.toInt = off) (n' : Nat) (hn : (pc : Int) + off = (n' : Int)) (k : fo_G l Λ R K cs ss n' lv st I D J X) : fo_G l Λ R K cs ss pc lv (.int x :: st) I D J X := by
  intro H locs ls hP hS hl
  exact lv_lookup C.1 C.2.1 d hp ho hn (k H locs ls hP hS hl)
def fs_P (I : fo_Mi) (p kd par : Nat) : Prop := fo_k p = 5 ∧ I p 0 = nI kd ∧ I p 1 = nI par ∧ fp_kdok kd par
theorem fp_dabs_t {x : UInt64} (h : 0 ≤ Op.cmpValue (FP.dcmp x FP.dconst0) .g) : x = fp_dabs x := by
  unfold fp_dabs
  rw [if_neg (Int32.not_lt.mpr h)]
theorem fp_dabs_f {x : UInt64} (h : ¬ 0 ≤ Op.cmpValue (FP.dcmp x FP.dconst0) .g) : FP.dneg x = fp_dabs x := by
  unfold fp_dabs
  rw [if_pos (Int32.not_le.mp h)]
def fp_ds (g : Nat → UInt64) : Nat → UInt64
  | 0 => FP.dconst0
  | k + 1 => FP.dadd (fp_ds g k) (g k)
theorem fd_ds {g : Nat → UInt64} {K : Nat} : ∀ k, K + 2 * k ≤ 2047 → (∀ j, j < k → fd_m (g j) K) → 1 ≤ K → fd_m (fp_ds g k) (K + 2 * k)
  | 0, _, _, h => fd_up (K := 1) (by show fd_m FP.dconst0 1; decide +kernel) (by omega)
  | k + 1, h1, h2, h => fd_up (K := K + 2 * k + 2) (fd_add (K := K + 2 * k) (fd_ds k (by omega) (fun j hj => h2 j (by omega)) h) (fd_up (h2 k (by omega)) (by omega)) (by omega)) (by omega)
theorem fp_ds_congr {g u : Nat → UInt64} : ∀ {k : Nat}, (∀ j, j < k → g j = u j) → fp_ds g k = fp_ds u k
  | 0, _ => rfl
  | k + 1, h => by rw [fp_ds, fp_ds, fp_ds_congr (fun j hj => h j (by omega)), h k (by omega)]

set_option maxRecDepth 10000 in
set_option maxHeartbeats 4000000 in
theorem mX3_neededValues {l : Launch} {Λ : fo_Lt} {I : fo_Mi} {D : fo_Md} {J : fo_Mj} {X : fo_Mi} {p kd par : Nat} (hp : fs_P I p kd par) : fk_i l yX3_neededValues cX3_neededValues 1 .int 0 0 Λ [.ref (Λ.2.2.1 p)] I D J X (fo_pr (nI (fp_need kd par)) I D J X) := by
  obtain ⟨hk, h0, h1, hok⟩ := id hp
  refine fo_si (by decide) [(0, .ref (Λ.2.2.1 p))] rfl (Nat.le_of_ble_eq_true rfl) (fun K C fin => ?_)
  refine fo_aload_n C dX3_neededValues_0 0 rfl rfl 1 rfl ?_
  refine fo_get C dX3_neededValues_1 fK5 hk (by decide) 0 (by decide) fl_X3_22 (v := .int (nI kd)) (congrArg (fun x => some (Value.int x)) (h0)) 4 rfl ?_
  obtain ⟨hkd, hpa, hpb⟩ := hok
  rcases hkd with rfl | rfl | rfl | rfl | rfl
  · refine fo_lookup C dX3_neededValues_4 (by decide) (off := 43) (by decide) 47 (by decide) ?_
    refine fo_iconst C dX3_neededValues_47 (nI 1) ki_1 48 rfl ?_
    exact fin dX3_neededValues_48 rfl (⟨rfl, rfl, rfl, rfl, rfl⟩)
  · refine fo_lookup C dX3_neededValues_4 (by decide) (off := 36) (by decide) 40 (by decide) ?_
    refine fo_aload_n C dX3_neededValues_40 0 rfl rfl 41 rfl ?_
    refine fo_get C dX3_neededValues_41 fK5 hk (by decide) 1 (by decide) fl_X3_26 (v := .int (nI par)) (congrArg (fun x => some (Value.int x)) (h1)) 44 rfl ?_
    exact fin dX3_neededValues_44 rfl (⟨rfl, rfl, rfl, rfl, rfl⟩)
  · refine fo_lookup C dX3_neededValues_4 (by decide) (off := 36) (by decide) 40 (by decide) ?_
    refine fo_aload_n C dX3_neededValues_40 0 rfl rfl 41 rfl ?_
    refine fo_get C dX3_neededValues_41 fK5 hk (by decide) 1 (by decide) fl_X3_26 (v := .int (nI par)) (congrArg (fun x => some (Value.int x)) (h1)) 44 rfl ?_
    exact fin dX3_neededValues_44 rfl (⟨rfl, rfl, rfl, rfl, rfl⟩)
  · refine fo_lookup C dX3_neededValues_4 (by decide) (off := 41) (by decide) 45 (by decide) ?_
    refine fo_iconst C dX3_neededValues_45 (nI 2) ki_2 46 rfl ?_
    exact fin dX3_neededValues_46 rfl (⟨rfl, rfl, rfl, rfl, rfl⟩)
  · refine fo_lookup C dX3_neededValues_4 (by decide) (off := 43) (by decide) 47 (by decide) ?_
    refine fo_iconst C dX3_neededValues_47 (nI 1) ki_1 48 rfl ?_
    exact fin dX3_neededValues_48 rfl (⟨rfl, rfl, rfl, rfl, rfl⟩)
set_option maxRecDepth 10000 in
set_option maxHeartbeats 4000000 in
theorem mX3_foresees {l : Launch} {Λ : fo_Lt} {I : fo_Mi} {D : fo_Md} {J : fo_Mj} {X : fo_Mi} {p kd par : Nat} {d : Nat} (hd : d ≤ 30) (hp : fs_P I p kd par) : fk_i l yX3_foresees cX3_foresees 2 .boolean 1 20 Λ [.ref (Λ.2.2.1 p), .int (nI d)] I D J X (fo_pr (fo_b (decide (fp_need kd par ≤ d))) I D J X) := by
  obtain ⟨hk, h0, h1, hok⟩ := id hp
  refine fo_si (by decide) [(0, .ref (Λ.2.2.1 p)), (1, .int (nI d))] rfl (Nat.le_of_ble_eq_true rfl) (fun K C fin => ?_)
  refine fo_iload_n C dX3_foresees_0 1 rfl rfl 1 rfl ?_
  refine fo_aload_n C dX3_foresees_1 0 rfl rfl 2 rfl ?_
  refine fo_qvi C dX3_foresees_2 (mX3_neededValues hp) lv_X3_40 hk rfl (by decide) rfl ⟨Nat.le_of_ble_eq_true rfl, Nat.le_of_ble_eq_true rfl⟩ ⟨Nat.le_of_ble_eq_true rfl, Nat.le_of_ble_eq_true rfl⟩ [.int (nI d)] rfl (Nat.le_of_ble_eq_true rfl) 5 rfl (fo_er ?_)
  have hnd := fp_need_in hp.2.2.2
  refine fo_ncmp_lt C (by omega) (by omega) dX3_foresees_5 12 (by decide) 8 rfl (fun c7 => ?_) (fun c7 => ?_)
  · refine fo_iconst C dX3_foresees_12 (nI 0) ki_0 13 rfl ?_
    exact fin dX3_foresees_13 (by first | rfl | exact fo_nb _) (⟨fo_d0 (by omega), rfl, rfl, rfl, rfl⟩)
  · refine fo_iconst C dX3_foresees_8 (nI 1) ki_1 9 rfl ?_
    refine fo_goto C dX3_foresees_9 13 (by decide) ?_
    exact fin dX3_foresees_13 (by first | rfl | exact fo_nb _) (⟨fo_d1 (by omega), rfl, rfl, rfl, rfl⟩)
set_option maxRecDepth 10000 in
set_option maxHeartbeats 4000000 in
theorem mX3_usesParameter {l : Launch} {Λ : fo_Lt} {I : fo_Mi} {D : fo_Md} {J : fo_Mj} {X : fo_Mi} {p kd par : Nat} (hp : fs_P I p kd par) : fk_i l yX3_usesParameter cX3_usesParameter 1 .boolean 0 0 Λ [.ref (Λ.2.2.1 p)] I D J X (fo_pr (fo_b (decide (kd = 109 ∨ kd = 100 ∨ kd = 115))) I D J X) := by
  obtain ⟨hk, h0, h1, hok⟩ := id hp
  have hkb : kd ≤ 200 := by have := hok.1; omega
  refine fo_si (by decide) [(0, .ref (Λ.2.2.1 p))] rfl (Nat.le_of_ble_eq_true rfl) (fun K C fin => ?_)
  refine fo_aload_n C dX3_usesParameter_0 0 rfl rfl 1 rfl ?_
  refine fo_get C dX3_usesParameter_1 fK5 hk (by decide) 0 (by decide) fl_X3_22 (v := .int (nI kd)) (congrArg (fun x => some (Value.int x)) (h0)) 4 rfl ?_
  refine fo_bipush C dX3_usesParameter_4 (nI 109) kb_109 6 rfl ?_
  refine fo_ncmp_eq C (by omega) (by omega) dX3_usesParameter_6 27 (by decide) 9 rfl (fun c1 => ?_) (fun c1 => ?_)
  · refine fo_iconst C dX3_usesParameter_27 (nI 1) ki_1 28 rfl ?_
    refine fo_goto C dX3_usesParameter_28 32 (by decide) ?_
    exact fin dX3_usesParameter_32 (by first | rfl | exact fo_nb _) (⟨fo_d1 (by omega), rfl, rfl, rfl, rfl⟩)
  · refine fo_aload_n C dX3_usesParameter_9 0 rfl rfl 10 rfl ?_
    refine fo_get C dX3_usesParameter_10 fK5 hk (by decide) 0 (by decide) fl_X3_22 (v := .int (nI kd)) (congrArg (fun x => some (Value.int x)) (h0)) 13 rfl ?_
    refine fo_bipush C dX3_usesParameter_13 (nI 100) kb_100 15 rfl ?_
    refine fo_ncmp_eq C (by omega) (by omega) dX3_usesParameter_15 27 (by decide) 18 rfl (fun c2 => ?_) (fun c2 => ?_)
    · refine fo_iconst C dX3_usesParameter_27 (nI 1) ki_1 28 rfl ?_
      refine fo_goto C dX3_usesParameter_28 32 (by decide) ?_
      exact fin dX3_usesParameter_32 (by first | rfl | exact fo_nb _) (⟨fo_d1 (by omega), rfl, rfl, rfl, rfl⟩)
    · refine fo_aload_n C dX3_usesParameter_18 0 rfl rfl 19 rfl ?_
      refine fo_get C dX3_usesParameter_19 fK5 hk (by decide) 0 (by decide) fl_X3_22 (v := .int (nI kd)) (congrArg (fun x => some (Value.int x)) (h0)) 22 rfl ?_
      refine fo_bipush C dX3_usesParameter_22 (nI 115) kb_115 24 rfl ?_
      refine fo_ncmp_ne C (by omega) (by omega) dX3_usesParameter_24 31 (by decide) 27 rfl (fun c3 => ?_) (fun c3 => ?_)
      · refine fo_iconst C dX3_usesParameter_31 (nI 0) ki_0 32 rfl ?_
        exact fin dX3_usesParameter_32 (by first | rfl | exact fo_nb _) (⟨fo_d0 (by omega), rfl, rfl, rfl, rfl⟩)
      · refine fo_iconst C dX3_usesParameter_27 (nI 1) ki_1 28 rfl ?_
        refine fo_goto C dX3_usesParameter_28 32 (by decide) ?_
        exact fin dX3_usesParameter_32 (by first | rfl | exact fo_nb _) (⟨fo_d1 (by omega), rfl, rfl, rfl, rfl⟩)
set_option maxRecDepth 10000 in
set_option maxHeartbeats 4000000 in
theorem mX3_foretell {l : Launch} {Λ : fo_Lt} {I : fo_Mi} {D : fo_Md} {J : fo_Mj} {X : fo_Mi} {s n : Nat} {v : Nat → Nat} {p kd par : Nat} {d : Nat} (hd1 : fp_need kd par ≤ d) (hd2 : d ≤ n) (hs : fs_S I s n v) (hp : fs_P I p kd par) : fk_d l yX3_foretell cX3_foretell 3 1 26 Λ [.ref (Λ.2.2.1 p), .ref (Λ.2.2.1 s), .int (nI d)] I D J X (fo_ps (fp_fore kd par v d) I D J) := by
  obtain ⟨hk, h0, h1, hok⟩ := id hp
  obtain ⟨sk, sc, sn, sv, sb⟩ := id hs
  refine fo_sd (by decide) [(0, .ref (Λ.2.2.1 p)), (1, .ref (Λ.2.2.1 s)), (2, .int (nI d))] rfl (Nat.le_of_ble_eq_true rfl) (fun K C fin => ?_)
  refine fo_aload_n C dX3_foretell_0 0 rfl rfl 1 rfl ?_
  refine fo_get C dX3_foretell_1 fK5 hk (by decide) 0 (by decide) fl_X3_22 (v := .int (nI kd)) (congrArg (fun x => some (Value.int x)) (h0)) 4 rfl ?_
  obtain ⟨hkd, hpa, hpb⟩ := hok
  rcases hkd with rfl | rfl | rfl | rfl | rfl
  · refine fo_lookup C dX3_foretell_4 (by decide) (off := 105) (by decide) 109 (by decide) ?_
    have hnn := hd1
    simp [fp_need] at hnn
    refine fo_aload_n C dX3_foretell_109 1 rfl rfl 110 rfl ?_
    refine fo_get C dX3_foretell_110 fK6 sk (by decide) 0 (by decide) fl_X3_50 (v := .ref (Λ.2.2.1 (s + 1))) rfl 113 rfl ?_
    refine fo_iload_n C dX3_foretell_113 2 rfl rfl 114 rfl ?_
    refine fo_iconst C dX3_foretell_114 (nI 1) ki_1 115 rfl ?_
    refine fo_isub C dX3_foretell_115 (nI (d - 1)) (pk_sub (by omega)) 116 rfl ?_
    have q1 := sb (d - 1) (by omega)
    refine fo_iald C dX3_foretell_116 (fo_S1k sk) (by rw [fo_S1n sk]; omega) (nI (v (d - 1))) (sv _ (by omega)) 117 rfl ?_
    refine fo_i2d C dX3_foretell_117 118 rfl ?_
    exact fin dX3_foretell_118 (⟨rfl, rfl, rfl, rfl⟩)
  · refine fo_lookup C dX3_foretell_4 (by decide) (off := 44) (by decide) 48 (by decide) ?_
    have hnn := hd1
    simp [fp_need] at hnn
    refine fo_aload_n C dX3_foretell_48 1 rfl rfl 49 rfl ?_
    refine fo_iload_n C dX3_foretell_49 2 rfl rfl 50 rfl ?_
    refine fo_aload_n C dX3_foretell_50 0 rfl rfl 51 rfl ?_
    refine fo_get C dX3_foretell_51 fK5 hk (by decide) 1 (by decide) fl_X3_26 (v := .int (nI par)) (congrArg (fun x => some (Value.int x)) (h1)) 54 rfl ?_
    refine fo_qvd C dX3_foretell_54 (mX4_meanBefore (e := d) (c := par) (by omega) (by simp [fp_need] at hd1; omega) hd2 hs) lv_X3_44 sk rfl (by decide) rfl ⟨Nat.le_of_ble_eq_true rfl, Nat.le_of_ble_eq_true rfl⟩ ⟨Nat.le_of_ble_eq_true rfl, Nat.le_of_ble_eq_true rfl⟩ [] rfl (Nat.le_of_ble_eq_true rfl) 57 rfl (fo_er ?_)
    exact fin dX3_foretell_57 (⟨rfl, rfl, rfl, rfl⟩)
  · refine fo_lookup C dX3_foretell_4 (by decide) (off := 54) (by decide) 58 (by decide) ?_
    have hnn := hd1
    simp [fp_need] at hnn
    refine fo_aload_n C dX3_foretell_58 1 rfl rfl 59 rfl ?_
    refine fo_aload_n C dX3_foretell_59 1 rfl rfl 60 rfl ?_
    refine fo_get C dX3_foretell_60 fK6 sk (by decide) 0 (by decide) fl_X3_50 (v := .ref (Λ.2.2.1 (s + 1))) rfl 63 rfl ?_
    refine fo_iload_n C dX3_foretell_63 2 rfl rfl 64 rfl ?_
    refine fo_aload_n C dX3_foretell_64 0 rfl rfl 65 rfl ?_
    refine fo_get C dX3_foretell_65 fK5 hk (by decide) 1 (by decide) fl_X3_26 (v := .int (nI par)) (congrArg (fun x => some (Value.int x)) (h1)) 68 rfl ?_
    refine fo_isub C dX3_foretell_68 (nI (d - par)) (pk_sub (by omega)) 69 rfl ?_
    refine fo_aload_n C dX3_foretell_69 0 rfl rfl 70 rfl ?_
    refine fo_get C dX3_foretell_70 fK5 hk (by decide) 1 (by decide) fl_X3_26 (v := .int (nI par)) (congrArg (fun x => some (Value.int x)) (h1)) 73 rfl ?_
    refine fo_qvi C dX3_foretell_73 (mX4_medianOf_v (a := d - par) (c := par) (by omega) (by simp [fp_need] at hd1; omega) hs) lv_X3_53 sk rfl (by decide) rfl ⟨Nat.le_of_ble_eq_true rfl, Nat.le_of_ble_eq_true rfl⟩ ⟨Nat.le_of_ble_eq_true rfl, Nat.le_of_ble_eq_true rfl⟩ [] rfl (Nat.le_of_ble_eq_true rfl) 76 rfl (fo_es (fun X12 => ?_))
    refine fo_i2d C dX3_foretell_76 77 rfl ?_
    exact fin dX3_foretell_77 (⟨rfl, rfl, rfl, rfl⟩)
  · refine fo_lookup C dX3_foretell_4 (by decide) (off := 74) (by decide) 78 (by decide) ?_
    have hnn := hd1
    simp [fp_need] at hnn
    refine fo_iconst C dX3_foretell_78 (nI 2) ki_2 79 rfl ?_
    refine fo_aload_n C dX3_foretell_79 1 rfl rfl 80 rfl ?_
    refine fo_get C dX3_foretell_80 fK6 sk (by decide) 0 (by decide) fl_X3_50 (v := .ref (Λ.2.2.1 (s + 1))) rfl 83 rfl ?_
    refine fo_iload_n C dX3_foretell_83 2 rfl rfl 84 rfl ?_
    refine fo_iconst C dX3_foretell_84 (nI 1) ki_1 85 rfl ?_
    refine fo_isub C dX3_foretell_85 (nI (d - 1)) (pk_sub (by omega)) 86 rfl ?_
    have q14 := sb (d - 1) (by omega)
    refine fo_iald C dX3_foretell_86 (fo_S1k sk) (by rw [fo_S1n sk]; omega) (nI (v (d - 1))) (sv _ (by omega)) 87 rfl ?_
    refine fo_imul C dX3_foretell_87 (nI (2 * (v (d - 1)))) (pk_mul _ _) 88 rfl ?_
    refine fo_aload_n C dX3_foretell_88 1 rfl rfl 89 rfl ?_
    refine fo_get C dX3_foretell_89 fK6 sk (by decide) 0 (by decide) fl_X3_50 (v := .ref (Λ.2.2.1 (s + 1))) rfl 92 rfl ?_
    refine fo_iload_n C dX3_foretell_92 2 rfl rfl 93 rfl ?_
    refine fo_iconst C dX3_foretell_93 (nI 2) ki_2 94 rfl ?_
    refine fo_isub C dX3_foretell_94 (nI (d - 2)) (pk_sub (by omega)) 95 rfl ?_
    have q15 := sb (d - 2) (by omega)
    refine fo_iald C dX3_foretell_95 (fo_S1k sk) (by rw [fo_S1n sk]; omega) (nI (v (d - 2))) (sv _ (by omega)) 96 rfl ?_
    refine fo_isub C dX3_foretell_96 _ rfl 97 rfl ?_
    refine fo_i2d C dX3_foretell_97 98 rfl ?_
    exact fin dX3_foretell_98 (⟨rfl, rfl, rfl, rfl⟩)
  · refine fo_lookup C dX3_foretell_4 (by decide) (off := 95) (by decide) 99 (by decide) ?_
    have hnn := hd1
    simp [fp_need] at hnn
    refine fo_aload_n C dX3_foretell_99 1 rfl rfl 100 rfl ?_
    refine fo_iload_n C dX3_foretell_100 2 rfl rfl 101 rfl ?_
    refine fo_aload_n C dX3_foretell_101 0 rfl rfl 102 rfl ?_
    refine fo_get C dX3_foretell_102 fK5 hk (by decide) 1 (by decide) fl_X3_26 (v := .int (nI par)) (congrArg (fun x => some (Value.int x)) (h1)) 105 rfl ?_
    refine fo_qvd C dX3_foretell_105 (mX4_levelBefore (e := d) (p := par) (by simp [fp_need] at hd1; omega) hd2 (by omega) hs) lv_X3_57 sk rfl (by decide) rfl ⟨Nat.le_of_ble_eq_true rfl, Nat.le_of_ble_eq_true rfl⟩ ⟨Nat.le_of_ble_eq_true rfl, Nat.le_of_ble_eq_true rfl⟩ [] rfl (Nat.le_of_ble_eq_true rfl) 108 rfl (fo_er ?_)
    exact fin dX3_foretell_108 (⟨rfl, rfl, rfl, rfl⟩)
set_option maxRecDepth 10000 in
set_option maxHeartbeats 4000000 in
theorem mX3_errorOn {l : Launch} {Λ : fo_Lt} {I : fo_Mi} {D : fo_Md} {J : fo_Mj} {X : fo_Mi} {s n : Nat} {v : Nat → Nat} {p kd par : Nat} {d : Nat} (hd1 : fp_need kd par ≤ d) (hd2 : d < n) (hs : fs_S I s n v) (hp : fs_P I p kd par) : fk_d l yX3_errorOn cX3_errorOn 5 2 48 Λ [.ref (Λ.2.2.1 p), .ref (Λ.2.2.1 s), .int (nI d)] I D J X (fo_ps (fp_err kd par v d) I D J) := by
  obtain ⟨hk, h0, h1, hok⟩ := id hp
  obtain ⟨sk, sc, sn, sv, sb⟩ := id hs
  refine fo_sd (by decide) [(0, .ref (Λ.2.2.1 p)), (1, .ref (Λ.2.2.1 s)), (2, .int (nI d))] rfl (Nat.le_of_ble_eq_true rfl) (fun K C fin => ?_)
  refine fo_aload_n C dX3_errorOn_0 0 rfl rfl 1 rfl ?_
  refine fo_aload_n C dX3_errorOn_1 1 rfl rfl 2 rfl ?_
  refine fo_iload_n C dX3_errorOn_2 2 rfl rfl 3 rfl ?_
  refine fo_qvd C dX3_errorOn_3 (mX3_foretell (d := d) hd1 (by omega) hs hp) lv_X3_60 hk rfl (by decide) rfl ⟨Nat.le_of_ble_eq_true rfl, Nat.le_of_ble_eq_true rfl⟩ ⟨Nat.le_of_ble_eq_true rfl, Nat.le_of_ble_eq_true rfl⟩ [] rfl (Nat.le_of_ble_eq_true rfl) 6 rfl (fo_es (fun X5 => ?_))
  refine fo_aload_n C dX3_errorOn_6 1 rfl rfl 7 rfl ?_
  refine fo_get C dX3_errorOn_7 fK6 sk (by decide) 0 (by decide) fl_X3_50 (v := .ref (Λ.2.2.1 (s + 1))) rfl 10 rfl ?_
  refine fo_iload_n C dX3_errorOn_10 2 rfl rfl 11 rfl ?_
  have q7 := sb (d) (by omega)
  refine fo_iald C dX3_errorOn_11 (fo_S1k sk) (by rw [fo_S1n sk]; omega) (nI (v (d))) (sv _ (by omega)) 12 rfl ?_
  refine fo_i2d C dX3_errorOn_12 13 rfl ?_
  refine fo_dsub C dX3_errorOn_13 (fd_ok (K := 1302) (fd_err0 hok v (by omega)) (by decide)) 14 rfl ?_
  refine fo_dstore_n C dX3_errorOn_14 rfl [(3, .double (FP.dsub (fp_fore kd par v d) (FP.i2d (nI (v (d)))))), (0, .ref (Λ.2.2.1 p)), (1, .ref (Λ.2.2.1 s)), (2, .int (nI d))] rfl (by decide) 15 rfl ?_
  refine fo_dload_n C dX3_errorOn_15 0 rfl rfl 16 rfl ?_
  refine fo_dconst0 C dX3_errorOn_16 17 rfl ?_
  refine fo_dcmp C dX3_errorOn_17 18 rfl ?_
  refine fo_if_ge C dX3_errorOn_18 26 (by decide) 21 rfl (fun c8 => ?_) (fun c8 => ?_)
  · refine fo_dload_n C dX3_errorOn_26 0 rfl rfl 27 rfl ?_
    refine fo_td (b := fp_err kd par v d) (by first | exact fp_dabs_t (by assumption) | exact fp_dabs_f (by assumption)) ?_
    exact fin dX3_errorOn_27 (⟨rfl, rfl, rfl, rfl⟩)
  · refine fo_dload_n C dX3_errorOn_21 0 rfl rfl 22 rfl ?_
    refine fo_dneg C dX3_errorOn_22 23 rfl ?_
    refine fo_goto C dX3_errorOn_23 27 (by decide) ?_
    refine fo_td (b := fp_err kd par v d) (by first | exact fp_dabs_t (by assumption) | exact fp_dabs_f (by assumption)) ?_
    exact fin dX3_errorOn_27 (⟨rfl, rfl, rfl, rfl⟩)
set_option maxRecDepth 10000 in
set_option maxHeartbeats 4000000 in
theorem mX3_addError {l : Launch} {Λ : fo_Lt} {I : fo_Mi} {D : fo_Md} {J : fo_Mj} {X : fo_Mi} {p kd par : Nat} {k c : Nat} {e : UInt64} (hk4 : k < 4) (hc : c ≤ 1000) (hn : vf_n64 (FP.dadd (D (p + 2) k) e)) (hk : fo_k p = 5) (he : I (p + 1) k = nI c) : fk_v l yX3_addError cX3_addError 4 0 0 Λ [.ref (Λ.2.2.1 p), .int (nI k), .double (e)] I D J X (fo_prv (fo_r I (p + 1) (upd (I (p + 1)) k (nI (c + 1)))) (fo_r D (p + 2) (vf_upd (D (p + 2)) k (FP.dadd (D (p + 2) k) e))) J X) := by
  refine fo_sv (by decide) [(0, .ref (Λ.2.2.1 p)), (1, .int (nI k)), (2, .double (e))] rfl (Nat.le_of_ble_eq_true rfl) (fun K C fin => ?_)
  refine fo_aload_n C dX3_addError_0 0 rfl rfl 1 rfl ?_
  refine fo_get C dX3_addError_1 fK5 hk (by decide) 2 (by decide) fl_X3_9 (v := .ref (Λ.2.2.1 (p + 1))) rfl 4 rfl ?_
  refine fo_iload_n C dX3_addError_4 1 rfl rfl 5 rfl ?_
  refine fo_dup2 C dX3_addError_5 rfl rfl 6 rfl ?_
  refine fo_iald C dX3_addError_6 (fo_P1k hk) (by rw [fo_P1n hk]; omega) (nI (c)) (he) 7 rfl ?_
  refine fo_iconst C dX3_addError_7 (nI 1) ki_1 8 rfl ?_
  refine fo_iadd C dX3_addError_8 (nI (c + 1)) (nI_add _ _) 9 rfl ?_
  refine fo_iast C dX3_addError_9 (fo_P1k hk) (by rw [fo_P1n hk]; omega) 10 rfl ?_
  refine fo_aload_n C dX3_addError_10 0 rfl rfl 11 rfl ?_
  refine fo_get C dX3_addError_11 fK5 hk (by decide) 3 (by decide) fl_X3_15 (v := .ref (Λ.2.2.1 (p + 2))) rfl 14 rfl ?_
  refine fo_iload_n C dX3_addError_14 1 rfl rfl 15 rfl ?_
  refine fo_aload_n C dX3_addError_15 0 rfl rfl 16 rfl ?_
  refine fo_get C dX3_addError_16 fK5 hk (by decide) 3 (by decide) fl_X3_15 (v := .ref (Λ.2.2.1 (p + 2))) rfl 19 rfl ?_
  refine fo_iload_n C dX3_addError_19 1 rfl rfl 20 rfl ?_
  refine fo_dald C dX3_addError_20 (fo_P2k hk) (by rw [fo_P2n hk]; omega) (D (p + 2) (k)) rfl 21 rfl ?_
  refine fo_dload_n C dX3_addError_21 2 rfl rfl 22 rfl ?_
  refine fo_dadd C dX3_addError_22 hn 23 rfl ?_
  refine fo_dast C dX3_addError_23 (fo_P2k hk) (by rw [fo_P2n hk]; omega) 24 rfl ?_
  exact fin dX3_addError_24 (⟨rfl, rfl, rfl, rfl⟩)
set_option maxRecDepth 10000 in
set_option maxHeartbeats 4000000 in
theorem mX3_wipeScores {l : Launch} {Λ : fo_Lt} {I : fo_Mi} {D : fo_Md} {J : fo_Mj} {X : fo_Mi} {p k : Nat} (hk4 : k < 4) (hk : fo_k p = 5) : fk_v l yX3_wipeScores cX3_wipeScores 2 0 0 Λ [.ref (Λ.2.2.1 p), .int (nI k)] I D J X (fo_prv (fo_r (fo_r I (p + 1) (upd (I (p + 1)) k (nI 0))) (p + 3) (upd (I (p + 3)) k (nI 0))) (fo_r D (p + 2) (vf_upd (D (p + 2)) k FP.dconst0)) J X) := by
  refine fo_sv (by decide) [(0, .ref (Λ.2.2.1 p)), (1, .int (nI k))] rfl (Nat.le_of_ble_eq_true rfl) (fun K C fin => ?_)
  refine fo_aload_n C dX3_wipeScores_0 0 rfl rfl 1 rfl ?_
  refine fo_get C dX3_wipeScores_1 fK5 hk (by decide) 2 (by decide) fl_X3_9 (v := .ref (Λ.2.2.1 (p + 1))) rfl 4 rfl ?_
  refine fo_iload_n C dX3_wipeScores_4 1 rfl rfl 5 rfl ?_
  refine fo_iconst C dX3_wipeScores_5 (nI 0) ki_0 6 rfl ?_
  refine fo_iast C dX3_wipeScores_6 (fo_P1k hk) (by rw [fo_P1n hk]; omega) 7 rfl ?_
  refine fo_aload_n C dX3_wipeScores_7 0 rfl rfl 8 rfl ?_
  refine fo_get C dX3_wipeScores_8 fK5 hk (by decide) 3 (by decide) fl_X3_15 (v := .ref (Λ.2.2.1 (p + 2))) rfl 11 rfl ?_
  refine fo_iload_n C dX3_wipeScores_11 1 rfl rfl 12 rfl ?_
  refine fo_dconst0 C dX3_wipeScores_12 13 rfl ?_
  refine fo_dast C dX3_wipeScores_13 (fo_P2k hk) (by rw [fo_P2n hk]; omega) 14 rfl ?_
  refine fo_aload_n C dX3_wipeScores_14 0 rfl rfl 15 rfl ?_
  refine fo_get C dX3_wipeScores_15 fK5 hk (by decide) 4 (by decide) fl_X3_19 (v := .ref (Λ.2.2.1 (p + 3))) rfl 18 rfl ?_
  refine fo_iload_n C dX3_wipeScores_18 1 rfl rfl 19 rfl ?_
  refine fo_iconst C dX3_wipeScores_19 (nI 0) ki_0 20 rfl ?_
  refine fo_iast C dX3_wipeScores_20 (fo_P3k hk) (by rw [fo_P3n hk]; omega) 21 rfl ?_
  exact fin dX3_wipeScores_21 (⟨by rw [fo_rn I _ (by omega : p + 3 ≠ p + 1)], rfl, rfl, rfl⟩)
set_option maxRecDepth 10000 in
set_option maxHeartbeats 4000000 in
theorem mX3_begin {l : Launch} {Λ : fo_Lt} {I : fo_Mi} {D : fo_Md} {J : fo_Mj} {X : fo_Mi} {p kd par : Nat} (hk : fo_k p = 5) (hok : fp_kdok kd par) : fk_v l yX3_begin cX3_begin 4 1 21 Λ [.ref (Λ.2.2.1 p), .int (nI kd), .int (nI par)] I D J X ((fun I' D' J' X' => (∀ b, b ≠ p → b ≠ p + 1 → b ≠ p + 3 → I' b = I b) ∧ (∀ b, b ≠ p + 2 → D' b = D b) ∧ I' p 0 = nI kd ∧ I' p 1 = nI par ∧ (∀ k, k < 4 → I' (p + 1) k = nI 0 ∧ D' (p + 2) k = FP.dconst0 ∧ I' (p + 3) k = nI 0) ∧ J' = J ∧ X' = X)) := by
  refine fo_sv (by decide) [(0, .ref (Λ.2.2.1 p)), (1, .int (nI kd)), (2, .int (nI par))] rfl (Nat.le_of_ble_eq_true rfl) (fun K C fin => ?_)
  refine fo_aload_n C dX3_begin_0 0 rfl rfl 1 rfl ?_
  refine fo_iload_n C dX3_begin_1 1 rfl rfl 2 rfl ?_
  refine fo_put C dX3_begin_2 fK5 hk (by decide) 0 (by decide) fl_X3_22 rfl (pk_charN (by have := hok.1; omega)).1 (pk_charN (by have := hok.1; omega)).2 rfl (Nat.le_of_ble_eq_true rfl) 5 rfl ?_
  refine fo_aload_n C dX3_begin_5 0 rfl rfl 6 rfl ?_
  refine fo_iload_n C dX3_begin_6 2 rfl rfl 7 rfl ?_
  refine fo_put C dX3_begin_7 fK5 hk (by decide) 1 (by decide) fl_X3_26 rfl rfl rfl rfl (Nat.le_of_ble_eq_true rfl) 10 rfl ?_
  refine fo_iconst C dX3_begin_10 (nI 0) ki_0 11 rfl ?_
  refine fo_istore_n C dX3_begin_11 rfl [(3, .int (nI 0)), (0, .ref (Λ.2.2.1 p)), (1, .int (nI kd)), (2, .int (nI par))] rfl (by decide) 12 rfl ?_
  have hL12 : ∀ (m12 : Nat) (i : Nat) (Y : fo_Mi) (E : fo_Md), 5 - i < m12 → i ≤ 4 → (∀ b, b ≠ p → b ≠ p + 1 → b ≠ p + 3 → Y b = I b) → (∀ b, b ≠ p + 2 → E b = D b) → Y p 0 = nI kd → Y p 1 = nI par → (∀ k, k < i → Y (p + 1) k = nI 0 ∧ E (p + 2) k = FP.dconst0 ∧ Y (p + 3) k = nI 0) → fo_G l Λ { frames := 1, cells := 0, slots := 0, locals := 21 } K 0 0 12 [(3, .int (nI i)), (0, .ref (Λ.2.2.1 p)), (1, .int (nI kd)), (2, .int (nI par))] [] Y E J X := by
    intro m12
    induction m12 with
    | zero => intro i Y E hm; exact absurd hm (Nat.not_lt_zero _)
    | succ m12 ih12 =>
      intro i Y E hm12 hi b1 b2 b3 b4 b5
      refine fo_iload_n C dX3_begin_12 0 rfl rfl 13 rfl ?_
      refine fo_iconst C dX3_begin_13 (nI 4) ki_4 14 rfl ?_
      refine fo_ncmp_ge C (by omega) (by omega) dX3_begin_14 28 (by decide) 17 rfl (fun c1 => ?_) (fun c1 => ?_)
      · exact fin dX3_begin_28 (⟨b1, b2, b3, b4, fun k h => b5 k (by omega), rfl, rfl⟩)
      · refine fo_aload_n C dX3_begin_17 1 rfl rfl 18 rfl ?_
        refine fo_iload_n C dX3_begin_18 0 rfl rfl 19 rfl ?_
        refine fo_qvv C dX3_begin_19 (mX3_wipeScores (k := i) (by omega) hk) lv_X3_36 hk rfl (by decide) rfl ⟨Nat.le_of_ble_eq_true rfl, Nat.le_of_ble_eq_true rfl⟩ ⟨Nat.le_of_ble_eq_true rfl, Nat.le_of_ble_eq_true rfl⟩ [] rfl (Nat.le_of_ble_eq_true rfl) 22 rfl (fo_erv ?_)
        refine fo_iinc C dX3_begin_22 0 rfl (nI (i + 1)) (nI_inc1 _) [(3, .int (nI (i + 1))), (0, .ref (Λ.2.2.1 p)), (1, .int (nI kd)), (2, .int (nI par))] rfl (by decide) 25 rfl ?_
        refine fo_goto C dX3_begin_25 12 (by decide) ?_
        exact ih12 (i + 1) (fo_r (fo_r Y (p + 1) (upd (Y (p + 1)) i (nI 0))) (p + 3) (upd (Y (p + 3)) i (nI 0))) (fo_r E (p + 2) (vf_upd (E (p + 2)) i FP.dconst0)) (by omega) (by omega) (fun b c1 c2 c3 => by rw [fo_rn _ _ c3, fo_rn _ _ c2]; exact b1 b c1 c2 c3) (fun b c1 => by rw [fo_rn _ _ c1]; exact b2 b c1) (by rw [fo_rn _ _ (by omega), fo_rn _ _ (by omega)]; exact b3) (by rw [fo_rn _ _ (by omega), fo_rn _ _ (by omega)]; exact b4) (fun k h => by rw [fo_rn _ _ (by omega : p + 1 ≠ p + 3), fo_rs, fo_rs, fo_rs]; by_cases e1 : k = i; (rw [e1, pk_us, pk_us]; exact ⟨rfl, if_pos rfl, rfl⟩); (rw [pk_un e1, pk_un e1]; obtain ⟨z1, z2, z3⟩ := b5 k (by omega); exact ⟨z1, (if_neg e1).trans z2, z3⟩))
  exact hL12 (5 + 1) 0 (fo_r (fo_r I p (upd (I p) 0 (nI (kd)))) p (upd ((fo_r I p (upd (I p) 0 (nI (kd)))) p) 1 (nI (par)))) (D) (by omega) (by omega) (fun b c1 c2 c3 => by rw [fo_rn _ _ c1, fo_rn _ _ c1]) (fun b c1 => rfl) (by rw [fo_rs, pk_un (by decide), fo_rs, pk_us]) (by rw [fo_rs, pk_us]) (fun k h => absurd h (Nat.not_lt_zero _))
set_option maxRecDepth 10000 in
set_option maxHeartbeats 4000000 in
theorem mX3_backtest {l : Launch} {Λ : fo_Lt} {I : fo_Mi} {D : fo_Md} {J : fo_Mj} {X : fo_Mi} {s n : Nat} {v : Nat → Nat} {p kd par : Nat} (hs : fs_S I s n v) (hp : fs_P I p kd par) : fk_d l yX3_backtest cX3_backtest 5 3 72 Λ [.ref (Λ.2.2.1 p), .ref (Λ.2.2.1 s)] I D J X (fo_ps (fp_es kd par v n) I D J) := by
  obtain ⟨hk, h0, h1, hok⟩ := id hp
  obtain ⟨sk, sc, sn, sv, sb⟩ := id hs
  refine fo_sd (by decide) [(0, .ref (Λ.2.2.1 p)), (1, .ref (Λ.2.2.1 s))] rfl (Nat.le_of_ble_eq_true rfl) (fun K C fin => ?_)
  refine fo_dconst0 C dX3_backtest_0 1 rfl ?_
  refine fo_dstore_n C dX3_backtest_1 rfl [(2, .double (FP.dconst0)), (0, .ref (Λ.2.2.1 p)), (1, .ref (Λ.2.2.1 s))] rfl (by decide) 2 rfl ?_
  refine fo_aload_n C dX3_backtest_2 1 rfl rfl 3 rfl ?_
  refine fo_qvi C dX3_backtest_3 (mX3_neededValues hp) lv_X3_40 hk rfl (by decide) rfl ⟨Nat.le_of_ble_eq_true rfl, Nat.le_of_ble_eq_true rfl⟩ ⟨Nat.le_of_ble_eq_true rfl, Nat.le_of_ble_eq_true rfl⟩ [] rfl (Nat.le_of_ble_eq_true rfl) 6 rfl (fo_er ?_)
  have hnd := fp_need_in hp.2.2.2
  refine fo_istore C dX3_backtest_6 [(4, .int (nI (fp_need kd par))), (2, .double (FP.dconst0)), (0, .ref (Λ.2.2.1 p)), (1, .ref (Λ.2.2.1 s))] rfl (by decide) 8 rfl ?_
  have hL8 : ∀ (m8 : Nat) (d : Nat) (Y : fo_Mi), n - d < m8 → fp_need kd par ≤ d → (d ≤ n ∨ d = fp_need kd par) → fo_G l Λ { frames := 3, cells := 0, slots := 0, locals := 72 } K 0 0 8 [(4, .int (nI d)), (2, .double (fp_es kd par v d)), (0, .ref (Λ.2.2.1 p)), (1, .ref (Λ.2.2.1 s))] [] I D J Y := by
    intro m8
    induction m8 with
    | zero => intro d Y hm; exact absurd hm (Nat.not_lt_zero _)
    | succ m8 ih8 =>
      intro d Y hm8 hd hdn
      refine fo_iload C dX3_backtest_8 0 rfl 10 rfl ?_
      refine fo_aload_n C dX3_backtest_10 3 rfl rfl 11 rfl ?_
      refine fo_get C dX3_backtest_11 fK6 sk (by decide) 1 (by decide) fl_X3_64 (v := .int (nI n)) (congrArg (fun x => some (Value.int x)) (sc)) 14 rfl ?_
      refine fo_ncmp_ge C (by omega) (by omega) dX3_backtest_14 33 (by decide) 17 rfl (fun c7 => ?_) (fun c7 => ?_)
      · have e9 : fp_es kd par v d = fp_es kd par v n := by rcases Nat.lt_or_ge n d with q | q; (rw [fp_es_0 (by omega), fp_es_0 (by omega)]); (rw [show d = n by omega])
        refine fo_dload_n C dX3_backtest_33 1 rfl rfl 34 rfl ?_
        exact fin dX3_backtest_34 (⟨e9, rfl, rfl, rfl⟩)
      · refine fo_dload_n C dX3_backtest_17 1 rfl rfl 18 rfl ?_
        refine fo_aload_n C dX3_backtest_18 2 rfl rfl 19 rfl ?_
        refine fo_aload_n C dX3_backtest_19 3 rfl rfl 20 rfl ?_
        refine fo_iload C dX3_backtest_20 0 rfl 22 rfl ?_
        refine fo_qvd C dX3_backtest_22 (mX3_errorOn (d := d) (by omega) (by omega) hs hp) lv_X3_67 hk rfl (by decide) rfl ⟨Nat.le_of_ble_eq_true rfl, Nat.le_of_ble_eq_true rfl⟩ ⟨Nat.le_of_ble_eq_true rfl, Nat.le_of_ble_eq_true rfl⟩ [.double (fp_es kd par v d)] rfl (Nat.le_of_ble_eq_true rfl) 25 rfl (fo_es (fun X12 => ?_))
        refine fo_dadd C dX3_backtest_25 (fd_ok (K := 1302 + 2 * d + 2) (fd_add (K := 1302 + 2 * d) (fd_es hok v d (by omega)) (fd_up (fd_err hok v (by omega)) (by omega)) (by omega)) (by omega)) 26 rfl ?_
        refine fo_td (b := fp_es kd par v (d + 1)) (by rw [fp_es, if_pos hd]) ?_
        refine fo_dstore_n C dX3_backtest_26 rfl [(2, .double (fp_es kd par v (d + 1))), (4, .int (nI d)), (0, .ref (Λ.2.2.1 p)), (1, .ref (Λ.2.2.1 s))] rfl (by decide) 27 rfl ?_
        refine fo_iinc C dX3_backtest_27 1 rfl (nI (d + 1)) (nI_inc1 _) [(4, .int (nI (d + 1))), (2, .double (fp_es kd par v (d + 1))), (0, .ref (Λ.2.2.1 p)), (1, .ref (Λ.2.2.1 s))] rfl (by decide) 30 rfl ?_
        refine fo_goto C dX3_backtest_30 8 (by decide) ?_
        exact ih8 (d + 1) (X12) (by omega) (by omega) (by omega)
  rw [← fp_es_0 (kd := kd) (par := par) (v := v) (Nat.le_refl _)]
  exact hL8 (n + 1 + 1) (fp_need kd par) (X) (by omega) (Nat.le_refl _) (Or.inr rfl)
set_option maxRecDepth 10000 in
set_option maxHeartbeats 4000000 in
theorem mX3_countAllErrors {l : Launch} {Λ : fo_Lt} {I : fo_Mi} {D : fo_Md} {J : fo_Mj} {X : fo_Mi} {p : Nat} {f : Nat → Nat} (hk : fo_k p = 5) (hf : ∀ k, k < 4 → I (p + 1) k = nI (f k)) (hfb : ∀ k, k < 4 → f k ≤ 1000) : fk_i l yX3_countAllErrors cX3_countAllErrors 3 .int 0 0 Λ [.ref (Λ.2.2.1 p)] I D J X (fo_pr (nI (fp_sum f 0 4)) I D J X) := by
  refine fo_si (by decide) [(0, .ref (Λ.2.2.1 p))] rfl (Nat.le_of_ble_eq_true rfl) (fun K C fin => ?_)
  refine fo_iconst C dX3_countAllErrors_0 (nI 0) ki_0 1 rfl ?_
  refine fo_istore_n C dX3_countAllErrors_1 rfl [(1, .int (nI 0)), (0, .ref (Λ.2.2.1 p))] rfl (by decide) 2 rfl ?_
  refine fo_iconst C dX3_countAllErrors_2 (nI 0) ki_0 3 rfl ?_
  refine fo_istore_n C dX3_countAllErrors_3 rfl [(2, .int (nI 0)), (1, .int (nI 0)), (0, .ref (Λ.2.2.1 p))] rfl (by decide) 4 rfl ?_
  have hL4 : ∀ (m4 : Nat) (i : Nat), 5 - i < m4 → i ≤ 4 → fo_G l Λ { frames := 0, cells := 0, slots := 0, locals := 0 } K 0 0 4 [(2, .int (nI i)), (1, .int (nI (fp_sum f 0 i))), (0, .ref (Λ.2.2.1 p))] [] I D J X := by
    intro m4
    induction m4 with
    | zero => intro i hm; exact absurd hm (Nat.not_lt_zero _)
    | succ m4 ih4 =>
      intro i hm4 hi
      have qa := fp_sum_le (v := f) (a := 0) (c := 1000) (n := i) (fun k hk => hfb _ (by omega))
      refine fo_iload_n C dX3_countAllErrors_4 0 rfl rfl 5 rfl ?_
      refine fo_iconst C dX3_countAllErrors_5 (nI 4) ki_4 6 rfl ?_
      refine fo_ncmp_ge C (by omega) (by omega) dX3_countAllErrors_6 24 (by decide) 9 rfl (fun c1 => ?_) (fun c1 => ?_)
      · refine fo_iload_n C dX3_countAllErrors_24 1 rfl rfl 25 rfl ?_
        exact fin dX3_countAllErrors_25 rfl (⟨by rw [show i = 4 by omega], rfl, rfl, rfl, rfl⟩)
      · refine fo_iload_n C dX3_countAllErrors_9 1 rfl rfl 10 rfl ?_
        refine fo_aload_n C dX3_countAllErrors_10 2 rfl rfl 11 rfl ?_
        refine fo_get C dX3_countAllErrors_11 fK5 hk (by decide) 2 (by decide) fl_X3_9 (v := .ref (Λ.2.2.1 (p + 1))) rfl 14 rfl ?_
        refine fo_iload_n C dX3_countAllErrors_14 0 rfl rfl 15 rfl ?_
        have q9 := hfb i (by omega)
        refine fo_iald C dX3_countAllErrors_15 (fo_P1k hk) (by rw [fo_P1n hk]; omega) (nI (f i)) (hf i (by omega)) 16 rfl ?_
        refine fo_iadd C dX3_countAllErrors_16 (nI ((fp_sum f 0 i) + (f i))) (nI_add _ _) 17 rfl ?_
        refine fo_ti (b := nI (fp_sum f 0 (i + 1))) (congrArg nI (by rw [fp_sum, Nat.zero_add])) ?_
        refine fo_istore_n C dX3_countAllErrors_17 rfl [(1, .int (nI (fp_sum f 0 (i + 1)))), (2, .int (nI i)), (0, .ref (Λ.2.2.1 p))] rfl (by decide) 18 rfl ?_
        refine fo_iinc C dX3_countAllErrors_18 1 rfl (nI (i + 1)) (nI_inc1 _) [(2, .int (nI (i + 1))), (1, .int (nI (fp_sum f 0 (i + 1)))), (0, .ref (Λ.2.2.1 p))] rfl (by decide) 21 rfl ?_
        refine fo_goto C dX3_countAllErrors_21 4 (by decide) ?_
        exact ih4 (i + 1) (by omega) (by omega)
  exact hL4 (5 + 1) 0 (by omega) (by omega)
set_option maxRecDepth 10000 in
set_option maxHeartbeats 4000000 in
theorem mX3_sumAllPoints {l : Launch} {Λ : fo_Lt} {I : fo_Mi} {D : fo_Md} {J : fo_Mj} {X : fo_Mi} {p : Nat} {f : Nat → Nat} (hk : fo_k p = 5) (hf : ∀ k, k < 4 → I (p + 3) k = nI (f k)) (hfb : ∀ k, k < 4 → f k ≤ 1000) : fk_i l yX3_sumAllPoints cX3_sumAllPoints 3 .int 0 0 Λ [.ref (Λ.2.2.1 p)] I D J X (fo_pr (nI (fp_sum f 0 4)) I D J X) := by
  refine fo_si (by decide) [(0, .ref (Λ.2.2.1 p))] rfl (Nat.le_of_ble_eq_true rfl) (fun K C fin => ?_)
  refine fo_iconst C dX3_sumAllPoints_0 (nI 0) ki_0 1 rfl ?_
  refine fo_istore_n C dX3_sumAllPoints_1 rfl [(1, .int (nI 0)), (0, .ref (Λ.2.2.1 p))] rfl (by decide) 2 rfl ?_
  refine fo_iconst C dX3_sumAllPoints_2 (nI 0) ki_0 3 rfl ?_
  refine fo_istore_n C dX3_sumAllPoints_3 rfl [(2, .int (nI 0)), (1, .int (nI 0)), (0, .ref (Λ.2.2.1 p))] rfl (by decide) 4 rfl ?_
  have hL4 : ∀ (m4 : Nat) (i : Nat), 5 - i < m4 → i ≤ 4 → fo_G l Λ { frames := 0, cells := 0, slots := 0, locals := 0 } K 0 0 4 [(2, .int (nI i)), (1, .int (nI (fp_sum f 0 i))), (0, .ref (Λ.2.2.1 p))] [] I D J X := by
    intro m4
    induction m4 with
    | zero => intro i hm; exact absurd hm (Nat.not_lt_zero _)
    | succ m4 ih4 =>
      intro i hm4 hi
      have qa := fp_sum_le (v := f) (a := 0) (c := 1000) (n := i) (fun k hk => hfb _ (by omega))
      refine fo_iload_n C dX3_sumAllPoints_4 0 rfl rfl 5 rfl ?_
      refine fo_iconst C dX3_sumAllPoints_5 (nI 4) ki_4 6 rfl ?_
      refine fo_ncmp_ge C (by omega) (by omega) dX3_sumAllPoints_6 24 (by decide) 9 rfl (fun c1 => ?_) (fun c1 => ?_)
      · refine fo_iload_n C dX3_sumAllPoints_24 1 rfl rfl 25 rfl ?_
        exact fin dX3_sumAllPoints_25 rfl (⟨by rw [show i = 4 by omega], rfl, rfl, rfl, rfl⟩)
      · refine fo_iload_n C dX3_sumAllPoints_9 1 rfl rfl 10 rfl ?_
        refine fo_aload_n C dX3_sumAllPoints_10 2 rfl rfl 11 rfl ?_
        refine fo_get C dX3_sumAllPoints_11 fK5 hk (by decide) 4 (by decide) fl_X3_19 (v := .ref (Λ.2.2.1 (p + 3))) rfl 14 rfl ?_
        refine fo_iload_n C dX3_sumAllPoints_14 0 rfl rfl 15 rfl ?_
        have q9 := hfb i (by omega)
        refine fo_iald C dX3_sumAllPoints_15 (fo_P3k hk) (by rw [fo_P3n hk]; omega) (nI (f i)) (hf i (by omega)) 16 rfl ?_
        refine fo_iadd C dX3_sumAllPoints_16 (nI ((fp_sum f 0 i) + (f i))) (nI_add _ _) 17 rfl ?_
        refine fo_ti (b := nI (fp_sum f 0 (i + 1))) (congrArg nI (by rw [fp_sum, Nat.zero_add])) ?_
        refine fo_istore_n C dX3_sumAllPoints_17 rfl [(1, .int (nI (fp_sum f 0 (i + 1)))), (2, .int (nI i)), (0, .ref (Λ.2.2.1 p))] rfl (by decide) 18 rfl ?_
        refine fo_iinc C dX3_sumAllPoints_18 1 rfl (nI (i + 1)) (nI_inc1 _) [(2, .int (nI (i + 1))), (1, .int (nI (fp_sum f 0 (i + 1)))), (0, .ref (Λ.2.2.1 p))] rfl (by decide) 21 rfl ?_
        refine fo_goto C dX3_sumAllPoints_21 4 (by decide) ?_
        exact ih4 (i + 1) (by omega) (by omega)
  exact hL4 (5 + 1) 0 (by omega) (by omega)
set_option maxRecDepth 10000 in
set_option maxHeartbeats 4000000 in
theorem mX3_sumAllErrors {l : Launch} {Λ : fo_Lt} {I : fo_Mi} {D : fo_Md} {J : fo_Mj} {X : fo_Mi} {p : Nat} (hk : fo_k p = 5) (hm : ∀ k, k < 4 → fd_m (D (p + 2) k) 1400) : fk_d l yX3_sumAllErrors cX3_sumAllErrors 4 0 0 Λ [.ref (Λ.2.2.1 p)] I D J X (fo_pr (fp_ds (D (p + 2)) 4) I D J X) := by
  refine fo_sd (by decide) [(0, .ref (Λ.2.2.1 p))] rfl (Nat.le_of_ble_eq_true rfl) (fun K C fin => ?_)
  refine fo_dconst0 C dX3_sumAllErrors_0 1 rfl ?_
  refine fo_dstore_n C dX3_sumAllErrors_1 rfl [(1, .double (FP.dconst0)), (0, .ref (Λ.2.2.1 p))] rfl (by decide) 2 rfl ?_
  refine fo_iconst C dX3_sumAllErrors_2 (nI 0) ki_0 3 rfl ?_
  refine fo_istore_n C dX3_sumAllErrors_3 rfl [(3, .int (nI 0)), (1, .double (FP.dconst0)), (0, .ref (Λ.2.2.1 p))] rfl (by decide) 4 rfl ?_
  have hL4 : ∀ (m4 : Nat) (i : Nat), 5 - i < m4 → i ≤ 4 → fo_G l Λ { frames := 0, cells := 0, slots := 0, locals := 0 } K 0 0 4 [(3, .int (nI i)), (1, .double (fp_ds (D (p + 2)) i)), (0, .ref (Λ.2.2.1 p))] [] I D J X := by
    intro m4
    induction m4 with
    | zero => intro i hm; exact absurd hm (Nat.not_lt_zero _)
    | succ m4 ih4 =>
      intro i hm4 hi
      refine fo_iload_n C dX3_sumAllErrors_4 0 rfl rfl 5 rfl ?_
      refine fo_iconst C dX3_sumAllErrors_5 (nI 4) ki_4 6 rfl ?_
      refine fo_ncmp_ge C (by omega) (by omega) dX3_sumAllErrors_6 24 (by decide) 9 rfl (fun c1 => ?_) (fun c1 => ?_)
      · refine fo_dload_n C dX3_sumAllErrors_24 1 rfl rfl 25 rfl ?_
        exact fin dX3_sumAllErrors_25 (⟨by rw [show i = 4 by omega], rfl, rfl, rfl, rfl⟩)
      · refine fo_dload_n C dX3_sumAllErrors_9 1 rfl rfl 10 rfl ?_
        refine fo_aload_n C dX3_sumAllErrors_10 2 rfl rfl 11 rfl ?_
        refine fo_get C dX3_sumAllErrors_11 fK5 hk (by decide) 3 (by decide) fl_X3_15 (v := .ref (Λ.2.2.1 (p + 2))) rfl 14 rfl ?_
        refine fo_iload_n C dX3_sumAllErrors_14 0 rfl rfl 15 rfl ?_
        refine fo_dald C dX3_sumAllErrors_15 (fo_P2k hk) (by rw [fo_P2n hk]; omega) (D (p + 2) (i)) rfl 16 rfl ?_
        refine fo_dadd C dX3_sumAllErrors_16 (fd_ok (K := 1400 + 2 * i + 2) (fd_add (K := 1400 + 2 * i) (fd_ds i (by omega) (fun j hj => hm j (by omega)) (by decide)) (fd_up (hm i (by omega)) (by omega)) (by omega)) (by omega)) 17 rfl ?_
        refine fo_dstore_n C dX3_sumAllErrors_17 rfl [(1, .double (FP.dadd (fp_ds (D (p + 2)) i) (D (p + 2) (i)))), (3, .int (nI i)), (0, .ref (Λ.2.2.1 p))] rfl (by decide) 18 rfl ?_
        refine fo_iinc C dX3_sumAllErrors_18 1 rfl (nI (i + 1)) (nI_inc1 _) [(3, .int (nI (i + 1))), (1, .double (FP.dadd (fp_ds (D (p + 2)) i) (D (p + 2) (i)))), (0, .ref (Λ.2.2.1 p))] rfl (by decide) 21 rfl ?_
        refine fo_goto C dX3_sumAllErrors_21 4 (by decide) ?_
        exact ih4 (i + 1) (by omega) (by omega)
  exact hL4 (5 + 1) 0 (by omega) (by omega)
set_option maxRecDepth 10000 in
set_option maxHeartbeats 4000000 in
theorem mX3_copyFrom {l : Launch} {Λ : fo_Lt} {I : fo_Mi} {D : fo_Md} {J : fo_Mj} {X : fo_Mi} {p o : Nat} (hk : fo_k p = 5) (ok : fo_k o = 5) (hne : o + 4 ≤ p ∨ p + 4 ≤ o) (hch : ∃ c, c < 65536 ∧ I o 0 = nI c) : fk_v l yX3_copyFrom cX3_copyFrom 2 1 80 Λ [.ref (Λ.2.2.1 p), .ref (Λ.2.2.1 o)] I D J X ((fun I' D' J' X' => (∀ b, b ≠ p → b ≠ p + 1 → b ≠ p + 3 → I' b = I b) ∧ (∀ b, b ≠ p + 2 → D' b = D b) ∧ I' p 0 = I o 0 ∧ I' p 1 = I o 1 ∧ (∀ k, k < 4 → I' (p + 1) k = I (o + 1) k ∧ D' (p + 2) k = D (o + 2) k ∧ I' (p + 3) k = I (o + 3) k) ∧ J' = J ∧ X' = X)) := by
  obtain ⟨ch, hch1, hch2⟩ := hch
  refine fo_sv (by decide) [(0, .ref (Λ.2.2.1 p)), (1, .ref (Λ.2.2.1 o))] rfl (Nat.le_of_ble_eq_true rfl) (fun K C fin => ?_)
  refine fo_aload_n C dX3_copyFrom_0 0 rfl rfl 1 rfl ?_
  refine fo_aload_n C dX3_copyFrom_1 1 rfl rfl 2 rfl ?_
  refine fo_get C dX3_copyFrom_2 fK5 ok (by decide) 0 (by decide) fl_X3_22 (v := .int (I o 0)) (congrArg (fun x => some (Value.int x)) (rfl)) 5 rfl ?_
  refine fo_put C dX3_copyFrom_5 fK5 hk (by decide) 0 (by decide) fl_X3_22 rfl (by rw [hch2]; exact (pk_charN hch1).1) (by rw [hch2]; exact (pk_charN hch1).2) rfl (Nat.le_of_ble_eq_true rfl) 8 rfl ?_
  refine fo_aload_n C dX3_copyFrom_8 0 rfl rfl 9 rfl ?_
  refine fo_aload_n C dX3_copyFrom_9 1 rfl rfl 10 rfl ?_
  refine fo_get C dX3_copyFrom_10 fK5 ok (by decide) 1 (by decide) fl_X3_26 (v := .int (I o 1)) (congrArg (fun x => some (Value.int x)) ((by rw [fo_rn _ _ (by omega)]))) 13 rfl ?_
  refine fo_put C dX3_copyFrom_13 fK5 hk (by decide) 1 (by decide) fl_X3_26 rfl rfl rfl rfl (Nat.le_of_ble_eq_true rfl) 16 rfl ?_
  refine fo_aload_n C dX3_copyFrom_16 1 rfl rfl 17 rfl ?_
  refine fo_get C dX3_copyFrom_17 fK5 ok (by decide) 2 (by decide) fl_X3_9 (v := .ref (Λ.2.2.1 (o + 1))) rfl 20 rfl ?_
  refine fo_iconst C dX3_copyFrom_20 (nI 0) ki_0 21 rfl ?_
  refine fo_aload_n C dX3_copyFrom_21 0 rfl rfl 22 rfl ?_
  refine fo_get C dX3_copyFrom_22 fK5 hk (by decide) 2 (by decide) fl_X3_9 (v := .ref (Λ.2.2.1 (p + 1))) rfl 25 rfl ?_
  refine fo_iconst C dX3_copyFrom_25 (nI 0) ki_0 26 rfl ?_
  refine fo_iconst C dX3_copyFrom_26 (nI 4) ki_4 27 rfl ?_
  refine fo_copi C dX3_copyFrom_27 la_X3_30 (fo_P1k ok) (fo_P1k hk) (by rw [fo_P1n ok]; omega) (by rw [fo_P1n hk]; omega) ⟨Nat.le_of_ble_eq_true rfl, Nat.le_of_ble_eq_true rfl⟩ 30 rfl ?_
  refine fo_aload_n C dX3_copyFrom_30 1 rfl rfl 31 rfl ?_
  refine fo_get C dX3_copyFrom_31 fK5 ok (by decide) 3 (by decide) fl_X3_15 (v := .ref (Λ.2.2.1 (o + 2))) rfl 34 rfl ?_
  refine fo_iconst C dX3_copyFrom_34 (nI 0) ki_0 35 rfl ?_
  refine fo_aload_n C dX3_copyFrom_35 0 rfl rfl 36 rfl ?_
  refine fo_get C dX3_copyFrom_36 fK5 hk (by decide) 3 (by decide) fl_X3_15 (v := .ref (Λ.2.2.1 (p + 2))) rfl 39 rfl ?_
  refine fo_iconst C dX3_copyFrom_39 (nI 0) ki_0 40 rfl ?_
  refine fo_iconst C dX3_copyFrom_40 (nI 4) ki_4 41 rfl ?_
  refine fo_copd C dX3_copyFrom_41 la_X3_30 (fo_P2k ok) (fo_P2k hk) (by rw [fo_P2n ok]; omega) (by rw [fo_P2n hk]; omega) ⟨Nat.le_of_ble_eq_true rfl, Nat.le_of_ble_eq_true rfl⟩ 44 rfl ?_
  refine fo_aload_n C dX3_copyFrom_44 1 rfl rfl 45 rfl ?_
  refine fo_get C dX3_copyFrom_45 fK5 ok (by decide) 4 (by decide) fl_X3_19 (v := .ref (Λ.2.2.1 (o + 3))) rfl 48 rfl ?_
  refine fo_iconst C dX3_copyFrom_48 (nI 0) ki_0 49 rfl ?_
  refine fo_aload_n C dX3_copyFrom_49 0 rfl rfl 50 rfl ?_
  refine fo_get C dX3_copyFrom_50 fK5 hk (by decide) 4 (by decide) fl_X3_19 (v := .ref (Λ.2.2.1 (p + 3))) rfl 53 rfl ?_
  refine fo_iconst C dX3_copyFrom_53 (nI 0) ki_0 54 rfl ?_
  refine fo_iconst C dX3_copyFrom_54 (nI 4) ki_4 55 rfl ?_
  refine fo_copi C dX3_copyFrom_55 la_X3_30 (fo_P3k ok) (fo_P3k hk) (by rw [fo_P3n ok]; omega) (by rw [fo_P3n hk]; omega) ⟨Nat.le_of_ble_eq_true rfl, Nat.le_of_ble_eq_true rfl⟩ 58 rfl ?_
  have r0 : ∀ (f g : Nat → Int32) (k : Nat), k < 4 → va_cpy f g 0 0 4 k = f k := fun f g k h => by rw [pk_cpy_in (by omega) (by omega)]; rw [Nat.zero_add, Nat.sub_zero]
  have r1 : ∀ (f g : Nat → UInt64) (k : Nat), k < 4 → va_cpy f g 0 0 4 k = f k := fun f g k h => by rw [pk_cpy_in (by omega) (by omega)]; rw [Nat.zero_add, Nat.sub_zero]
  refine fin dX3_copyFrom_58 ⟨fun b c1 c2 c3 => by rw [fo_rn _ _ c3, fo_rn _ _ c2, fo_rn _ _ c1, fo_rn _ _ c1], fun b c1 => by rw [fo_rn _ _ c1], ?_, ?_, fun k h => ⟨?_, ?_, ?_⟩, rfl, rfl⟩
  · rw [fo_rn _ _ (by omega), fo_rn _ _ (by omega), fo_rs, pk_un (by decide), fo_rs, pk_us]
  · rw [fo_rn _ _ (by omega), fo_rn _ _ (by omega), fo_rs, pk_us]
  · rw [fo_rn _ _ (by omega), fo_rs, r0 _ _ k h, fo_rn _ _ (by omega), fo_rn _ _ (by omega)]
  · rw [fo_rs, r1 _ _ k h]
  · rw [fo_rs, r0 _ _ k h, fo_rn _ _ (by omega), fo_rn _ _ (by omega), fo_rn _ _ (by omega)]
