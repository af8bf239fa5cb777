
/-! CONSTRUCTORS: series, prophets, program, line, model -/
abbrev gI (Δ : gn_D) (n : Nat) : va_E := .inl (Δ.2 2, n, .inl (fun _ => 0))
abbrev gF (Δ : gn_D) (n : Nat) : va_E := .inl (Δ.2 1, n, .inr (.inr (.inr (.inl (fun _ => 0)))))
abbrev gH (Δ : gn_D) (n : Nat) : va_E := .inl (Δ.2 0, n, .inl (fun _ => 0))
abbrev gQ (Δ : gn_D) (i n : Nat) (f : Nat → Option Nat) : va_E := .inl (Δ.2 i, n, .inr (.inr (.inr (.inr f))))
def gS (Δ : gn_D) (a : Nat → Nat) : va_W := [(a 0, .inr (6, [.ref (a 1), .int 0, .ref (a 2), .ref (a 3), .ref (a 4)])), (a 1, gI Δ 30), (a 2, gI Δ 30), (a 3, gI Δ 5), (a 4, gI Δ 31)]
def gP (Δ : gn_D) (a : Nat → Nat) : va_W := [(a 0, .inr (5, [.int 0, .int 0, .ref (a 1), .ref (a 2), .ref (a 3)])), (a 1, gI Δ 4), (a 2, gF Δ 4), (a 3, gI Δ 4)]
def gG (Δ : gn_D) (a : Nat → Nat) : va_W := [(a 0, .inr (4, [.ref (a 1), .int 0, .int 0, .int 0, .ref (a 2), .ref (a 3), .ref (a 4), .ref (a 5), .int 0])), (a 1, gH Δ 60), (a 2, gH Δ 60), (a 3, gI Δ 60), (a 4, gI Δ 60), (a 5, gI Δ 60)]
def gL (Δ : gn_D) (a : Nat → Nat) : va_W := [(a 0, .inr (2, [.ref (a 1), .int 0])), (a 1, gH Δ 152)]
section GNA
variable {l : Launch} {Δ : gn_D} {A : Nat → Prop} {R : Room} {K : fo_K} {cc : ByteArray} {own : String} {nL cs ss pc : Nat} {lv : List (Nat × Value)} {st : List Value} {ws : va_W}
theorem gn_iast (C : gn_C Δ A K cc own nL) {a n i : Nat} {f : Nat → Int32} {v : Int32} (d : decode cc pc = .ok (.iastore, 1)) (q0 : Nat) (ha : ws[q0]? = some (a, .inl (Δ.2 2, n, .inl f))) (hi : i < n) (hn2 : n < 2000) (ws' : va_W) (hw : ws.set q0 (a, .inl (Δ.2 2, n, .inl (upd f i v))) = ws') (n' : Nat) (hn : pc + 1 = n') (k : gn_G l Δ A R K cs ss n' lv st ws') : gn_G l Δ A R K cs ss pc lv (.int v :: .int (nI i) :: .ref a :: st) ws := by
  intro H locs ls hP hD hS hl9
  subst hn
  subst hw
  refine va_iast C.1 C.2.1 C.vk hP hD hS q0 2 ha rfl (vp_in_nI hi (by omega)) d (fun H1 locs1 hP1 hD1 hS1 => ?_)
  rw [nI_clamp (by omega)] at hP1 hD1
  exact k H1 locs1 ls hP1 hD1 hS1 hl9
end GNA

theorem gw_oi : Cond.instanceMethod Lib.objectInit ∈ fo_W0 := fo_in 104 (by decide +kernel) (by decide +kernel)
theorem gw_oc : Cond.code Lib.objectInit ⟨#[0xb1]⟩ 1 none ∈ fo_W0 := fo_in 105 (by decide +kernel) (by decide +kernel)
theorem gw_a_int : Cond.arrayClass (newarray.typeOf .int) ∈ fo_W0 := fo_in 142 (by decide +kernel) (by decide +kernel)
theorem gw_a_double : Cond.arrayClass (newarray.typeOf .double) ∈ fo_W0 := fo_in 174 (by decide +kernel) (by decide +kernel)
theorem gw_a_char : Cond.arrayClass (newarray.typeOf .char) ∈ fo_W0 := fo_in 254 (by decide +kernel) (by decide +kernel)
theorem gw_a_long : Cond.arrayClass (newarray.typeOf .long) ∈ fo_W0 := fo_in 1620 (by decide +kernel) (by decide +kernel)
theorem gw_ol_X0 : Cond.methodLink RX0 3 Lib.objectInit ∈ fo_W0 := fo_in 260 (by decide +kernel) (by decide +kernel)
theorem gw_is_X0 : Cond.instantiable RX0 2 ∈ fo_W0 := fo_in 256 (by decide +kernel) (by decide +kernel)
theorem gw_im_X0 : Cond.instanceMethod yX0_init ∈ fo_W0 := fo_in 258 (by decide +kernel) (by decide +kernel)
theorem gw_co_X0 : Cond.code yX0_init cX0_init 1 none ∈ fo_W0 := fo_in 259 (by decide +kernel) (by decide +kernel)
theorem gl_X6_35 : gn_ln RX6 35 yX0_init cX0_init 1 := ⟨fi_X0, by decide +kernel, gw_im_X0, gw_co_X0, rfl, by decide +kernel⟩
theorem gw_cl_X6_33 : Cond.classLink RX6 33 RX0 ∈ fo_W0 := fo_in 255 (by decide +kernel) (by decide +kernel)
theorem gw_ol_X1 : Cond.methodLink RX1 3 Lib.objectInit ∈ fo_W0 := fo_in 197 (by decide +kernel) (by decide +kernel)
theorem gw_is_X1 : Cond.instantiable RX1 3 ∈ fo_W0 := fo_in 193 (by decide +kernel) (by decide +kernel)
theorem gw_im_X1 : Cond.instanceMethod yX1_init ∈ fo_W0 := fo_in 195 (by decide +kernel) (by decide +kernel)
theorem gw_co_X1 : Cond.code yX1_init cX1_init 2 none ∈ fo_W0 := fo_in 196 (by decide +kernel) (by decide +kernel)
theorem gw_l_X6_21 : Cond.methodLink RX6 21 yX1_init ∈ fo_W0 := fo_in 194 (by decide +kernel) (by decide +kernel)
theorem gl_X6_21 : gn_li RX6 21 yX1_init cX1_init 2 := ⟨fi_X1, gw_l_X6_21, gw_im_X1, gw_co_X1, rfl, by decide +kernel⟩
theorem gw_cl_X6_19 : Cond.classLink RX6 19 RX1 ∈ fo_W0 := fo_in 192 (by decide +kernel) (by decide +kernel)
theorem gw_ol_X2 : Cond.methodLink RX2 3 Lib.objectInit ∈ fo_W0 := fo_in 217 (by decide +kernel) (by decide +kernel)
theorem gw_is_X2 : Cond.instantiable RX2 9 ∈ fo_W0 := fo_in 213 (by decide +kernel) (by decide +kernel)
theorem gw_im_X2 : Cond.instanceMethod yX2_init ∈ fo_W0 := fo_in 215 (by decide +kernel) (by decide +kernel)
theorem gw_co_X2 : Cond.code yX2_init cX2_init 1 none ∈ fo_W0 := fo_in 216 (by decide +kernel) (by decide +kernel)
theorem gl_X6_28 : gn_ln RX6 28 yX2_init cX2_init 1 := ⟨fi_X2, by decide +kernel, gw_im_X2, gw_co_X2, rfl, by decide +kernel⟩
theorem gw_cl_X6_26 : Cond.classLink RX6 26 RX2 ∈ fo_W0 := fo_in 212 (by decide +kernel) (by decide +kernel)
theorem gw_ol_X3 : Cond.methodLink RX3 3 Lib.objectInit ∈ fo_W0 := fo_in 147 (by decide +kernel) (by decide +kernel)
theorem gw_is_X3 : Cond.instantiable RX3 5 ∈ fo_W0 := fo_in 143 (by decide +kernel) (by decide +kernel)
theorem gw_im_X3 : Cond.instanceMethod yX3_init ∈ fo_W0 := fo_in 145 (by decide +kernel) (by decide +kernel)
theorem gw_co_X3 : Cond.code yX3_init cX3_init 1 none ∈ fo_W0 := fo_in 146 (by decide +kernel) (by decide +kernel)
theorem gl_X5_28 : gn_ln RX5 28 yX3_init cX3_init 1 := ⟨fi_X3, by decide +kernel, gw_im_X3, gw_co_X3, rfl, by decide +kernel⟩
theorem gw_cl_X5_17 : Cond.classLink RX5 17 RX3 ∈ fo_W0 := fo_in 114 (by decide +kernel) (by decide +kernel)
theorem gw_ol_X4 : Cond.methodLink RX4 3 Lib.objectInit ∈ fo_W0 := fo_in 120 (by decide +kernel) (by decide +kernel)
theorem gw_is_X4 : Cond.instantiable RX4 5 ∈ fo_W0 := fo_in 116 (by decide +kernel) (by decide +kernel)
theorem gw_im_X4 : Cond.instanceMethod yX4_init ∈ fo_W0 := fo_in 118 (by decide +kernel) (by decide +kernel)
theorem gw_co_X4 : Cond.code yX4_init cX4_init 1 none ∈ fo_W0 := fo_in 119 (by decide +kernel) (by decide +kernel)
theorem gl_X5_27 : gn_ln RX5 27 yX4_init cX4_init 1 := ⟨fi_X4, by decide +kernel, gw_im_X4, gw_co_X4, rfl, by decide +kernel⟩
theorem gw_cl_X5_9 : Cond.classLink RX5 9 RX4 ∈ fo_W0 := fo_in 112 (by decide +kernel) (by decide +kernel)
theorem gw_ol_X5 : Cond.methodLink RX5 3 Lib.objectInit ∈ fo_W0 := fo_in 111 (by decide +kernel) (by decide +kernel)
theorem gw_is_X5 : Cond.instantiable RX5 4 ∈ fo_W0 := fo_in 107 (by decide +kernel) (by decide +kernel)
theorem gw_im_X5 : Cond.instanceMethod yX5_init ∈ fo_W0 := fo_in 109 (by decide +kernel) (by decide +kernel)
theorem gw_co_X5 : Cond.code yX5_init cX5_init 2 none ∈ fo_W0 := fo_in 110 (by decide +kernel) (by decide +kernel)
theorem gw_l_X6_11 : Cond.methodLink RX6 11 yX5_init ∈ fo_W0 := fo_in 108 (by decide +kernel) (by decide +kernel)
theorem gl_X6_11 : gn_li RX6 11 yX5_init cX5_init 2 := ⟨fi_X5, gw_l_X6_11, gw_im_X5, gw_co_X5, rfl, by decide +kernel⟩
theorem gw_l_X1_17 : Cond.methodLink RX1 17 yX5_init ∈ fo_W0 := fo_in 200 (by decide +kernel) (by decide +kernel)
theorem gl_X1_17 : gn_li RX1 17 yX5_init cX5_init 2 := ⟨fi_X5, gw_l_X1_17, gw_im_X5, gw_co_X5, rfl, by decide +kernel⟩
theorem gw_cl_X6_9 : Cond.classLink RX6 9 RX5 ∈ fo_W0 := fo_in 106 (by decide +kernel) (by decide +kernel)
theorem gw_cl_X1_11 : Cond.classLink RX1 11 RX5 ∈ fo_W0 := fo_in 198 (by decide +kernel) (by decide +kernel)
theorem gw_ol_X6 : Cond.methodLink RX6 3 Lib.objectInit ∈ fo_W0 := fo_in 103 (by decide +kernel) (by decide +kernel)
theorem gw_is_X6 : Cond.instantiable RX6 8 ∈ fo_W0 := fo_in 99 (by decide +kernel) (by decide +kernel)
theorem gw_im_X6 : Cond.instanceMethod yX6_init ∈ fo_W0 := fo_in 101 (by decide +kernel) (by decide +kernel)
theorem gw_co_X6 : Cond.code yX6_init cX6_init 1 none ∈ fo_W0 := fo_in 102 (by decide +kernel) (by decide +kernel)
theorem gw_l_L_144 : Cond.methodLink RL 144 yX6_init ∈ fo_W0 := fo_in 100 (by decide +kernel) (by decide +kernel)
theorem gl_L_144 : gn_li RL 144 yX6_init cX6_init 1 := ⟨fi_X6, gw_l_L_144, gw_im_X6, gw_co_X6, rfl, by decide +kernel⟩
theorem gw_cl_L_8 : Cond.classLink RL 8 RX6 ∈ fo_W0 := fo_in 98 (by decide +kernel) (by decide +kernel)
theorem gw_ol_X7 : Cond.methodLink RX7 1 Lib.objectInit ∈ fo_W0 := fo_in 1146 (by decide +kernel) (by decide +kernel)
theorem gw_is_X7 : Cond.instantiable RX7 24 ∈ fo_W0 := fo_in 1142 (by decide +kernel) (by decide +kernel)
theorem gw_im_X7 : Cond.instanceMethod yX7_init ∈ fo_W0 := fo_in 1144 (by decide +kernel) (by decide +kernel)
theorem gw_co_X7 : Cond.code yX7_init cX7_init 1 none ∈ fo_W0 := fo_in 1145 (by decide +kernel) (by decide +kernel)
theorem gw_l_L_147 : Cond.methodLink RL 147 yX7_init ∈ fo_W0 := fo_in 1143 (by decide +kernel) (by decide +kernel)
theorem gl_L_147 : gn_li RL 147 yX7_init cX7_init 1 := ⟨fi_X7, gw_l_L_147, gw_im_X7, gw_co_X7, rfl, by decide +kernel⟩
theorem gw_cl_L_145 : Cond.classLink RL 145 RX7 ∈ fo_W0 := fo_in 1141 (by decide +kernel) (by decide +kernel)
set_option maxRecDepth 10000 in
set_option maxHeartbeats 4000000 in
theorem mX4_init {l : Launch} {Δ : gn_D} : gk l yX4_init cX4_init 1 1 12 4 96 Δ 6 [.null, .int 0, .null, .null, .null] (fun h0 u => ∃ a : Nat → Nat, a 0 = h0 ∧ u = gS Δ a) := by
  refine gn_sv (by decide) rfl (by decide) (fun h0 A K C hin fin => ?_)
  refine gn_aload_n C dX4_init_0 0 rfl rfl 1 rfl ?_
  refine gn_obj C dX4_init_1 gw_ol_X4 gw_oi gw_oc ⟨(Nat.le_of_ble_eq_true rfl), (Nat.le_of_ble_eq_true rfl)⟩ 4 rfl ?_
  refine gn_aload_n C dX4_init_4 0 rfl rfl 5 rfl ?_
  refine gn_bipush C dX4_init_5 (nI 30) kb_30 7 rfl ?_
  refine gn_newa C (ty := .int) (N := 30) (a0 := (30, .inl (fun _ => 0))) dX4_init_7 rfl gw_a_int 2 rfl (fun _ => rfl) (by decide) (by decide) (Nat.le_of_ble_eq_true rfl) (Nat.le_of_ble_eq_true rfl) 9 rfl (fun q1 => ?_)
  refine gn_putF C hin dX4_init_9 fK6 0 rfl 0 (by decide) fl_X4_9 rfl rfl rfl rfl (Nat.le_of_ble_eq_true rfl) ([(h0, .inr (6, [.ref q1, .int 0, .null, .null, .null])), (q1, gI Δ 30)]) rfl 12 rfl ?_
  refine gn_aload_n C dX4_init_12 0 rfl rfl 13 rfl ?_
  refine gn_bipush C dX4_init_13 (nI 30) kb_30 15 rfl ?_
  refine gn_newa C (ty := .int) (N := 30) (a0 := (30, .inl (fun _ => 0))) dX4_init_15 rfl gw_a_int 2 rfl (fun _ => rfl) (by decide) (by decide) (Nat.le_of_ble_eq_true rfl) (Nat.le_of_ble_eq_true rfl) 17 rfl (fun q2 => ?_)
  refine gn_putF C hin dX4_init_17 fK6 0 rfl 2 (by decide) fl_X4_15 rfl rfl rfl rfl (Nat.le_of_ble_eq_true rfl) ([(h0, .inr (6, [.ref q1, .int 0, .ref q2, .null, .null])), (q1, gI Δ 30), (q2, gI Δ 30)]) rfl 20 rfl ?_
  refine gn_aload_n C dX4_init_20 0 rfl rfl 21 rfl ?_
  refine gn_iconst C dX4_init_21 (nI 5) ki_5 22 rfl ?_
  refine gn_newa C (ty := .int) (N := 5) (a0 := (5, .inl (fun _ => 0))) dX4_init_22 rfl gw_a_int 2 rfl (fun _ => rfl) (by decide) (by decide) (Nat.le_of_ble_eq_true rfl) (Nat.le_of_ble_eq_true rfl) 24 rfl (fun q3 => ?_)
  refine gn_putF C hin dX4_init_24 fK6 0 rfl 3 (by decide) fl_X4_18 rfl rfl rfl rfl (Nat.le_of_ble_eq_true rfl) ([(h0, .inr (6, [.ref q1, .int 0, .ref q2, .ref q3, .null])), (q1, gI Δ 30), (q2, gI Δ 30), (q3, gI Δ 5)]) rfl 27 rfl ?_
  refine gn_aload_n C dX4_init_27 0 rfl rfl 28 rfl ?_
  refine gn_bipush C dX4_init_28 (nI 31) kb_31 30 rfl ?_
  refine gn_newa C (ty := .int) (N := 31) (a0 := (31, .inl (fun _ => 0))) dX4_init_30 rfl gw_a_int 2 rfl (fun _ => rfl) (by decide) (by decide) (Nat.le_of_ble_eq_true rfl) (Nat.le_of_ble_eq_true rfl) 32 rfl (fun q4 => ?_)
  refine gn_putF C hin dX4_init_32 fK6 0 rfl 4 (by decide) fl_X4_21 rfl rfl rfl rfl (Nat.le_of_ble_eq_true rfl) ([(h0, .inr (6, [.ref q1, .int 0, .ref q2, .ref q3, .ref q4])), (q1, gI Δ 30), (q2, gI Δ 30), (q3, gI Δ 5), (q4, gI Δ 31)]) rfl 35 rfl ?_
  exact fin dX4_init_35 (⟨fun j => [h0, q1, q2, q3, q4].getD j 0, rfl, rfl⟩) (Nat.le_of_ble_eq_true rfl) (Nat.le_of_ble_eq_true rfl)
set_option maxRecDepth 10000 in
set_option maxHeartbeats 4000000 in
theorem mX3_init {l : Launch} {Δ : gn_D} : gk l yX3_init cX3_init 1 1 12 3 12 Δ 5 [.int 0, .int 0, .null, .null, .null] (fun h0 u => ∃ a : Nat → Nat, a 0 = h0 ∧ u = gP Δ a) := by
  refine gn_sv (by decide) rfl (by decide) (fun h0 A K C hin fin => ?_)
  refine gn_aload_n C dX3_init_0 0 rfl rfl 1 rfl ?_
  refine gn_obj C dX3_init_1 gw_ol_X3 gw_oi gw_oc ⟨(Nat.le_of_ble_eq_true rfl), (Nat.le_of_ble_eq_true rfl)⟩ 4 rfl ?_
  refine gn_aload_n C dX3_init_4 0 rfl rfl 5 rfl ?_
  refine gn_iconst C dX3_init_5 (nI 4) ki_4 6 rfl ?_
  refine gn_newa C (ty := .int) (N := 4) (a0 := (4, .inl (fun _ => 0))) dX3_init_6 rfl gw_a_int 2 rfl (fun _ => rfl) (by decide) (by decide) (Nat.le_of_ble_eq_true rfl) (Nat.le_of_ble_eq_true rfl) 8 rfl (fun q1 => ?_)
  refine gn_putF C hin dX3_init_8 fK5 0 rfl 2 (by decide) fl_X3_9 rfl rfl rfl rfl (Nat.le_of_ble_eq_true rfl) ([(h0, .inr (5, [.int 0, .int 0, .ref q1, .null, .null])), (q1, gI Δ 4)]) rfl 11 rfl ?_
  refine gn_aload_n C dX3_init_11 0 rfl rfl 12 rfl ?_
  refine gn_iconst C dX3_init_12 (nI 4) ki_4 13 rfl ?_
  refine gn_newa C (ty := .double) (N := 4) (a0 := (4, .inr (.inr (.inr (.inl (fun _ => 0)))))) dX3_init_13 rfl gw_a_double 1 rfl (fun _ => rfl) (by decide) (by decide) (Nat.le_of_ble_eq_true rfl) (Nat.le_of_ble_eq_true rfl) 15 rfl (fun q2 => ?_)
  refine gn_putF C hin dX3_init_15 fK5 0 rfl 3 (by decide) fl_X3_15 rfl rfl rfl rfl (Nat.le_of_ble_eq_true rfl) ([(h0, .inr (5, [.int 0, .int 0, .ref q1, .ref q2, .null])), (q1, gI Δ 4), (q2, gF Δ 4)]) rfl 18 rfl ?_
  refine gn_aload_n C dX3_init_18 0 rfl rfl 19 rfl ?_
  refine gn_iconst C dX3_init_19 (nI 4) ki_4 20 rfl ?_
  refine gn_newa C (ty := .int) (N := 4) (a0 := (4, .inl (fun _ => 0))) dX3_init_20 rfl gw_a_int 2 rfl (fun _ => rfl) (by decide) (by decide) (Nat.le_of_ble_eq_true rfl) (Nat.le_of_ble_eq_true rfl) 22 rfl (fun q3 => ?_)
  refine gn_putF C hin dX3_init_22 fK5 0 rfl 4 (by decide) fl_X3_19 rfl rfl rfl rfl (Nat.le_of_ble_eq_true rfl) ([(h0, .inr (5, [.int 0, .int 0, .ref q1, .ref q2, .ref q3])), (q1, gI Δ 4), (q2, gF Δ 4), (q3, gI Δ 4)]) rfl 25 rfl ?_
  exact fin dX3_init_25 (⟨fun j => [h0, q1, q2, q3].getD j 0, rfl, rfl⟩) (Nat.le_of_ble_eq_true rfl) (Nat.le_of_ble_eq_true rfl)
set_option maxRecDepth 10000 in
set_option maxHeartbeats 4000000 in
theorem mX2_init {l : Launch} {Δ : gn_D} : gk l yX2_init cX2_init 1 1 12 5 300 Δ 4 [.null, .int 0, .int 0, .int 0, .null, .null, .null, .null, .int 0] (fun h0 u => ∃ a : Nat → Nat, a 0 = h0 ∧ u = gG Δ a) := by
  refine gn_sv (by decide) rfl (by decide) (fun h0 A K C hin fin => ?_)
  refine gn_aload_n C dX2_init_0 0 rfl rfl 1 rfl ?_
  refine gn_obj C dX2_init_1 gw_ol_X2 gw_oi gw_oc ⟨(Nat.le_of_ble_eq_true rfl), (Nat.le_of_ble_eq_true rfl)⟩ 4 rfl ?_
  refine gn_aload_n C dX2_init_4 0 rfl rfl 5 rfl ?_
  refine gn_bipush C dX2_init_5 (nI 60) kb_60 7 rfl ?_
  refine gn_newa C (ty := .char) (N := 60) (a0 := (60, .inl (fun _ => 0))) dX2_init_7 rfl gw_a_char 0 rfl (fun _ => rfl) (by decide) (by decide) (Nat.le_of_ble_eq_true rfl) (Nat.le_of_ble_eq_true rfl) 9 rfl (fun q1 => ?_)
  refine gn_putF C hin dX2_init_9 fK4 0 rfl 0 (by decide) fl_X2_9 rfl rfl rfl rfl (Nat.le_of_ble_eq_true rfl) ([(h0, .inr (4, [.ref q1, .int 0, .int 0, .int 0, .null, .null, .null, .null, .int 0])), (q1, gH Δ 60)]) rfl 12 rfl ?_
  refine gn_aload_n C dX2_init_12 0 rfl rfl 13 rfl ?_
  refine gn_bipush C dX2_init_13 (nI 60) kb_60 15 rfl ?_
  refine gn_newa C (ty := .char) (N := 60) (a0 := (60, .inl (fun _ => 0))) dX2_init_15 rfl gw_a_char 0 rfl (fun _ => rfl) (by decide) (by decide) (Nat.le_of_ble_eq_true rfl) (Nat.le_of_ble_eq_true rfl) 17 rfl (fun q2 => ?_)
  refine gn_putF C hin dX2_init_17 fK4 0 rfl 4 (by decide) fl_X2_15 rfl rfl rfl rfl (Nat.le_of_ble_eq_true rfl) ([(h0, .inr (4, [.ref q1, .int 0, .int 0, .int 0, .ref q2, .null, .null, .null, .int 0])), (q1, gH Δ 60), (q2, gH Δ 60)]) rfl 20 rfl ?_
  refine gn_aload_n C dX2_init_20 0 rfl rfl 21 rfl ?_
  refine gn_bipush C dX2_init_21 (nI 60) kb_60 23 rfl ?_
  refine gn_newa C (ty := .int) (N := 60) (a0 := (60, .inl (fun _ => 0))) dX2_init_23 rfl gw_a_int 2 rfl (fun _ => rfl) (by decide) (by decide) (Nat.le_of_ble_eq_true rfl) (Nat.le_of_ble_eq_true rfl) 25 rfl (fun q3 => ?_)
  refine gn_putF C hin dX2_init_25 fK4 0 rfl 5 (by decide) fl_X2_18 rfl rfl rfl rfl (Nat.le_of_ble_eq_true rfl) ([(h0, .inr (4, [.ref q1, .int 0, .int 0, .int 0, .ref q2, .ref q3, .null, .null, .int 0])), (q1, gH Δ 60), (q2, gH Δ 60), (q3, gI Δ 60)]) rfl 28 rfl ?_
  refine gn_aload_n C dX2_init_28 0 rfl rfl 29 rfl ?_
  refine gn_bipush C dX2_init_29 (nI 60) kb_60 31 rfl ?_
  refine gn_newa C (ty := .int) (N := 60) (a0 := (60, .inl (fun _ => 0))) dX2_init_31 rfl gw_a_int 2 rfl (fun _ => rfl) (by decide) (by decide) (Nat.le_of_ble_eq_true rfl) (Nat.le_of_ble_eq_true rfl) 33 rfl (fun q4 => ?_)
  refine gn_putF C hin dX2_init_33 fK4 0 rfl 6 (by decide) fl_X2_22 rfl rfl rfl rfl (Nat.le_of_ble_eq_true rfl) ([(h0, .inr (4, [.ref q1, .int 0, .int 0, .int 0, .ref q2, .ref q3, .ref q4, .null, .int 0])), (q1, gH Δ 60), (q2, gH Δ 60), (q3, gI Δ 60), (q4, gI Δ 60)]) rfl 36 rfl ?_
  refine gn_aload_n C dX2_init_36 0 rfl rfl 37 rfl ?_
  refine gn_bipush C dX2_init_37 (nI 60) kb_60 39 rfl ?_
  refine gn_newa C (ty := .int) (N := 60) (a0 := (60, .inl (fun _ => 0))) dX2_init_39 rfl gw_a_int 2 rfl (fun _ => rfl) (by decide) (by decide) (Nat.le_of_ble_eq_true rfl) (Nat.le_of_ble_eq_true rfl) 41 rfl (fun q5 => ?_)
  refine gn_putF C hin dX2_init_41 fK4 0 rfl 7 (by decide) fl_X2_25 rfl rfl rfl rfl (Nat.le_of_ble_eq_true rfl) ([(h0, .inr (4, [.ref q1, .int 0, .int 0, .int 0, .ref q2, .ref q3, .ref q4, .ref q5, .int 0])), (q1, gH Δ 60), (q2, gH Δ 60), (q3, gI Δ 60), (q4, gI Δ 60), (q5, gI Δ 60)]) rfl 44 rfl ?_
  exact fin dX2_init_44 (⟨fun j => [h0, q1, q2, q3, q4, q5].getD j 0, rfl, rfl⟩) (Nat.le_of_ble_eq_true rfl) (Nat.le_of_ble_eq_true rfl)
set_option maxRecDepth 10000 in
set_option maxHeartbeats 4000000 in
theorem mX0_init {l : Launch} {Δ : gn_D} : gk l yX0_init cX0_init 1 1 12 1 152 Δ 2 [.null, .int 0] (fun h0 u => ∃ a : Nat → Nat, a 0 = h0 ∧ u = gL Δ a) := by
  refine gn_sv (by decide) rfl (by decide) (fun h0 A K C hin fin => ?_)
  refine gn_aload_n C dX0_init_0 0 rfl rfl 1 rfl ?_
  refine gn_obj C dX0_init_1 gw_ol_X0 gw_oi gw_oc ⟨(Nat.le_of_ble_eq_true rfl), (Nat.le_of_ble_eq_true rfl)⟩ 4 rfl ?_
  refine gn_aload_n C dX0_init_4 0 rfl rfl 5 rfl ?_
  refine gn_sipush C dX0_init_5 (nI 152) ks_152 8 rfl ?_
  refine gn_newa C (ty := .char) (N := 152) (a0 := (152, .inl (fun _ => 0))) dX0_init_8 rfl gw_a_char 0 rfl (fun _ => rfl) (by decide) (by decide) (Nat.le_of_ble_eq_true rfl) (Nat.le_of_ble_eq_true rfl) 10 rfl (fun q1 => ?_)
  refine gn_putF C hin dX0_init_10 fK2 0 rfl 0 (by decide) fl_X0_9 rfl rfl rfl rfl (Nat.le_of_ble_eq_true rfl) ([(h0, .inr (2, [.ref q1, .int 0])), (q1, gH Δ 152)]) rfl 13 rfl ?_
  exact fin dX0_init_13 (⟨fun j => [h0, q1].getD j 0, rfl, rfl⟩) (Nat.le_of_ble_eq_true rfl) (Nat.le_of_ble_eq_true rfl)
def gM (Δ : gn_D) (a : Nat → Nat) : va_W := [(a 0, .inr (9, [.ref (a 1), .ref (a 2), .ref (a 3), .ref (a 4), .ref (a 5), .int (nI 0), .int (nI 0), .int (-1), .int (-1), .int (nI 0), .ref (a 6), .int (nI 0), .ref (a 7), .ref (a 8), .ref (a 9), .ref (a 10), .ref (a 11), .ref (a 12), .int (nI 0), .int (nI 0), .int (nI 0), .int (nI 0), .int (nI 0), .int (nI 0)])), ((a 1), .inl (Δ.2 2, 150, .inl (upd (fun _ => 0) 1 (nI 3)))), ((a 2), gI Δ 150), ((a 3), gI Δ 150), ((a 4), gI Δ 1200), ((a 5), gI Δ 30), ((a 6), gI Δ 160), ((a 7), gI Δ 60), ((a 8), gI Δ 32), ((a 9), gI Δ 32), ((a 10), gI Δ 32), ((a 11), gI Δ 32), ((a 12), gI Δ 60)]
set_option maxRecDepth 10000 in
set_option maxHeartbeats 4000000 in
theorem mX7_init {l : Launch} {Δ : gn_D} : gk l yX7_init cX7_init 1 1 12 12 2088 Δ 9 [.null, .null, .null, .null, .null, .int 0, .int 0, .int 0, .int 0, .int 0, .null, .int 0, .null, .null, .null, .null, .null, .null, .int 0, .int 0, .int 0, .int 0, .int 0, .int 0] (fun h0 u => ∃ a : Nat → Nat, a 0 = h0 ∧ u = gM Δ a) := by
  refine gn_sv (by decide) rfl (by decide) (fun h0 A K C hin fin => ?_)
  refine gn_aload_n C dX7_init_0 0 rfl rfl 1 rfl ?_
  refine gn_obj C dX7_init_1 gw_ol_X7 gw_oi gw_oc ⟨(Nat.le_of_ble_eq_true rfl), (Nat.le_of_ble_eq_true rfl)⟩ 4 rfl ?_
  refine gn_aload_n C dX7_init_4 0 rfl rfl 5 rfl ?_
  refine gn_sipush C dX7_init_5 (nI 150) ks_150 8 rfl ?_
  refine gn_newa C (ty := .int) (N := 150) (a0 := (150, .inl (fun _ => 0))) dX7_init_8 rfl gw_a_int 2 rfl (fun _ => rfl) (by decide) (by decide) (Nat.le_of_ble_eq_true rfl) (Nat.le_of_ble_eq_true rfl) 10 rfl (fun q1 => ?_)
  refine gn_putF C hin dX7_init_10 fK9 0 rfl 0 (by decide) fl_X7_7 rfl rfl rfl rfl (Nat.le_of_ble_eq_true rfl) ([(h0, .inr (9, [.ref q1, .null, .null, .null, .null, .int 0, .int 0, .int 0, .int 0, .int 0, .null, .int 0, .null, .null, .null, .null, .null, .null, .int 0, .int 0, .int 0, .int 0, .int 0, .int 0])), (q1, gI Δ 150)]) rfl 13 rfl ?_
  refine gn_aload_n C dX7_init_13 0 rfl rfl 14 rfl ?_
  refine gn_sipush C dX7_init_14 (nI 150) ks_150 17 rfl ?_
  refine gn_newa C (ty := .int) (N := 150) (a0 := (150, .inl (fun _ => 0))) dX7_init_17 rfl gw_a_int 2 rfl (fun _ => rfl) (by decide) (by decide) (Nat.le_of_ble_eq_true rfl) (Nat.le_of_ble_eq_true rfl) 19 rfl (fun q2 => ?_)
  refine gn_putF C hin dX7_init_19 fK9 0 rfl 1 (by decide) fl_X7_13 rfl rfl rfl rfl (Nat.le_of_ble_eq_true rfl) ([(h0, .inr (9, [.ref q1, .ref q2, .null, .null, .null, .int 0, .int 0, .int 0, .int 0, .int 0, .null, .int 0, .null, .null, .null, .null, .null, .null, .int 0, .int 0, .int 0, .int 0, .int 0, .int 0])), (q1, gI Δ 150), (q2, gI Δ 150)]) rfl 22 rfl ?_
  refine gn_aload_n C dX7_init_22 0 rfl rfl 23 rfl ?_
  refine gn_sipush C dX7_init_23 (nI 150) ks_150 26 rfl ?_
  refine gn_newa C (ty := .int) (N := 150) (a0 := (150, .inl (fun _ => 0))) dX7_init_26 rfl gw_a_int 2 rfl (fun _ => rfl) (by decide) (by decide) (Nat.le_of_ble_eq_true rfl) (Nat.le_of_ble_eq_true rfl) 28 rfl (fun q3 => ?_)
  refine gn_putF C hin dX7_init_28 fK9 0 rfl 2 (by decide) fl_X7_16 rfl rfl rfl rfl (Nat.le_of_ble_eq_true rfl) ([(h0, .inr (9, [.ref q1, .ref q2, .ref q3, .null, .null, .int 0, .int 0, .int 0, .int 0, .int 0, .null, .int 0, .null, .null, .null, .null, .null, .null, .int 0, .int 0, .int 0, .int 0, .int 0, .int 0])), (q1, gI Δ 150), (q2, gI Δ 150), (q3, gI Δ 150)]) rfl 31 rfl ?_
  refine gn_aload_n C dX7_init_31 0 rfl rfl 32 rfl ?_
  refine gn_sipush C dX7_init_32 (nI 1200) ks_1200 35 rfl ?_
  refine gn_newa C (ty := .int) (N := 1200) (a0 := (1200, .inl (fun _ => 0))) dX7_init_35 rfl gw_a_int 2 rfl (fun _ => rfl) (by decide) (by decide) (Nat.le_of_ble_eq_true rfl) (Nat.le_of_ble_eq_true rfl) 37 rfl (fun q4 => ?_)
  refine gn_putF C hin dX7_init_37 fK9 0 rfl 3 (by decide) fl_X7_19 rfl rfl rfl rfl (Nat.le_of_ble_eq_true rfl) ([(h0, .inr (9, [.ref q1, .ref q2, .ref q3, .ref q4, .null, .int 0, .int 0, .int 0, .int 0, .int 0, .null, .int 0, .null, .null, .null, .null, .null, .null, .int 0, .int 0, .int 0, .int 0, .int 0, .int 0])), (q1, gI Δ 150), (q2, gI Δ 150), (q3, gI Δ 150), (q4, gI Δ 1200)]) rfl 40 rfl ?_
  refine gn_aload_n C dX7_init_40 0 rfl rfl 41 rfl ?_
  refine gn_bipush C dX7_init_41 (nI 30) kb_30 43 rfl ?_
  refine gn_newa C (ty := .int) (N := 30) (a0 := (30, .inl (fun _ => 0))) dX7_init_43 rfl gw_a_int 2 rfl (fun _ => rfl) (by decide) (by decide) (Nat.le_of_ble_eq_true rfl) (Nat.le_of_ble_eq_true rfl) 45 rfl (fun q5 => ?_)
  refine gn_putF C hin dX7_init_45 fK9 0 rfl 4 (by decide) fl_X7_22 rfl rfl rfl rfl (Nat.le_of_ble_eq_true rfl) ([(h0, .inr (9, [.ref q1, .ref q2, .ref q3, .ref q4, .ref q5, .int 0, .int 0, .int 0, .int 0, .int 0, .null, .int 0, .null, .null, .null, .null, .null, .null, .int 0, .int 0, .int 0, .int 0, .int 0, .int 0])), (q1, gI Δ 150), (q2, gI Δ 150), (q3, gI Δ 150), (q4, gI Δ 1200), (q5, gI Δ 30)]) rfl 48 rfl ?_
  refine gn_aload_n C dX7_init_48 0 rfl rfl 49 rfl ?_
  refine gn_iconst C dX7_init_49 (nI 0) ki_0 50 rfl ?_
  refine gn_put C dX7_init_50 fK9 0 rfl 5 (by decide) fl_X7_25 rfl rfl rfl (Nat.le_of_ble_eq_true rfl) ([(h0, .inr (9, [.ref q1, .ref q2, .ref q3, .ref q4, .ref q5, .int (nI 0), .int 0, .int 0, .int 0, .int 0, .null, .int 0, .null, .null, .null, .null, .null, .null, .int 0, .int 0, .int 0, .int 0, .int 0, .int 0])), (q1, gI Δ 150), (q2, gI Δ 150), (q3, gI Δ 150), (q4, gI Δ 1200), (q5, gI Δ 30)]) rfl 53 rfl ?_
  refine gn_aload_n C dX7_init_53 0 rfl rfl 54 rfl ?_
  refine gn_iconst C dX7_init_54 (nI 0) ki_0 55 rfl ?_
  refine gn_put C dX7_init_55 fK9 0 rfl 6 (by decide) fl_X7_29 rfl rfl rfl (Nat.le_of_ble_eq_true rfl) ([(h0, .inr (9, [.ref q1, .ref q2, .ref q3, .ref q4, .ref q5, .int (nI 0), .int (nI 0), .int 0, .int 0, .int 0, .null, .int 0, .null, .null, .null, .null, .null, .null, .int 0, .int 0, .int 0, .int 0, .int 0, .int 0])), (q1, gI Δ 150), (q2, gI Δ 150), (q3, gI Δ 150), (q4, gI Δ 1200), (q5, gI Δ 30)]) rfl 58 rfl ?_
  refine gn_aload_n C dX7_init_58 0 rfl rfl 59 rfl ?_
  refine gn_iconst C dX7_init_59 (-1) (by decide) 60 rfl ?_
  refine gn_put C dX7_init_60 fK9 0 rfl 7 (by decide) fl_X7_32 rfl rfl rfl (Nat.le_of_ble_eq_true rfl) ([(h0, .inr (9, [.ref q1, .ref q2, .ref q3, .ref q4, .ref q5, .int (nI 0), .int (nI 0), .int (-1), .int 0, .int 0, .null, .int 0, .null, .null, .null, .null, .null, .null, .int 0, .int 0, .int 0, .int 0, .int 0, .int 0])), (q1, gI Δ 150), (q2, gI Δ 150), (q3, gI Δ 150), (q4, gI Δ 1200), (q5, gI Δ 30)]) rfl 63 rfl ?_
  refine gn_aload_n C dX7_init_63 0 rfl rfl 64 rfl ?_
  refine gn_iconst C dX7_init_64 (-1) (by decide) 65 rfl ?_
  refine gn_put C dX7_init_65 fK9 0 rfl 8 (by decide) fl_X7_35 rfl rfl rfl (Nat.le_of_ble_eq_true rfl) ([(h0, .inr (9, [.ref q1, .ref q2, .ref q3, .ref q4, .ref q5, .int (nI 0), .int (nI 0), .int (-1), .int (-1), .int 0, .null, .int 0, .null, .null, .null, .null, .null, .null, .int 0, .int 0, .int 0, .int 0, .int 0, .int 0])), (q1, gI Δ 150), (q2, gI Δ 150), (q3, gI Δ 150), (q4, gI Δ 1200), (q5, gI Δ 30)]) rfl 68 rfl ?_
  refine gn_aload_n C dX7_init_68 0 rfl rfl 69 rfl ?_
  refine gn_iconst C dX7_init_69 (nI 0) ki_0 70 rfl ?_
  refine gn_put C dX7_init_70 fK9 0 rfl 9 (by decide) fl_X7_38 rfl rfl rfl (Nat.le_of_ble_eq_true rfl) ([(h0, .inr (9, [.ref q1, .ref q2, .ref q3, .ref q4, .ref q5, .int (nI 0), .int (nI 0), .int (-1), .int (-1), .int (nI 0), .null, .int 0, .null, .null, .null, .null, .null, .null, .int 0, .int 0, .int 0, .int 0, .int 0, .int 0])), (q1, gI Δ 150), (q2, gI Δ 150), (q3, gI Δ 150), (q4, gI Δ 1200), (q5, gI Δ 30)]) rfl 73 rfl ?_
  refine gn_aload_n C dX7_init_73 0 rfl rfl 74 rfl ?_
  refine gn_sipush C dX7_init_74 (nI 160) ks_160 77 rfl ?_
  refine gn_newa C (ty := .int) (N := 160) (a0 := (160, .inl (fun _ => 0))) dX7_init_77 rfl gw_a_int 2 rfl (fun _ => rfl) (by decide) (by decide) (Nat.le_of_ble_eq_true rfl) (Nat.le_of_ble_eq_true rfl) 79 rfl (fun q6 => ?_)
  refine gn_putF C hin dX7_init_79 fK9 0 rfl 10 (by decide) fl_X7_42 rfl rfl rfl rfl (Nat.le_of_ble_eq_true rfl) ([(h0, .inr (9, [.ref q1, .ref q2, .ref q3, .ref q4, .ref q5, .int (nI 0), .int (nI 0), .int (-1), .int (-1), .int (nI 0), .ref q6, .int 0, .null, .null, .null, .null, .null, .null, .int 0, .int 0, .int 0, .int 0, .int 0, .int 0])), (q1, gI Δ 150), (q2, gI Δ 150), (q3, gI Δ 150), (q4, gI Δ 1200), (q5, gI Δ 30), (q6, gI Δ 160)]) rfl 82 rfl ?_
  refine gn_aload_n C dX7_init_82 0 rfl rfl 83 rfl ?_
  refine gn_iconst C dX7_init_83 (nI 0) ki_0 84 rfl ?_
  refine gn_put C dX7_init_84 fK9 0 rfl 11 (by decide) fl_X7_45 rfl rfl rfl (Nat.le_of_ble_eq_true rfl) ([(h0, .inr (9, [.ref q1, .ref q2, .ref q3, .ref q4, .ref q5, .int (nI 0), .int (nI 0), .int (-1), .int (-1), .int (nI 0), .ref q6, .int (nI 0), .null, .null, .null, .null, .null, .null, .int 0, .int 0, .int 0, .int 0, .int 0, .int 0])), (q1, gI Δ 150), (q2, gI Δ 150), (q3, gI Δ 150), (q4, gI Δ 1200), (q5, gI Δ 30), (q6, gI Δ 160)]) rfl 87 rfl ?_
  refine gn_aload_n C dX7_init_87 0 rfl rfl 88 rfl ?_
  refine gn_bipush C dX7_init_88 (nI 60) kb_60 90 rfl ?_
  refine gn_newa C (ty := .int) (N := 60) (a0 := (60, .inl (fun _ => 0))) dX7_init_90 rfl gw_a_int 2 rfl (fun _ => rfl) (by decide) (by decide) (Nat.le_of_ble_eq_true rfl) (Nat.le_of_ble_eq_true rfl) 92 rfl (fun q7 => ?_)
  refine gn_putF C hin dX7_init_92 fK9 0 rfl 12 (by decide) fl_X7_48 rfl rfl rfl rfl (Nat.le_of_ble_eq_true rfl) ([(h0, .inr (9, [.ref q1, .ref q2, .ref q3, .ref q4, .ref q5, .int (nI 0), .int (nI 0), .int (-1), .int (-1), .int (nI 0), .ref q6, .int (nI 0), .ref q7, .null, .null, .null, .null, .null, .int 0, .int 0, .int 0, .int 0, .int 0, .int 0])), (q1, gI Δ 150), (q2, gI Δ 150), (q3, gI Δ 150), (q4, gI Δ 1200), (q5, gI Δ 30), (q6, gI Δ 160), (q7, gI Δ 60)]) rfl 95 rfl ?_
  refine gn_aload_n C dX7_init_95 0 rfl rfl 96 rfl ?_
  refine gn_bipush C dX7_init_96 (nI 32) kb_32 98 rfl ?_
  refine gn_newa C (ty := .int) (N := 32) (a0 := (32, .inl (fun _ => 0))) dX7_init_98 rfl gw_a_int 2 rfl (fun _ => rfl) (by decide) (by decide) (Nat.le_of_ble_eq_true rfl) (Nat.le_of_ble_eq_true rfl) 100 rfl (fun q8 => ?_)
  refine gn_putF C hin dX7_init_100 fK9 0 rfl 13 (by decide) fl_X7_51 rfl rfl rfl rfl (Nat.le_of_ble_eq_true rfl) ([(h0, .inr (9, [.ref q1, .ref q2, .ref q3, .ref q4, .ref q5, .int (nI 0), .int (nI 0), .int (-1), .int (-1), .int (nI 0), .ref q6, .int (nI 0), .ref q7, .ref q8, .null, .null, .null, .null, .int 0, .int 0, .int 0, .int 0, .int 0, .int 0])), (q1, gI Δ 150), (q2, gI Δ 150), (q3, gI Δ 150), (q4, gI Δ 1200), (q5, gI Δ 30), (q6, gI Δ 160), (q7, gI Δ 60), (q8, gI Δ 32)]) rfl 103 rfl ?_
  refine gn_aload_n C dX7_init_103 0 rfl rfl 104 rfl ?_
  refine gn_bipush C dX7_init_104 (nI 32) kb_32 106 rfl ?_
  refine gn_newa C (ty := .int) (N := 32) (a0 := (32, .inl (fun _ => 0))) dX7_init_106 rfl gw_a_int 2 rfl (fun _ => rfl) (by decide) (by decide) (Nat.le_of_ble_eq_true rfl) (Nat.le_of_ble_eq_true rfl) 108 rfl (fun q9 => ?_)
  refine gn_putF C hin dX7_init_108 fK9 0 rfl 14 (by decide) fl_X7_54 rfl rfl rfl rfl (Nat.le_of_ble_eq_true rfl) ([(h0, .inr (9, [.ref q1, .ref q2, .ref q3, .ref q4, .ref q5, .int (nI 0), .int (nI 0), .int (-1), .int (-1), .int (nI 0), .ref q6, .int (nI 0), .ref q7, .ref q8, .ref q9, .null, .null, .null, .int 0, .int 0, .int 0, .int 0, .int 0, .int 0])), (q1, gI Δ 150), (q2, gI Δ 150), (q3, gI Δ 150), (q4, gI Δ 1200), (q5, gI Δ 30), (q6, gI Δ 160), (q7, gI Δ 60), (q8, gI Δ 32), (q9, gI Δ 32)]) rfl 111 rfl ?_
  refine gn_aload_n C dX7_init_111 0 rfl rfl 112 rfl ?_
  refine gn_bipush C dX7_init_112 (nI 32) kb_32 114 rfl ?_
  refine gn_newa C (ty := .int) (N := 32) (a0 := (32, .inl (fun _ => 0))) dX7_init_114 rfl gw_a_int 2 rfl (fun _ => rfl) (by decide) (by decide) (Nat.le_of_ble_eq_true rfl) (Nat.le_of_ble_eq_true rfl) 116 rfl (fun q10 => ?_)
  refine gn_putF C hin dX7_init_116 fK9 0 rfl 15 (by decide) fl_X7_57 rfl rfl rfl rfl (Nat.le_of_ble_eq_true rfl) ([(h0, .inr (9, [.ref q1, .ref q2, .ref q3, .ref q4, .ref q5, .int (nI 0), .int (nI 0), .int (-1), .int (-1), .int (nI 0), .ref q6, .int (nI 0), .ref q7, .ref q8, .ref q9, .ref q10, .null, .null, .int 0, .int 0, .int 0, .int 0, .int 0, .int 0])), (q1, gI Δ 150), (q2, gI Δ 150), (q3, gI Δ 150), (q4, gI Δ 1200), (q5, gI Δ 30), (q6, gI Δ 160), (q7, gI Δ 60), (q8, gI Δ 32), (q9, gI Δ 32), (q10, gI Δ 32)]) rfl 119 rfl ?_
  refine gn_aload_n C dX7_init_119 0 rfl rfl 120 rfl ?_
  refine gn_bipush C dX7_init_120 (nI 32) kb_32 122 rfl ?_
  refine gn_newa C (ty := .int) (N := 32) (a0 := (32, .inl (fun _ => 0))) dX7_init_122 rfl gw_a_int 2 rfl (fun _ => rfl) (by decide) (by decide) (Nat.le_of_ble_eq_true rfl) (Nat.le_of_ble_eq_true rfl) 124 rfl (fun q11 => ?_)
  refine gn_putF C hin dX7_init_124 fK9 0 rfl 16 (by decide) fl_X7_60 rfl rfl rfl rfl (Nat.le_of_ble_eq_true rfl) ([(h0, .inr (9, [.ref q1, .ref q2, .ref q3, .ref q4, .ref q5, .int (nI 0), .int (nI 0), .int (-1), .int (-1), .int (nI 0), .ref q6, .int (nI 0), .ref q7, .ref q8, .ref q9, .ref q10, .ref q11, .null, .int 0, .int 0, .int 0, .int 0, .int 0, .int 0])), (q1, gI Δ 150), (q2, gI Δ 150), (q3, gI Δ 150), (q4, gI Δ 1200), (q5, gI Δ 30), (q6, gI Δ 160), (q7, gI Δ 60), (q8, gI Δ 32), (q9, gI Δ 32), (q10, gI Δ 32), (q11, gI Δ 32)]) rfl 127 rfl ?_
  refine gn_aload_n C dX7_init_127 0 rfl rfl 128 rfl ?_
  refine gn_bipush C dX7_init_128 (nI 60) kb_60 130 rfl ?_
  refine gn_newa C (ty := .int) (N := 60) (a0 := (60, .inl (fun _ => 0))) dX7_init_130 rfl gw_a_int 2 rfl (fun _ => rfl) (by decide) (by decide) (Nat.le_of_ble_eq_true rfl) (Nat.le_of_ble_eq_true rfl) 132 rfl (fun q12 => ?_)
  refine gn_putF C hin dX7_init_132 fK9 0 rfl 17 (by decide) fl_X7_63 rfl rfl rfl rfl (Nat.le_of_ble_eq_true rfl) ([(h0, .inr (9, [.ref q1, .ref q2, .ref q3, .ref q4, .ref q5, .int (nI 0), .int (nI 0), .int (-1), .int (-1), .int (nI 0), .ref q6, .int (nI 0), .ref q7, .ref q8, .ref q9, .ref q10, .ref q11, .ref q12, .int 0, .int 0, .int 0, .int 0, .int 0, .int 0])), (q1, gI Δ 150), (q2, gI Δ 150), (q3, gI Δ 150), (q4, gI Δ 1200), (q5, gI Δ 30), (q6, gI Δ 160), (q7, gI Δ 60), (q8, gI Δ 32), (q9, gI Δ 32), (q10, gI Δ 32), (q11, gI Δ 32), (q12, gI Δ 60)]) rfl 135 rfl ?_
  refine gn_aload_n C dX7_init_135 0 rfl rfl 136 rfl ?_
  refine gn_iconst C dX7_init_136 (nI 0) ki_0 137 rfl ?_
  refine gn_put C dX7_init_137 fK9 0 rfl 18 (by decide) fl_X7_66 rfl rfl rfl (Nat.le_of_ble_eq_true rfl) ([(h0, .inr (9, [.ref q1, .ref q2, .ref q3, .ref q4, .ref q5, .int (nI 0), .int (nI 0), .int (-1), .int (-1), .int (nI 0), .ref q6, .int (nI 0), .ref q7, .ref q8, .ref q9, .ref q10, .ref q11, .ref q12, .int (nI 0), .int 0, .int 0, .int 0, .int 0, .int 0])), (q1, gI Δ 150), (q2, gI Δ 150), (q3, gI Δ 150), (q4, gI Δ 1200), (q5, gI Δ 30), (q6, gI Δ 160), (q7, gI Δ 60), (q8, gI Δ 32), (q9, gI Δ 32), (q10, gI Δ 32), (q11, gI Δ 32), (q12, gI Δ 60)]) rfl 140 rfl ?_
  refine gn_aload_n C dX7_init_140 0 rfl rfl 141 rfl ?_
  refine gn_iconst C dX7_init_141 (nI 0) ki_0 142 rfl ?_
  refine gn_put C dX7_init_142 fK9 0 rfl 19 (by decide) fl_X7_69 rfl rfl rfl (Nat.le_of_ble_eq_true rfl) ([(h0, .inr (9, [.ref q1, .ref q2, .ref q3, .ref q4, .ref q5, .int (nI 0), .int (nI 0), .int (-1), .int (-1), .int (nI 0), .ref q6, .int (nI 0), .ref q7, .ref q8, .ref q9, .ref q10, .ref q11, .ref q12, .int (nI 0), .int (nI 0), .int 0, .int 0, .int 0, .int 0])), (q1, gI Δ 150), (q2, gI Δ 150), (q3, gI Δ 150), (q4, gI Δ 1200), (q5, gI Δ 30), (q6, gI Δ 160), (q7, gI Δ 60), (q8, gI Δ 32), (q9, gI Δ 32), (q10, gI Δ 32), (q11, gI Δ 32), (q12, gI Δ 60)]) rfl 145 rfl ?_
  refine gn_aload_n C dX7_init_145 0 rfl rfl 146 rfl ?_
  refine gn_iconst C dX7_init_146 (nI 0) ki_0 147 rfl ?_
  refine gn_put C dX7_init_147 fK9 0 rfl 20 (by decide) fl_X7_72 rfl rfl rfl (Nat.le_of_ble_eq_true rfl) ([(h0, .inr (9, [.ref q1, .ref q2, .ref q3, .ref q4, .ref q5, .int (nI 0), .int (nI 0), .int (-1), .int (-1), .int (nI 0), .ref q6, .int (nI 0), .ref q7, .ref q8, .ref q9, .ref q10, .ref q11, .ref q12, .int (nI 0), .int (nI 0), .int (nI 0), .int 0, .int 0, .int 0])), (q1, gI Δ 150), (q2, gI Δ 150), (q3, gI Δ 150), (q4, gI Δ 1200), (q5, gI Δ 30), (q6, gI Δ 160), (q7, gI Δ 60), (q8, gI Δ 32), (q9, gI Δ 32), (q10, gI Δ 32), (q11, gI Δ 32), (q12, gI Δ 60)]) rfl 150 rfl ?_
  refine gn_aload_n C dX7_init_150 0 rfl rfl 151 rfl ?_
  refine gn_iconst C dX7_init_151 (nI 0) ki_0 152 rfl ?_
  refine gn_put C dX7_init_152 fK9 0 rfl 21 (by decide) fl_X7_75 rfl rfl rfl (Nat.le_of_ble_eq_true rfl) ([(h0, .inr (9, [.ref q1, .ref q2, .ref q3, .ref q4, .ref q5, .int (nI 0), .int (nI 0), .int (-1), .int (-1), .int (nI 0), .ref q6, .int (nI 0), .ref q7, .ref q8, .ref q9, .ref q10, .ref q11, .ref q12, .int (nI 0), .int (nI 0), .int (nI 0), .int (nI 0), .int 0, .int 0])), (q1, gI Δ 150), (q2, gI Δ 150), (q3, gI Δ 150), (q4, gI Δ 1200), (q5, gI Δ 30), (q6, gI Δ 160), (q7, gI Δ 60), (q8, gI Δ 32), (q9, gI Δ 32), (q10, gI Δ 32), (q11, gI Δ 32), (q12, gI Δ 60)]) rfl 155 rfl ?_
  refine gn_aload_n C dX7_init_155 0 rfl rfl 156 rfl ?_
  refine gn_iconst C dX7_init_156 (nI 0) ki_0 157 rfl ?_
  refine gn_put C dX7_init_157 fK9 0 rfl 22 (by decide) fl_X7_78 rfl rfl rfl (Nat.le_of_ble_eq_true rfl) ([(h0, .inr (9, [.ref q1, .ref q2, .ref q3, .ref q4, .ref q5, .int (nI 0), .int (nI 0), .int (-1), .int (-1), .int (nI 0), .ref q6, .int (nI 0), .ref q7, .ref q8, .ref q9, .ref q10, .ref q11, .ref q12, .int (nI 0), .int (nI 0), .int (nI 0), .int (nI 0), .int (nI 0), .int 0])), (q1, gI Δ 150), (q2, gI Δ 150), (q3, gI Δ 150), (q4, gI Δ 1200), (q5, gI Δ 30), (q6, gI Δ 160), (q7, gI Δ 60), (q8, gI Δ 32), (q9, gI Δ 32), (q10, gI Δ 32), (q11, gI Δ 32), (q12, gI Δ 60)]) rfl 160 rfl ?_
  refine gn_aload_n C dX7_init_160 0 rfl rfl 161 rfl ?_
  refine gn_iconst C dX7_init_161 (nI 0) ki_0 162 rfl ?_
  refine gn_put C dX7_init_162 fK9 0 rfl 23 (by decide) fl_X7_81 rfl rfl rfl (Nat.le_of_ble_eq_true rfl) ([(h0, .inr (9, [.ref q1, .ref q2, .ref q3, .ref q4, .ref q5, .int (nI 0), .int (nI 0), .int (-1), .int (-1), .int (nI 0), .ref q6, .int (nI 0), .ref q7, .ref q8, .ref q9, .ref q10, .ref q11, .ref q12, .int (nI 0), .int (nI 0), .int (nI 0), .int (nI 0), .int (nI 0), .int (nI 0)])), (q1, gI Δ 150), (q2, gI Δ 150), (q3, gI Δ 150), (q4, gI Δ 1200), (q5, gI Δ 30), (q6, gI Δ 160), (q7, gI Δ 60), (q8, gI Δ 32), (q9, gI Δ 32), (q10, gI Δ 32), (q11, gI Δ 32), (q12, gI Δ 60)]) rfl 165 rfl ?_
  refine gn_aload_n C dX7_init_165 0 rfl rfl 166 rfl ?_
  refine gn_get C dX7_init_166 fK9 0 rfl 0 (by decide) fl_X7_7 (.ref q1) rfl 169 rfl ?_
  refine gn_iconst C dX7_init_169 (nI 1) ki_1 170 rfl ?_
  refine gn_iconst C dX7_init_170 (nI 3) ki_3 171 rfl ?_
  refine gn_iast C (n := 150) (f := fun _ => 0) dX7_init_171 1 rfl (by decide) (by decide) ([(h0, .inr (9, [.ref q1, .ref q2, .ref q3, .ref q4, .ref q5, .int (nI 0), .int (nI 0), .int (-1), .int (-1), .int (nI 0), .ref q6, .int (nI 0), .ref q7, .ref q8, .ref q9, .ref q10, .ref q11, .ref q12, .int (nI 0), .int (nI 0), .int (nI 0), .int (nI 0), .int (nI 0), .int (nI 0)])), (q1, .inl (Δ.2 2, 150, .inl (upd (fun _ => 0) 1 (nI 3)))), (q2, gI Δ 150), (q3, gI Δ 150), (q4, gI Δ 1200), (q5, gI Δ 30), (q6, gI Δ 160), (q7, gI Δ 60), (q8, gI Δ 32), (q9, gI Δ 32), (q10, gI Δ 32), (q11, gI Δ 32), (q12, gI Δ 60)]) rfl 172 rfl ?_
  exact fin dX7_init_172 (⟨fun j => [h0, q1, q2, q3, q4, q5, q6, q7, q8, q9, q10, q11, q12].getD j 0, rfl, rfl⟩) (Nat.le_of_ble_eq_true rfl) (Nat.le_of_ble_eq_true rfl)
