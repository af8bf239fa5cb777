/-! THE LAW'S LOOP: its rows -/
section FOL
variable {l : Launch} {Λ : fo_Lt} {R : Room} {K : fo_K} {cs ss pc : Nat} {lv : List (Nat × Value)} {st : List Value} {I : fo_Mi} {D : fo_Md} {J : fo_Mj} {X : fo_Mi} {cc : ByteArray} {own : String} {nL : Nat}
theorem fo_sld (C : fo_C Λ K cc own nL) {b Ls i : Nat} {xs : Nat → Int32} (hX : va_X b Ls xs K.2.2.1 K.2.2.1.heap) (hb : b < Λ.2.2.2) (hLs : Ls ≤ 2048) (hi : i < Ls) (d : decode cc pc = .ok (.iaload, 1)) (n' : Nat) (hn : pc + 1 = n') (k : fo_G l Λ R K cs ss n' lv (.int (xs i) :: st) I D J X) : fo_G l Λ R K cs ss pc lv (.int (nI i) :: .ref b :: st) I D J X := by
  intro H locs ls hP hS hl9
  subst hn
  have h31 : i < 2 ^ 31 := Nat.lt_trans hi (Nat.lt_of_le_of_lt hLs (by decide))
  refine va_sld C.1 C.2.1 hX (Nat.lt_of_lt_of_le hb C.zz.2.2.1) (Nat.not_le.mpr hb) hS (vp_in_nI hi (Nat.lt_of_le_of_lt hLs (by decide))) d ?_
  rw [nI_clamp h31]
  exact k H locs ls hP hS hl9
theorem fo_scl (C : fo_C Λ K cc own nL) {b Ls : Nat} {xs : Nat → Int32} (hX : va_X b Ls xs K.2.2.1 K.2.2.1.heap) (hb : b < Λ.2.2.2) (d : decode cc pc = .ok (.arraylength, 1)) (n' : Nat) (hn : pc + 1 = n') (k : fo_G l Λ R K cs ss n' lv (.int (nI Ls) :: st) I D J X) : fo_G l Λ R K cs ss pc lv (.ref b :: st) I D J X := by
  intro H locs ls hP hS hl9
  subst hn
  exact va_slen C.1 C.2.1 hX (Nat.lt_of_lt_of_le hb C.zz.2.2.1) (Nat.not_le.mpr hb) hS d (k H locs ls hP hS hl9)
theorem fw_ls {x z : Int64} (h : x = z) : lg_cmp x z = nI 0 := by
  subst h
  unfold lg_cmp
  rw [if_neg (fun q => Int64.lt_irrefl q), if_pos rfl]
  rfl
theorem fw_nvb {n : Nat → Nat} {x z : Int32} {g : Nat → Nat → Bool} : (fg_nv n x z (fo_b false) (fun k d => fo_b (g k d))).2 = fo_b (fg_nv n x z false g).2 := by
  unfold fg_nv fg_se
  split
  · dsimp only
    split <;> rfl
  · rfl
theorem fw_pab {np : Nat} {y x : Int32} {g : Nat → Nat → Bool} : (fg_pa np y x (fo_b false) (fun p k => (0, fo_b (g p k)))).2 = fo_b (fg_pa np y x false (fun p k => (0, g p k))).2 := by
  unfold fg_pa
  split <;> rfl
theorem fw_ds {a : UInt64} (h : vf_n64 a) : Op.cmpValue (FP.dcmp a a) .l = 0 := by
  have h1 : FP.Core.dIsNaN a = false := by
    rw [← Bool.not_eq_true, FP.Core.isNaN_bits]
    unfold vf_n64 at h
    rw [UInt64.le_iff_toNat_le, UInt64.toNat_and] at h
    have h3 : a.toNat &&& (2 ^ 63 - 1) ≤ 9218868437227405312 := h
    rw [Nat.and_two_pow_sub_one_eq_mod] at h3
    omega
  have h2 : FP.dcmp a a = some .eq := FP.Core.dcmp_self (fun q => by rw [(FP.Core.dIsNaN_iff a).mpr q] at h1; cases h1)
  rw [h2]
  rfl
end FOL
/-- what the loop's end asks: the laboratory and the model tell the same -/
def lk_k (l : Launch) (Λ : fo_Lt) (K : fo_K) (b i cs ss : Nat) : Prop := ∀ (cs' ss' : Nat) (I' : fo_Mi) (D' : fo_Md) (J' : fo_Mj) (X' : fo_Mi) (s : fa_S) (hs : List fa_S) (ks : Option fa_S) (L : List Nat) (m : Nat) (t : Nat → Nat) (e f : Int32), cs' ≤ cs + 3 → ss' ≤ ss + 18 → ll I' D' s hs ks L m t e f → fm_M I' s hs ks L m t e f → (e = -1 ∨ ¬ e < 0) → (f = -1 ∨ ¬ f < 0) → fo_G l Λ room_1 K cs' ss' 2683 [(5, .int (nI i)), (0, .ref b), (1, .ref (Λ.2.2.1 605)), (2, .ref (Λ.2.2.1 616)), (3, .ref (Λ.2.2.1 629)), (4, .ref (Λ.2.2.1 630))] [] I' D' J' X'
theorem fm_M.g {I I' : fo_Mi} {D D' : fo_Md} {s : fa_S} {hs : List fa_S} {ks : Option fa_S} {L : List Nat} {m : Nat} {t : Nat → Nat} {e f : Int32} (h : fm_M I s hs ks L m t e f) (g : fl_g I D I' D') : fm_M I' s hs ks L m t e f := h.mv (fun j _ => by rw [(g 616 (by decide)).1]) (fun b c1 _ _ => (g b (by omega)).1)
theorem fm_M.th {I : fo_Mi} {s : fa_S} {hs : List fa_S} {ks : Option fa_S} {L : List Nat} {m : Nat} {t : Nat → Nat} {e f x : Int32} (h : fm_M I s hs ks L m t e f) : fm_M (fo_r I 616 (upd (I 616) 5 x)) s hs ks L m t e f := h.mv (fun j hj => by rw [fo_rs, pk_un hj]) (fun b c1 c2 c3 => by rw [fo_rn _ _ (by omega)])
theorem ll.f {I I' : fo_Mi} {D : fo_Md} {s : fa_S} {hs : List fa_S} {ks : Option fa_S} {L : List Nat} {m : Nat} {t : Nat → Nat} {e f : Int32} (h : ll I D s hs ks L m t e f) (g : fm_f I I') : ll I' D s hs ks L m t e f := h.mono (fun c hc => ⟨g c (Or.inl hc), rfl⟩)
theorem ll.th {I : fo_Mi} {D : fo_Md} {s : fa_S} {hs : List fa_S} {ks : Option fa_S} {L : List Nat} {m : Nat} {t : Nat → Nat} {e f x : Int32} (h : ll I D s hs ks L m t e f) : ll (fo_r I 616 (upd (I 616) 5 x)) D s hs ks L m t e f := h.mono (fun c hc => ⟨fo_rn _ _ (by omega), rfl⟩)
theorem ll.d {I : fo_Mi} {D : fo_Md} {s : fa_S} {hs : List fa_S} {ks : Option fa_S} {L : List Nat} {m : Nat} {t : Nat → Nat} {e f : Int32} {dd : Nat → UInt64} (h : ll I D s hs ks L m t e f) : ll I (fo_r D 630 dd) s hs ks L m t e f := h.mono (fun c hc => ⟨rfl, fo_rn _ _ (by omega)⟩)
theorem fw_nn {n : Nat} (h : n < 2 ^ 31) : ¬ nI n < 0 := fun q => by
  have := Int32.lt_iff_toInt_lt.mp q
  rw [nI_toInt h, show (0 : Int32).toInt = 0 from rfl] at this
  omega
theorem fw_ch (x : Int32) : ∃ w, w < 65536 ∧ (x.toUInt32 % 65536).toInt32 = nI w := by
  refine ⟨(x.toUInt32 % 65536).toNat, ?_, ?_⟩
  · rw [UInt32.toNat_mod]
    exact Nat.mod_lt _ (by decide)
  · generalize x.toUInt32 % 65536 = y
    show y.toInt32 = Int32.ofNat y.toNat
    apply Int32.toBitVec_inj.mp
    apply BitVec.eq_of_toNat_eq
    simp

theorem fw_run {s : fa_S} {hs : List fa_S} {ks : Option fa_S} {L : List Nat} {m : Nat} {t : Nat → Nat} {e f r : Int32} {I' : fo_Mi} (he : e = -1 ∨ ¬ e < 0) (hf : f = -1 ∨ ¬ f < 0) (h1 : (fq_all m t 60 0 0).1 = none → I' 616 5 = nI 1 ∧ fm_M I' s hs ks L 0 t (nI (fq_all m t 60 0 0).2) f ∧ (fq_all m t 60 0 0).2 ≤ 60) (h2 : ∀ x, (fq_all m t 60 0 0).1 = some x → (∀ o, fa_run s x.1 = .inl o → I' 616 5 = nI 2 ∧ fm_M I' s hs ks L 0 t e (nI o) ∧ o ≤ 60) ∧ ∀ s2, fa_run s x.1 = .inr s2 → r = nI x.2 ∧ I' 616 5 = nI 0 ∧ fm_M I' s2 ((s :: hs).take 8) ks L 0 t e f) : I' 616 5 = nI (fg_run s hs m t e f).1 ∧ (nI (fg_run s hs m t e f).1 = 0 → r = (fg_run s hs m t e f).2.1) ∧ fm_M I' (fg_run s hs m t e f).2.2.1 (fg_run s hs m t e f).2.2.2.1 ks L 0 t (fg_run s hs m t e f).2.2.2.2.1 (fg_run s hs m t e f).2.2.2.2.2 ∧ ((fg_run s hs m t e f).2.2.2.2.1 = -1 ∨ ¬ (fg_run s hs m t e f).2.2.2.2.1 < 0) ∧ ((fg_run s hs m t e f).2.2.2.2.2 = -1 ∨ ¬ (fg_run s hs m t e f).2.2.2.2.2 < 0) := by
  rcases hx : (fq_all m t 60 0 0).1 with _ | ⟨l9, c9⟩
  · rw [fg_run_1 hx]
    exact ⟨(h1 hx).1, fun q => absurd q fw_n1, (h1 hx).2.1, Or.inr (fw_nn (Nat.lt_of_le_of_lt (h1 hx).2.2 (by decide))), hf⟩
  · rcases hr : fa_run s l9 with o | s2
    · rw [fg_run_2 hx hr]
      exact ⟨((h2 _ hx).1 o hr).1, fun q => absurd q fw_n2, ((h2 _ hx).1 o hr).2.1, he, Or.inr (fw_nn (Nat.lt_of_le_of_lt ((h2 _ hx).1 o hr).2.2 (by decide)))⟩
    · rw [fg_run_t hx hr]
      exact ⟨((h2 _ hx).2 s2 hr).2.1, fun _ => ((h2 _ hx).2 s2 hr).1, ((h2 _ hx).2 s2 hr).2.2, he, hf⟩

theorem fw_osn {n : Nat → Nat} {a : Nat} (hn30 : ∀ k, k < 4 → n k ≤ 30) : vf_n32 (if 0 < fp_sum n 0 4 then (0, FP.fdiv (FP.i2f (nI a)) (FP.i2f (nI (fp_sum n 0 4)))) else (1, FP.fconst0) : Nat × UInt32).2 := by
  split
  · exact ff_divi (by omega) (by have := fp_sum_le (v := n) (a := 0) (c := 30) (n := 4) (fun k hk => by rw [Nat.zero_add]; exact hn30 k hk); omega)
  · show FP.fconst0 &&& 0x7fffffff ≤ 0x7f800000
    decide
theorem ll.sv {I I' : fo_Mi} {D D' : fo_Md} {s : fa_S} {hs : List fa_S} {ks : Option fa_S} {L : List Nat} {m : Nat} {t : Nat → Nat} {e f : Int32} (h : ll I D s hs ks L m t e f) (g1 : fl_K I' D' (some s)) (g2 : ∀ c, (c < 55 ∨ 110 ≤ c) → c ≠ 605 → I' c = I c ∧ D' c = D c) (g3 : ∀ j, j ≠ 5 → I' 605 j = I 605 j) : ll I' D' s hs (some s) L m t e f := by
  obtain ⟨h1, h2, h3, h4, h5, h6, h7⟩ := h
  exact ⟨h1.mono (fun c _ c2 => g2 c (by omega) (by omega)), h2.mono9 (fun c c1 => g2 c (by omega) (by omega)), g1, h4.mono (g2 614 (by decide) (by decide)).1 (g2 615 (by decide) (by decide)).1, h5.mono (g2 608 (by decide) (by decide)).1 (g2 609 (by decide) (by decide)).1, by rw [g3 6 (by decide)]; exact h6, by rw [g3 7 (by decide)]; exact h7⟩

set_option maxRecDepth 10000 in
set_option maxHeartbeats 4000000 in
theorem lc_0 {l : Launch} {Λ : fo_Lt} {K : fo_K} {cs ss ix b Ls : Nat} {xs : Nat → Int32} {I : fo_Mi} {D : fo_Md} {J : fo_Mj} {X : fo_Mi} (hfl : l.stackTraces = false) (C : fo_C Λ K cL_law RL 9) (hX : va_X b Ls xs K.2.2.1 K.2.2.1.heap) (hb : b < Λ.2.2.2) (hLs : Ls ≤ 2048) (hi : ix + 3 < Ls) {s : fa_S} {hs : List fa_S} {ks : Option fa_S} {L : List Nat} {m : Nat} {t : Nat → Nat} {e f : Int32} (hl : ll I D s hs ks L m t e f) (hM : fm_M I s hs ks L m t e f) (he9 : e = -1 ∨ ¬ e < 0) (hf9 : f = -1 ∨ ¬ f < 0) (hcs : cs + 3 ≤ 603072) (hss : ss + 18 ≤ 7211114) (k : lk_k l Λ K b ix cs ss) : fo_G l Λ room_1 K cs ss 228 [(5, .int (nI ix)), (0, .ref b), (1, .ref (Λ.2.2.1 605)), (2, .ref (Λ.2.2.1 616)), (3, .ref (Λ.2.2.1 629)), (4, .ref (Λ.2.2.1 630))] [] I D J X := by
  obtain ⟨np, lim, kd, par, n, v⟩ := s
  obtain ⟨w, hw, hwe⟩ := fw_ch (xs (ix + 1))
  refine fo_aload_n C dL_law_228 2 rfl rfl 229 rfl ?_
  refine fo_aload_n C dL_law_229 1 rfl rfl 230 rfl ?_
  refine fo_iload C dL_law_230 0 rfl 232 rfl ?_
  refine fo_iconst C dL_law_232 (nI 1) ki_1 233 rfl ?_
  refine fo_iadd C dL_law_233 (nI (ix + 1)) (nI_add _ _) 234 rfl ?_
  refine fo_sld C hX hb hLs (i := ix + 1) (by omega) dL_law_234 235 rfl ?_
  refine fo_i2c C dL_law_235 (nI w) hwe 236 rfl ?_
  refine fo_aload_n C dL_law_236 1 rfl rfl 237 rfl ?_
  refine fo_iload C dL_law_237 0 rfl 239 rfl ?_
  refine fo_iconst C dL_law_239 (nI 2) ki_2 240 rfl ?_
  refine fo_iadd C dL_law_240 (nI (ix + 2)) (nI_add _ _) 241 rfl ?_
  refine fo_sld C hX hb hLs (i := ix + 2) (by omega) dL_law_241 242 rfl ?_
  refine fo_aload_n C dL_law_242 4 rfl rfl 243 rfl ?_
  refine fo_qw C dL_law_243 (mL_addProphet hfl (w := w) (z := (xs (ix + 2))) hw hl) lw_L_148 rfl ⟨(Nat.le_of_ble_eq_true rfl), (Nat.le_of_ble_eq_true rfl)⟩ ⟨show (_ : Nat) ≤ 603072 by omega, show (_ : Nat) ≤ 7211114 by omega⟩ [] rfl (Nat.le_of_ble_eq_true rfl) 246 rfl (fun r1 I2 D3 J4 X5 p6 => ?_)
  obtain ⟨rfl, hl1, hg1, jj, rfl, hjj⟩ := p6
  replace hM := hM.g hg1
  refine fo_istore C dL_law_246 [(6, .int (nI (fg_add (np, lim, kd, par, n, v) w (xs (ix + 2))).1)), (5, .int (nI ix)), (0, .ref b), (1, .ref (Λ.2.2.1 605)), (2, .ref (Λ.2.2.1 616)), (3, .ref (Λ.2.2.1 629)), (4, .ref (Λ.2.2.1 630))] rfl (by decide) 248 rfl ?_
  refine fo_aload_n C dL_law_248 4 rfl rfl 249 rfl ?_
  refine fo_aload_n C dL_law_249 2 rfl rfl 250 rfl ?_
  refine fo_iload C dL_law_250 1 rfl 252 rfl ?_
  refine fo_iconst C dL_law_252 (nI 1) ki_1 253 rfl ?_
  refine fo_iadd C dL_law_253 (nI (ix + 1)) (nI_add _ _) 254 rfl ?_
  refine fo_sld C hX hb hLs (i := ix + 1) (by omega) dL_law_254 255 rfl ?_
  refine fo_i2c C dL_law_255 (nI w) hwe 256 rfl ?_
  refine fo_aload_n C dL_law_256 2 rfl rfl 257 rfl ?_
  refine fo_iload C dL_law_257 1 rfl 259 rfl ?_
  refine fo_iconst C dL_law_259 (nI 2) ki_2 260 rfl ?_
  refine fo_iadd C dL_law_260 (nI (ix + 2)) (nI_add _ _) 261 rfl ?_
  refine fo_sld C hX hb hLs (i := ix + 2) (by omega) dL_law_261 262 rfl ?_
  refine fo_qvi C dL_law_262 (mX7_addProphet (w := w) (z := (xs (ix + 2))) hw hM) lv_L_153 (by decide : fo_k 616 = 9) rfl (by decide) rfl ⟨(Nat.le_of_ble_eq_true rfl), (Nat.le_of_ble_eq_true rfl)⟩ ⟨show (_ : Nat) ≤ 603072 by omega, show (_ : Nat) ≤ 7211114 by omega⟩ [] rfl (Nat.le_of_ble_eq_true rfl) 265 rfl (fun r7 I8 D9 J10 X11 p12 => ?_)
  obtain ⟨rfl, hth, hM1, hg2, z2, z3, z4⟩ := p12
  obtain rfl := z2.symm
  obtain rfl := z3.symm
  obtain rfl := z4.symm
  replace hl := hl1.f hg2
  replace hM := hM1
  refine fo_istore C dL_law_265 [(7, .int ((fg_add (np, lim, kd, par, n, v) w (xs (ix + 2))).2.1)), (6, .int (nI (fg_add (np, lim, kd, par, n, v) w (xs (ix + 2))).1)), (5, .int (nI ix)), (0, .ref b), (1, .ref (Λ.2.2.1 605)), (2, .ref (Λ.2.2.1 616)), (3, .ref (Λ.2.2.1 629)), (4, .ref (Λ.2.2.1 630))] rfl (by decide) 267 rfl ?_
  refine fo_aload_n C dL_law_267 5 rfl rfl 268 rfl ?_
  refine fo_qvi C dL_law_268 (mX7_thrown (x := nI (fg_add (np, lim, kd, par, n, v) w (xs (ix + 2))).1) hth) lv_L_154 (by decide : fo_k 616 = 9) rfl (by decide) rfl ⟨(Nat.le_of_ble_eq_true rfl), (Nat.le_of_ble_eq_true rfl)⟩ ⟨show (_ : Nat) ≤ 603072 by omega, show (_ : Nat) ≤ 7211114 by omega⟩ [] rfl (Nat.le_of_ble_eq_true rfl) 271 rfl (fun r13 I14 D15 J16 X17 p18 => ?_)
  obtain ⟨rfl, z1, z2, z3, z4⟩ := p18
  obtain rfl := z1.symm
  obtain rfl := z2.symm
  obtain rfl := z3.symm
  obtain rfl := z4.symm
  refine fo_iload C dL_law_271 1 rfl 273 rfl ?_
  refine fo_icmp_eq C dL_law_273 278 (by decide) 276 rfl (fun c19 => ?_) (fun c19 => ?_)
  · refine fo_iload C dL_law_278 1 rfl 280 rfl ?_
    refine fo_if_ne C dL_law_280 295 (by decide) 283 rfl (fun c20 => ?_) (fun c20 => ?_)
    · refine fo_goto C dL_law_295 2683 (by decide) ?_
      refine fo_sub C [2, 3, 4, 5, 6, 7] (lv' := [(5, .int (nI ix)), (0, .ref b), (1, .ref (Λ.2.2.1 605)), (2, .ref (Λ.2.2.1 616)), (3, .ref (Λ.2.2.1 629)), (4, .ref (Λ.2.2.1 630))]) rfl ?_
      exact k _ _ _ _ _ _ _ _ _ _ _ _ _ _ (by omega) (by omega) hl hM he9 hf9
    · refine fo_aload_n C dL_law_283 6 rfl rfl 284 rfl ?_
      refine fo_iconst C dL_law_284 (nI 0) ki_0 285 rfl ?_
      refine fo_lald C dL_law_285 (by decide : fo_k 629 = 24) (by decide : 0 < fo_n 629) (((fg_add (np, lim, kd, par, n, v) w (xs (ix + 2))).2.1).toInt64) (by rw [fo_rs]; exact hjj c20) 286 rfl ?_
      refine fo_iload C dL_law_286 0 rfl 288 rfl ?_
      refine fo_i2l C dL_law_288 _ rfl 289 rfl ?_
      refine fo_lcmp C dL_law_289 (nI 0) (fw_ls (rfl)) 290 rfl ?_
      refine fo_nif_eq C (by omega) dL_law_290 295 (by decide) 293 rfl (fun c21 => ?_) (fun c21 => ?_)
      · refine fo_goto C dL_law_295 2683 (by decide) ?_
        refine fo_sub C [2, 3, 4, 5, 6, 7] (lv' := [(5, .int (nI ix)), (0, .ref b), (1, .ref (Λ.2.2.1 605)), (2, .ref (Λ.2.2.1 616)), (3, .ref (Λ.2.2.1 629)), (4, .ref (Λ.2.2.1 630))]) rfl ?_
        exact k _ _ _ _ _ _ _ _ _ _ _ _ _ _ (by omega) (by omega) hl hM he9 hf9
      · omega
  · exact absurd rfl c19
set_option maxRecDepth 10000 in
set_option maxHeartbeats 4000000 in
theorem lc_1 {l : Launch} {Λ : fo_Lt} {K : fo_K} {cs ss ix b Ls : Nat} {xs : Nat → Int32} {I : fo_Mi} {D : fo_Md} {J : fo_Mj} {X : fo_Mi} (hfl : l.stackTraces = false) (C : fo_C Λ K cL_law RL 9) (hX : va_X b Ls xs K.2.2.1 K.2.2.1.heap) (hb : b < Λ.2.2.2) (hLs : Ls ≤ 2048) (hi : ix + 3 < Ls) {s : fa_S} {hs : List fa_S} {ks : Option fa_S} {L : List Nat} {m : Nat} {t : Nat → Nat} {e f : Int32} (hl : ll I D s hs ks L m t e f) (hM : fm_M I s hs ks L m t e f) (he9 : e = -1 ∨ ¬ e < 0) (hf9 : f = -1 ∨ ¬ f < 0) (hcs : cs + 3 ≤ 603072) (hss : ss + 18 ≤ 7211114) (k : lk_k l Λ K b ix cs ss) : fo_G l Λ room_1 K cs ss 298 [(5, .int (nI ix)), (0, .ref b), (1, .ref (Λ.2.2.1 605)), (2, .ref (Λ.2.2.1 616)), (3, .ref (Λ.2.2.1 629)), (4, .ref (Λ.2.2.1 630))] [] I D J X := by
  obtain ⟨np, lim, kd, par, n, v⟩ := s
  refine fo_aload_n C dL_law_298 2 rfl rfl 299 rfl ?_
  refine fo_aload_n C dL_law_299 1 rfl rfl 300 rfl ?_
  refine fo_iload C dL_law_300 0 rfl 302 rfl ?_
  refine fo_iconst C dL_law_302 (nI 1) ki_1 303 rfl ?_
  refine fo_iadd C dL_law_303 (nI (ix + 1)) (nI_add _ _) 304 rfl ?_
  refine fo_sld C hX hb hLs (i := ix + 1) (by omega) dL_law_304 305 rfl ?_
  refine fo_aload_n C dL_law_305 1 rfl rfl 306 rfl ?_
  refine fo_iload C dL_law_306 0 rfl 308 rfl ?_
  refine fo_iconst C dL_law_308 (nI 2) ki_2 309 rfl ?_
  refine fo_iadd C dL_law_309 (nI (ix + 2)) (nI_add _ _) 310 rfl ?_
  refine fo_sld C hX hb hLs (i := ix + 2) (by omega) dL_law_310 311 rfl ?_
  refine fo_aload_n C dL_law_311 4 rfl rfl 312 rfl ?_
  refine fo_qw C dL_law_312 (mL_observe hfl (x := (xs (ix + 1))) (z := (xs (ix + 2))) hl) lw_L_157 rfl ⟨(Nat.le_of_ble_eq_true rfl), (Nat.le_of_ble_eq_true rfl)⟩ ⟨show (_ : Nat) ≤ 603072 by omega, show (_ : Nat) ≤ 7211114 by omega⟩ [] rfl (Nat.le_of_ble_eq_true rfl) 315 rfl (fun r1 I2 D3 J4 X5 p6 => ?_)
  obtain ⟨rfl, hl1, hg1, jj, rfl, hjj⟩ := p6
  replace hM := hM.g hg1
  refine fo_istore C dL_law_315 [(6, .int (nI (fg_see (np, lim, kd, par, n, v) (xs (ix + 1)) (xs (ix + 2))).1)), (5, .int (nI ix)), (0, .ref b), (1, .ref (Λ.2.2.1 605)), (2, .ref (Λ.2.2.1 616)), (3, .ref (Λ.2.2.1 629)), (4, .ref (Λ.2.2.1 630))] rfl (by decide) 317 rfl ?_
  refine fo_aload_n C dL_law_317 4 rfl rfl 318 rfl ?_
  refine fo_aload_n C dL_law_318 2 rfl rfl 319 rfl ?_
  refine fo_iload C dL_law_319 1 rfl 321 rfl ?_
  refine fo_iconst C dL_law_321 (nI 1) ki_1 322 rfl ?_
  refine fo_iadd C dL_law_322 (nI (ix + 1)) (nI_add _ _) 323 rfl ?_
  refine fo_sld C hX hb hLs (i := ix + 1) (by omega) dL_law_323 324 rfl ?_
  refine fo_aload_n C dL_law_324 2 rfl rfl 325 rfl ?_
  refine fo_iload C dL_law_325 1 rfl 327 rfl ?_
  refine fo_iconst C dL_law_327 (nI 2) ki_2 328 rfl ?_
  refine fo_iadd C dL_law_328 (nI (ix + 2)) (nI_add _ _) 329 rfl ?_
  refine fo_sld C hX hb hLs (i := ix + 2) (by omega) dL_law_329 330 rfl ?_
  refine fo_qvi C dL_law_330 (mX7_observe (x := (xs (ix + 1))) (z := (xs (ix + 2))) hM) lv_L_160 (by decide : fo_k 616 = 9) rfl (by decide) rfl ⟨(Nat.le_of_ble_eq_true rfl), (Nat.le_of_ble_eq_true rfl)⟩ ⟨show (_ : Nat) ≤ 603072 by omega, show (_ : Nat) ≤ 7211114 by omega⟩ [] rfl (Nat.le_of_ble_eq_true rfl) 333 rfl (fun r7 I8 D9 J10 X11 p12 => ?_)
  obtain ⟨rfl, hth, hM1, hg2, z2, z3, z4⟩ := p12
  obtain rfl := z2.symm
  obtain rfl := z3.symm
  obtain rfl := z4.symm
  replace hl := hl1.f hg2
  replace hM := hM1
  refine fo_istore C dL_law_333 [(7, .int ((fg_see (np, lim, kd, par, n, v) (xs (ix + 1)) (xs (ix + 2))).2.1)), (6, .int (nI (fg_see (np, lim, kd, par, n, v) (xs (ix + 1)) (xs (ix + 2))).1)), (5, .int (nI ix)), (0, .ref b), (1, .ref (Λ.2.2.1 605)), (2, .ref (Λ.2.2.1 616)), (3, .ref (Λ.2.2.1 629)), (4, .ref (Λ.2.2.1 630))] rfl (by decide) 335 rfl ?_
  refine fo_aload_n C dL_law_335 5 rfl rfl 336 rfl ?_
  refine fo_qvi C dL_law_336 (mX7_thrown (x := nI (fg_see (np, lim, kd, par, n, v) (xs (ix + 1)) (xs (ix + 2))).1) hth) lv_L_154 (by decide : fo_k 616 = 9) rfl (by decide) rfl ⟨(Nat.le_of_ble_eq_true rfl), (Nat.le_of_ble_eq_true rfl)⟩ ⟨show (_ : Nat) ≤ 603072 by omega, show (_ : Nat) ≤ 7211114 by omega⟩ [] rfl (Nat.le_of_ble_eq_true rfl) 339 rfl (fun r13 I14 D15 J16 X17 p18 => ?_)
  obtain ⟨rfl, z1, z2, z3, z4⟩ := p18
  obtain rfl := z1.symm
  obtain rfl := z2.symm
  obtain rfl := z3.symm
  obtain rfl := z4.symm
  refine fo_iload C dL_law_339 1 rfl 341 rfl ?_
  refine fo_icmp_eq C dL_law_341 346 (by decide) 344 rfl (fun c19 => ?_) (fun c19 => ?_)
  · refine fo_iload C dL_law_346 1 rfl 348 rfl ?_
    refine fo_if_ne C dL_law_348 363 (by decide) 351 rfl (fun c20 => ?_) (fun c20 => ?_)
    · refine fo_goto C dL_law_363 2683 (by decide) ?_
      refine fo_sub C [2, 3, 4, 5, 6, 7] (lv' := [(5, .int (nI ix)), (0, .ref b), (1, .ref (Λ.2.2.1 605)), (2, .ref (Λ.2.2.1 616)), (3, .ref (Λ.2.2.1 629)), (4, .ref (Λ.2.2.1 630))]) rfl ?_
      exact k _ _ _ _ _ _ _ _ _ _ _ _ _ _ (by omega) (by omega) hl hM he9 hf9
    · refine fo_aload_n C dL_law_351 6 rfl rfl 352 rfl ?_
      refine fo_iconst C dL_law_352 (nI 0) ki_0 353 rfl ?_
      refine fo_lald C dL_law_353 (by decide : fo_k 629 = 24) (by decide : 0 < fo_n 629) (((fg_see (np, lim, kd, par, n, v) (xs (ix + 1)) (xs (ix + 2))).2.1).toInt64) (by rw [fo_rs]; exact hjj c20) 354 rfl ?_
      refine fo_iload C dL_law_354 0 rfl 356 rfl ?_
      refine fo_i2l C dL_law_356 _ rfl 357 rfl ?_
      refine fo_lcmp C dL_law_357 (nI 0) (fw_ls (rfl)) 358 rfl ?_
      refine fo_nif_eq C (by omega) dL_law_358 363 (by decide) 361 rfl (fun c21 => ?_) (fun c21 => ?_)
      · refine fo_goto C dL_law_363 2683 (by decide) ?_
        refine fo_sub C [2, 3, 4, 5, 6, 7] (lv' := [(5, .int (nI ix)), (0, .ref b), (1, .ref (Λ.2.2.1 605)), (2, .ref (Λ.2.2.1 616)), (3, .ref (Λ.2.2.1 629)), (4, .ref (Λ.2.2.1 630))]) rfl ?_
        exact k _ _ _ _ _ _ _ _ _ _ _ _ _ _ (by omega) (by omega) hl hM he9 hf9
      · omega
  · exact absurd rfl c19
set_option maxRecDepth 10000 in
set_option maxHeartbeats 4000000 in
theorem lc_2 {l : Launch} {Λ : fo_Lt} {K : fo_K} {cs ss ix b Ls : Nat} {xs : Nat → Int32} {I : fo_Mi} {D : fo_Md} {J : fo_Mj} {X : fo_Mi} (hfl : l.stackTraces = false) (C : fo_C Λ K cL_law RL 9) (hX : va_X b Ls xs K.2.2.1 K.2.2.1.heap) (hb : b < Λ.2.2.2) (hLs : Ls ≤ 2048) (hi : ix + 3 < Ls) {s : fa_S} {hs : List fa_S} {ks : Option fa_S} {L : List Nat} {m : Nat} {t : Nat → Nat} {e f : Int32} (hl : ll I D s hs ks L m t e f) (hM : fm_M I s hs ks L m t e f) (he9 : e = -1 ∨ ¬ e < 0) (hf9 : f = -1 ∨ ¬ f < 0) (hcs : cs + 3 ≤ 603072) (hss : ss + 18 ≤ 7211114) (k : lk_k l Λ K b ix cs ss) : fo_G l Λ room_1 K cs ss 366 [(5, .int (nI ix)), (0, .ref b), (1, .ref (Λ.2.2.1 605)), (2, .ref (Λ.2.2.1 616)), (3, .ref (Λ.2.2.1 629)), (4, .ref (Λ.2.2.1 630))] [] I D J X := by
  obtain ⟨np, lim, kd, par, n, v⟩ := s
  refine fo_aload_n C dL_law_366 2 rfl rfl 367 rfl ?_
  refine fo_aload_n C dL_law_367 1 rfl rfl 368 rfl ?_
  refine fo_iload C dL_law_368 0 rfl 370 rfl ?_
  refine fo_iconst C dL_law_370 (nI 1) ki_1 371 rfl ?_
  refine fo_iadd C dL_law_371 (nI (ix + 1)) (nI_add _ _) 372 rfl ?_
  refine fo_sld C hX hb hLs (i := ix + 1) (by omega) dL_law_372 373 rfl ?_
  refine fo_aload_n C dL_law_373 4 rfl rfl 374 rfl ?_
  refine fo_qw C dL_law_374 (mL_setLimit hfl (z := (xs (ix + 1))) hl) lw_L_161 rfl ⟨(Nat.le_of_ble_eq_true rfl), (Nat.le_of_ble_eq_true rfl)⟩ ⟨show (_ : Nat) ≤ 603072 by omega, show (_ : Nat) ≤ 7211114 by omega⟩ [] rfl (Nat.le_of_ble_eq_true rfl) 377 rfl (fun r1 I2 D3 J4 X5 p6 => ?_)
  obtain ⟨rfl, hl1, hg1, jj, rfl, hjj⟩ := p6
  replace hM := hM.g hg1
  refine fo_istore C dL_law_377 [(6, .int (nI (fg_lim (np, lim, kd, par, n, v) (xs (ix + 1))).1)), (5, .int (nI ix)), (0, .ref b), (1, .ref (Λ.2.2.1 605)), (2, .ref (Λ.2.2.1 616)), (3, .ref (Λ.2.2.1 629)), (4, .ref (Λ.2.2.1 630))] rfl (by decide) 379 rfl ?_
  refine fo_aload_n C dL_law_379 4 rfl rfl 380 rfl ?_
  refine fo_aload_n C dL_law_380 2 rfl rfl 381 rfl ?_
  refine fo_iload C dL_law_381 1 rfl 383 rfl ?_
  refine fo_iconst C dL_law_383 (nI 1) ki_1 384 rfl ?_
  refine fo_iadd C dL_law_384 (nI (ix + 1)) (nI_add _ _) 385 rfl ?_
  refine fo_sld C hX hb hLs (i := ix + 1) (by omega) dL_law_385 386 rfl ?_
  refine fo_qvi C dL_law_386 (mX7_setLimit (z := (xs (ix + 1))) hM) lv_L_164 (by decide : fo_k 616 = 9) rfl (by decide) rfl ⟨(Nat.le_of_ble_eq_true rfl), (Nat.le_of_ble_eq_true rfl)⟩ ⟨show (_ : Nat) ≤ 603072 by omega, show (_ : Nat) ≤ 7211114 by omega⟩ [] rfl (Nat.le_of_ble_eq_true rfl) 389 rfl (fun r7 I8 D9 J10 X11 p12 => ?_)
  obtain ⟨rfl, hth, hM1, hg2, z2, z3, z4⟩ := p12
  obtain rfl := z2.symm
  obtain rfl := z3.symm
  obtain rfl := z4.symm
  replace hl := hl1.f hg2
  replace hM := hM1
  refine fo_istore C dL_law_389 [(7, .int ((fg_lim (np, lim, kd, par, n, v) (xs (ix + 1))).2.1)), (6, .int (nI (fg_lim (np, lim, kd, par, n, v) (xs (ix + 1))).1)), (5, .int (nI ix)), (0, .ref b), (1, .ref (Λ.2.2.1 605)), (2, .ref (Λ.2.2.1 616)), (3, .ref (Λ.2.2.1 629)), (4, .ref (Λ.2.2.1 630))] rfl (by decide) 391 rfl ?_
  refine fo_aload_n C dL_law_391 5 rfl rfl 392 rfl ?_
  refine fo_qvi C dL_law_392 (mX7_thrown (x := nI (fg_lim (np, lim, kd, par, n, v) (xs (ix + 1))).1) hth) lv_L_154 (by decide : fo_k 616 = 9) rfl (by decide) rfl ⟨(Nat.le_of_ble_eq_true rfl), (Nat.le_of_ble_eq_true rfl)⟩ ⟨show (_ : Nat) ≤ 603072 by omega, show (_ : Nat) ≤ 7211114 by omega⟩ [] rfl (Nat.le_of_ble_eq_true rfl) 395 rfl (fun r13 I14 D15 J16 X17 p18 => ?_)
  obtain ⟨rfl, z1, z2, z3, z4⟩ := p18
  obtain rfl := z1.symm
  obtain rfl := z2.symm
  obtain rfl := z3.symm
  obtain rfl := z4.symm
  refine fo_iload C dL_law_395 1 rfl 397 rfl ?_
  refine fo_icmp_eq C dL_law_397 402 (by decide) 400 rfl (fun c19 => ?_) (fun c19 => ?_)
  · refine fo_iload C dL_law_402 1 rfl 404 rfl ?_
    refine fo_if_ne C dL_law_404 419 (by decide) 407 rfl (fun c20 => ?_) (fun c20 => ?_)
    · refine fo_goto C dL_law_419 2683 (by decide) ?_
      refine fo_sub C [2, 3, 4, 5, 6, 7] (lv' := [(5, .int (nI ix)), (0, .ref b), (1, .ref (Λ.2.2.1 605)), (2, .ref (Λ.2.2.1 616)), (3, .ref (Λ.2.2.1 629)), (4, .ref (Λ.2.2.1 630))]) rfl ?_
      exact k _ _ _ _ _ _ _ _ _ _ _ _ _ _ (by omega) (by omega) hl hM he9 hf9
    · refine fo_aload_n C dL_law_407 6 rfl rfl 408 rfl ?_
      refine fo_iconst C dL_law_408 (nI 0) ki_0 409 rfl ?_
      refine fo_lald C dL_law_409 (by decide : fo_k 629 = 24) (by decide : 0 < fo_n 629) (((fg_lim (np, lim, kd, par, n, v) (xs (ix + 1))).2.1).toInt64) (by rw [fo_rs]; exact hjj c20) 410 rfl ?_
      refine fo_iload C dL_law_410 0 rfl 412 rfl ?_
      refine fo_i2l C dL_law_412 _ rfl 413 rfl ?_
      refine fo_lcmp C dL_law_413 (nI 0) (fw_ls (rfl)) 414 rfl ?_
      refine fo_nif_eq C (by omega) dL_law_414 419 (by decide) 417 rfl (fun c21 => ?_) (fun c21 => ?_)
      · refine fo_goto C dL_law_419 2683 (by decide) ?_
        refine fo_sub C [2, 3, 4, 5, 6, 7] (lv' := [(5, .int (nI ix)), (0, .ref b), (1, .ref (Λ.2.2.1 605)), (2, .ref (Λ.2.2.1 616)), (3, .ref (Λ.2.2.1 629)), (4, .ref (Λ.2.2.1 630))]) rfl ?_
        exact k _ _ _ _ _ _ _ _ _ _ _ _ _ _ (by omega) (by omega) hl hM he9 hf9
      · omega
  · exact absurd rfl c19
set_option maxRecDepth 10000 in
set_option maxHeartbeats 4000000 in
theorem lc_3 {l : Launch} {Λ : fo_Lt} {K : fo_K} {cs ss ix b Ls : Nat} {xs : Nat → Int32} {I : fo_Mi} {D : fo_Md} {J : fo_Mj} {X : fo_Mi} (hfl : l.stackTraces = false) (C : fo_C Λ K cL_law RL 9) (hX : va_X b Ls xs K.2.2.1 K.2.2.1.heap) (hb : b < Λ.2.2.2) (hLs : Ls ≤ 2048) (hi : ix + 3 < Ls) {s : fa_S} {hs : List fa_S} {ks : Option fa_S} {L : List Nat} {m : Nat} {t : Nat → Nat} {e f : Int32} (hl : ll I D s hs ks L m t e f) (hM : fm_M I s hs ks L m t e f) (he9 : e = -1 ∨ ¬ e < 0) (hf9 : f = -1 ∨ ¬ f < 0) (hcs : cs + 3 ≤ 603072) (hss : ss + 18 ≤ 7211114) (k : lk_k l Λ K b ix cs ss) : fo_G l Λ room_1 K cs ss 422 [(5, .int (nI ix)), (0, .ref b), (1, .ref (Λ.2.2.1 605)), (2, .ref (Λ.2.2.1 616)), (3, .ref (Λ.2.2.1 629)), (4, .ref (Λ.2.2.1 630))] [] I D J X := by
  obtain ⟨np, lim, kd, par, n, v⟩ := s
  refine fo_aload_n C dL_law_422 2 rfl rfl 423 rfl ?_
  refine fo_aload_n C dL_law_423 1 rfl rfl 424 rfl ?_
  refine fo_iload C dL_law_424 0 rfl 426 rfl ?_
  refine fo_iconst C dL_law_426 (nI 1) ki_1 427 rfl ?_
  refine fo_iadd C dL_law_427 (nI (ix + 1)) (nI_add _ _) 428 rfl ?_
  refine fo_sld C hX hb hLs (i := ix + 1) (by omega) dL_law_428 429 rfl ?_
  refine fo_aload_n C dL_law_429 4 rfl rfl 430 rfl ?_
  refine fo_qw C dL_law_430 (mL_forget hfl (x := (xs (ix + 1))) hl) lw_L_165 rfl ⟨(Nat.le_of_ble_eq_true rfl), (Nat.le_of_ble_eq_true rfl)⟩ ⟨show (_ : Nat) ≤ 603072 by omega, show (_ : Nat) ≤ 7211114 by omega⟩ [] rfl (Nat.le_of_ble_eq_true rfl) 433 rfl (fun r1 I2 D3 J4 X5 p6 => ?_)
  obtain ⟨rfl, hl1, hg1, jj, rfl, hjj⟩ := p6
  replace hM := hM.g hg1
  refine fo_istore C dL_law_433 [(6, .int (nI (fg_for (np, lim, kd, par, n, v) (xs (ix + 1))).1)), (5, .int (nI ix)), (0, .ref b), (1, .ref (Λ.2.2.1 605)), (2, .ref (Λ.2.2.1 616)), (3, .ref (Λ.2.2.1 629)), (4, .ref (Λ.2.2.1 630))] rfl (by decide) 435 rfl ?_
  refine fo_aload_n C dL_law_435 4 rfl rfl 436 rfl ?_
  refine fo_aload_n C dL_law_436 2 rfl rfl 437 rfl ?_
  refine fo_iload C dL_law_437 1 rfl 439 rfl ?_
  refine fo_iconst C dL_law_439 (nI 1) ki_1 440 rfl ?_
  refine fo_iadd C dL_law_440 (nI (ix + 1)) (nI_add _ _) 441 rfl ?_
  refine fo_sld C hX hb hLs (i := ix + 1) (by omega) dL_law_441 442 rfl ?_
  refine fo_qvi C dL_law_442 (mX7_forget (x := (xs (ix + 1))) hM) lv_L_167 (by decide : fo_k 616 = 9) rfl (by decide) rfl ⟨(Nat.le_of_ble_eq_true rfl), (Nat.le_of_ble_eq_true rfl)⟩ ⟨show (_ : Nat) ≤ 603072 by omega, show (_ : Nat) ≤ 7211114 by omega⟩ [] rfl (Nat.le_of_ble_eq_true rfl) 445 rfl (fun r7 I8 D9 J10 X11 p12 => ?_)
  obtain ⟨rfl, hth, hM1, hg2, z2, z3, z4⟩ := p12
  obtain rfl := z2.symm
  obtain rfl := z3.symm
  obtain rfl := z4.symm
  replace hl := hl1.f hg2
  replace hM := hM1
  refine fo_istore C dL_law_445 [(7, .int ((fg_for (np, lim, kd, par, n, v) (xs (ix + 1))).2.1)), (6, .int (nI (fg_for (np, lim, kd, par, n, v) (xs (ix + 1))).1)), (5, .int (nI ix)), (0, .ref b), (1, .ref (Λ.2.2.1 605)), (2, .ref (Λ.2.2.1 616)), (3, .ref (Λ.2.2.1 629)), (4, .ref (Λ.2.2.1 630))] rfl (by decide) 447 rfl ?_
  refine fo_aload_n C dL_law_447 5 rfl rfl 448 rfl ?_
  refine fo_qvi C dL_law_448 (mX7_thrown (x := nI (fg_for (np, lim, kd, par, n, v) (xs (ix + 1))).1) hth) lv_L_154 (by decide : fo_k 616 = 9) rfl (by decide) rfl ⟨(Nat.le_of_ble_eq_true rfl), (Nat.le_of_ble_eq_true rfl)⟩ ⟨show (_ : Nat) ≤ 603072 by omega, show (_ : Nat) ≤ 7211114 by omega⟩ [] rfl (Nat.le_of_ble_eq_true rfl) 451 rfl (fun r13 I14 D15 J16 X17 p18 => ?_)
  obtain ⟨rfl, z1, z2, z3, z4⟩ := p18
  obtain rfl := z1.symm
  obtain rfl := z2.symm
  obtain rfl := z3.symm
  obtain rfl := z4.symm
  refine fo_iload C dL_law_451 1 rfl 453 rfl ?_
  refine fo_icmp_eq C dL_law_453 458 (by decide) 456 rfl (fun c19 => ?_) (fun c19 => ?_)
  · refine fo_iload C dL_law_458 1 rfl 460 rfl ?_
    refine fo_if_ne C dL_law_460 475 (by decide) 463 rfl (fun c20 => ?_) (fun c20 => ?_)
    · refine fo_goto C dL_law_475 2683 (by decide) ?_
      refine fo_sub C [2, 3, 4, 5, 6, 7] (lv' := [(5, .int (nI ix)), (0, .ref b), (1, .ref (Λ.2.2.1 605)), (2, .ref (Λ.2.2.1 616)), (3, .ref (Λ.2.2.1 629)), (4, .ref (Λ.2.2.1 630))]) rfl ?_
      exact k _ _ _ _ _ _ _ _ _ _ _ _ _ _ (by omega) (by omega) hl hM he9 hf9
    · refine fo_aload_n C dL_law_463 6 rfl rfl 464 rfl ?_
      refine fo_iconst C dL_law_464 (nI 0) ki_0 465 rfl ?_
      refine fo_lald C dL_law_465 (by decide : fo_k 629 = 24) (by decide : 0 < fo_n 629) (((fg_for (np, lim, kd, par, n, v) (xs (ix + 1))).2.1).toInt64) (by rw [fo_rs]; exact hjj c20) 466 rfl ?_
      refine fo_iload C dL_law_466 0 rfl 468 rfl ?_
      refine fo_i2l C dL_law_468 _ rfl 469 rfl ?_
      refine fo_lcmp C dL_law_469 (nI 0) (fw_ls (rfl)) 470 rfl ?_
      refine fo_nif_eq C (by omega) dL_law_470 475 (by decide) 473 rfl (fun c21 => ?_) (fun c21 => ?_)
      · refine fo_goto C dL_law_475 2683 (by decide) ?_
        refine fo_sub C [2, 3, 4, 5, 6, 7] (lv' := [(5, .int (nI ix)), (0, .ref b), (1, .ref (Λ.2.2.1 605)), (2, .ref (Λ.2.2.1 616)), (3, .ref (Λ.2.2.1 629)), (4, .ref (Λ.2.2.1 630))]) rfl ?_
        exact k _ _ _ _ _ _ _ _ _ _ _ _ _ _ (by omega) (by omega) hl hM he9 hf9
      · omega
  · exact absurd rfl c19
set_option maxRecDepth 10000 in
set_option maxHeartbeats 4000000 in
theorem lc_4 {l : Launch} {Λ : fo_Lt} {K : fo_K} {cs ss ix b Ls : Nat} {xs : Nat → Int32} {I : fo_Mi} {D : fo_Md} {J : fo_Mj} {X : fo_Mi} (hfl : l.stackTraces = false) (C : fo_C Λ K cL_law RL 9) (hX : va_X b Ls xs K.2.2.1 K.2.2.1.heap) (hb : b < Λ.2.2.2) (hLs : Ls ≤ 2048) (hi : ix + 3 < Ls) {s : fa_S} {hs : List fa_S} {ks : Option fa_S} {L : List Nat} {m : Nat} {t : Nat → Nat} {e f : Int32} (hl : ll I D s hs ks L m t e f) (hM : fm_M I s hs ks L m t e f) (he9 : e = -1 ∨ ¬ e < 0) (hf9 : f = -1 ∨ ¬ f < 0) (hcs : cs + 3 ≤ 603072) (hss : ss + 18 ≤ 7211114) (k : lk_k l Λ K b ix cs ss) : fo_G l Λ room_1 K cs ss 478 [(5, .int (nI ix)), (0, .ref b), (1, .ref (Λ.2.2.1 605)), (2, .ref (Λ.2.2.1 616)), (3, .ref (Λ.2.2.1 629)), (4, .ref (Λ.2.2.1 630))] [] I D J X := by
  obtain ⟨np, lim, kd, par, n, v⟩ := s
  refine fo_aload_n C dL_law_478 2 rfl rfl 479 rfl ?_
  refine fo_aload_n C dL_law_479 1 rfl rfl 480 rfl ?_
  refine fo_iload C dL_law_480 0 rfl 482 rfl ?_
  refine fo_iconst C dL_law_482 (nI 1) ki_1 483 rfl ?_
  refine fo_iadd C dL_law_483 (nI (ix + 1)) (nI_add _ _) 484 rfl ?_
  refine fo_sld C hX hb hLs (i := ix + 1) (by omega) dL_law_484 485 rfl ?_
  refine fo_aload_n C dL_law_485 4 rfl rfl 486 rfl ?_
  refine fo_qw C dL_law_486 (mL_days hfl (x := (xs (ix + 1))) hl.1) lw_L_168 rfl ⟨(Nat.le_of_ble_eq_true rfl), (Nat.le_of_ble_eq_true rfl)⟩ ⟨show (_ : Nat) ≤ 603072 by omega, show (_ : Nat) ≤ 7211114 by omega⟩ [] rfl (Nat.le_of_ble_eq_true rfl) 489 rfl (fun r1 I2 D3 J4 X5 p6 => ?_)
  obtain ⟨rfl, z1, z2, jj, rfl, hjj⟩ := p6
  obtain rfl := z1.symm
  obtain rfl := z2.symm
  refine fo_istore C dL_law_489 [(6, .int (nI (fg_se (xs (ix + 1)) (nI 0) (fun k => (0, nI (n k)))).1)), (5, .int (nI ix)), (0, .ref b), (1, .ref (Λ.2.2.1 605)), (2, .ref (Λ.2.2.1 616)), (3, .ref (Λ.2.2.1 629)), (4, .ref (Λ.2.2.1 630))] rfl (by decide) 491 rfl ?_
  refine fo_aload_n C dL_law_491 4 rfl rfl 492 rfl ?_
  refine fo_aload_n C dL_law_492 2 rfl rfl 493 rfl ?_
  refine fo_iload C dL_law_493 1 rfl 495 rfl ?_
  refine fo_iconst C dL_law_495 (nI 1) ki_1 496 rfl ?_
  refine fo_iadd C dL_law_496 (nI (ix + 1)) (nI_add _ _) 497 rfl ?_
  refine fo_sld C hX hb hLs (i := ix + 1) (by omega) dL_law_497 498 rfl ?_
  refine fo_qvi C dL_law_498 (mX7_days (x := (xs (ix + 1))) hM.1) lv_L_170 (by decide : fo_k 616 = 9) rfl (by decide) rfl ⟨(Nat.le_of_ble_eq_true rfl), (Nat.le_of_ble_eq_true rfl)⟩ ⟨show (_ : Nat) ≤ 603072 by omega, show (_ : Nat) ≤ 7211114 by omega⟩ [] rfl (Nat.le_of_ble_eq_true rfl) 501 rfl (fun r7 I8 D9 J10 X11 p12 => ?_)
  obtain ⟨rfl, z0, z2, z3⟩ := p12
  subst z0
  obtain rfl := z2.symm
  obtain rfl := z3.symm
  have hth : (fo_r I 616 (upd (I 616) 5 (nI (fg_se (xs (ix + 1)) (nI 0) (fun k => (0, nI (n k)))).1))) 616 5 = nI (fg_se (xs (ix + 1)) (nI 0) (fun k => (0, nI (n k)))).1 := by rw [fo_rs, pk_us]
  replace hl := hl.th (x := nI (fg_se (xs (ix + 1)) (nI 0) (fun k => (0, nI (n k)))).1)
  replace hM := hM.th (x := nI (fg_se (xs (ix + 1)) (nI 0) (fun k => (0, nI (n k)))).1)
  refine fo_istore C dL_law_501 [(7, .int ((fg_se (xs (ix + 1)) (nI 0) (fun k => (0, nI (n k)))).2)), (6, .int (nI (fg_se (xs (ix + 1)) (nI 0) (fun k => (0, nI (n k)))).1)), (5, .int (nI ix)), (0, .ref b), (1, .ref (Λ.2.2.1 605)), (2, .ref (Λ.2.2.1 616)), (3, .ref (Λ.2.2.1 629)), (4, .ref (Λ.2.2.1 630))] rfl (by decide) 503 rfl ?_
  refine fo_aload_n C dL_law_503 5 rfl rfl 504 rfl ?_
  refine fo_qvi C dL_law_504 (mX7_thrown (x := nI (fg_se (xs (ix + 1)) (nI 0) (fun k => (0, nI (n k)))).1) hth) lv_L_154 (by decide : fo_k 616 = 9) rfl (by decide) rfl ⟨(Nat.le_of_ble_eq_true rfl), (Nat.le_of_ble_eq_true rfl)⟩ ⟨show (_ : Nat) ≤ 603072 by omega, show (_ : Nat) ≤ 7211114 by omega⟩ [] rfl (Nat.le_of_ble_eq_true rfl) 507 rfl (fun r13 I14 D15 J16 X17 p18 => ?_)
  obtain ⟨rfl, z1, z2, z3, z4⟩ := p18
  obtain rfl := z1.symm
  obtain rfl := z2.symm
  obtain rfl := z3.symm
  obtain rfl := z4.symm
  refine fo_iload C dL_law_507 1 rfl 509 rfl ?_
  refine fo_icmp_eq C dL_law_509 514 (by decide) 512 rfl (fun c19 => ?_) (fun c19 => ?_)
  · refine fo_iload C dL_law_514 1 rfl 516 rfl ?_
    refine fo_if_ne C dL_law_516 531 (by decide) 519 rfl (fun c20 => ?_) (fun c20 => ?_)
    · refine fo_goto C dL_law_531 2683 (by decide) ?_
      refine fo_sub C [2, 3, 4, 5, 6, 7] (lv' := [(5, .int (nI ix)), (0, .ref b), (1, .ref (Λ.2.2.1 605)), (2, .ref (Λ.2.2.1 616)), (3, .ref (Λ.2.2.1 629)), (4, .ref (Λ.2.2.1 630))]) rfl ?_
      exact k _ _ _ _ _ _ _ _ _ _ _ _ _ _ (by omega) (by omega) hl hM he9 hf9
    · refine fo_aload_n C dL_law_519 6 rfl rfl 520 rfl ?_
      refine fo_iconst C dL_law_520 (nI 0) ki_0 521 rfl ?_
      refine fo_lald C dL_law_521 (by decide : fo_k 629 = 24) (by decide : 0 < fo_n 629) (((fg_se (xs (ix + 1)) (nI 0) (fun k => (0, nI (n k)))).2).toInt64) (by rw [fo_rs]; exact hjj c20) 522 rfl ?_
      refine fo_iload C dL_law_522 0 rfl 524 rfl ?_
      refine fo_i2l C dL_law_524 _ rfl 525 rfl ?_
      refine fo_lcmp C dL_law_525 (nI 0) (fw_ls (rfl)) 526 rfl ?_
      refine fo_nif_eq C (by omega) dL_law_526 531 (by decide) 529 rfl (fun c21 => ?_) (fun c21 => ?_)
      · refine fo_goto C dL_law_531 2683 (by decide) ?_
        refine fo_sub C [2, 3, 4, 5, 6, 7] (lv' := [(5, .int (nI ix)), (0, .ref b), (1, .ref (Λ.2.2.1 605)), (2, .ref (Λ.2.2.1 616)), (3, .ref (Λ.2.2.1 629)), (4, .ref (Λ.2.2.1 630))]) rfl ?_
        exact k _ _ _ _ _ _ _ _ _ _ _ _ _ _ (by omega) (by omega) hl hM he9 hf9
      · omega
  · exact absurd rfl c19
set_option maxRecDepth 10000 in
set_option maxHeartbeats 4000000 in
theorem lc_5 {l : Launch} {Λ : fo_Lt} {K : fo_K} {cs ss ix b Ls : Nat} {xs : Nat → Int32} {I : fo_Mi} {D : fo_Md} {J : fo_Mj} {X : fo_Mi} (hfl : l.stackTraces = false) (C : fo_C Λ K cL_law RL 9) (hX : va_X b Ls xs K.2.2.1 K.2.2.1.heap) (hb : b < Λ.2.2.2) (hLs : Ls ≤ 2048) (hi : ix + 3 < Ls) {s : fa_S} {hs : List fa_S} {ks : Option fa_S} {L : List Nat} {m : Nat} {t : Nat → Nat} {e f : Int32} (hl : ll I D s hs ks L m t e f) (hM : fm_M I s hs ks L m t e f) (he9 : e = -1 ∨ ¬ e < 0) (hf9 : f = -1 ∨ ¬ f < 0) (hcs : cs + 3 ≤ 603072) (hss : ss + 18 ≤ 7211114) (k : lk_k l Λ K b ix cs ss) : fo_G l Λ room_1 K cs ss 534 [(5, .int (nI ix)), (0, .ref b), (1, .ref (Λ.2.2.1 605)), (2, .ref (Λ.2.2.1 616)), (3, .ref (Λ.2.2.1 629)), (4, .ref (Λ.2.2.1 630))] [] I D J X := by
  obtain ⟨np, lim, kd, par, n, v⟩ := s
  refine fo_aload_n C dL_law_534 2 rfl rfl 535 rfl ?_
  refine fo_aload_n C dL_law_535 1 rfl rfl 536 rfl ?_
  refine fo_iload C dL_law_536 0 rfl 538 rfl ?_
  refine fo_iconst C dL_law_538 (nI 1) ki_1 539 rfl ?_
  refine fo_iadd C dL_law_539 (nI (ix + 1)) (nI_add _ _) 540 rfl ?_
  refine fo_sld C hX hb hLs (i := ix + 1) (by omega) dL_law_540 541 rfl ?_
  refine fo_aload_n C dL_law_541 1 rfl rfl 542 rfl ?_
  refine fo_iload C dL_law_542 0 rfl 544 rfl ?_
  refine fo_iconst C dL_law_544 (nI 2) ki_2 545 rfl ?_
  refine fo_iadd C dL_law_545 (nI (ix + 2)) (nI_add _ _) 546 rfl ?_
  refine fo_sld C hX hb hLs (i := ix + 2) (by omega) dL_law_546 547 rfl ?_
  refine fo_aload_n C dL_law_547 4 rfl rfl 548 rfl ?_
  refine fo_qw C dL_law_548 (mL_value hfl (x := (xs (ix + 1))) (z := (xs (ix + 2))) hl.1) lw_L_171 rfl ⟨(Nat.le_of_ble_eq_true rfl), (Nat.le_of_ble_eq_true rfl)⟩ ⟨show (_ : Nat) ≤ 603072 by omega, show (_ : Nat) ≤ 7211114 by omega⟩ [] rfl (Nat.le_of_ble_eq_true rfl) 551 rfl (fun r1 I2 D3 J4 X5 p6 => ?_)
  obtain ⟨rfl, z1, z2, jj, rfl, hjj⟩ := p6
  obtain rfl := z1.symm
  obtain rfl := z2.symm
  refine fo_istore C dL_law_551 [(6, .int (nI (fg_nv n (xs (ix + 1)) (xs (ix + 2)) (nI 0) (fun k d => nI (v k d))).1)), (5, .int (nI ix)), (0, .ref b), (1, .ref (Λ.2.2.1 605)), (2, .ref (Λ.2.2.1 616)), (3, .ref (Λ.2.2.1 629)), (4, .ref (Λ.2.2.1 630))] rfl (by decide) 553 rfl ?_
  refine fo_aload_n C dL_law_553 4 rfl rfl 554 rfl ?_
  refine fo_aload_n C dL_law_554 2 rfl rfl 555 rfl ?_
  refine fo_iload C dL_law_555 1 rfl 557 rfl ?_
  refine fo_iconst C dL_law_557 (nI 1) ki_1 558 rfl ?_
  refine fo_iadd C dL_law_558 (nI (ix + 1)) (nI_add _ _) 559 rfl ?_
  refine fo_sld C hX hb hLs (i := ix + 1) (by omega) dL_law_559 560 rfl ?_
  refine fo_aload_n C dL_law_560 2 rfl rfl 561 rfl ?_
  refine fo_iload C dL_law_561 1 rfl 563 rfl ?_
  refine fo_iconst C dL_law_563 (nI 2) ki_2 564 rfl ?_
  refine fo_iadd C dL_law_564 (nI (ix + 2)) (nI_add _ _) 565 rfl ?_
  refine fo_sld C hX hb hLs (i := ix + 2) (by omega) dL_law_565 566 rfl ?_
  refine fo_qvi C dL_law_566 (mX7_value (x := (xs (ix + 1))) (z := (xs (ix + 2))) hM.1) lv_L_173 (by decide : fo_k 616 = 9) rfl (by decide) rfl ⟨(Nat.le_of_ble_eq_true rfl), (Nat.le_of_ble_eq_true rfl)⟩ ⟨show (_ : Nat) ≤ 603072 by omega, show (_ : Nat) ≤ 7211114 by omega⟩ [] rfl (Nat.le_of_ble_eq_true rfl) 569 rfl (fun r7 I8 D9 J10 X11 p12 => ?_)
  obtain ⟨rfl, z0, z2, z3⟩ := p12
  subst z0
  obtain rfl := z2.symm
  obtain rfl := z3.symm
  have hth : (fo_r I 616 (upd (I 616) 5 (nI (fg_nv n (xs (ix + 1)) (xs (ix + 2)) (nI 0) (fun k d => nI (v k d))).1))) 616 5 = nI (fg_nv n (xs (ix + 1)) (xs (ix + 2)) (nI 0) (fun k d => nI (v k d))).1 := by rw [fo_rs, pk_us]
  replace hl := hl.th (x := nI (fg_nv n (xs (ix + 1)) (xs (ix + 2)) (nI 0) (fun k d => nI (v k d))).1)
  replace hM := hM.th (x := nI (fg_nv n (xs (ix + 1)) (xs (ix + 2)) (nI 0) (fun k d => nI (v k d))).1)
  refine fo_istore C dL_law_569 [(7, .int ((fg_nv n (xs (ix + 1)) (xs (ix + 2)) (nI 0) (fun k d => nI (v k d))).2)), (6, .int (nI (fg_nv n (xs (ix + 1)) (xs (ix + 2)) (nI 0) (fun k d => nI (v k d))).1)), (5, .int (nI ix)), (0, .ref b), (1, .ref (Λ.2.2.1 605)), (2, .ref (Λ.2.2.1 616)), (3, .ref (Λ.2.2.1 629)), (4, .ref (Λ.2.2.1 630))] rfl (by decide) 571 rfl ?_
  refine fo_aload_n C dL_law_571 5 rfl rfl 572 rfl ?_
  refine fo_qvi C dL_law_572 (mX7_thrown (x := nI (fg_nv n (xs (ix + 1)) (xs (ix + 2)) (nI 0) (fun k d => nI (v k d))).1) hth) lv_L_154 (by decide : fo_k 616 = 9) rfl (by decide) rfl ⟨(Nat.le_of_ble_eq_true rfl), (Nat.le_of_ble_eq_true rfl)⟩ ⟨show (_ : Nat) ≤ 603072 by omega, show (_ : Nat) ≤ 7211114 by omega⟩ [] rfl (Nat.le_of_ble_eq_true rfl) 575 rfl (fun r13 I14 D15 J16 X17 p18 => ?_)
  obtain ⟨rfl, z1, z2, z3, z4⟩ := p18
  obtain rfl := z1.symm
  obtain rfl := z2.symm
  obtain rfl := z3.symm
  obtain rfl := z4.symm
  refine fo_iload C dL_law_575 1 rfl 577 rfl ?_
  refine fo_icmp_eq C dL_law_577 582 (by decide) 580 rfl (fun c19 => ?_) (fun c19 => ?_)
  · refine fo_iload C dL_law_582 1 rfl 584 rfl ?_
    refine fo_if_ne C dL_law_584 599 (by decide) 587 rfl (fun c20 => ?_) (fun c20 => ?_)
    · refine fo_goto C dL_law_599 2683 (by decide) ?_
      refine fo_sub C [2, 3, 4, 5, 6, 7] (lv' := [(5, .int (nI ix)), (0, .ref b), (1, .ref (Λ.2.2.1 605)), (2, .ref (Λ.2.2.1 616)), (3, .ref (Λ.2.2.1 629)), (4, .ref (Λ.2.2.1 630))]) rfl ?_
      exact k _ _ _ _ _ _ _ _ _ _ _ _ _ _ (by omega) (by omega) hl hM he9 hf9
    · refine fo_aload_n C dL_law_587 6 rfl rfl 588 rfl ?_
      refine fo_iconst C dL_law_588 (nI 0) ki_0 589 rfl ?_
      refine fo_lald C dL_law_589 (by decide : fo_k 629 = 24) (by decide : 0 < fo_n 629) (((fg_nv n (xs (ix + 1)) (xs (ix + 2)) (nI 0) (fun k d => nI (v k d))).2).toInt64) (by rw [fo_rs]; exact hjj c20) 590 rfl ?_
      refine fo_iload C dL_law_590 0 rfl 592 rfl ?_
      refine fo_i2l C dL_law_592 _ rfl 593 rfl ?_
      refine fo_lcmp C dL_law_593 (nI 0) (fw_ls (rfl)) 594 rfl ?_
      refine fo_nif_eq C (by omega) dL_law_594 599 (by decide) 597 rfl (fun c21 => ?_) (fun c21 => ?_)
      · refine fo_goto C dL_law_599 2683 (by decide) ?_
        refine fo_sub C [2, 3, 4, 5, 6, 7] (lv' := [(5, .int (nI ix)), (0, .ref b), (1, .ref (Λ.2.2.1 605)), (2, .ref (Λ.2.2.1 616)), (3, .ref (Λ.2.2.1 629)), (4, .ref (Λ.2.2.1 630))]) rfl ?_
        exact k _ _ _ _ _ _ _ _ _ _ _ _ _ _ (by omega) (by omega) hl hM he9 hf9
      · omega
  · exact absurd rfl c19
set_option maxRecDepth 10000 in
set_option maxHeartbeats 4000000 in
theorem lc_6 {l : Launch} {Λ : fo_Lt} {K : fo_K} {cs ss ix b Ls : Nat} {xs : Nat → Int32} {I : fo_Mi} {D : fo_Md} {J : fo_Mj} {X : fo_Mi} (hfl : l.stackTraces = false) (C : fo_C Λ K cL_law RL 9) (hX : va_X b Ls xs K.2.2.1 K.2.2.1.heap) (hb : b < Λ.2.2.2) (hLs : Ls ≤ 2048) (hi : ix + 3 < Ls) {s : fa_S} {hs : List fa_S} {ks : Option fa_S} {L : List Nat} {m : Nat} {t : Nat → Nat} {e f : Int32} (hl : ll I D s hs ks L m t e f) (hM : fm_M I s hs ks L m t e f) (he9 : e = -1 ∨ ¬ e < 0) (hf9 : f = -1 ∨ ¬ f < 0) (hcs : cs + 3 ≤ 603072) (hss : ss + 18 ≤ 7211114) (k : lk_k l Λ K b ix cs ss) : fo_G l Λ room_1 K cs ss 602 [(5, .int (nI ix)), (0, .ref b), (1, .ref (Λ.2.2.1 605)), (2, .ref (Λ.2.2.1 616)), (3, .ref (Λ.2.2.1 629)), (4, .ref (Λ.2.2.1 630))] [] I D J X := by
  obtain ⟨np, lim, kd, par, n, v⟩ := s
  refine fo_aload_n C dL_law_602 2 rfl rfl 603 rfl ?_
  refine fo_aload_n C dL_law_603 1 rfl rfl 604 rfl ?_
  refine fo_iload C dL_law_604 0 rfl 606 rfl ?_
  refine fo_iconst C dL_law_606 (nI 1) ki_1 607 rfl ?_
  refine fo_iadd C dL_law_607 (nI (ix + 1)) (nI_add _ _) 608 rfl ?_
  refine fo_sld C hX hb hLs (i := ix + 1) (by omega) dL_law_608 609 rfl ?_
  refine fo_aload_n C dL_law_609 4 rfl rfl 610 rfl ?_
  refine fo_qw C dL_law_610 (mL_range hfl (x := (xs (ix + 1))) hl.1) lw_L_174 rfl ⟨(Nat.le_of_ble_eq_true rfl), (Nat.le_of_ble_eq_true rfl)⟩ ⟨show (_ : Nat) ≤ 603072 by omega, show (_ : Nat) ≤ 7211114 by omega⟩ [] rfl (Nat.le_of_ble_eq_true rfl) 613 rfl (fun r1 I2 D3 J4 X5 p6 => ?_)
  obtain ⟨rfl, z1, z2, jj, rfl, hjj⟩ := p6
  obtain rfl := z1.symm
  obtain rfl := z2.symm
  refine fo_istore C dL_law_613 [(6, .int (nI (fg_se (xs (ix + 1)) (nI 0) (fun k => if 0 < n k then (0, nI (fp_hi (v k) (n k - 1) - fp_lo (v k) (n k - 1))) else (2, nI 0))).1)), (5, .int (nI ix)), (0, .ref b), (1, .ref (Λ.2.2.1 605)), (2, .ref (Λ.2.2.1 616)), (3, .ref (Λ.2.2.1 629)), (4, .ref (Λ.2.2.1 630))] rfl (by decide) 615 rfl ?_
  refine fo_aload_n C dL_law_615 4 rfl rfl 616 rfl ?_
  refine fo_aload_n C dL_law_616 2 rfl rfl 617 rfl ?_
  refine fo_iload C dL_law_617 1 rfl 619 rfl ?_
  refine fo_iconst C dL_law_619 (nI 1) ki_1 620 rfl ?_
  refine fo_iadd C dL_law_620 (nI (ix + 1)) (nI_add _ _) 621 rfl ?_
  refine fo_sld C hX hb hLs (i := ix + 1) (by omega) dL_law_621 622 rfl ?_
  refine fo_qvi C dL_law_622 (mX7_range (x := (xs (ix + 1))) hM.1) lv_L_176 (by decide : fo_k 616 = 9) rfl (by decide) rfl ⟨(Nat.le_of_ble_eq_true rfl), (Nat.le_of_ble_eq_true rfl)⟩ ⟨show (_ : Nat) ≤ 603072 by omega, show (_ : Nat) ≤ 7211114 by omega⟩ [] rfl (Nat.le_of_ble_eq_true rfl) 625 rfl (fun r7 I8 D9 J10 X11 p12 => ?_)
  obtain ⟨rfl, z0, z2, z3⟩ := p12
  subst z0
  obtain rfl := z2.symm
  obtain rfl := z3.symm
  have hth : (fo_r I 616 (upd (I 616) 5 (nI (fg_se (xs (ix + 1)) (nI 0) (fun k => if 0 < n k then (0, nI (fp_hi (v k) (n k - 1) - fp_lo (v k) (n k - 1))) else (2, nI 0))).1))) 616 5 = nI (fg_se (xs (ix + 1)) (nI 0) (fun k => if 0 < n k then (0, nI (fp_hi (v k) (n k - 1) - fp_lo (v k) (n k - 1))) else (2, nI 0))).1 := by rw [fo_rs, pk_us]
  replace hl := hl.th (x := nI (fg_se (xs (ix + 1)) (nI 0) (fun k => if 0 < n k then (0, nI (fp_hi (v k) (n k - 1) - fp_lo (v k) (n k - 1))) else (2, nI 0))).1)
  replace hM := hM.th (x := nI (fg_se (xs (ix + 1)) (nI 0) (fun k => if 0 < n k then (0, nI (fp_hi (v k) (n k - 1) - fp_lo (v k) (n k - 1))) else (2, nI 0))).1)
  refine fo_istore C dL_law_625 [(7, .int ((fg_se (xs (ix + 1)) (nI 0) (fun k => if 0 < n k then (0, nI (fp_hi (v k) (n k - 1) - fp_lo (v k) (n k - 1))) else (2, nI 0))).2)), (6, .int (nI (fg_se (xs (ix + 1)) (nI 0) (fun k => if 0 < n k then (0, nI (fp_hi (v k) (n k - 1) - fp_lo (v k) (n k - 1))) else (2, nI 0))).1)), (5, .int (nI ix)), (0, .ref b), (1, .ref (Λ.2.2.1 605)), (2, .ref (Λ.2.2.1 616)), (3, .ref (Λ.2.2.1 629)), (4, .ref (Λ.2.2.1 630))] rfl (by decide) 627 rfl ?_
  refine fo_aload_n C dL_law_627 5 rfl rfl 628 rfl ?_
  refine fo_qvi C dL_law_628 (mX7_thrown (x := nI (fg_se (xs (ix + 1)) (nI 0) (fun k => if 0 < n k then (0, nI (fp_hi (v k) (n k - 1) - fp_lo (v k) (n k - 1))) else (2, nI 0))).1) hth) lv_L_154 (by decide : fo_k 616 = 9) rfl (by decide) rfl ⟨(Nat.le_of_ble_eq_true rfl), (Nat.le_of_ble_eq_true rfl)⟩ ⟨show (_ : Nat) ≤ 603072 by omega, show (_ : Nat) ≤ 7211114 by omega⟩ [] rfl (Nat.le_of_ble_eq_true rfl) 631 rfl (fun r13 I14 D15 J16 X17 p18 => ?_)
  obtain ⟨rfl, z1, z2, z3, z4⟩ := p18
  obtain rfl := z1.symm
  obtain rfl := z2.symm
  obtain rfl := z3.symm
  obtain rfl := z4.symm
  refine fo_iload C dL_law_631 1 rfl 633 rfl ?_
  refine fo_icmp_eq C dL_law_633 638 (by decide) 636 rfl (fun c19 => ?_) (fun c19 => ?_)
  · refine fo_iload C dL_law_638 1 rfl 640 rfl ?_
    refine fo_if_ne C dL_law_640 655 (by decide) 643 rfl (fun c20 => ?_) (fun c20 => ?_)
    · refine fo_goto C dL_law_655 2683 (by decide) ?_
      refine fo_sub C [2, 3, 4, 5, 6, 7] (lv' := [(5, .int (nI ix)), (0, .ref b), (1, .ref (Λ.2.2.1 605)), (2, .ref (Λ.2.2.1 616)), (3, .ref (Λ.2.2.1 629)), (4, .ref (Λ.2.2.1 630))]) rfl ?_
      exact k _ _ _ _ _ _ _ _ _ _ _ _ _ _ (by omega) (by omega) hl hM he9 hf9
    · refine fo_aload_n C dL_law_643 6 rfl rfl 644 rfl ?_
      refine fo_iconst C dL_law_644 (nI 0) ki_0 645 rfl ?_
      refine fo_lald C dL_law_645 (by decide : fo_k 629 = 24) (by decide : 0 < fo_n 629) (((fg_se (xs (ix + 1)) (nI 0) (fun k => if 0 < n k then (0, nI (fp_hi (v k) (n k - 1) - fp_lo (v k) (n k - 1))) else (2, nI 0))).2).toInt64) (by rw [fo_rs]; exact hjj c20) 646 rfl ?_
      refine fo_iload C dL_law_646 0 rfl 648 rfl ?_
      refine fo_i2l C dL_law_648 _ rfl 649 rfl ?_
      refine fo_lcmp C dL_law_649 (nI 0) (fw_ls (rfl)) 650 rfl ?_
      refine fo_nif_eq C (by omega) dL_law_650 655 (by decide) 653 rfl (fun c21 => ?_) (fun c21 => ?_)
      · refine fo_goto C dL_law_655 2683 (by decide) ?_
        refine fo_sub C [2, 3, 4, 5, 6, 7] (lv' := [(5, .int (nI ix)), (0, .ref b), (1, .ref (Λ.2.2.1 605)), (2, .ref (Λ.2.2.1 616)), (3, .ref (Λ.2.2.1 629)), (4, .ref (Λ.2.2.1 630))]) rfl ?_
        exact k _ _ _ _ _ _ _ _ _ _ _ _ _ _ (by omega) (by omega) hl hM he9 hf9
      · omega
  · exact absurd rfl c19
set_option maxRecDepth 10000 in
set_option maxHeartbeats 4000000 in
theorem lc_7 {l : Launch} {Λ : fo_Lt} {K : fo_K} {cs ss ix b Ls : Nat} {xs : Nat → Int32} {I : fo_Mi} {D : fo_Md} {J : fo_Mj} {X : fo_Mi} (hfl : l.stackTraces = false) (C : fo_C Λ K cL_law RL 9) (hX : va_X b Ls xs K.2.2.1 K.2.2.1.heap) (hb : b < Λ.2.2.2) (hLs : Ls ≤ 2048) (hi : ix + 3 < Ls) {s : fa_S} {hs : List fa_S} {ks : Option fa_S} {L : List Nat} {m : Nat} {t : Nat → Nat} {e f : Int32} (hl : ll I D s hs ks L m t e f) (hM : fm_M I s hs ks L m t e f) (he9 : e = -1 ∨ ¬ e < 0) (hf9 : f = -1 ∨ ¬ f < 0) (hcs : cs + 3 ≤ 603072) (hss : ss + 18 ≤ 7211114) (k : lk_k l Λ K b ix cs ss) : fo_G l Λ room_1 K cs ss 658 [(5, .int (nI ix)), (0, .ref b), (1, .ref (Λ.2.2.1 605)), (2, .ref (Λ.2.2.1 616)), (3, .ref (Λ.2.2.1 629)), (4, .ref (Λ.2.2.1 630))] [] I D J X := by
  obtain ⟨np, lim, kd, par, n, v⟩ := s
  refine fo_aload_n C dL_law_658 2 rfl rfl 659 rfl ?_
  refine fo_aload_n C dL_law_659 1 rfl rfl 660 rfl ?_
  refine fo_iload C dL_law_660 0 rfl 662 rfl ?_
  refine fo_iconst C dL_law_662 (nI 1) ki_1 663 rfl ?_
  refine fo_iadd C dL_law_663 (nI (ix + 1)) (nI_add _ _) 664 rfl ?_
  refine fo_sld C hX hb hLs (i := ix + 1) (by omega) dL_law_664 665 rfl ?_
  refine fo_aload_n C dL_law_665 1 rfl rfl 666 rfl ?_
  refine fo_iload C dL_law_666 0 rfl 668 rfl ?_
  refine fo_iconst C dL_law_668 (nI 2) ki_2 669 rfl ?_
  refine fo_iadd C dL_law_669 (nI (ix + 2)) (nI_add _ _) 670 rfl ?_
  refine fo_sld C hX hb hLs (i := ix + 2) (by omega) dL_law_670 671 rfl ?_
  refine fo_aload C dL_law_671 5 rfl 673 rfl ?_
  refine fo_qw C dL_law_673 (mL_movingAverage hfl (x := (xs (ix + 1))) (z := (xs (ix + 2))) hl.1) lw_L_177 rfl ⟨(Nat.le_of_ble_eq_true rfl), (Nat.le_of_ble_eq_true rfl)⟩ ⟨show (_ : Nat) ≤ 603072 by omega, show (_ : Nat) ≤ 7211114 by omega⟩ [] rfl (Nat.le_of_ble_eq_true rfl) 676 rfl (fun r1 I2 D3 J4 X5 p6 => ?_)
  obtain ⟨rfl, z1, z2, jj, rfl, hjj⟩ := p6
  obtain rfl := z1.symm
  obtain rfl := z2.symm
  refine fo_istore C dL_law_676 [(6, .int (nI (fg_nl n (xs (ix + 1)) (xs (ix + 2)) FP.dconst0 (fun k c => fp_mean (v k) (n k - c) c)).1)), (5, .int (nI ix)), (0, .ref b), (1, .ref (Λ.2.2.1 605)), (2, .ref (Λ.2.2.1 616)), (3, .ref (Λ.2.2.1 629)), (4, .ref (Λ.2.2.1 630))] rfl (by decide) 678 rfl ?_
  refine fo_aload_n C dL_law_678 4 rfl rfl 679 rfl ?_
  refine fo_aload_n C dL_law_679 2 rfl rfl 680 rfl ?_
  refine fo_iload C dL_law_680 1 rfl 682 rfl ?_
  refine fo_iconst C dL_law_682 (nI 1) ki_1 683 rfl ?_
  refine fo_iadd C dL_law_683 (nI (ix + 1)) (nI_add _ _) 684 rfl ?_
  refine fo_sld C hX hb hLs (i := ix + 1) (by omega) dL_law_684 685 rfl ?_
  refine fo_aload_n C dL_law_685 2 rfl rfl 686 rfl ?_
  refine fo_iload C dL_law_686 1 rfl 688 rfl ?_
  refine fo_iconst C dL_law_688 (nI 2) ki_2 689 rfl ?_
  refine fo_iadd C dL_law_689 (nI (ix + 2)) (nI_add _ _) 690 rfl ?_
  refine fo_sld C hX hb hLs (i := ix + 2) (by omega) dL_law_690 691 rfl ?_
  refine fo_qvd C dL_law_691 (mX7_movingAverage (x := (xs (ix + 1))) (z := (xs (ix + 2))) hM.1) lv_L_180 (by decide : fo_k 616 = 9) rfl (by decide) rfl ⟨(Nat.le_of_ble_eq_true rfl), (Nat.le_of_ble_eq_true rfl)⟩ ⟨show (_ : Nat) ≤ 603072 by omega, show (_ : Nat) ≤ 7211114 by omega⟩ [] rfl (Nat.le_of_ble_eq_true rfl) 694 rfl (fun r7 I8 D9 J10 X11 p12 => ?_)
  obtain ⟨rfl, z0, z2, z3⟩ := p12
  subst z0
  obtain rfl := z2.symm
  obtain rfl := z3.symm
  have hth : (fo_r I 616 (upd (I 616) 5 (nI (fg_nl n (xs (ix + 1)) (xs (ix + 2)) FP.dconst0 (fun k c => fp_mean (v k) (n k - c) c)).1))) 616 5 = nI (fg_nl n (xs (ix + 1)) (xs (ix + 2)) FP.dconst0 (fun k c => fp_mean (v k) (n k - c) c)).1 := by rw [fo_rs, pk_us]
  replace hl := hl.d (dd := jj).th (x := nI (fg_nl n (xs (ix + 1)) (xs (ix + 2)) FP.dconst0 (fun k c => fp_mean (v k) (n k - c) c)).1)
  replace hM := hM.th (x := nI (fg_nl n (xs (ix + 1)) (xs (ix + 2)) FP.dconst0 (fun k c => fp_mean (v k) (n k - c) c)).1)
  refine fo_dstore C dL_law_694 [(7, .double ((fg_nl n (xs (ix + 1)) (xs (ix + 2)) FP.dconst0 (fun k c => fp_mean (v k) (n k - c) c)).2)), (6, .int (nI (fg_nl n (xs (ix + 1)) (xs (ix + 2)) FP.dconst0 (fun k c => fp_mean (v k) (n k - c) c)).1)), (5, .int (nI ix)), (0, .ref b), (1, .ref (Λ.2.2.1 605)), (2, .ref (Λ.2.2.1 616)), (3, .ref (Λ.2.2.1 629)), (4, .ref (Λ.2.2.1 630))] rfl (by decide) 696 rfl ?_
  refine fo_aload_n C dL_law_696 5 rfl rfl 697 rfl ?_
  refine fo_qvi C dL_law_697 (mX7_thrown (x := nI (fg_nl n (xs (ix + 1)) (xs (ix + 2)) FP.dconst0 (fun k c => fp_mean (v k) (n k - c) c)).1) hth) lv_L_154 (by decide : fo_k 616 = 9) rfl (by decide) rfl ⟨(Nat.le_of_ble_eq_true rfl), (Nat.le_of_ble_eq_true rfl)⟩ ⟨show (_ : Nat) ≤ 603072 by omega, show (_ : Nat) ≤ 7211114 by omega⟩ [] rfl (Nat.le_of_ble_eq_true rfl) 700 rfl (fun r13 I14 D15 J16 X17 p18 => ?_)
  obtain ⟨rfl, z1, z2, z3, z4⟩ := p18
  obtain rfl := z1.symm
  obtain rfl := z2.symm
  obtain rfl := z3.symm
  obtain rfl := z4.symm
  refine fo_iload C dL_law_700 1 rfl 702 rfl ?_
  refine fo_icmp_eq C dL_law_702 707 (by decide) 705 rfl (fun c19 => ?_) (fun c19 => ?_)
  · refine fo_iload C dL_law_707 1 rfl 709 rfl ?_
    refine fo_if_ne C dL_law_709 744 (by decide) 712 rfl (fun c20 => ?_) (fun c20 => ?_)
    · refine fo_goto C dL_law_744 2683 (by decide) ?_
      refine fo_sub C [2, 3, 4, 5, 6, 7] (lv' := [(5, .int (nI ix)), (0, .ref b), (1, .ref (Λ.2.2.1 605)), (2, .ref (Λ.2.2.1 616)), (3, .ref (Λ.2.2.1 629)), (4, .ref (Λ.2.2.1 630))]) rfl ?_
      exact k _ _ _ _ _ _ _ _ _ _ _ _ _ _ (by omega) (by omega) hl hM he9 hf9
    · refine fo_aload C dL_law_712 7 rfl 714 rfl ?_
      refine fo_iconst C dL_law_714 (nI 0) ki_0 715 rfl ?_
      refine fo_dald C dL_law_715 (by decide : fo_k 630 = 22) (by decide : 0 < fo_n 630) ((fg_nl n (xs (ix + 1)) (xs (ix + 2)) FP.dconst0 (fun k c => fp_mean (v k) (n k - c) c)).2) (by rw [fo_rs]; exact hjj c20) 716 rfl ?_
      refine fo_dload C dL_law_716 0 rfl 718 rfl ?_
      refine fo_dcmp C dL_law_718 719 rfl ?_
      refine fo_if_eq C dL_law_719 744 (by decide) 722 rfl (fun c21 => ?_) (fun c21 => ?_)
      · refine fo_goto C dL_law_744 2683 (by decide) ?_
        refine fo_sub C [2, 3, 4, 5, 6, 7] (lv' := [(5, .int (nI ix)), (0, .ref b), (1, .ref (Λ.2.2.1 605)), (2, .ref (Λ.2.2.1 616)), (3, .ref (Λ.2.2.1 629)), (4, .ref (Λ.2.2.1 630))]) rfl ?_
        exact k _ _ _ _ _ _ _ _ _ _ _ _ _ _ (by omega) (by omega) hl hM he9 hf9
      · refine fo_aload C dL_law_722 7 rfl 724 rfl ?_
        refine fo_iconst C dL_law_724 (nI 0) ki_0 725 rfl ?_
        refine fo_dald C dL_law_725 (by decide : fo_k 630 = 22) (by decide : 0 < fo_n 630) ((fg_nl n (xs (ix + 1)) (xs (ix + 2)) FP.dconst0 (fun k c => fp_mean (v k) (n k - c) c)).2) (by rw [fo_rs]; exact hjj c20) 726 rfl ?_
        refine fo_aload C dL_law_726 7 rfl 728 rfl ?_
        refine fo_iconst C dL_law_728 (nI 0) ki_0 729 rfl ?_
        refine fo_dald C dL_law_729 (by decide : fo_k 630 = 22) (by decide : 0 < fo_n 630) ((fg_nl n (xs (ix + 1)) (xs (ix + 2)) FP.dconst0 (fun k c => fp_mean (v k) (n k - c) c)).2) (by rw [fo_rs]; exact hjj c20) 730 rfl ?_
        refine fo_dcmp C dL_law_730 731 rfl ?_
        refine fo_if_eq C dL_law_731 742 (by decide) 734 rfl (fun c22 => ?_) (fun c22 => ?_)
        · exact absurd c22 c21
        · refine fo_dload C dL_law_734 0 rfl 736 rfl ?_
          refine fo_dload C dL_law_736 0 rfl 738 rfl ?_
          refine fo_dcmp C dL_law_738 739 rfl ?_
          refine fo_if_ne C dL_law_739 744 (by decide) 742 rfl (fun c23 => ?_) (fun c23 => ?_)
          · refine fo_goto C dL_law_744 2683 (by decide) ?_
            refine fo_sub C [2, 3, 4, 5, 6, 7] (lv' := [(5, .int (nI ix)), (0, .ref b), (1, .ref (Λ.2.2.1 605)), (2, .ref (Λ.2.2.1 616)), (3, .ref (Λ.2.2.1 629)), (4, .ref (Λ.2.2.1 630))]) rfl ?_
            exact k _ _ _ _ _ _ _ _ _ _ _ _ _ _ (by omega) (by omega) hl hM he9 hf9
          · exact absurd c23 c21
  · exact absurd rfl c19
set_option maxRecDepth 10000 in
set_option maxHeartbeats 4000000 in
theorem lc_8 {l : Launch} {Λ : fo_Lt} {K : fo_K} {cs ss ix b Ls : Nat} {xs : Nat → Int32} {I : fo_Mi} {D : fo_Md} {J : fo_Mj} {X : fo_Mi} (hfl : l.stackTraces = false) (C : fo_C Λ K cL_law RL 9) (hX : va_X b Ls xs K.2.2.1 K.2.2.1.heap) (hb : b < Λ.2.2.2) (hLs : Ls ≤ 2048) (hi : ix + 3 < Ls) {s : fa_S} {hs : List fa_S} {ks : Option fa_S} {L : List Nat} {m : Nat} {t : Nat → Nat} {e f : Int32} (hl : ll I D s hs ks L m t e f) (hM : fm_M I s hs ks L m t e f) (he9 : e = -1 ∨ ¬ e < 0) (hf9 : f = -1 ∨ ¬ f < 0) (hcs : cs + 3 ≤ 603072) (hss : ss + 18 ≤ 7211114) (k : lk_k l Λ K b ix cs ss) : fo_G l Λ room_1 K cs ss 747 [(5, .int (nI ix)), (0, .ref b), (1, .ref (Λ.2.2.1 605)), (2, .ref (Λ.2.2.1 616)), (3, .ref (Λ.2.2.1 629)), (4, .ref (Λ.2.2.1 630))] [] I D J X := by
  obtain ⟨np, lim, kd, par, n, v⟩ := s
  refine fo_aload_n C dL_law_747 2 rfl rfl 748 rfl ?_
  refine fo_aload_n C dL_law_748 1 rfl rfl 749 rfl ?_
  refine fo_iload C dL_law_749 0 rfl 751 rfl ?_
  refine fo_iconst C dL_law_751 (nI 1) ki_1 752 rfl ?_
  refine fo_iadd C dL_law_752 (nI (ix + 1)) (nI_add _ _) 753 rfl ?_
  refine fo_sld C hX hb hLs (i := ix + 1) (by omega) dL_law_753 754 rfl ?_
  refine fo_aload_n C dL_law_754 1 rfl rfl 755 rfl ?_
  refine fo_iload C dL_law_755 0 rfl 757 rfl ?_
  refine fo_iconst C dL_law_757 (nI 2) ki_2 758 rfl ?_
  refine fo_iadd C dL_law_758 (nI (ix + 2)) (nI_add _ _) 759 rfl ?_
  refine fo_sld C hX hb hLs (i := ix + 2) (by omega) dL_law_759 760 rfl ?_
  refine fo_aload C dL_law_760 5 rfl 762 rfl ?_
  refine fo_qw C dL_law_762 (mL_movingAverageBySums hfl (x := (xs (ix + 1))) (z := (xs (ix + 2))) hl.1) lw_L_181 rfl ⟨(Nat.le_of_ble_eq_true rfl), (Nat.le_of_ble_eq_true rfl)⟩ ⟨show (_ : Nat) ≤ 603072 by omega, show (_ : Nat) ≤ 7211114 by omega⟩ [] rfl (Nat.le_of_ble_eq_true rfl) 765 rfl (fun r1 I2 D3 J4 X5 p6 => ?_)
  obtain ⟨rfl, z1, z2, jj, rfl, hjj⟩ := p6
  obtain rfl := z1.symm
  obtain rfl := z2.symm
  refine fo_istore C dL_law_765 [(6, .int (nI (fg_nl n (xs (ix + 1)) (xs (ix + 2)) FP.dconst0 (fun k c => fp_mean (v k) (n k - c) c)).1)), (5, .int (nI ix)), (0, .ref b), (1, .ref (Λ.2.2.1 605)), (2, .ref (Λ.2.2.1 616)), (3, .ref (Λ.2.2.1 629)), (4, .ref (Λ.2.2.1 630))] rfl (by decide) 767 rfl ?_
  refine fo_aload_n C dL_law_767 4 rfl rfl 768 rfl ?_
  refine fo_aload_n C dL_law_768 2 rfl rfl 769 rfl ?_
  refine fo_iload C dL_law_769 1 rfl 771 rfl ?_
  refine fo_iconst C dL_law_771 (nI 1) ki_1 772 rfl ?_
  refine fo_iadd C dL_law_772 (nI (ix + 1)) (nI_add _ _) 773 rfl ?_
  refine fo_sld C hX hb hLs (i := ix + 1) (by omega) dL_law_773 774 rfl ?_
  refine fo_aload_n C dL_law_774 2 rfl rfl 775 rfl ?_
  refine fo_iload C dL_law_775 1 rfl 777 rfl ?_
  refine fo_iconst C dL_law_777 (nI 2) ki_2 778 rfl ?_
  refine fo_iadd C dL_law_778 (nI (ix + 2)) (nI_add _ _) 779 rfl ?_
  refine fo_sld C hX hb hLs (i := ix + 2) (by omega) dL_law_779 780 rfl ?_
  refine fo_qvd C dL_law_780 (mX7_movingAverageBySums (x := (xs (ix + 1))) (z := (xs (ix + 2))) hM.1) lv_L_183 (by decide : fo_k 616 = 9) rfl (by decide) rfl ⟨(Nat.le_of_ble_eq_true rfl), (Nat.le_of_ble_eq_true rfl)⟩ ⟨show (_ : Nat) ≤ 603072 by omega, show (_ : Nat) ≤ 7211114 by omega⟩ [] rfl (Nat.le_of_ble_eq_true rfl) 783 rfl (fun r7 I8 D9 J10 X11 p12 => ?_)
  obtain ⟨rfl, z0, z2, z3⟩ := p12
  subst z0
  obtain rfl := z2.symm
  obtain rfl := z3.symm
  have hth : (fo_r I 616 (upd (I 616) 5 (nI (fg_nl n (xs (ix + 1)) (xs (ix + 2)) FP.dconst0 (fun k c => fp_mean (v k) (n k - c) c)).1))) 616 5 = nI (fg_nl n (xs (ix + 1)) (xs (ix + 2)) FP.dconst0 (fun k c => fp_mean (v k) (n k - c) c)).1 := by rw [fo_rs, pk_us]
  replace hl := hl.d (dd := jj).th (x := nI (fg_nl n (xs (ix + 1)) (xs (ix + 2)) FP.dconst0 (fun k c => fp_mean (v k) (n k - c) c)).1)
  replace hM := hM.th (x := nI (fg_nl n (xs (ix + 1)) (xs (ix + 2)) FP.dconst0 (fun k c => fp_mean (v k) (n k - c) c)).1)
  refine fo_dstore C dL_law_783 [(7, .double ((fg_nl n (xs (ix + 1)) (xs (ix + 2)) FP.dconst0 (fun k c => fp_mean (v k) (n k - c) c)).2)), (6, .int (nI (fg_nl n (xs (ix + 1)) (xs (ix + 2)) FP.dconst0 (fun k c => fp_mean (v k) (n k - c) c)).1)), (5, .int (nI ix)), (0, .ref b), (1, .ref (Λ.2.2.1 605)), (2, .ref (Λ.2.2.1 616)), (3, .ref (Λ.2.2.1 629)), (4, .ref (Λ.2.2.1 630))] rfl (by decide) 785 rfl ?_
  refine fo_aload_n C dL_law_785 5 rfl rfl 786 rfl ?_
  refine fo_qvi C dL_law_786 (mX7_thrown (x := nI (fg_nl n (xs (ix + 1)) (xs (ix + 2)) FP.dconst0 (fun k c => fp_mean (v k) (n k - c) c)).1) hth) lv_L_154 (by decide : fo_k 616 = 9) rfl (by decide) rfl ⟨(Nat.le_of_ble_eq_true rfl), (Nat.le_of_ble_eq_true rfl)⟩ ⟨show (_ : Nat) ≤ 603072 by omega, show (_ : Nat) ≤ 7211114 by omega⟩ [] rfl (Nat.le_of_ble_eq_true rfl) 789 rfl (fun r13 I14 D15 J16 X17 p18 => ?_)
  obtain ⟨rfl, z1, z2, z3, z4⟩ := p18
  obtain rfl := z1.symm
  obtain rfl := z2.symm
  obtain rfl := z3.symm
  obtain rfl := z4.symm
  refine fo_iload C dL_law_789 1 rfl 791 rfl ?_
  refine fo_icmp_eq C dL_law_791 796 (by decide) 794 rfl (fun c19 => ?_) (fun c19 => ?_)
  · refine fo_iload C dL_law_796 1 rfl 798 rfl ?_
    refine fo_if_ne C dL_law_798 833 (by decide) 801 rfl (fun c20 => ?_) (fun c20 => ?_)
    · refine fo_goto C dL_law_833 2683 (by decide) ?_
      refine fo_sub C [2, 3, 4, 5, 6, 7] (lv' := [(5, .int (nI ix)), (0, .ref b), (1, .ref (Λ.2.2.1 605)), (2, .ref (Λ.2.2.1 616)), (3, .ref (Λ.2.2.1 629)), (4, .ref (Λ.2.2.1 630))]) rfl ?_
      exact k _ _ _ _ _ _ _ _ _ _ _ _ _ _ (by omega) (by omega) hl hM he9 hf9
    · refine fo_aload C dL_law_801 7 rfl 803 rfl ?_
      refine fo_iconst C dL_law_803 (nI 0) ki_0 804 rfl ?_
      refine fo_dald C dL_law_804 (by decide : fo_k 630 = 22) (by decide : 0 < fo_n 630) ((fg_nl n (xs (ix + 1)) (xs (ix + 2)) FP.dconst0 (fun k c => fp_mean (v k) (n k - c) c)).2) (by rw [fo_rs]; exact hjj c20) 805 rfl ?_
      refine fo_dload C dL_law_805 0 rfl 807 rfl ?_
      refine fo_dcmp C dL_law_807 808 rfl ?_
      refine fo_if_eq C dL_law_808 833 (by decide) 811 rfl (fun c21 => ?_) (fun c21 => ?_)
      · refine fo_goto C dL_law_833 2683 (by decide) ?_
        refine fo_sub C [2, 3, 4, 5, 6, 7] (lv' := [(5, .int (nI ix)), (0, .ref b), (1, .ref (Λ.2.2.1 605)), (2, .ref (Λ.2.2.1 616)), (3, .ref (Λ.2.2.1 629)), (4, .ref (Λ.2.2.1 630))]) rfl ?_
        exact k _ _ _ _ _ _ _ _ _ _ _ _ _ _ (by omega) (by omega) hl hM he9 hf9
      · refine fo_aload C dL_law_811 7 rfl 813 rfl ?_
        refine fo_iconst C dL_law_813 (nI 0) ki_0 814 rfl ?_
        refine fo_dald C dL_law_814 (by decide : fo_k 630 = 22) (by decide : 0 < fo_n 630) ((fg_nl n (xs (ix + 1)) (xs (ix + 2)) FP.dconst0 (fun k c => fp_mean (v k) (n k - c) c)).2) (by rw [fo_rs]; exact hjj c20) 815 rfl ?_
        refine fo_aload C dL_law_815 7 rfl 817 rfl ?_
        refine fo_iconst C dL_law_817 (nI 0) ki_0 818 rfl ?_
        refine fo_dald C dL_law_818 (by decide : fo_k 630 = 22) (by decide : 0 < fo_n 630) ((fg_nl n (xs (ix + 1)) (xs (ix + 2)) FP.dconst0 (fun k c => fp_mean (v k) (n k - c) c)).2) (by rw [fo_rs]; exact hjj c20) 819 rfl ?_
        refine fo_dcmp C dL_law_819 820 rfl ?_
        refine fo_if_eq C dL_law_820 831 (by decide) 823 rfl (fun c22 => ?_) (fun c22 => ?_)
        · exact absurd c22 c21
        · refine fo_dload C dL_law_823 0 rfl 825 rfl ?_
          refine fo_dload C dL_law_825 0 rfl 827 rfl ?_
          refine fo_dcmp C dL_law_827 828 rfl ?_
          refine fo_if_ne C dL_law_828 833 (by decide) 831 rfl (fun c23 => ?_) (fun c23 => ?_)
          · refine fo_goto C dL_law_833 2683 (by decide) ?_
            refine fo_sub C [2, 3, 4, 5, 6, 7] (lv' := [(5, .int (nI ix)), (0, .ref b), (1, .ref (Λ.2.2.1 605)), (2, .ref (Λ.2.2.1 616)), (3, .ref (Λ.2.2.1 629)), (4, .ref (Λ.2.2.1 630))]) rfl ?_
            exact k _ _ _ _ _ _ _ _ _ _ _ _ _ _ (by omega) (by omega) hl hM he9 hf9
          · exact absurd c23 c21
  · exact absurd rfl c19
set_option maxRecDepth 10000 in
set_option maxHeartbeats 4000000 in
theorem lc_9 {l : Launch} {Λ : fo_Lt} {K : fo_K} {cs ss ix b Ls : Nat} {xs : Nat → Int32} {I : fo_Mi} {D : fo_Md} {J : fo_Mj} {X : fo_Mi} (hfl : l.stackTraces = false) (C : fo_C Λ K cL_law RL 9) (hX : va_X b Ls xs K.2.2.1 K.2.2.1.heap) (hb : b < Λ.2.2.2) (hLs : Ls ≤ 2048) (hi : ix + 3 < Ls) {s : fa_S} {hs : List fa_S} {ks : Option fa_S} {L : List Nat} {m : Nat} {t : Nat → Nat} {e f : Int32} (hl : ll I D s hs ks L m t e f) (hM : fm_M I s hs ks L m t e f) (he9 : e = -1 ∨ ¬ e < 0) (hf9 : f = -1 ∨ ¬ f < 0) (hcs : cs + 3 ≤ 603072) (hss : ss + 18 ≤ 7211114) (k : lk_k l Λ K b ix cs ss) : fo_G l Λ room_1 K cs ss 836 [(5, .int (nI ix)), (0, .ref b), (1, .ref (Λ.2.2.1 605)), (2, .ref (Λ.2.2.1 616)), (3, .ref (Λ.2.2.1 629)), (4, .ref (Λ.2.2.1 630))] [] I D J X := by
  obtain ⟨np, lim, kd, par, n, v⟩ := s
  refine fo_aload_n C dL_law_836 2 rfl rfl 837 rfl ?_
  refine fo_aload_n C dL_law_837 1 rfl rfl 838 rfl ?_
  refine fo_iload C dL_law_838 0 rfl 840 rfl ?_
  refine fo_iconst C dL_law_840 (nI 1) ki_1 841 rfl ?_
  refine fo_iadd C dL_law_841 (nI (ix + 1)) (nI_add _ _) 842 rfl ?_
  refine fo_sld C hX hb hLs (i := ix + 1) (by omega) dL_law_842 843 rfl ?_
  refine fo_aload_n C dL_law_843 1 rfl rfl 844 rfl ?_
  refine fo_iload C dL_law_844 0 rfl 846 rfl ?_
  refine fo_iconst C dL_law_846 (nI 2) ki_2 847 rfl ?_
  refine fo_iadd C dL_law_847 (nI (ix + 2)) (nI_add _ _) 848 rfl ?_
  refine fo_sld C hX hb hLs (i := ix + 2) (by omega) dL_law_848 849 rfl ?_
  refine fo_aload_n C dL_law_849 4 rfl rfl 850 rfl ?_
  refine fo_qw C dL_law_850 (mL_median hfl (x := (xs (ix + 1))) (z := (xs (ix + 2))) hl.1) lw_L_184 rfl ⟨(Nat.le_of_ble_eq_true rfl), (Nat.le_of_ble_eq_true rfl)⟩ ⟨show (_ : Nat) ≤ 603072 by omega, show (_ : Nat) ≤ 7211114 by omega⟩ [] rfl (Nat.le_of_ble_eq_true rfl) 853 rfl (fun r1 I2 D3 J4 X5 p6 => ?_)
  obtain ⟨rfl, z1, z2, jj, rfl, hjj⟩ := p6
  obtain rfl := z1.symm
  obtain rfl := z2.symm
  refine fo_istore C dL_law_853 [(6, .int (nI (fg_nl n (xs (ix + 1)) (xs (ix + 2)) (nI 0) (fun k c => nI (fp_med (fun o => v k (n k - c + o)) c))).1)), (5, .int (nI ix)), (0, .ref b), (1, .ref (Λ.2.2.1 605)), (2, .ref (Λ.2.2.1 616)), (3, .ref (Λ.2.2.1 629)), (4, .ref (Λ.2.2.1 630))] rfl (by decide) 855 rfl ?_
  refine fo_aload_n C dL_law_855 4 rfl rfl 856 rfl ?_
  refine fo_aload_n C dL_law_856 2 rfl rfl 857 rfl ?_
  refine fo_iload C dL_law_857 1 rfl 859 rfl ?_
  refine fo_iconst C dL_law_859 (nI 1) ki_1 860 rfl ?_
  refine fo_iadd C dL_law_860 (nI (ix + 1)) (nI_add _ _) 861 rfl ?_
  refine fo_sld C hX hb hLs (i := ix + 1) (by omega) dL_law_861 862 rfl ?_
  refine fo_aload_n C dL_law_862 2 rfl rfl 863 rfl ?_
  refine fo_iload C dL_law_863 1 rfl 865 rfl ?_
  refine fo_iconst C dL_law_865 (nI 2) ki_2 866 rfl ?_
  refine fo_iadd C dL_law_866 (nI (ix + 2)) (nI_add _ _) 867 rfl ?_
  refine fo_sld C hX hb hLs (i := ix + 2) (by omega) dL_law_867 868 rfl ?_
  refine fo_qvi C dL_law_868 (mX7_median (x := (xs (ix + 1))) (z := (xs (ix + 2))) hM.1) lv_L_186 (by decide : fo_k 616 = 9) rfl (by decide) rfl ⟨(Nat.le_of_ble_eq_true rfl), (Nat.le_of_ble_eq_true rfl)⟩ ⟨show (_ : Nat) ≤ 603072 by omega, show (_ : Nat) ≤ 7211114 by omega⟩ [] rfl (Nat.le_of_ble_eq_true rfl) 871 rfl (fun r7 I8 D9 J10 X11 p12 => ?_)
  obtain ⟨rfl, z0, z2, z3⟩ := p12
  subst z0
  obtain rfl := z2.symm
  obtain rfl := z3.symm
  have hth : (fo_r I 616 (upd (I 616) 5 (nI (fg_nl n (xs (ix + 1)) (xs (ix + 2)) (nI 0) (fun k c => nI (fp_med (fun o => v k (n k - c + o)) c))).1))) 616 5 = nI (fg_nl n (xs (ix + 1)) (xs (ix + 2)) (nI 0) (fun k c => nI (fp_med (fun o => v k (n k - c + o)) c))).1 := by rw [fo_rs, pk_us]
  replace hl := hl.th (x := nI (fg_nl n (xs (ix + 1)) (xs (ix + 2)) (nI 0) (fun k c => nI (fp_med (fun o => v k (n k - c + o)) c))).1)
  replace hM := hM.th (x := nI (fg_nl n (xs (ix + 1)) (xs (ix + 2)) (nI 0) (fun k c => nI (fp_med (fun o => v k (n k - c + o)) c))).1)
  refine fo_istore C dL_law_871 [(7, .int ((fg_nl n (xs (ix + 1)) (xs (ix + 2)) (nI 0) (fun k c => nI (fp_med (fun o => v k (n k - c + o)) c))).2)), (6, .int (nI (fg_nl n (xs (ix + 1)) (xs (ix + 2)) (nI 0) (fun k c => nI (fp_med (fun o => v k (n k - c + o)) c))).1)), (5, .int (nI ix)), (0, .ref b), (1, .ref (Λ.2.2.1 605)), (2, .ref (Λ.2.2.1 616)), (3, .ref (Λ.2.2.1 629)), (4, .ref (Λ.2.2.1 630))] rfl (by decide) 873 rfl ?_
  refine fo_aload_n C dL_law_873 5 rfl rfl 874 rfl ?_
  refine fo_qvi C dL_law_874 (mX7_thrown (x := nI (fg_nl n (xs (ix + 1)) (xs (ix + 2)) (nI 0) (fun k c => nI (fp_med (fun o => v k (n k - c + o)) c))).1) hth) lv_L_154 (by decide : fo_k 616 = 9) rfl (by decide) rfl ⟨(Nat.le_of_ble_eq_true rfl), (Nat.le_of_ble_eq_true rfl)⟩ ⟨show (_ : Nat) ≤ 603072 by omega, show (_ : Nat) ≤ 7211114 by omega⟩ [] rfl (Nat.le_of_ble_eq_true rfl) 877 rfl (fun r13 I14 D15 J16 X17 p18 => ?_)
  obtain ⟨rfl, z1, z2, z3, z4⟩ := p18
  obtain rfl := z1.symm
  obtain rfl := z2.symm
  obtain rfl := z3.symm
  obtain rfl := z4.symm
  refine fo_iload C dL_law_877 1 rfl 879 rfl ?_
  refine fo_icmp_eq C dL_law_879 884 (by decide) 882 rfl (fun c19 => ?_) (fun c19 => ?_)
  · refine fo_iload C dL_law_884 1 rfl 886 rfl ?_
    refine fo_if_ne C dL_law_886 901 (by decide) 889 rfl (fun c20 => ?_) (fun c20 => ?_)
    · refine fo_goto C dL_law_901 2683 (by decide) ?_
      refine fo_sub C [2, 3, 4, 5, 6, 7] (lv' := [(5, .int (nI ix)), (0, .ref b), (1, .ref (Λ.2.2.1 605)), (2, .ref (Λ.2.2.1 616)), (3, .ref (Λ.2.2.1 629)), (4, .ref (Λ.2.2.1 630))]) rfl ?_
      exact k _ _ _ _ _ _ _ _ _ _ _ _ _ _ (by omega) (by omega) hl hM he9 hf9
    · refine fo_aload_n C dL_law_889 6 rfl rfl 890 rfl ?_
      refine fo_iconst C dL_law_890 (nI 0) ki_0 891 rfl ?_
      refine fo_lald C dL_law_891 (by decide : fo_k 629 = 24) (by decide : 0 < fo_n 629) (((fg_nl n (xs (ix + 1)) (xs (ix + 2)) (nI 0) (fun k c => nI (fp_med (fun o => v k (n k - c + o)) c))).2).toInt64) (by rw [fo_rs]; exact hjj c20) 892 rfl ?_
      refine fo_iload C dL_law_892 0 rfl 894 rfl ?_
      refine fo_i2l C dL_law_894 _ rfl 895 rfl ?_
      refine fo_lcmp C dL_law_895 (nI 0) (fw_ls (rfl)) 896 rfl ?_
      refine fo_nif_eq C (by omega) dL_law_896 901 (by decide) 899 rfl (fun c21 => ?_) (fun c21 => ?_)
      · refine fo_goto C dL_law_901 2683 (by decide) ?_
        refine fo_sub C [2, 3, 4, 5, 6, 7] (lv' := [(5, .int (nI ix)), (0, .ref b), (1, .ref (Λ.2.2.1 605)), (2, .ref (Λ.2.2.1 616)), (3, .ref (Λ.2.2.1 629)), (4, .ref (Λ.2.2.1 630))]) rfl ?_
        exact k _ _ _ _ _ _ _ _ _ _ _ _ _ _ (by omega) (by omega) hl hM he9 hf9
      · omega
  · exact absurd rfl c19
set_option maxRecDepth 10000 in
set_option maxHeartbeats 4000000 in
theorem lc_10 {l : Launch} {Λ : fo_Lt} {K : fo_K} {cs ss ix b Ls : Nat} {xs : Nat → Int32} {I : fo_Mi} {D : fo_Md} {J : fo_Mj} {X : fo_Mi} (hfl : l.stackTraces = false) (C : fo_C Λ K cL_law RL 9) (hX : va_X b Ls xs K.2.2.1 K.2.2.1.heap) (hb : b < Λ.2.2.2) (hLs : Ls ≤ 2048) (hi : ix + 3 < Ls) {s : fa_S} {hs : List fa_S} {ks : Option fa_S} {L : List Nat} {m : Nat} {t : Nat → Nat} {e f : Int32} (hl : ll I D s hs ks L m t e f) (hM : fm_M I s hs ks L m t e f) (he9 : e = -1 ∨ ¬ e < 0) (hf9 : f = -1 ∨ ¬ f < 0) (hcs : cs + 3 ≤ 603072) (hss : ss + 18 ≤ 7211114) (k : lk_k l Λ K b ix cs ss) : fo_G l Λ room_1 K cs ss 904 [(5, .int (nI ix)), (0, .ref b), (1, .ref (Λ.2.2.1 605)), (2, .ref (Λ.2.2.1 616)), (3, .ref (Λ.2.2.1 629)), (4, .ref (Λ.2.2.1 630))] [] I D J X := by
  obtain ⟨np, lim, kd, par, n, v⟩ := s
  refine fo_aload_n C dL_law_904 2 rfl rfl 905 rfl ?_
  refine fo_aload_n C dL_law_905 1 rfl rfl 906 rfl ?_
  refine fo_iload C dL_law_906 0 rfl 908 rfl ?_
  refine fo_iconst C dL_law_908 (nI 1) ki_1 909 rfl ?_
  refine fo_iadd C dL_law_909 (nI (ix + 1)) (nI_add _ _) 910 rfl ?_
  refine fo_sld C hX hb hLs (i := ix + 1) (by omega) dL_law_910 911 rfl ?_
  refine fo_aload_n C dL_law_911 1 rfl rfl 912 rfl ?_
  refine fo_iload C dL_law_912 0 rfl 914 rfl ?_
  refine fo_iconst C dL_law_914 (nI 2) ki_2 915 rfl ?_
  refine fo_iadd C dL_law_915 (nI (ix + 2)) (nI_add _ _) 916 rfl ?_
  refine fo_sld C hX hb hLs (i := ix + 2) (by omega) dL_law_916 917 rfl ?_
  refine fo_aload_n C dL_law_917 4 rfl rfl 918 rfl ?_
  refine fo_qw C dL_law_918 (mL_medianByCounting hfl (x := (xs (ix + 1))) (z := (xs (ix + 2))) hl.1) lw_L_187 rfl ⟨(Nat.le_of_ble_eq_true rfl), (Nat.le_of_ble_eq_true rfl)⟩ ⟨show (_ : Nat) ≤ 603072 by omega, show (_ : Nat) ≤ 7211114 by omega⟩ [] rfl (Nat.le_of_ble_eq_true rfl) 921 rfl (fun r1 I2 D3 J4 X5 p6 => ?_)
  obtain ⟨rfl, z1, z2, jj, rfl, hjj⟩ := p6
  obtain rfl := z1.symm
  obtain rfl := z2.symm
  refine fo_istore C dL_law_921 [(6, .int (nI (fg_nl n (xs (ix + 1)) (xs (ix + 2)) (nI 0) (fun k c => nI (fp_med (fun o => v k (n k - c + o)) c))).1)), (5, .int (nI ix)), (0, .ref b), (1, .ref (Λ.2.2.1 605)), (2, .ref (Λ.2.2.1 616)), (3, .ref (Λ.2.2.1 629)), (4, .ref (Λ.2.2.1 630))] rfl (by decide) 923 rfl ?_
  refine fo_aload_n C dL_law_923 4 rfl rfl 924 rfl ?_
  refine fo_aload_n C dL_law_924 2 rfl rfl 925 rfl ?_
  refine fo_iload C dL_law_925 1 rfl 927 rfl ?_
  refine fo_iconst C dL_law_927 (nI 1) ki_1 928 rfl ?_
  refine fo_iadd C dL_law_928 (nI (ix + 1)) (nI_add _ _) 929 rfl ?_
  refine fo_sld C hX hb hLs (i := ix + 1) (by omega) dL_law_929 930 rfl ?_
  refine fo_aload_n C dL_law_930 2 rfl rfl 931 rfl ?_
  refine fo_iload C dL_law_931 1 rfl 933 rfl ?_
  refine fo_iconst C dL_law_933 (nI 2) ki_2 934 rfl ?_
  refine fo_iadd C dL_law_934 (nI (ix + 2)) (nI_add _ _) 935 rfl ?_
  refine fo_sld C hX hb hLs (i := ix + 2) (by omega) dL_law_935 936 rfl ?_
  refine fo_qvi C dL_law_936 (mX7_medianByCounting (x := (xs (ix + 1))) (z := (xs (ix + 2))) hM.1) lv_L_189 (by decide : fo_k 616 = 9) rfl (by decide) rfl ⟨(Nat.le_of_ble_eq_true rfl), (Nat.le_of_ble_eq_true rfl)⟩ ⟨show (_ : Nat) ≤ 603072 by omega, show (_ : Nat) ≤ 7211114 by omega⟩ [] rfl (Nat.le_of_ble_eq_true rfl) 939 rfl (fun r7 I8 D9 J10 X11 p12 => ?_)
  obtain ⟨rfl, z0, z2, z3⟩ := p12
  subst z0
  obtain rfl := z2.symm
  obtain rfl := z3.symm
  have hth : (fo_r I 616 (upd (I 616) 5 (nI (fg_nl n (xs (ix + 1)) (xs (ix + 2)) (nI 0) (fun k c => nI (fp_med (fun o => v k (n k - c + o)) c))).1))) 616 5 = nI (fg_nl n (xs (ix + 1)) (xs (ix + 2)) (nI 0) (fun k c => nI (fp_med (fun o => v k (n k - c + o)) c))).1 := by rw [fo_rs, pk_us]
  replace hl := hl.th (x := nI (fg_nl n (xs (ix + 1)) (xs (ix + 2)) (nI 0) (fun k c => nI (fp_med (fun o => v k (n k - c + o)) c))).1)
  replace hM := hM.th (x := nI (fg_nl n (xs (ix + 1)) (xs (ix + 2)) (nI 0) (fun k c => nI (fp_med (fun o => v k (n k - c + o)) c))).1)
  refine fo_istore C dL_law_939 [(7, .int ((fg_nl n (xs (ix + 1)) (xs (ix + 2)) (nI 0) (fun k c => nI (fp_med (fun o => v k (n k - c + o)) c))).2)), (6, .int (nI (fg_nl n (xs (ix + 1)) (xs (ix + 2)) (nI 0) (fun k c => nI (fp_med (fun o => v k (n k - c + o)) c))).1)), (5, .int (nI ix)), (0, .ref b), (1, .ref (Λ.2.2.1 605)), (2, .ref (Λ.2.2.1 616)), (3, .ref (Λ.2.2.1 629)), (4, .ref (Λ.2.2.1 630))] rfl (by decide) 941 rfl ?_
  refine fo_aload_n C dL_law_941 5 rfl rfl 942 rfl ?_
  refine fo_qvi C dL_law_942 (mX7_thrown (x := nI (fg_nl n (xs (ix + 1)) (xs (ix + 2)) (nI 0) (fun k c => nI (fp_med (fun o => v k (n k - c + o)) c))).1) hth) lv_L_154 (by decide : fo_k 616 = 9) rfl (by decide) rfl ⟨(Nat.le_of_ble_eq_true rfl), (Nat.le_of_ble_eq_true rfl)⟩ ⟨show (_ : Nat) ≤ 603072 by omega, show (_ : Nat) ≤ 7211114 by omega⟩ [] rfl (Nat.le_of_ble_eq_true rfl) 945 rfl (fun r13 I14 D15 J16 X17 p18 => ?_)
  obtain ⟨rfl, z1, z2, z3, z4⟩ := p18
  obtain rfl := z1.symm
  obtain rfl := z2.symm
  obtain rfl := z3.symm
  obtain rfl := z4.symm
  refine fo_iload C dL_law_945 1 rfl 947 rfl ?_
  refine fo_icmp_eq C dL_law_947 952 (by decide) 950 rfl (fun c19 => ?_) (fun c19 => ?_)
  · refine fo_iload C dL_law_952 1 rfl 954 rfl ?_
    refine fo_if_ne C dL_law_954 969 (by decide) 957 rfl (fun c20 => ?_) (fun c20 => ?_)
    · refine fo_goto C dL_law_969 2683 (by decide) ?_
      refine fo_sub C [2, 3, 4, 5, 6, 7] (lv' := [(5, .int (nI ix)), (0, .ref b), (1, .ref (Λ.2.2.1 605)), (2, .ref (Λ.2.2.1 616)), (3, .ref (Λ.2.2.1 629)), (4, .ref (Λ.2.2.1 630))]) rfl ?_
      exact k _ _ _ _ _ _ _ _ _ _ _ _ _ _ (by omega) (by omega) hl hM he9 hf9
    · refine fo_aload_n C dL_law_957 6 rfl rfl 958 rfl ?_
      refine fo_iconst C dL_law_958 (nI 0) ki_0 959 rfl ?_
      refine fo_lald C dL_law_959 (by decide : fo_k 629 = 24) (by decide : 0 < fo_n 629) (((fg_nl n (xs (ix + 1)) (xs (ix + 2)) (nI 0) (fun k c => nI (fp_med (fun o => v k (n k - c + o)) c))).2).toInt64) (by rw [fo_rs]; exact hjj c20) 960 rfl ?_
      refine fo_iload C dL_law_960 0 rfl 962 rfl ?_
      refine fo_i2l C dL_law_962 _ rfl 963 rfl ?_
      refine fo_lcmp C dL_law_963 (nI 0) (fw_ls (rfl)) 964 rfl ?_
      refine fo_nif_eq C (by omega) dL_law_964 969 (by decide) 967 rfl (fun c21 => ?_) (fun c21 => ?_)
      · refine fo_goto C dL_law_969 2683 (by decide) ?_
        refine fo_sub C [2, 3, 4, 5, 6, 7] (lv' := [(5, .int (nI ix)), (0, .ref b), (1, .ref (Λ.2.2.1 605)), (2, .ref (Λ.2.2.1 616)), (3, .ref (Λ.2.2.1 629)), (4, .ref (Λ.2.2.1 630))]) rfl ?_
        exact k _ _ _ _ _ _ _ _ _ _ _ _ _ _ (by omega) (by omega) hl hM he9 hf9
      · omega
  · exact absurd rfl c19
set_option maxRecDepth 10000 in
set_option maxHeartbeats 4000000 in
theorem lc_11 {l : Launch} {Λ : fo_Lt} {K : fo_K} {cs ss ix b Ls : Nat} {xs : Nat → Int32} {I : fo_Mi} {D : fo_Md} {J : fo_Mj} {X : fo_Mi} (hfl : l.stackTraces = false) (C : fo_C Λ K cL_law RL 9) (hX : va_X b Ls xs K.2.2.1 K.2.2.1.heap) (hb : b < Λ.2.2.2) (hLs : Ls ≤ 2048) (hi : ix + 3 < Ls) {s : fa_S} {hs : List fa_S} {ks : Option fa_S} {L : List Nat} {m : Nat} {t : Nat → Nat} {e f : Int32} (hl : ll I D s hs ks L m t e f) (hM : fm_M I s hs ks L m t e f) (he9 : e = -1 ∨ ¬ e < 0) (hf9 : f = -1 ∨ ¬ f < 0) (hcs : cs + 3 ≤ 603072) (hss : ss + 18 ≤ 7211114) (k : lk_k l Λ K b ix cs ss) : fo_G l Λ room_1 K cs ss 972 [(5, .int (nI ix)), (0, .ref b), (1, .ref (Λ.2.2.1 605)), (2, .ref (Λ.2.2.1 616)), (3, .ref (Λ.2.2.1 629)), (4, .ref (Λ.2.2.1 630))] [] I D J X := by
  obtain ⟨np, lim, kd, par, n, v⟩ := s
  refine fo_aload_n C dL_law_972 2 rfl rfl 973 rfl ?_
  refine fo_aload_n C dL_law_973 1 rfl rfl 974 rfl ?_
  refine fo_iload C dL_law_974 0 rfl 976 rfl ?_
  refine fo_iconst C dL_law_976 (nI 1) ki_1 977 rfl ?_
  refine fo_iadd C dL_law_977 (nI (ix + 1)) (nI_add _ _) 978 rfl ?_
  refine fo_sld C hX hb hLs (i := ix + 1) (by omega) dL_law_978 979 rfl ?_
  refine fo_aload_n C dL_law_979 1 rfl rfl 980 rfl ?_
  refine fo_iload C dL_law_980 0 rfl 982 rfl ?_
  refine fo_iconst C dL_law_982 (nI 2) ki_2 983 rfl ?_
  refine fo_iadd C dL_law_983 (nI (ix + 2)) (nI_add _ _) 984 rfl ?_
  refine fo_sld C hX hb hLs (i := ix + 2) (by omega) dL_law_984 985 rfl ?_
  refine fo_aload C dL_law_985 5 rfl 987 rfl ?_
  refine fo_qw C dL_law_987 (mL_smoothed hfl (x := (xs (ix + 1))) (z := (xs (ix + 2))) hl.1) lw_L_190 rfl ⟨(Nat.le_of_ble_eq_true rfl), (Nat.le_of_ble_eq_true rfl)⟩ ⟨show (_ : Nat) ≤ 603072 by omega, show (_ : Nat) ≤ 7211114 by omega⟩ [] rfl (Nat.le_of_ble_eq_true rfl) 990 rfl (fun r1 I2 D3 J4 X5 p6 => ?_)
  obtain ⟨rfl, z1, z2, jj, rfl, hjj⟩ := p6
  obtain rfl := z1.symm
  obtain rfl := z2.symm
  refine fo_istore C dL_law_990 [(6, .int (nI (fg_sm n (xs (ix + 1)) (xs (ix + 2)) FP.dconst0 (fun k c => fp_lev (v k) c (n k - 1))).1)), (5, .int (nI ix)), (0, .ref b), (1, .ref (Λ.2.2.1 605)), (2, .ref (Λ.2.2.1 616)), (3, .ref (Λ.2.2.1 629)), (4, .ref (Λ.2.2.1 630))] rfl (by decide) 992 rfl ?_
  refine fo_aload_n C dL_law_992 4 rfl rfl 993 rfl ?_
  refine fo_aload_n C dL_law_993 2 rfl rfl 994 rfl ?_
  refine fo_iload C dL_law_994 1 rfl 996 rfl ?_
  refine fo_iconst C dL_law_996 (nI 1) ki_1 997 rfl ?_
  refine fo_iadd C dL_law_997 (nI (ix + 1)) (nI_add _ _) 998 rfl ?_
  refine fo_sld C hX hb hLs (i := ix + 1) (by omega) dL_law_998 999 rfl ?_
  refine fo_aload_n C dL_law_999 2 rfl rfl 1000 rfl ?_
  refine fo_iload C dL_law_1000 1 rfl 1002 rfl ?_
  refine fo_iconst C dL_law_1002 (nI 2) ki_2 1003 rfl ?_
  refine fo_iadd C dL_law_1003 (nI (ix + 2)) (nI_add _ _) 1004 rfl ?_
  refine fo_sld C hX hb hLs (i := ix + 2) (by omega) dL_law_1004 1005 rfl ?_
  refine fo_qvd C dL_law_1005 (mX7_smoothed (x := (xs (ix + 1))) (z := (xs (ix + 2))) hM.1) lv_L_192 (by decide : fo_k 616 = 9) rfl (by decide) rfl ⟨(Nat.le_of_ble_eq_true rfl), (Nat.le_of_ble_eq_true rfl)⟩ ⟨show (_ : Nat) ≤ 603072 by omega, show (_ : Nat) ≤ 7211114 by omega⟩ [] rfl (Nat.le_of_ble_eq_true rfl) 1008 rfl (fun r7 I8 D9 J10 X11 p12 => ?_)
  obtain ⟨rfl, z0, z2, z3⟩ := p12
  subst z0
  obtain rfl := z2.symm
  obtain rfl := z3.symm
  have hth : (fo_r I 616 (upd (I 616) 5 (nI (fg_sm n (xs (ix + 1)) (xs (ix + 2)) FP.dconst0 (fun k c => fp_lev (v k) c (n k - 1))).1))) 616 5 = nI (fg_sm n (xs (ix + 1)) (xs (ix + 2)) FP.dconst0 (fun k c => fp_lev (v k) c (n k - 1))).1 := by rw [fo_rs, pk_us]
  replace hl := hl.d (dd := jj).th (x := nI (fg_sm n (xs (ix + 1)) (xs (ix + 2)) FP.dconst0 (fun k c => fp_lev (v k) c (n k - 1))).1)
  replace hM := hM.th (x := nI (fg_sm n (xs (ix + 1)) (xs (ix + 2)) FP.dconst0 (fun k c => fp_lev (v k) c (n k - 1))).1)
  refine fo_dstore C dL_law_1008 [(7, .double ((fg_sm n (xs (ix + 1)) (xs (ix + 2)) FP.dconst0 (fun k c => fp_lev (v k) c (n k - 1))).2)), (6, .int (nI (fg_sm n (xs (ix + 1)) (xs (ix + 2)) FP.dconst0 (fun k c => fp_lev (v k) c (n k - 1))).1)), (5, .int (nI ix)), (0, .ref b), (1, .ref (Λ.2.2.1 605)), (2, .ref (Λ.2.2.1 616)), (3, .ref (Λ.2.2.1 629)), (4, .ref (Λ.2.2.1 630))] rfl (by decide) 1010 rfl ?_
  refine fo_aload_n C dL_law_1010 5 rfl rfl 1011 rfl ?_
  refine fo_qvi C dL_law_1011 (mX7_thrown (x := nI (fg_sm n (xs (ix + 1)) (xs (ix + 2)) FP.dconst0 (fun k c => fp_lev (v k) c (n k - 1))).1) hth) lv_L_154 (by decide : fo_k 616 = 9) rfl (by decide) rfl ⟨(Nat.le_of_ble_eq_true rfl), (Nat.le_of_ble_eq_true rfl)⟩ ⟨show (_ : Nat) ≤ 603072 by omega, show (_ : Nat) ≤ 7211114 by omega⟩ [] rfl (Nat.le_of_ble_eq_true rfl) 1014 rfl (fun r13 I14 D15 J16 X17 p18 => ?_)
  obtain ⟨rfl, z1, z2, z3, z4⟩ := p18
  obtain rfl := z1.symm
  obtain rfl := z2.symm
  obtain rfl := z3.symm
  obtain rfl := z4.symm
  refine fo_iload C dL_law_1014 1 rfl 1016 rfl ?_
  refine fo_icmp_eq C dL_law_1016 1021 (by decide) 1019 rfl (fun c19 => ?_) (fun c19 => ?_)
  · refine fo_iload C dL_law_1021 1 rfl 1023 rfl ?_
    refine fo_if_ne C dL_law_1023 1058 (by decide) 1026 rfl (fun c20 => ?_) (fun c20 => ?_)
    · refine fo_goto C dL_law_1058 2683 (by decide) ?_
      refine fo_sub C [2, 3, 4, 5, 6, 7] (lv' := [(5, .int (nI ix)), (0, .ref b), (1, .ref (Λ.2.2.1 605)), (2, .ref (Λ.2.2.1 616)), (3, .ref (Λ.2.2.1 629)), (4, .ref (Λ.2.2.1 630))]) rfl ?_
      exact k _ _ _ _ _ _ _ _ _ _ _ _ _ _ (by omega) (by omega) hl hM he9 hf9
    · refine fo_aload C dL_law_1026 7 rfl 1028 rfl ?_
      refine fo_iconst C dL_law_1028 (nI 0) ki_0 1029 rfl ?_
      refine fo_dald C dL_law_1029 (by decide : fo_k 630 = 22) (by decide : 0 < fo_n 630) ((fg_sm n (xs (ix + 1)) (xs (ix + 2)) FP.dconst0 (fun k c => fp_lev (v k) c (n k - 1))).2) (by rw [fo_rs]; exact hjj c20) 1030 rfl ?_
      refine fo_dload C dL_law_1030 0 rfl 1032 rfl ?_
      refine fo_dcmp C dL_law_1032 1033 rfl ?_
      refine fo_if_eq C dL_law_1033 1058 (by decide) 1036 rfl (fun c21 => ?_) (fun c21 => ?_)
      · refine fo_goto C dL_law_1058 2683 (by decide) ?_
        refine fo_sub C [2, 3, 4, 5, 6, 7] (lv' := [(5, .int (nI ix)), (0, .ref b), (1, .ref (Λ.2.2.1 605)), (2, .ref (Λ.2.2.1 616)), (3, .ref (Λ.2.2.1 629)), (4, .ref (Λ.2.2.1 630))]) rfl ?_
        exact k _ _ _ _ _ _ _ _ _ _ _ _ _ _ (by omega) (by omega) hl hM he9 hf9
      · refine fo_aload C dL_law_1036 7 rfl 1038 rfl ?_
        refine fo_iconst C dL_law_1038 (nI 0) ki_0 1039 rfl ?_
        refine fo_dald C dL_law_1039 (by decide : fo_k 630 = 22) (by decide : 0 < fo_n 630) ((fg_sm n (xs (ix + 1)) (xs (ix + 2)) FP.dconst0 (fun k c => fp_lev (v k) c (n k - 1))).2) (by rw [fo_rs]; exact hjj c20) 1040 rfl ?_
        refine fo_aload C dL_law_1040 7 rfl 1042 rfl ?_
        refine fo_iconst C dL_law_1042 (nI 0) ki_0 1043 rfl ?_
        refine fo_dald C dL_law_1043 (by decide : fo_k 630 = 22) (by decide : 0 < fo_n 630) ((fg_sm n (xs (ix + 1)) (xs (ix + 2)) FP.dconst0 (fun k c => fp_lev (v k) c (n k - 1))).2) (by rw [fo_rs]; exact hjj c20) 1044 rfl ?_
        refine fo_dcmp C dL_law_1044 1045 rfl ?_
        refine fo_if_eq C dL_law_1045 1056 (by decide) 1048 rfl (fun c22 => ?_) (fun c22 => ?_)
        · exact absurd c22 c21
        · refine fo_dload C dL_law_1048 0 rfl 1050 rfl ?_
          refine fo_dload C dL_law_1050 0 rfl 1052 rfl ?_
          refine fo_dcmp C dL_law_1052 1053 rfl ?_
          refine fo_if_ne C dL_law_1053 1058 (by decide) 1056 rfl (fun c23 => ?_) (fun c23 => ?_)
          · refine fo_goto C dL_law_1058 2683 (by decide) ?_
            refine fo_sub C [2, 3, 4, 5, 6, 7] (lv' := [(5, .int (nI ix)), (0, .ref b), (1, .ref (Λ.2.2.1 605)), (2, .ref (Λ.2.2.1 616)), (3, .ref (Λ.2.2.1 629)), (4, .ref (Λ.2.2.1 630))]) rfl ?_
            exact k _ _ _ _ _ _ _ _ _ _ _ _ _ _ (by omega) (by omega) hl hM he9 hf9
          · exact absurd c23 c21
  · exact absurd rfl c19
set_option maxRecDepth 10000 in
set_option maxHeartbeats 4000000 in
theorem lc_12 {l : Launch} {Λ : fo_Lt} {K : fo_K} {cs ss ix b Ls : Nat} {xs : Nat → Int32} {I : fo_Mi} {D : fo_Md} {J : fo_Mj} {X : fo_Mi} (hfl : l.stackTraces = false) (C : fo_C Λ K cL_law RL 9) (hX : va_X b Ls xs K.2.2.1 K.2.2.1.heap) (hb : b < Λ.2.2.2) (hLs : Ls ≤ 2048) (hi : ix + 3 < Ls) {s : fa_S} {hs : List fa_S} {ks : Option fa_S} {L : List Nat} {m : Nat} {t : Nat → Nat} {e f : Int32} (hl : ll I D s hs ks L m t e f) (hM : fm_M I s hs ks L m t e f) (he9 : e = -1 ∨ ¬ e < 0) (hf9 : f = -1 ∨ ¬ f < 0) (hcs : cs + 3 ≤ 603072) (hss : ss + 18 ≤ 7211114) (k : lk_k l Λ K b ix cs ss) : fo_G l Λ room_1 K cs ss 1061 [(5, .int (nI ix)), (0, .ref b), (1, .ref (Λ.2.2.1 605)), (2, .ref (Λ.2.2.1 616)), (3, .ref (Λ.2.2.1 629)), (4, .ref (Λ.2.2.1 630))] [] I D J X := by
  obtain ⟨np, lim, kd, par, n, v⟩ := s
  refine fo_aload_n C dL_law_1061 2 rfl rfl 1062 rfl ?_
  refine fo_aload_n C dL_law_1062 1 rfl rfl 1063 rfl ?_
  refine fo_iload C dL_law_1063 0 rfl 1065 rfl ?_
  refine fo_iconst C dL_law_1065 (nI 1) ki_1 1066 rfl ?_
  refine fo_iadd C dL_law_1066 (nI (ix + 1)) (nI_add _ _) 1067 rfl ?_
  refine fo_sld C hX hb hLs (i := ix + 1) (by omega) dL_law_1067 1068 rfl ?_
  refine fo_aload_n C dL_law_1068 1 rfl rfl 1069 rfl ?_
  refine fo_iload C dL_law_1069 0 rfl 1071 rfl ?_
  refine fo_iconst C dL_law_1071 (nI 2) ki_2 1072 rfl ?_
  refine fo_iadd C dL_law_1072 (nI (ix + 2)) (nI_add _ _) 1073 rfl ?_
  refine fo_sld C hX hb hLs (i := ix + 2) (by omega) dL_law_1073 1074 rfl ?_
  refine fo_aload_n C dL_law_1074 4 rfl rfl 1075 rfl ?_
  refine fo_qw C dL_law_1075 (mL_isOutlier hfl (x := (xs (ix + 1))) (z := (xs (ix + 2))) hl.1) lw_L_193 rfl ⟨(Nat.le_of_ble_eq_true rfl), (Nat.le_of_ble_eq_true rfl)⟩ ⟨show (_ : Nat) ≤ 603072 by omega, show (_ : Nat) ≤ 7211114 by omega⟩ [] rfl (Nat.le_of_ble_eq_true rfl) 1078 rfl (fun r1 I2 D3 J4 X5 p6 => ?_)
  obtain ⟨rfl, z1, z2, jj, rfl, hjj⟩ := p6
  obtain rfl := z1.symm
  obtain rfl := z2.symm
  rw [fw_nvb] at hjj
  refine fo_istore C dL_law_1078 [(6, .int (nI (fg_nv n (xs (ix + 1)) (xs (ix + 2)) (fo_b false) (fun k d => fo_b (fp_off (v k) lim d))).1)), (5, .int (nI ix)), (0, .ref b), (1, .ref (Λ.2.2.1 605)), (2, .ref (Λ.2.2.1 616)), (3, .ref (Λ.2.2.1 629)), (4, .ref (Λ.2.2.1 630))] rfl (by decide) 1080 rfl ?_
  refine fo_aload_n C dL_law_1080 4 rfl rfl 1081 rfl ?_
  refine fo_aload_n C dL_law_1081 2 rfl rfl 1082 rfl ?_
  refine fo_iload C dL_law_1082 1 rfl 1084 rfl ?_
  refine fo_iconst C dL_law_1084 (nI 1) ki_1 1085 rfl ?_
  refine fo_iadd C dL_law_1085 (nI (ix + 1)) (nI_add _ _) 1086 rfl ?_
  refine fo_sld C hX hb hLs (i := ix + 1) (by omega) dL_law_1086 1087 rfl ?_
  refine fo_aload_n C dL_law_1087 2 rfl rfl 1088 rfl ?_
  refine fo_iload C dL_law_1088 1 rfl 1090 rfl ?_
  refine fo_iconst C dL_law_1090 (nI 2) ki_2 1091 rfl ?_
  refine fo_iadd C dL_law_1091 (nI (ix + 2)) (nI_add _ _) 1092 rfl ?_
  refine fo_sld C hX hb hLs (i := ix + 2) (by omega) dL_law_1092 1093 rfl ?_
  refine fo_qvi C dL_law_1093 (mX7_isOutlier (x := (xs (ix + 1))) (z := (xs (ix + 2))) hM.1) lv_L_195 (by decide : fo_k 616 = 9) rfl (by decide) rfl ⟨(Nat.le_of_ble_eq_true rfl), (Nat.le_of_ble_eq_true rfl)⟩ ⟨show (_ : Nat) ≤ 603072 by omega, show (_ : Nat) ≤ 7211114 by omega⟩ [] rfl (Nat.le_of_ble_eq_true rfl) 1096 rfl (fun r7 I8 D9 J10 X11 p12 => ?_)
  obtain ⟨rfl, z0, z2, z3⟩ := p12
  subst z0
  obtain rfl := z2.symm
  obtain rfl := z3.symm
  have hth : (fo_r I 616 (upd (I 616) 5 (nI (fg_nv n (xs (ix + 1)) (xs (ix + 2)) (fo_b false) (fun k d => fo_b (fp_off (v k) lim d))).1))) 616 5 = nI (fg_nv n (xs (ix + 1)) (xs (ix + 2)) (fo_b false) (fun k d => fo_b (fp_off (v k) lim d))).1 := by rw [fo_rs, pk_us]
  replace hl := hl.th (x := nI (fg_nv n (xs (ix + 1)) (xs (ix + 2)) (fo_b false) (fun k d => fo_b (fp_off (v k) lim d))).1)
  replace hM := hM.th (x := nI (fg_nv n (xs (ix + 1)) (xs (ix + 2)) (fo_b false) (fun k d => fo_b (fp_off (v k) lim d))).1)
  rw [fw_nvb]
  refine fo_istore C dL_law_1096 [(7, .int (fo_b ((fg_nv n (xs (ix + 1)) (xs (ix + 2)) false (fun k d => fp_off (v k) lim d)).2))), (6, .int (nI (fg_nv n (xs (ix + 1)) (xs (ix + 2)) (fo_b false) (fun k d => fo_b (fp_off (v k) lim d))).1)), (5, .int (nI ix)), (0, .ref b), (1, .ref (Λ.2.2.1 605)), (2, .ref (Λ.2.2.1 616)), (3, .ref (Λ.2.2.1 629)), (4, .ref (Λ.2.2.1 630))] rfl (by decide) 1098 rfl ?_
  refine fo_aload_n C dL_law_1098 5 rfl rfl 1099 rfl ?_
  refine fo_qvi C dL_law_1099 (mX7_thrown (x := nI (fg_nv n (xs (ix + 1)) (xs (ix + 2)) (fo_b false) (fun k d => fo_b (fp_off (v k) lim d))).1) hth) lv_L_154 (by decide : fo_k 616 = 9) rfl (by decide) rfl ⟨(Nat.le_of_ble_eq_true rfl), (Nat.le_of_ble_eq_true rfl)⟩ ⟨show (_ : Nat) ≤ 603072 by omega, show (_ : Nat) ≤ 7211114 by omega⟩ [] rfl (Nat.le_of_ble_eq_true rfl) 1102 rfl (fun r13 I14 D15 J16 X17 p18 => ?_)
  obtain ⟨rfl, z1, z2, z3, z4⟩ := p18
  obtain rfl := z1.symm
  obtain rfl := z2.symm
  obtain rfl := z3.symm
  obtain rfl := z4.symm
  refine fo_iload C dL_law_1102 1 rfl 1104 rfl ?_
  refine fo_icmp_eq C dL_law_1104 1109 (by decide) 1107 rfl (fun c19 => ?_) (fun c19 => ?_)
  · refine fo_iload C dL_law_1109 1 rfl 1111 rfl ?_
    refine fo_if_ne C dL_law_1111 1133 (by decide) 1114 rfl (fun c20 => ?_) (fun c20 => ?_)
    · refine fo_goto C dL_law_1133 2683 (by decide) ?_
      refine fo_sub C [2, 3, 4, 5, 6, 7] (lv' := [(5, .int (nI ix)), (0, .ref b), (1, .ref (Λ.2.2.1 605)), (2, .ref (Λ.2.2.1 616)), (3, .ref (Λ.2.2.1 629)), (4, .ref (Λ.2.2.1 630))]) rfl ?_
      exact k _ _ _ _ _ _ _ _ _ _ _ _ _ _ (by omega) (by omega) hl hM he9 hf9
    · refine fo_aload_n C dL_law_1114 6 rfl rfl 1115 rfl ?_
      refine fo_iconst C dL_law_1115 (nI 0) ki_0 1116 rfl ?_
      refine fo_lald C dL_law_1116 (by decide : fo_k 629 = 24) (by decide : 0 < fo_n 629) ((fo_b (fg_nv n (xs (ix + 1)) (xs (ix + 2)) false (fun k d => fp_off (v k) lim d)).2).toInt64) (by rw [fo_rs]; exact hjj c20) 1117 rfl ?_
      refine fo_iload C dL_law_1117 0 rfl 1119 rfl ?_
      refine fo_bif_eq C dL_law_1119 1126 (by decide) 1122 rfl (fun c21 => ?_) (fun c21 => ?_)
      · refine fo_lconst C dL_law_1126 0 (by decide) 1127 rfl ?_
        refine fo_lcmp C dL_law_1127 (nI 0) (fw_ls (by rw [c21]; rfl)) 1128 rfl ?_
        refine fo_nif_eq C (by omega) dL_law_1128 1133 (by decide) 1131 rfl (fun c22 => ?_) (fun c22 => ?_)
        · refine fo_goto C dL_law_1133 2683 (by decide) ?_
          refine fo_sub C [2, 3, 4, 5, 6, 7] (lv' := [(5, .int (nI ix)), (0, .ref b), (1, .ref (Λ.2.2.1 605)), (2, .ref (Λ.2.2.1 616)), (3, .ref (Λ.2.2.1 629)), (4, .ref (Λ.2.2.1 630))]) rfl ?_
          exact k _ _ _ _ _ _ _ _ _ _ _ _ _ _ (by omega) (by omega) hl hM he9 hf9
        · omega
      · refine fo_lconst C dL_law_1122 1 (by decide) 1123 rfl ?_
        refine fo_goto C dL_law_1123 1127 (by decide) ?_
        refine fo_lcmp C dL_law_1127 (nI 0) (fw_ls (by rw [c21]; rfl)) 1128 rfl ?_
        refine fo_nif_eq C (by omega) dL_law_1128 1133 (by decide) 1131 rfl (fun c23 => ?_) (fun c23 => ?_)
        · refine fo_goto C dL_law_1133 2683 (by decide) ?_
          refine fo_sub C [2, 3, 4, 5, 6, 7] (lv' := [(5, .int (nI ix)), (0, .ref b), (1, .ref (Λ.2.2.1 605)), (2, .ref (Λ.2.2.1 616)), (3, .ref (Λ.2.2.1 629)), (4, .ref (Λ.2.2.1 630))]) rfl ?_
          exact k _ _ _ _ _ _ _ _ _ _ _ _ _ _ (by omega) (by omega) hl hM he9 hf9
        · omega
  · exact absurd rfl c19
set_option maxRecDepth 10000 in
set_option maxHeartbeats 4000000 in
theorem lc_13 {l : Launch} {Λ : fo_Lt} {K : fo_K} {cs ss ix b Ls : Nat} {xs : Nat → Int32} {I : fo_Mi} {D : fo_Md} {J : fo_Mj} {X : fo_Mi} (hfl : l.stackTraces = false) (C : fo_C Λ K cL_law RL 9) (hX : va_X b Ls xs K.2.2.1 K.2.2.1.heap) (hb : b < Λ.2.2.2) (hLs : Ls ≤ 2048) (hi : ix + 3 < Ls) {s : fa_S} {hs : List fa_S} {ks : Option fa_S} {L : List Nat} {m : Nat} {t : Nat → Nat} {e f : Int32} (hl : ll I D s hs ks L m t e f) (hM : fm_M I s hs ks L m t e f) (he9 : e = -1 ∨ ¬ e < 0) (hf9 : f = -1 ∨ ¬ f < 0) (hcs : cs + 3 ≤ 603072) (hss : ss + 18 ≤ 7211114) (k : lk_k l Λ K b ix cs ss) : fo_G l Λ room_1 K cs ss 1136 [(5, .int (nI ix)), (0, .ref b), (1, .ref (Λ.2.2.1 605)), (2, .ref (Λ.2.2.1 616)), (3, .ref (Λ.2.2.1 629)), (4, .ref (Λ.2.2.1 630))] [] I D J X := by
  obtain ⟨np, lim, kd, par, n, v⟩ := s
  refine fo_aload_n C dL_law_1136 2 rfl rfl 1137 rfl ?_
  refine fo_aload_n C dL_law_1137 1 rfl rfl 1138 rfl ?_
  refine fo_iload C dL_law_1138 0 rfl 1140 rfl ?_
  refine fo_iconst C dL_law_1140 (nI 1) ki_1 1141 rfl ?_
  refine fo_iadd C dL_law_1141 (nI (ix + 1)) (nI_add _ _) 1142 rfl ?_
  refine fo_sld C hX hb hLs (i := ix + 1) (by omega) dL_law_1142 1143 rfl ?_
  refine fo_aload_n C dL_law_1143 4 rfl rfl 1144 rfl ?_
  refine fo_qw C dL_law_1144 (mL_outliers hfl (x := (xs (ix + 1))) hl.1) lw_L_196 rfl ⟨(Nat.le_of_ble_eq_true rfl), (Nat.le_of_ble_eq_true rfl)⟩ ⟨show (_ : Nat) ≤ 603072 by omega, show (_ : Nat) ≤ 7211114 by omega⟩ [] rfl (Nat.le_of_ble_eq_true rfl) 1147 rfl (fun r1 I2 D3 J4 X5 p6 => ?_)
  obtain ⟨rfl, z1, z2, jj, rfl, hjj⟩ := p6
  obtain rfl := z1.symm
  obtain rfl := z2.symm
  refine fo_istore C dL_law_1147 [(6, .int (nI (fg_se (xs (ix + 1)) (nI 0) (fun k => (0, nI (fp_cnt (fp_off (v k) lim) (n k))))).1)), (5, .int (nI ix)), (0, .ref b), (1, .ref (Λ.2.2.1 605)), (2, .ref (Λ.2.2.1 616)), (3, .ref (Λ.2.2.1 629)), (4, .ref (Λ.2.2.1 630))] rfl (by decide) 1149 rfl ?_
  refine fo_aload_n C dL_law_1149 4 rfl rfl 1150 rfl ?_
  refine fo_aload_n C dL_law_1150 2 rfl rfl 1151 rfl ?_
  refine fo_iload C dL_law_1151 1 rfl 1153 rfl ?_
  refine fo_iconst C dL_law_1153 (nI 1) ki_1 1154 rfl ?_
  refine fo_iadd C dL_law_1154 (nI (ix + 1)) (nI_add _ _) 1155 rfl ?_
  refine fo_sld C hX hb hLs (i := ix + 1) (by omega) dL_law_1155 1156 rfl ?_
  refine fo_qvi C dL_law_1156 (mX7_outliers (x := (xs (ix + 1))) hM.1) lv_L_198 (by decide : fo_k 616 = 9) rfl (by decide) rfl ⟨(Nat.le_of_ble_eq_true rfl), (Nat.le_of_ble_eq_true rfl)⟩ ⟨show (_ : Nat) ≤ 603072 by omega, show (_ : Nat) ≤ 7211114 by omega⟩ [] rfl (Nat.le_of_ble_eq_true rfl) 1159 rfl (fun r7 I8 D9 J10 X11 p12 => ?_)
  obtain ⟨rfl, z0, z2, z3⟩ := p12
  subst z0
  obtain rfl := z2.symm
  obtain rfl := z3.symm
  have hth : (fo_r I 616 (upd (I 616) 5 (nI (fg_se (xs (ix + 1)) (nI 0) (fun k => (0, nI (fp_cnt (fp_off (v k) lim) (n k))))).1))) 616 5 = nI (fg_se (xs (ix + 1)) (nI 0) (fun k => (0, nI (fp_cnt (fp_off (v k) lim) (n k))))).1 := by rw [fo_rs, pk_us]
  replace hl := hl.th (x := nI (fg_se (xs (ix + 1)) (nI 0) (fun k => (0, nI (fp_cnt (fp_off (v k) lim) (n k))))).1)
  replace hM := hM.th (x := nI (fg_se (xs (ix + 1)) (nI 0) (fun k => (0, nI (fp_cnt (fp_off (v k) lim) (n k))))).1)
  refine fo_istore C dL_law_1159 [(7, .int ((fg_se (xs (ix + 1)) (nI 0) (fun k => (0, nI (fp_cnt (fp_off (v k) lim) (n k))))).2)), (6, .int (nI (fg_se (xs (ix + 1)) (nI 0) (fun k => (0, nI (fp_cnt (fp_off (v k) lim) (n k))))).1)), (5, .int (nI ix)), (0, .ref b), (1, .ref (Λ.2.2.1 605)), (2, .ref (Λ.2.2.1 616)), (3, .ref (Λ.2.2.1 629)), (4, .ref (Λ.2.2.1 630))] rfl (by decide) 1161 rfl ?_
  refine fo_aload_n C dL_law_1161 5 rfl rfl 1162 rfl ?_
  refine fo_qvi C dL_law_1162 (mX7_thrown (x := nI (fg_se (xs (ix + 1)) (nI 0) (fun k => (0, nI (fp_cnt (fp_off (v k) lim) (n k))))).1) hth) lv_L_154 (by decide : fo_k 616 = 9) rfl (by decide) rfl ⟨(Nat.le_of_ble_eq_true rfl), (Nat.le_of_ble_eq_true rfl)⟩ ⟨show (_ : Nat) ≤ 603072 by omega, show (_ : Nat) ≤ 7211114 by omega⟩ [] rfl (Nat.le_of_ble_eq_true rfl) 1165 rfl (fun r13 I14 D15 J16 X17 p18 => ?_)
  obtain ⟨rfl, z1, z2, z3, z4⟩ := p18
  obtain rfl := z1.symm
  obtain rfl := z2.symm
  obtain rfl := z3.symm
  obtain rfl := z4.symm
  refine fo_iload C dL_law_1165 1 rfl 1167 rfl ?_
  refine fo_icmp_eq C dL_law_1167 1172 (by decide) 1170 rfl (fun c19 => ?_) (fun c19 => ?_)
  · refine fo_iload C dL_law_1172 1 rfl 1174 rfl ?_
    refine fo_if_ne C dL_law_1174 1189 (by decide) 1177 rfl (fun c20 => ?_) (fun c20 => ?_)
    · refine fo_goto C dL_law_1189 2683 (by decide) ?_
      refine fo_sub C [2, 3, 4, 5, 6, 7] (lv' := [(5, .int (nI ix)), (0, .ref b), (1, .ref (Λ.2.2.1 605)), (2, .ref (Λ.2.2.1 616)), (3, .ref (Λ.2.2.1 629)), (4, .ref (Λ.2.2.1 630))]) rfl ?_
      exact k _ _ _ _ _ _ _ _ _ _ _ _ _ _ (by omega) (by omega) hl hM he9 hf9
    · refine fo_aload_n C dL_law_1177 6 rfl rfl 1178 rfl ?_
      refine fo_iconst C dL_law_1178 (nI 0) ki_0 1179 rfl ?_
      refine fo_lald C dL_law_1179 (by decide : fo_k 629 = 24) (by decide : 0 < fo_n 629) (((fg_se (xs (ix + 1)) (nI 0) (fun k => (0, nI (fp_cnt (fp_off (v k) lim) (n k))))).2).toInt64) (by rw [fo_rs]; exact hjj c20) 1180 rfl ?_
      refine fo_iload C dL_law_1180 0 rfl 1182 rfl ?_
      refine fo_i2l C dL_law_1182 _ rfl 1183 rfl ?_
      refine fo_lcmp C dL_law_1183 (nI 0) (fw_ls (rfl)) 1184 rfl ?_
      refine fo_nif_eq C (by omega) dL_law_1184 1189 (by decide) 1187 rfl (fun c21 => ?_) (fun c21 => ?_)
      · refine fo_goto C dL_law_1189 2683 (by decide) ?_
        refine fo_sub C [2, 3, 4, 5, 6, 7] (lv' := [(5, .int (nI ix)), (0, .ref b), (1, .ref (Λ.2.2.1 605)), (2, .ref (Λ.2.2.1 616)), (3, .ref (Λ.2.2.1 629)), (4, .ref (Λ.2.2.1 630))]) rfl ?_
        exact k _ _ _ _ _ _ _ _ _ _ _ _ _ _ (by omega) (by omega) hl hM he9 hf9
      · omega
  · exact absurd rfl c19
set_option maxRecDepth 10000 in
set_option maxHeartbeats 4000000 in
theorem lc_14 {l : Launch} {Λ : fo_Lt} {K : fo_K} {cs ss ix b Ls : Nat} {xs : Nat → Int32} {I : fo_Mi} {D : fo_Md} {J : fo_Mj} {X : fo_Mi} (hfl : l.stackTraces = false) (C : fo_C Λ K cL_law RL 9) (hX : va_X b Ls xs K.2.2.1 K.2.2.1.heap) (hb : b < Λ.2.2.2) (hLs : Ls ≤ 2048) (hi : ix + 3 < Ls) {s : fa_S} {hs : List fa_S} {ks : Option fa_S} {L : List Nat} {m : Nat} {t : Nat → Nat} {e f : Int32} (hl : ll I D s hs ks L m t e f) (hM : fm_M I s hs ks L m t e f) (he9 : e = -1 ∨ ¬ e < 0) (hf9 : f = -1 ∨ ¬ f < 0) (hcs : cs + 3 ≤ 603072) (hss : ss + 18 ≤ 7211114) (k : lk_k l Λ K b ix cs ss) : fo_G l Λ room_1 K cs ss 1192 [(5, .int (nI ix)), (0, .ref b), (1, .ref (Λ.2.2.1 605)), (2, .ref (Λ.2.2.1 616)), (3, .ref (Λ.2.2.1 629)), (4, .ref (Λ.2.2.1 630))] [] I D J X := by
  obtain ⟨np, lim, kd, par, n, v⟩ := s
  refine fo_aload_n C dL_law_1192 2 rfl rfl 1193 rfl ?_
  refine fo_aload_n C dL_law_1193 1 rfl rfl 1194 rfl ?_
  refine fo_iload C dL_law_1194 0 rfl 1196 rfl ?_
  refine fo_iconst C dL_law_1196 (nI 1) ki_1 1197 rfl ?_
  refine fo_iadd C dL_law_1197 (nI (ix + 1)) (nI_add _ _) 1198 rfl ?_
  refine fo_sld C hX hb hLs (i := ix + 1) (by omega) dL_law_1198 1199 rfl ?_
  refine fo_aload_n C dL_law_1199 4 rfl rfl 1200 rfl ?_
  refine fo_qw C dL_law_1200 (mL_longestRise hfl (x := (xs (ix + 1))) hl.1) lw_L_199 rfl ⟨(Nat.le_of_ble_eq_true rfl), (Nat.le_of_ble_eq_true rfl)⟩ ⟨show (_ : Nat) ≤ 603072 by omega, show (_ : Nat) ≤ 7211114 by omega⟩ [] rfl (Nat.le_of_ble_eq_true rfl) 1203 rfl (fun r1 I2 D3 J4 X5 p6 => ?_)
  obtain ⟨rfl, z1, z2, jj, rfl, hjj⟩ := p6
  obtain rfl := z1.symm
  obtain rfl := z2.symm
  refine fo_istore C dL_law_1203 [(6, .int (nI (fg_se (xs (ix + 1)) (nI 0) (fun k => (0, nI (fp_best (v k) (n k))))).1)), (5, .int (nI ix)), (0, .ref b), (1, .ref (Λ.2.2.1 605)), (2, .ref (Λ.2.2.1 616)), (3, .ref (Λ.2.2.1 629)), (4, .ref (Λ.2.2.1 630))] rfl (by decide) 1205 rfl ?_
  refine fo_aload_n C dL_law_1205 4 rfl rfl 1206 rfl ?_
  refine fo_aload_n C dL_law_1206 2 rfl rfl 1207 rfl ?_
  refine fo_iload C dL_law_1207 1 rfl 1209 rfl ?_
  refine fo_iconst C dL_law_1209 (nI 1) ki_1 1210 rfl ?_
  refine fo_iadd C dL_law_1210 (nI (ix + 1)) (nI_add _ _) 1211 rfl ?_
  refine fo_sld C hX hb hLs (i := ix + 1) (by omega) dL_law_1211 1212 rfl ?_
  refine fo_qvi C dL_law_1212 (mX7_longestRise (x := (xs (ix + 1))) hM.1) lv_L_201 (by decide : fo_k 616 = 9) rfl (by decide) rfl ⟨(Nat.le_of_ble_eq_true rfl), (Nat.le_of_ble_eq_true rfl)⟩ ⟨show (_ : Nat) ≤ 603072 by omega, show (_ : Nat) ≤ 7211114 by omega⟩ [] rfl (Nat.le_of_ble_eq_true rfl) 1215 rfl (fun r7 I8 D9 J10 X11 p12 => ?_)
  obtain ⟨rfl, z0, z2, z3⟩ := p12
  subst z0
  obtain rfl := z2.symm
  obtain rfl := z3.symm
  have hth : (fo_r I 616 (upd (I 616) 5 (nI (fg_se (xs (ix + 1)) (nI 0) (fun k => (0, nI (fp_best (v k) (n k))))).1))) 616 5 = nI (fg_se (xs (ix + 1)) (nI 0) (fun k => (0, nI (fp_best (v k) (n k))))).1 := by rw [fo_rs, pk_us]
  replace hl := hl.th (x := nI (fg_se (xs (ix + 1)) (nI 0) (fun k => (0, nI (fp_best (v k) (n k))))).1)
  replace hM := hM.th (x := nI (fg_se (xs (ix + 1)) (nI 0) (fun k => (0, nI (fp_best (v k) (n k))))).1)
  refine fo_istore C dL_law_1215 [(7, .int ((fg_se (xs (ix + 1)) (nI 0) (fun k => (0, nI (fp_best (v k) (n k))))).2)), (6, .int (nI (fg_se (xs (ix + 1)) (nI 0) (fun k => (0, nI (fp_best (v k) (n k))))).1)), (5, .int (nI ix)), (0, .ref b), (1, .ref (Λ.2.2.1 605)), (2, .ref (Λ.2.2.1 616)), (3, .ref (Λ.2.2.1 629)), (4, .ref (Λ.2.2.1 630))] rfl (by decide) 1217 rfl ?_
  refine fo_aload_n C dL_law_1217 5 rfl rfl 1218 rfl ?_
  refine fo_qvi C dL_law_1218 (mX7_thrown (x := nI (fg_se (xs (ix + 1)) (nI 0) (fun k => (0, nI (fp_best (v k) (n k))))).1) hth) lv_L_154 (by decide : fo_k 616 = 9) rfl (by decide) rfl ⟨(Nat.le_of_ble_eq_true rfl), (Nat.le_of_ble_eq_true rfl)⟩ ⟨show (_ : Nat) ≤ 603072 by omega, show (_ : Nat) ≤ 7211114 by omega⟩ [] rfl (Nat.le_of_ble_eq_true rfl) 1221 rfl (fun r13 I14 D15 J16 X17 p18 => ?_)
  obtain ⟨rfl, z1, z2, z3, z4⟩ := p18
  obtain rfl := z1.symm
  obtain rfl := z2.symm
  obtain rfl := z3.symm
  obtain rfl := z4.symm
  refine fo_iload C dL_law_1221 1 rfl 1223 rfl ?_
  refine fo_icmp_eq C dL_law_1223 1228 (by decide) 1226 rfl (fun c19 => ?_) (fun c19 => ?_)
  · refine fo_iload C dL_law_1228 1 rfl 1230 rfl ?_
    refine fo_if_ne C dL_law_1230 1245 (by decide) 1233 rfl (fun c20 => ?_) (fun c20 => ?_)
    · refine fo_goto C dL_law_1245 2683 (by decide) ?_
      refine fo_sub C [2, 3, 4, 5, 6, 7] (lv' := [(5, .int (nI ix)), (0, .ref b), (1, .ref (Λ.2.2.1 605)), (2, .ref (Λ.2.2.1 616)), (3, .ref (Λ.2.2.1 629)), (4, .ref (Λ.2.2.1 630))]) rfl ?_
      exact k _ _ _ _ _ _ _ _ _ _ _ _ _ _ (by omega) (by omega) hl hM he9 hf9
    · refine fo_aload_n C dL_law_1233 6 rfl rfl 1234 rfl ?_
      refine fo_iconst C dL_law_1234 (nI 0) ki_0 1235 rfl ?_
      refine fo_lald C dL_law_1235 (by decide : fo_k 629 = 24) (by decide : 0 < fo_n 629) (((fg_se (xs (ix + 1)) (nI 0) (fun k => (0, nI (fp_best (v k) (n k))))).2).toInt64) (by rw [fo_rs]; exact hjj c20) 1236 rfl ?_
      refine fo_iload C dL_law_1236 0 rfl 1238 rfl ?_
      refine fo_i2l C dL_law_1238 _ rfl 1239 rfl ?_
      refine fo_lcmp C dL_law_1239 (nI 0) (fw_ls (rfl)) 1240 rfl ?_
      refine fo_nif_eq C (by omega) dL_law_1240 1245 (by decide) 1243 rfl (fun c21 => ?_) (fun c21 => ?_)
      · refine fo_goto C dL_law_1245 2683 (by decide) ?_
        refine fo_sub C [2, 3, 4, 5, 6, 7] (lv' := [(5, .int (nI ix)), (0, .ref b), (1, .ref (Λ.2.2.1 605)), (2, .ref (Λ.2.2.1 616)), (3, .ref (Λ.2.2.1 629)), (4, .ref (Λ.2.2.1 630))]) rfl ?_
        exact k _ _ _ _ _ _ _ _ _ _ _ _ _ _ (by omega) (by omega) hl hM he9 hf9
      · omega
  · exact absurd rfl c19
set_option maxRecDepth 10000 in
set_option maxHeartbeats 4000000 in
theorem lc_15 {l : Launch} {Λ : fo_Lt} {K : fo_K} {cs ss ix b Ls : Nat} {xs : Nat → Int32} {I : fo_Mi} {D : fo_Md} {J : fo_Mj} {X : fo_Mi} (hfl : l.stackTraces = false) (C : fo_C Λ K cL_law RL 9) (hX : va_X b Ls xs K.2.2.1 K.2.2.1.heap) (hb : b < Λ.2.2.2) (hLs : Ls ≤ 2048) (hi : ix + 3 < Ls) {s : fa_S} {hs : List fa_S} {ks : Option fa_S} {L : List Nat} {m : Nat} {t : Nat → Nat} {e f : Int32} (hl : ll I D s hs ks L m t e f) (hM : fm_M I s hs ks L m t e f) (he9 : e = -1 ∨ ¬ e < 0) (hf9 : f = -1 ∨ ¬ f < 0) (hcs : cs + 3 ≤ 603072) (hss : ss + 18 ≤ 7211114) (k : lk_k l Λ K b ix cs ss) : fo_G l Λ room_1 K cs ss 1248 [(5, .int (nI ix)), (0, .ref b), (1, .ref (Λ.2.2.1 605)), (2, .ref (Λ.2.2.1 616)), (3, .ref (Λ.2.2.1 629)), (4, .ref (Λ.2.2.1 630))] [] I D J X := by
  obtain ⟨np, lim, kd, par, n, v⟩ := s
  refine fo_aload_n C dL_law_1248 2 rfl rfl 1249 rfl ?_
  refine fo_aload_n C dL_law_1249 1 rfl rfl 1250 rfl ?_
  refine fo_iload C dL_law_1250 0 rfl 1252 rfl ?_
  refine fo_iconst C dL_law_1252 (nI 1) ki_1 1253 rfl ?_
  refine fo_iadd C dL_law_1253 (nI (ix + 1)) (nI_add _ _) 1254 rfl ?_
  refine fo_sld C hX hb hLs (i := ix + 1) (by omega) dL_law_1254 1255 rfl ?_
  refine fo_aload_n C dL_law_1255 1 rfl rfl 1256 rfl ?_
  refine fo_iload C dL_law_1256 0 rfl 1258 rfl ?_
  refine fo_iconst C dL_law_1258 (nI 2) ki_2 1259 rfl ?_
  refine fo_iadd C dL_law_1259 (nI (ix + 2)) (nI_add _ _) 1260 rfl ?_
  refine fo_sld C hX hb hLs (i := ix + 2) (by omega) dL_law_1260 1261 rfl ?_
  refine fo_aload_n C dL_law_1261 1 rfl rfl 1262 rfl ?_
  refine fo_iload C dL_law_1262 0 rfl 1264 rfl ?_
  refine fo_iconst C dL_law_1264 (nI 3) ki_3 1265 rfl ?_
  refine fo_iadd C dL_law_1265 (nI (ix + 3)) (nI_add _ _) 1266 rfl ?_
  refine fo_sld C hX hb hLs (i := ix + 3) (by omega) dL_law_1266 1267 rfl ?_
  refine fo_aload_n C dL_law_1267 4 rfl rfl 1268 rfl ?_
  refine fo_qw C dL_law_1268 (mL_valuesBetween hfl (x := (xs (ix + 1))) (y := (xs (ix + 2))) (z := (xs (ix + 3))) hl.1) lw_L_202 rfl ⟨(Nat.le_of_ble_eq_true rfl), (Nat.le_of_ble_eq_true rfl)⟩ ⟨show (_ : Nat) ≤ 603072 by omega, show (_ : Nat) ≤ 7211114 by omega⟩ [] rfl (Nat.le_of_ble_eq_true rfl) 1271 rfl (fun r1 I2 D3 J4 X5 p6 => ?_)
  obtain ⟨rfl, z1, z2, jj, rfl, hjj⟩ := p6
  obtain rfl := z1.symm
  obtain rfl := z2.symm
  refine fo_istore C dL_law_1271 [(6, .int (nI (fg_se (xs (ix + 1)) (nI 0) (fun k => (0, nI (fp_cnt (fun o => decide (¬ nI (v k o) < (xs (ix + 2)) ∧ ¬ (xs (ix + 3)) < nI (v k o))) (n k))))).1)), (5, .int (nI ix)), (0, .ref b), (1, .ref (Λ.2.2.1 605)), (2, .ref (Λ.2.2.1 616)), (3, .ref (Λ.2.2.1 629)), (4, .ref (Λ.2.2.1 630))] rfl (by decide) 1273 rfl ?_
  refine fo_aload_n C dL_law_1273 4 rfl rfl 1274 rfl ?_
  refine fo_aload_n C dL_law_1274 2 rfl rfl 1275 rfl ?_
  refine fo_iload C dL_law_1275 1 rfl 1277 rfl ?_
  refine fo_iconst C dL_law_1277 (nI 1) ki_1 1278 rfl ?_
  refine fo_iadd C dL_law_1278 (nI (ix + 1)) (nI_add _ _) 1279 rfl ?_
  refine fo_sld C hX hb hLs (i := ix + 1) (by omega) dL_law_1279 1280 rfl ?_
  refine fo_aload_n C dL_law_1280 2 rfl rfl 1281 rfl ?_
  refine fo_iload C dL_law_1281 1 rfl 1283 rfl ?_
  refine fo_iconst C dL_law_1283 (nI 2) ki_2 1284 rfl ?_
  refine fo_iadd C dL_law_1284 (nI (ix + 2)) (nI_add _ _) 1285 rfl ?_
  refine fo_sld C hX hb hLs (i := ix + 2) (by omega) dL_law_1285 1286 rfl ?_
  refine fo_aload_n C dL_law_1286 2 rfl rfl 1287 rfl ?_
  refine fo_iload C dL_law_1287 1 rfl 1289 rfl ?_
  refine fo_iconst C dL_law_1289 (nI 3) ki_3 1290 rfl ?_
  refine fo_iadd C dL_law_1290 (nI (ix + 3)) (nI_add _ _) 1291 rfl ?_
  refine fo_sld C hX hb hLs (i := ix + 3) (by omega) dL_law_1291 1292 rfl ?_
  refine fo_qvi C dL_law_1292 (mX7_valuesBetween (x := (xs (ix + 1))) (y := (xs (ix + 2))) (z := (xs (ix + 3))) hM.1) lv_L_205 (by decide : fo_k 616 = 9) rfl (by decide) rfl ⟨(Nat.le_of_ble_eq_true rfl), (Nat.le_of_ble_eq_true rfl)⟩ ⟨show (_ : Nat) ≤ 603072 by omega, show (_ : Nat) ≤ 7211114 by omega⟩ [] rfl (Nat.le_of_ble_eq_true rfl) 1295 rfl (fun r7 I8 D9 J10 X11 p12 => ?_)
  obtain ⟨rfl, z0, z2, z3⟩ := p12
  subst z0
  obtain rfl := z2.symm
  obtain rfl := z3.symm
  have hth : (fo_r I 616 (upd (I 616) 5 (nI (fg_se (xs (ix + 1)) (nI 0) (fun k => (0, nI (fp_cnt (fun o => decide (¬ nI (v k o) < (xs (ix + 2)) ∧ ¬ (xs (ix + 3)) < nI (v k o))) (n k))))).1))) 616 5 = nI (fg_se (xs (ix + 1)) (nI 0) (fun k => (0, nI (fp_cnt (fun o => decide (¬ nI (v k o) < (xs (ix + 2)) ∧ ¬ (xs (ix + 3)) < nI (v k o))) (n k))))).1 := by rw [fo_rs, pk_us]
  replace hl := hl.th (x := nI (fg_se (xs (ix + 1)) (nI 0) (fun k => (0, nI (fp_cnt (fun o => decide (¬ nI (v k o) < (xs (ix + 2)) ∧ ¬ (xs (ix + 3)) < nI (v k o))) (n k))))).1)
  replace hM := hM.th (x := nI (fg_se (xs (ix + 1)) (nI 0) (fun k => (0, nI (fp_cnt (fun o => decide (¬ nI (v k o) < (xs (ix + 2)) ∧ ¬ (xs (ix + 3)) < nI (v k o))) (n k))))).1)
  refine fo_istore C dL_law_1295 [(7, .int ((fg_se (xs (ix + 1)) (nI 0) (fun k => (0, nI (fp_cnt (fun o => decide (¬ nI (v k o) < (xs (ix + 2)) ∧ ¬ (xs (ix + 3)) < nI (v k o))) (n k))))).2)), (6, .int (nI (fg_se (xs (ix + 1)) (nI 0) (fun k => (0, nI (fp_cnt (fun o => decide (¬ nI (v k o) < (xs (ix + 2)) ∧ ¬ (xs (ix + 3)) < nI (v k o))) (n k))))).1)), (5, .int (nI ix)), (0, .ref b), (1, .ref (Λ.2.2.1 605)), (2, .ref (Λ.2.2.1 616)), (3, .ref (Λ.2.2.1 629)), (4, .ref (Λ.2.2.1 630))] rfl (by decide) 1297 rfl ?_
  refine fo_aload_n C dL_law_1297 5 rfl rfl 1298 rfl ?_
  refine fo_qvi C dL_law_1298 (mX7_thrown (x := nI (fg_se (xs (ix + 1)) (nI 0) (fun k => (0, nI (fp_cnt (fun o => decide (¬ nI (v k o) < (xs (ix + 2)) ∧ ¬ (xs (ix + 3)) < nI (v k o))) (n k))))).1) hth) lv_L_154 (by decide : fo_k 616 = 9) rfl (by decide) rfl ⟨(Nat.le_of_ble_eq_true rfl), (Nat.le_of_ble_eq_true rfl)⟩ ⟨show (_ : Nat) ≤ 603072 by omega, show (_ : Nat) ≤ 7211114 by omega⟩ [] rfl (Nat.le_of_ble_eq_true rfl) 1301 rfl (fun r13 I14 D15 J16 X17 p18 => ?_)
  obtain ⟨rfl, z1, z2, z3, z4⟩ := p18
  obtain rfl := z1.symm
  obtain rfl := z2.symm
  obtain rfl := z3.symm
  obtain rfl := z4.symm
  refine fo_iload C dL_law_1301 1 rfl 1303 rfl ?_
  refine fo_icmp_eq C dL_law_1303 1308 (by decide) 1306 rfl (fun c19 => ?_) (fun c19 => ?_)
  · refine fo_iload C dL_law_1308 1 rfl 1310 rfl ?_
    refine fo_if_ne C dL_law_1310 1325 (by decide) 1313 rfl (fun c20 => ?_) (fun c20 => ?_)
    · refine fo_goto C dL_law_1325 2683 (by decide) ?_
      refine fo_sub C [2, 3, 4, 5, 6, 7] (lv' := [(5, .int (nI ix)), (0, .ref b), (1, .ref (Λ.2.2.1 605)), (2, .ref (Λ.2.2.1 616)), (3, .ref (Λ.2.2.1 629)), (4, .ref (Λ.2.2.1 630))]) rfl ?_
      exact k _ _ _ _ _ _ _ _ _ _ _ _ _ _ (by omega) (by omega) hl hM he9 hf9
    · refine fo_aload_n C dL_law_1313 6 rfl rfl 1314 rfl ?_
      refine fo_iconst C dL_law_1314 (nI 0) ki_0 1315 rfl ?_
      refine fo_lald C dL_law_1315 (by decide : fo_k 629 = 24) (by decide : 0 < fo_n 629) (((fg_se (xs (ix + 1)) (nI 0) (fun k => (0, nI (fp_cnt (fun o => decide (¬ nI (v k o) < (xs (ix + 2)) ∧ ¬ (xs (ix + 3)) < nI (v k o))) (n k))))).2).toInt64) (by rw [fo_rs]; exact hjj c20) 1316 rfl ?_
      refine fo_iload C dL_law_1316 0 rfl 1318 rfl ?_
      refine fo_i2l C dL_law_1318 _ rfl 1319 rfl ?_
      refine fo_lcmp C dL_law_1319 (nI 0) (fw_ls (rfl)) 1320 rfl ?_
      refine fo_nif_eq C (by omega) dL_law_1320 1325 (by decide) 1323 rfl (fun c21 => ?_) (fun c21 => ?_)
      · refine fo_goto C dL_law_1325 2683 (by decide) ?_
        refine fo_sub C [2, 3, 4, 5, 6, 7] (lv' := [(5, .int (nI ix)), (0, .ref b), (1, .ref (Λ.2.2.1 605)), (2, .ref (Λ.2.2.1 616)), (3, .ref (Λ.2.2.1 629)), (4, .ref (Λ.2.2.1 630))]) rfl ?_
        exact k _ _ _ _ _ _ _ _ _ _ _ _ _ _ (by omega) (by omega) hl hM he9 hf9
      · omega
  · exact absurd rfl c19
set_option maxRecDepth 10000 in
set_option maxHeartbeats 4000000 in
theorem lc_16 {l : Launch} {Λ : fo_Lt} {K : fo_K} {cs ss ix b Ls : Nat} {xs : Nat → Int32} {I : fo_Mi} {D : fo_Md} {J : fo_Mj} {X : fo_Mi} (hfl : l.stackTraces = false) (C : fo_C Λ K cL_law RL 9) (hX : va_X b Ls xs K.2.2.1 K.2.2.1.heap) (hb : b < Λ.2.2.2) (hLs : Ls ≤ 2048) (hi : ix + 3 < Ls) {s : fa_S} {hs : List fa_S} {ks : Option fa_S} {L : List Nat} {m : Nat} {t : Nat → Nat} {e f : Int32} (hl : ll I D s hs ks L m t e f) (hM : fm_M I s hs ks L m t e f) (he9 : e = -1 ∨ ¬ e < 0) (hf9 : f = -1 ∨ ¬ f < 0) (hcs : cs + 3 ≤ 603072) (hss : ss + 18 ≤ 7211114) (k : lk_k l Λ K b ix cs ss) : fo_G l Λ room_1 K cs ss 1328 [(5, .int (nI ix)), (0, .ref b), (1, .ref (Λ.2.2.1 605)), (2, .ref (Λ.2.2.1 616)), (3, .ref (Λ.2.2.1 629)), (4, .ref (Λ.2.2.1 630))] [] I D J X := by
  obtain ⟨np, lim, kd, par, n, v⟩ := s
  refine fo_aload_n C dL_law_1328 2 rfl rfl 1329 rfl ?_
  refine fo_qvi C dL_law_1329 (mX6_limit hl.1) lv_L_206 (by decide : fo_k 605 = 8) rfl (by decide) rfl ⟨(Nat.le_of_ble_eq_true rfl), (Nat.le_of_ble_eq_true rfl)⟩ ⟨show (_ : Nat) ≤ 603072 by omega, show (_ : Nat) ≤ 7211114 by omega⟩ [] rfl (Nat.le_of_ble_eq_true rfl) 1332 rfl (fun r1 I2 D3 J4 X5 p6 => ?_)
  obtain ⟨rfl, z1, z2, z3, z4⟩ := p6
  obtain rfl := z1.symm
  obtain rfl := z2.symm
  obtain rfl := z3.symm
  obtain rfl := z4.symm
  refine fo_aload_n C dL_law_1332 3 rfl rfl 1333 rfl ?_
  refine fo_qvi C dL_law_1333 (mX7_limit hM.1) lv_L_209 (by decide : fo_k 616 = 9) rfl (by decide) rfl ⟨(Nat.le_of_ble_eq_true rfl), (Nat.le_of_ble_eq_true rfl)⟩ ⟨show (_ : Nat) ≤ 603072 by omega, show (_ : Nat) ≤ 7211114 by omega⟩ [.int (nI lim)] rfl (Nat.le_of_ble_eq_true rfl) 1336 rfl (fun r7 I8 D9 J10 X11 p12 => ?_)
  obtain ⟨rfl, z0, z2, z3, z4⟩ := p12
  subst z0
  obtain rfl := z2.symm
  obtain rfl := z3.symm
  obtain rfl := z4.symm
  replace hl := hl.th (x := nI 0)
  replace hM := hM.th (x := nI 0)
  refine fo_icmp_eq C dL_law_1336 2683 (by decide) 1339 rfl (fun c13 => ?_) (fun c13 => ?_)
  · exact k _ _ _ _ _ _ _ _ _ _ _ _ _ _ (by omega) (by omega) hl hM he9 hf9
  · exact absurd rfl c13
set_option maxRecDepth 10000 in
set_option maxHeartbeats 4000000 in
theorem lc_17 {l : Launch} {Λ : fo_Lt} {K : fo_K} {cs ss ix b Ls : Nat} {xs : Nat → Int32} {I : fo_Mi} {D : fo_Md} {J : fo_Mj} {X : fo_Mi} (hfl : l.stackTraces = false) (C : fo_C Λ K cL_law RL 9) (hX : va_X b Ls xs K.2.2.1 K.2.2.1.heap) (hb : b < Λ.2.2.2) (hLs : Ls ≤ 2048) (hi : ix + 3 < Ls) {s : fa_S} {hs : List fa_S} {ks : Option fa_S} {L : List Nat} {m : Nat} {t : Nat → Nat} {e f : Int32} (hl : ll I D s hs ks L m t e f) (hM : fm_M I s hs ks L m t e f) (he9 : e = -1 ∨ ¬ e < 0) (hf9 : f = -1 ∨ ¬ f < 0) (hcs : cs + 3 ≤ 603072) (hss : ss + 18 ≤ 7211114) (k : lk_k l Λ K b ix cs ss) : fo_G l Λ room_1 K cs ss 1341 [(5, .int (nI ix)), (0, .ref b), (1, .ref (Λ.2.2.1 605)), (2, .ref (Λ.2.2.1 616)), (3, .ref (Λ.2.2.1 629)), (4, .ref (Λ.2.2.1 630))] [] I D J X := by
  obtain ⟨np, lim, kd, par, n, v⟩ := s
  refine fo_aload_n C dL_law_1341 2 rfl rfl 1342 rfl ?_
  refine fo_qvi C dL_law_1342 (mX6_prophets hl.1) lv_L_210 (by decide : fo_k 605 = 8) rfl (by decide) rfl ⟨(Nat.le_of_ble_eq_true rfl), (Nat.le_of_ble_eq_true rfl)⟩ ⟨show (_ : Nat) ≤ 603072 by omega, show (_ : Nat) ≤ 7211114 by omega⟩ [] rfl (Nat.le_of_ble_eq_true rfl) 1345 rfl (fun r1 I2 D3 J4 X5 p6 => ?_)
  obtain ⟨rfl, z1, z2, z3, z4⟩ := p6
  obtain rfl := z1.symm
  obtain rfl := z2.symm
  obtain rfl := z3.symm
  obtain rfl := z4.symm
  refine fo_aload_n C dL_law_1345 3 rfl rfl 1346 rfl ?_
  refine fo_qvi C dL_law_1346 (mX7_prophets hM.1) lv_L_213 (by decide : fo_k 616 = 9) rfl (by decide) rfl ⟨(Nat.le_of_ble_eq_true rfl), (Nat.le_of_ble_eq_true rfl)⟩ ⟨show (_ : Nat) ≤ 603072 by omega, show (_ : Nat) ≤ 7211114 by omega⟩ [.int (nI np)] rfl (Nat.le_of_ble_eq_true rfl) 1349 rfl (fun r7 I8 D9 J10 X11 p12 => ?_)
  obtain ⟨rfl, z0, z2, z3, z4⟩ := p12
  subst z0
  obtain rfl := z2.symm
  obtain rfl := z3.symm
  obtain rfl := z4.symm
  replace hl := hl.th (x := nI 0)
  replace hM := hM.th (x := nI 0)
  refine fo_icmp_eq C dL_law_1349 2683 (by decide) 1352 rfl (fun c13 => ?_) (fun c13 => ?_)
  · exact k _ _ _ _ _ _ _ _ _ _ _ _ _ _ (by omega) (by omega) hl hM he9 hf9
  · exact absurd rfl c13
set_option maxRecDepth 10000 in
set_option maxHeartbeats 4000000 in
theorem lc_18 {l : Launch} {Λ : fo_Lt} {K : fo_K} {cs ss ix b Ls : Nat} {xs : Nat → Int32} {I : fo_Mi} {D : fo_Md} {J : fo_Mj} {X : fo_Mi} (hfl : l.stackTraces = false) (C : fo_C Λ K cL_law RL 9) (hX : va_X b Ls xs K.2.2.1 K.2.2.1.heap) (hb : b < Λ.2.2.2) (hLs : Ls ≤ 2048) (hi : ix + 3 < Ls) {s : fa_S} {hs : List fa_S} {ks : Option fa_S} {L : List Nat} {m : Nat} {t : Nat → Nat} {e f : Int32} (hl : ll I D s hs ks L m t e f) (hM : fm_M I s hs ks L m t e f) (he9 : e = -1 ∨ ¬ e < 0) (hf9 : f = -1 ∨ ¬ f < 0) (hcs : cs + 3 ≤ 603072) (hss : ss + 18 ≤ 7211114) (k : lk_k l Λ K b ix cs ss) : fo_G l Λ room_1 K cs ss 1354 [(5, .int (nI ix)), (0, .ref b), (1, .ref (Λ.2.2.1 605)), (2, .ref (Λ.2.2.1 616)), (3, .ref (Λ.2.2.1 629)), (4, .ref (Λ.2.2.1 630))] [] I D J X := by
  obtain ⟨np, lim, kd, par, n, v⟩ := s
  refine fo_aload_n C dL_law_1354 2 rfl rfl 1355 rfl ?_
  refine fo_aload_n C dL_law_1355 1 rfl rfl 1356 rfl ?_
  refine fo_iload C dL_law_1356 0 rfl 1358 rfl ?_
  refine fo_iconst C dL_law_1358 (nI 1) ki_1 1359 rfl ?_
  refine fo_iadd C dL_law_1359 (nI (ix + 1)) (nI_add _ _) 1360 rfl ?_
  refine fo_sld C hX hb hLs (i := ix + 1) (by omega) dL_law_1360 1361 rfl ?_
  refine fo_aload_n C dL_law_1361 4 rfl rfl 1362 rfl ?_
  refine fo_qw C dL_law_1362 (mL_kind hfl (y := (xs (ix + 1))) hl.1) lw_L_214 rfl ⟨(Nat.le_of_ble_eq_true rfl), (Nat.le_of_ble_eq_true rfl)⟩ ⟨show (_ : Nat) ≤ 603072 by omega, show (_ : Nat) ≤ 7211114 by omega⟩ [] rfl (Nat.le_of_ble_eq_true rfl) 1365 rfl (fun r1 I2 D3 J4 X5 p6 => ?_)
  obtain ⟨rfl, z1, z2, jj, rfl, hjj⟩ := p6
  obtain rfl := z1.symm
  obtain rfl := z2.symm
  refine fo_istore C dL_law_1365 [(6, .int (nI (fg_pr np (xs (ix + 1)) (nI 32) (fun p => (0, nI (kd p)))).1)), (5, .int (nI ix)), (0, .ref b), (1, .ref (Λ.2.2.1 605)), (2, .ref (Λ.2.2.1 616)), (3, .ref (Λ.2.2.1 629)), (4, .ref (Λ.2.2.1 630))] rfl (by decide) 1367 rfl ?_
  refine fo_aload_n C dL_law_1367 4 rfl rfl 1368 rfl ?_
  refine fo_aload_n C dL_law_1368 2 rfl rfl 1369 rfl ?_
  refine fo_iload C dL_law_1369 1 rfl 1371 rfl ?_
  refine fo_iconst C dL_law_1371 (nI 1) ki_1 1372 rfl ?_
  refine fo_iadd C dL_law_1372 (nI (ix + 1)) (nI_add _ _) 1373 rfl ?_
  refine fo_sld C hX hb hLs (i := ix + 1) (by omega) dL_law_1373 1374 rfl ?_
  refine fo_qvi C dL_law_1374 (mX7_kind (y := (xs (ix + 1))) hM.1) lv_L_216 (by decide : fo_k 616 = 9) rfl (by decide) rfl ⟨(Nat.le_of_ble_eq_true rfl), (Nat.le_of_ble_eq_true rfl)⟩ ⟨show (_ : Nat) ≤ 603072 by omega, show (_ : Nat) ≤ 7211114 by omega⟩ [] rfl (Nat.le_of_ble_eq_true rfl) 1377 rfl (fun r7 I8 D9 J10 X11 p12 => ?_)
  obtain ⟨rfl, z0, z2, z3⟩ := p12
  subst z0
  obtain rfl := z2.symm
  obtain rfl := z3.symm
  have hth : (fo_r I 616 (upd (I 616) 5 (nI (fg_pr np (xs (ix + 1)) (nI 32) (fun p => (0, nI (kd p)))).1))) 616 5 = nI (fg_pr np (xs (ix + 1)) (nI 32) (fun p => (0, nI (kd p)))).1 := by rw [fo_rs, pk_us]
  replace hl := hl.th (x := nI (fg_pr np (xs (ix + 1)) (nI 32) (fun p => (0, nI (kd p)))).1)
  replace hM := hM.th (x := nI (fg_pr np (xs (ix + 1)) (nI 32) (fun p => (0, nI (kd p)))).1)
  refine fo_istore C dL_law_1377 [(7, .int ((fg_pr np (xs (ix + 1)) (nI 32) (fun p => (0, nI (kd p)))).2)), (6, .int (nI (fg_pr np (xs (ix + 1)) (nI 32) (fun p => (0, nI (kd p)))).1)), (5, .int (nI ix)), (0, .ref b), (1, .ref (Λ.2.2.1 605)), (2, .ref (Λ.2.2.1 616)), (3, .ref (Λ.2.2.1 629)), (4, .ref (Λ.2.2.1 630))] rfl (by decide) 1379 rfl ?_
  refine fo_aload_n C dL_law_1379 5 rfl rfl 1380 rfl ?_
  refine fo_qvi C dL_law_1380 (mX7_thrown (x := nI (fg_pr np (xs (ix + 1)) (nI 32) (fun p => (0, nI (kd p)))).1) hth) lv_L_154 (by decide : fo_k 616 = 9) rfl (by decide) rfl ⟨(Nat.le_of_ble_eq_true rfl), (Nat.le_of_ble_eq_true rfl)⟩ ⟨show (_ : Nat) ≤ 603072 by omega, show (_ : Nat) ≤ 7211114 by omega⟩ [] rfl (Nat.le_of_ble_eq_true rfl) 1383 rfl (fun r13 I14 D15 J16 X17 p18 => ?_)
  obtain ⟨rfl, z1, z2, z3, z4⟩ := p18
  obtain rfl := z1.symm
  obtain rfl := z2.symm
  obtain rfl := z3.symm
  obtain rfl := z4.symm
  refine fo_iload C dL_law_1383 1 rfl 1385 rfl ?_
  refine fo_icmp_eq C dL_law_1385 1390 (by decide) 1388 rfl (fun c19 => ?_) (fun c19 => ?_)
  · refine fo_iload C dL_law_1390 1 rfl 1392 rfl ?_
    refine fo_if_ne C dL_law_1392 1407 (by decide) 1395 rfl (fun c20 => ?_) (fun c20 => ?_)
    · refine fo_goto C dL_law_1407 2683 (by decide) ?_
      refine fo_sub C [2, 3, 4, 5, 6, 7] (lv' := [(5, .int (nI ix)), (0, .ref b), (1, .ref (Λ.2.2.1 605)), (2, .ref (Λ.2.2.1 616)), (3, .ref (Λ.2.2.1 629)), (4, .ref (Λ.2.2.1 630))]) rfl ?_
      exact k _ _ _ _ _ _ _ _ _ _ _ _ _ _ (by omega) (by omega) hl hM he9 hf9
    · refine fo_aload_n C dL_law_1395 6 rfl rfl 1396 rfl ?_
      refine fo_iconst C dL_law_1396 (nI 0) ki_0 1397 rfl ?_
      refine fo_lald C dL_law_1397 (by decide : fo_k 629 = 24) (by decide : 0 < fo_n 629) (((fg_pr np (xs (ix + 1)) (nI 32) (fun p => (0, nI (kd p)))).2).toInt64) (by rw [fo_rs]; exact hjj c20) 1398 rfl ?_
      refine fo_iload C dL_law_1398 0 rfl 1400 rfl ?_
      refine fo_i2l C dL_law_1400 _ rfl 1401 rfl ?_
      refine fo_lcmp C dL_law_1401 (nI 0) (fw_ls (rfl)) 1402 rfl ?_
      refine fo_nif_eq C (by omega) dL_law_1402 1407 (by decide) 1405 rfl (fun c21 => ?_) (fun c21 => ?_)
      · refine fo_goto C dL_law_1407 2683 (by decide) ?_
        refine fo_sub C [2, 3, 4, 5, 6, 7] (lv' := [(5, .int (nI ix)), (0, .ref b), (1, .ref (Λ.2.2.1 605)), (2, .ref (Λ.2.2.1 616)), (3, .ref (Λ.2.2.1 629)), (4, .ref (Λ.2.2.1 630))]) rfl ?_
        exact k _ _ _ _ _ _ _ _ _ _ _ _ _ _ (by omega) (by omega) hl hM he9 hf9
      · omega
  · exact absurd rfl c19
set_option maxRecDepth 10000 in
set_option maxHeartbeats 4000000 in
theorem lc_19 {l : Launch} {Λ : fo_Lt} {K : fo_K} {cs ss ix b Ls : Nat} {xs : Nat → Int32} {I : fo_Mi} {D : fo_Md} {J : fo_Mj} {X : fo_Mi} (hfl : l.stackTraces = false) (C : fo_C Λ K cL_law RL 9) (hX : va_X b Ls xs K.2.2.1 K.2.2.1.heap) (hb : b < Λ.2.2.2) (hLs : Ls ≤ 2048) (hi : ix + 3 < Ls) {s : fa_S} {hs : List fa_S} {ks : Option fa_S} {L : List Nat} {m : Nat} {t : Nat → Nat} {e f : Int32} (hl : ll I D s hs ks L m t e f) (hM : fm_M I s hs ks L m t e f) (he9 : e = -1 ∨ ¬ e < 0) (hf9 : f = -1 ∨ ¬ f < 0) (hcs : cs + 3 ≤ 603072) (hss : ss + 18 ≤ 7211114) (k : lk_k l Λ K b ix cs ss) : fo_G l Λ room_1 K cs ss 1410 [(5, .int (nI ix)), (0, .ref b), (1, .ref (Λ.2.2.1 605)), (2, .ref (Λ.2.2.1 616)), (3, .ref (Λ.2.2.1 629)), (4, .ref (Λ.2.2.1 630))] [] I D J X := by
  obtain ⟨np, lim, kd, par, n, v⟩ := s
  refine fo_aload_n C dL_law_1410 2 rfl rfl 1411 rfl ?_
  refine fo_aload_n C dL_law_1411 1 rfl rfl 1412 rfl ?_
  refine fo_iload C dL_law_1412 0 rfl 1414 rfl ?_
  refine fo_iconst C dL_law_1414 (nI 1) ki_1 1415 rfl ?_
  refine fo_iadd C dL_law_1415 (nI (ix + 1)) (nI_add _ _) 1416 rfl ?_
  refine fo_sld C hX hb hLs (i := ix + 1) (by omega) dL_law_1416 1417 rfl ?_
  refine fo_aload_n C dL_law_1417 4 rfl rfl 1418 rfl ?_
  refine fo_qw C dL_law_1418 (mL_parameter hfl (y := (xs (ix + 1))) hl.1) lw_L_217 rfl ⟨(Nat.le_of_ble_eq_true rfl), (Nat.le_of_ble_eq_true rfl)⟩ ⟨show (_ : Nat) ≤ 603072 by omega, show (_ : Nat) ≤ 7211114 by omega⟩ [] rfl (Nat.le_of_ble_eq_true rfl) 1421 rfl (fun r1 I2 D3 J4 X5 p6 => ?_)
  obtain ⟨rfl, z1, z2, jj, rfl, hjj⟩ := p6
  obtain rfl := z1.symm
  obtain rfl := z2.symm
  refine fo_istore C dL_law_1421 [(6, .int (nI (fg_pr np (xs (ix + 1)) (nI 0) (fun p => (0, nI (par p)))).1)), (5, .int (nI ix)), (0, .ref b), (1, .ref (Λ.2.2.1 605)), (2, .ref (Λ.2.2.1 616)), (3, .ref (Λ.2.2.1 629)), (4, .ref (Λ.2.2.1 630))] rfl (by decide) 1423 rfl ?_
  refine fo_aload_n C dL_law_1423 4 rfl rfl 1424 rfl ?_
  refine fo_aload_n C dL_law_1424 2 rfl rfl 1425 rfl ?_
  refine fo_iload C dL_law_1425 1 rfl 1427 rfl ?_
  refine fo_iconst C dL_law_1427 (nI 1) ki_1 1428 rfl ?_
  refine fo_iadd C dL_law_1428 (nI (ix + 1)) (nI_add _ _) 1429 rfl ?_
  refine fo_sld C hX hb hLs (i := ix + 1) (by omega) dL_law_1429 1430 rfl ?_
  refine fo_qvi C dL_law_1430 (mX7_parameter (y := (xs (ix + 1))) hM.1) lv_L_219 (by decide : fo_k 616 = 9) rfl (by decide) rfl ⟨(Nat.le_of_ble_eq_true rfl), (Nat.le_of_ble_eq_true rfl)⟩ ⟨show (_ : Nat) ≤ 603072 by omega, show (_ : Nat) ≤ 7211114 by omega⟩ [] rfl (Nat.le_of_ble_eq_true rfl) 1433 rfl (fun r7 I8 D9 J10 X11 p12 => ?_)
  obtain ⟨rfl, z0, z2, z3⟩ := p12
  subst z0
  obtain rfl := z2.symm
  obtain rfl := z3.symm
  have hth : (fo_r I 616 (upd (I 616) 5 (nI (fg_pr np (xs (ix + 1)) (nI 0) (fun p => (0, nI (par p)))).1))) 616 5 = nI (fg_pr np (xs (ix + 1)) (nI 0) (fun p => (0, nI (par p)))).1 := by rw [fo_rs, pk_us]
  replace hl := hl.th (x := nI (fg_pr np (xs (ix + 1)) (nI 0) (fun p => (0, nI (par p)))).1)
  replace hM := hM.th (x := nI (fg_pr np (xs (ix + 1)) (nI 0) (fun p => (0, nI (par p)))).1)
  refine fo_istore C dL_law_1433 [(7, .int ((fg_pr np (xs (ix + 1)) (nI 0) (fun p => (0, nI (par p)))).2)), (6, .int (nI (fg_pr np (xs (ix + 1)) (nI 0) (fun p => (0, nI (par p)))).1)), (5, .int (nI ix)), (0, .ref b), (1, .ref (Λ.2.2.1 605)), (2, .ref (Λ.2.2.1 616)), (3, .ref (Λ.2.2.1 629)), (4, .ref (Λ.2.2.1 630))] rfl (by decide) 1435 rfl ?_
  refine fo_aload_n C dL_law_1435 5 rfl rfl 1436 rfl ?_
  refine fo_qvi C dL_law_1436 (mX7_thrown (x := nI (fg_pr np (xs (ix + 1)) (nI 0) (fun p => (0, nI (par p)))).1) hth) lv_L_154 (by decide : fo_k 616 = 9) rfl (by decide) rfl ⟨(Nat.le_of_ble_eq_true rfl), (Nat.le_of_ble_eq_true rfl)⟩ ⟨show (_ : Nat) ≤ 603072 by omega, show (_ : Nat) ≤ 7211114 by omega⟩ [] rfl (Nat.le_of_ble_eq_true rfl) 1439 rfl (fun r13 I14 D15 J16 X17 p18 => ?_)
  obtain ⟨rfl, z1, z2, z3, z4⟩ := p18
  obtain rfl := z1.symm
  obtain rfl := z2.symm
  obtain rfl := z3.symm
  obtain rfl := z4.symm
  refine fo_iload C dL_law_1439 1 rfl 1441 rfl ?_
  refine fo_icmp_eq C dL_law_1441 1446 (by decide) 1444 rfl (fun c19 => ?_) (fun c19 => ?_)
  · refine fo_iload C dL_law_1446 1 rfl 1448 rfl ?_
    refine fo_if_ne C dL_law_1448 1463 (by decide) 1451 rfl (fun c20 => ?_) (fun c20 => ?_)
    · refine fo_goto C dL_law_1463 2683 (by decide) ?_
      refine fo_sub C [2, 3, 4, 5, 6, 7] (lv' := [(5, .int (nI ix)), (0, .ref b), (1, .ref (Λ.2.2.1 605)), (2, .ref (Λ.2.2.1 616)), (3, .ref (Λ.2.2.1 629)), (4, .ref (Λ.2.2.1 630))]) rfl ?_
      exact k _ _ _ _ _ _ _ _ _ _ _ _ _ _ (by omega) (by omega) hl hM he9 hf9
    · refine fo_aload_n C dL_law_1451 6 rfl rfl 1452 rfl ?_
      refine fo_iconst C dL_law_1452 (nI 0) ki_0 1453 rfl ?_
      refine fo_lald C dL_law_1453 (by decide : fo_k 629 = 24) (by decide : 0 < fo_n 629) (((fg_pr np (xs (ix + 1)) (nI 0) (fun p => (0, nI (par p)))).2).toInt64) (by rw [fo_rs]; exact hjj c20) 1454 rfl ?_
      refine fo_iload C dL_law_1454 0 rfl 1456 rfl ?_
      refine fo_i2l C dL_law_1456 _ rfl 1457 rfl ?_
      refine fo_lcmp C dL_law_1457 (nI 0) (fw_ls (rfl)) 1458 rfl ?_
      refine fo_nif_eq C (by omega) dL_law_1458 1463 (by decide) 1461 rfl (fun c21 => ?_) (fun c21 => ?_)
      · refine fo_goto C dL_law_1463 2683 (by decide) ?_
        refine fo_sub C [2, 3, 4, 5, 6, 7] (lv' := [(5, .int (nI ix)), (0, .ref b), (1, .ref (Λ.2.2.1 605)), (2, .ref (Λ.2.2.1 616)), (3, .ref (Λ.2.2.1 629)), (4, .ref (Λ.2.2.1 630))]) rfl ?_
        exact k _ _ _ _ _ _ _ _ _ _ _ _ _ _ (by omega) (by omega) hl hM he9 hf9
      · omega
  · exact absurd rfl c19
set_option maxRecDepth 10000 in
set_option maxHeartbeats 4000000 in
theorem lc_20 {l : Launch} {Λ : fo_Lt} {K : fo_K} {cs ss ix b Ls : Nat} {xs : Nat → Int32} {I : fo_Mi} {D : fo_Md} {J : fo_Mj} {X : fo_Mi} (hfl : l.stackTraces = false) (C : fo_C Λ K cL_law RL 9) (hX : va_X b Ls xs K.2.2.1 K.2.2.1.heap) (hb : b < Λ.2.2.2) (hLs : Ls ≤ 2048) (hi : ix + 3 < Ls) {s : fa_S} {hs : List fa_S} {ks : Option fa_S} {L : List Nat} {m : Nat} {t : Nat → Nat} {e f : Int32} (hl : ll I D s hs ks L m t e f) (hM : fm_M I s hs ks L m t e f) (he9 : e = -1 ∨ ¬ e < 0) (hf9 : f = -1 ∨ ¬ f < 0) (hcs : cs + 3 ≤ 603072) (hss : ss + 18 ≤ 7211114) (k : lk_k l Λ K b ix cs ss) : fo_G l Λ room_1 K cs ss 1466 [(5, .int (nI ix)), (0, .ref b), (1, .ref (Λ.2.2.1 605)), (2, .ref (Λ.2.2.1 616)), (3, .ref (Λ.2.2.1 629)), (4, .ref (Λ.2.2.1 630))] [] I D J X := by
  obtain ⟨np, lim, kd, par, n, v⟩ := s
  refine fo_aload_n C dL_law_1466 2 rfl rfl 1467 rfl ?_
  refine fo_aload_n C dL_law_1467 1 rfl rfl 1468 rfl ?_
  refine fo_iload C dL_law_1468 0 rfl 1470 rfl ?_
  refine fo_iconst C dL_law_1470 (nI 1) ki_1 1471 rfl ?_
  refine fo_iadd C dL_law_1471 (nI (ix + 1)) (nI_add _ _) 1472 rfl ?_
  refine fo_sld C hX hb hLs (i := ix + 1) (by omega) dL_law_1472 1473 rfl ?_
  refine fo_aload_n C dL_law_1473 1 rfl rfl 1474 rfl ?_
  refine fo_iload C dL_law_1474 0 rfl 1476 rfl ?_
  refine fo_iconst C dL_law_1476 (nI 2) ki_2 1477 rfl ?_
  refine fo_iadd C dL_law_1477 (nI (ix + 2)) (nI_add _ _) 1478 rfl ?_
  refine fo_sld C hX hb hLs (i := ix + 2) (by omega) dL_law_1478 1479 rfl ?_
  refine fo_aload_n C dL_law_1479 4 rfl rfl 1480 rfl ?_
  refine fo_qw C dL_law_1480 (mL_hasForecast hfl (y := (xs (ix + 1))) (x := (xs (ix + 2))) hl.1) lw_L_220 rfl ⟨(Nat.le_of_ble_eq_true rfl), (Nat.le_of_ble_eq_true rfl)⟩ ⟨show (_ : Nat) ≤ 603072 by omega, show (_ : Nat) ≤ 7211114 by omega⟩ [] rfl (Nat.le_of_ble_eq_true rfl) 1483 rfl (fun r1 I2 D3 J4 X5 p6 => ?_)
  obtain ⟨rfl, z1, z2, jj, rfl, hjj⟩ := p6
  obtain rfl := z1.symm
  obtain rfl := z2.symm
  rw [fw_pab] at hjj
  refine fo_istore C dL_law_1483 [(6, .int (nI (fg_pa np (xs (ix + 1)) (xs (ix + 2)) (fo_b false) (fun p k => (0, fo_b (decide (fp_need (kd p) (par p) ≤ n k))))).1)), (5, .int (nI ix)), (0, .ref b), (1, .ref (Λ.2.2.1 605)), (2, .ref (Λ.2.2.1 616)), (3, .ref (Λ.2.2.1 629)), (4, .ref (Λ.2.2.1 630))] rfl (by decide) 1485 rfl ?_
  refine fo_aload_n C dL_law_1485 4 rfl rfl 1486 rfl ?_
  refine fo_aload_n C dL_law_1486 2 rfl rfl 1487 rfl ?_
  refine fo_iload C dL_law_1487 1 rfl 1489 rfl ?_
  refine fo_iconst C dL_law_1489 (nI 1) ki_1 1490 rfl ?_
  refine fo_iadd C dL_law_1490 (nI (ix + 1)) (nI_add _ _) 1491 rfl ?_
  refine fo_sld C hX hb hLs (i := ix + 1) (by omega) dL_law_1491 1492 rfl ?_
  refine fo_aload_n C dL_law_1492 2 rfl rfl 1493 rfl ?_
  refine fo_iload C dL_law_1493 1 rfl 1495 rfl ?_
  refine fo_iconst C dL_law_1495 (nI 2) ki_2 1496 rfl ?_
  refine fo_iadd C dL_law_1496 (nI (ix + 2)) (nI_add _ _) 1497 rfl ?_
  refine fo_sld C hX hb hLs (i := ix + 2) (by omega) dL_law_1497 1498 rfl ?_
  refine fo_qvi C dL_law_1498 (mX7_hasForecast (y := (xs (ix + 1))) (x := (xs (ix + 2))) hM.1) lv_L_222 (by decide : fo_k 616 = 9) rfl (by decide) rfl ⟨(Nat.le_of_ble_eq_true rfl), (Nat.le_of_ble_eq_true rfl)⟩ ⟨show (_ : Nat) ≤ 603072 by omega, show (_ : Nat) ≤ 7211114 by omega⟩ [] rfl (Nat.le_of_ble_eq_true rfl) 1501 rfl (fun r7 I8 D9 J10 X11 p12 => ?_)
  obtain ⟨rfl, z0, z2, z3⟩ := p12
  subst z0
  obtain rfl := z2.symm
  obtain rfl := z3.symm
  have hth : (fo_r I 616 (upd (I 616) 5 (nI (fg_pa np (xs (ix + 1)) (xs (ix + 2)) (fo_b false) (fun p k => (0, fo_b (decide (fp_need (kd p) (par p) ≤ n k))))).1))) 616 5 = nI (fg_pa np (xs (ix + 1)) (xs (ix + 2)) (fo_b false) (fun p k => (0, fo_b (decide (fp_need (kd p) (par p) ≤ n k))))).1 := by rw [fo_rs, pk_us]
  replace hl := hl.th (x := nI (fg_pa np (xs (ix + 1)) (xs (ix + 2)) (fo_b false) (fun p k => (0, fo_b (decide (fp_need (kd p) (par p) ≤ n k))))).1)
  replace hM := hM.th (x := nI (fg_pa np (xs (ix + 1)) (xs (ix + 2)) (fo_b false) (fun p k => (0, fo_b (decide (fp_need (kd p) (par p) ≤ n k))))).1)
  rw [fw_pab]
  refine fo_istore C dL_law_1501 [(7, .int (fo_b ((fg_pa np (xs (ix + 1)) (xs (ix + 2)) false (fun p k => (0, decide (fp_need (kd p) (par p) ≤ n k)))).2))), (6, .int (nI (fg_pa np (xs (ix + 1)) (xs (ix + 2)) (fo_b false) (fun p k => (0, fo_b (decide (fp_need (kd p) (par p) ≤ n k))))).1)), (5, .int (nI ix)), (0, .ref b), (1, .ref (Λ.2.2.1 605)), (2, .ref (Λ.2.2.1 616)), (3, .ref (Λ.2.2.1 629)), (4, .ref (Λ.2.2.1 630))] rfl (by decide) 1503 rfl ?_
  refine fo_aload_n C dL_law_1503 5 rfl rfl 1504 rfl ?_
  refine fo_qvi C dL_law_1504 (mX7_thrown (x := nI (fg_pa np (xs (ix + 1)) (xs (ix + 2)) (fo_b false) (fun p k => (0, fo_b (decide (fp_need (kd p) (par p) ≤ n k))))).1) hth) lv_L_154 (by decide : fo_k 616 = 9) rfl (by decide) rfl ⟨(Nat.le_of_ble_eq_true rfl), (Nat.le_of_ble_eq_true rfl)⟩ ⟨show (_ : Nat) ≤ 603072 by omega, show (_ : Nat) ≤ 7211114 by omega⟩ [] rfl (Nat.le_of_ble_eq_true rfl) 1507 rfl (fun r13 I14 D15 J16 X17 p18 => ?_)
  obtain ⟨rfl, z1, z2, z3, z4⟩ := p18
  obtain rfl := z1.symm
  obtain rfl := z2.symm
  obtain rfl := z3.symm
  obtain rfl := z4.symm
  refine fo_iload C dL_law_1507 1 rfl 1509 rfl ?_
  refine fo_icmp_eq C dL_law_1509 1514 (by decide) 1512 rfl (fun c19 => ?_) (fun c19 => ?_)
  · refine fo_iload C dL_law_1514 1 rfl 1516 rfl ?_
    refine fo_if_ne C dL_law_1516 1538 (by decide) 1519 rfl (fun c20 => ?_) (fun c20 => ?_)
    · refine fo_goto C dL_law_1538 2683 (by decide) ?_
      refine fo_sub C [2, 3, 4, 5, 6, 7] (lv' := [(5, .int (nI ix)), (0, .ref b), (1, .ref (Λ.2.2.1 605)), (2, .ref (Λ.2.2.1 616)), (3, .ref (Λ.2.2.1 629)), (4, .ref (Λ.2.2.1 630))]) rfl ?_
      exact k _ _ _ _ _ _ _ _ _ _ _ _ _ _ (by omega) (by omega) hl hM he9 hf9
    · refine fo_aload_n C dL_law_1519 6 rfl rfl 1520 rfl ?_
      refine fo_iconst C dL_law_1520 (nI 0) ki_0 1521 rfl ?_
      refine fo_lald C dL_law_1521 (by decide : fo_k 629 = 24) (by decide : 0 < fo_n 629) ((fo_b (fg_pa np (xs (ix + 1)) (xs (ix + 2)) false (fun p k => (0, decide (fp_need (kd p) (par p) ≤ n k)))).2).toInt64) (by rw [fo_rs]; exact hjj c20) 1522 rfl ?_
      refine fo_iload C dL_law_1522 0 rfl 1524 rfl ?_
      refine fo_bif_eq C dL_law_1524 1531 (by decide) 1527 rfl (fun c21 => ?_) (fun c21 => ?_)
      · refine fo_lconst C dL_law_1531 0 (by decide) 1532 rfl ?_
        refine fo_lcmp C dL_law_1532 (nI 0) (fw_ls (by rw [c21]; rfl)) 1533 rfl ?_
        refine fo_nif_eq C (by omega) dL_law_1533 1538 (by decide) 1536 rfl (fun c22 => ?_) (fun c22 => ?_)
        · refine fo_goto C dL_law_1538 2683 (by decide) ?_
          refine fo_sub C [2, 3, 4, 5, 6, 7] (lv' := [(5, .int (nI ix)), (0, .ref b), (1, .ref (Λ.2.2.1 605)), (2, .ref (Λ.2.2.1 616)), (3, .ref (Λ.2.2.1 629)), (4, .ref (Λ.2.2.1 630))]) rfl ?_
          exact k _ _ _ _ _ _ _ _ _ _ _ _ _ _ (by omega) (by omega) hl hM he9 hf9
        · omega
      · refine fo_lconst C dL_law_1527 1 (by decide) 1528 rfl ?_
        refine fo_goto C dL_law_1528 1532 (by decide) ?_
        refine fo_lcmp C dL_law_1532 (nI 0) (fw_ls (by rw [c21]; rfl)) 1533 rfl ?_
        refine fo_nif_eq C (by omega) dL_law_1533 1538 (by decide) 1536 rfl (fun c23 => ?_) (fun c23 => ?_)
        · refine fo_goto C dL_law_1538 2683 (by decide) ?_
          refine fo_sub C [2, 3, 4, 5, 6, 7] (lv' := [(5, .int (nI ix)), (0, .ref b), (1, .ref (Λ.2.2.1 605)), (2, .ref (Λ.2.2.1 616)), (3, .ref (Λ.2.2.1 629)), (4, .ref (Λ.2.2.1 630))]) rfl ?_
          exact k _ _ _ _ _ _ _ _ _ _ _ _ _ _ (by omega) (by omega) hl hM he9 hf9
        · omega
  · exact absurd rfl c19
set_option maxRecDepth 10000 in
set_option maxHeartbeats 4000000 in
theorem lc_21 {l : Launch} {Λ : fo_Lt} {K : fo_K} {cs ss ix b Ls : Nat} {xs : Nat → Int32} {I : fo_Mi} {D : fo_Md} {J : fo_Mj} {X : fo_Mi} (hfl : l.stackTraces = false) (C : fo_C Λ K cL_law RL 9) (hX : va_X b Ls xs K.2.2.1 K.2.2.1.heap) (hb : b < Λ.2.2.2) (hLs : Ls ≤ 2048) (hi : ix + 3 < Ls) {s : fa_S} {hs : List fa_S} {ks : Option fa_S} {L : List Nat} {m : Nat} {t : Nat → Nat} {e f : Int32} (hl : ll I D s hs ks L m t e f) (hM : fm_M I s hs ks L m t e f) (he9 : e = -1 ∨ ¬ e < 0) (hf9 : f = -1 ∨ ¬ f < 0) (hcs : cs + 3 ≤ 603072) (hss : ss + 18 ≤ 7211114) (k : lk_k l Λ K b ix cs ss) : fo_G l Λ room_1 K cs ss 1541 [(5, .int (nI ix)), (0, .ref b), (1, .ref (Λ.2.2.1 605)), (2, .ref (Λ.2.2.1 616)), (3, .ref (Λ.2.2.1 629)), (4, .ref (Λ.2.2.1 630))] [] I D J X := by
  obtain ⟨np, lim, kd, par, n, v⟩ := s
  refine fo_aload_n C dL_law_1541 2 rfl rfl 1542 rfl ?_
  refine fo_aload_n C dL_law_1542 1 rfl rfl 1543 rfl ?_
  refine fo_iload C dL_law_1543 0 rfl 1545 rfl ?_
  refine fo_iconst C dL_law_1545 (nI 1) ki_1 1546 rfl ?_
  refine fo_iadd C dL_law_1546 (nI (ix + 1)) (nI_add _ _) 1547 rfl ?_
  refine fo_sld C hX hb hLs (i := ix + 1) (by omega) dL_law_1547 1548 rfl ?_
  refine fo_aload_n C dL_law_1548 1 rfl rfl 1549 rfl ?_
  refine fo_iload C dL_law_1549 0 rfl 1551 rfl ?_
  refine fo_iconst C dL_law_1551 (nI 2) ki_2 1552 rfl ?_
  refine fo_iadd C dL_law_1552 (nI (ix + 2)) (nI_add _ _) 1553 rfl ?_
  refine fo_sld C hX hb hLs (i := ix + 2) (by omega) dL_law_1553 1554 rfl ?_
  refine fo_aload C dL_law_1554 5 rfl 1556 rfl ?_
  refine fo_qw C dL_law_1556 (mL_forecast hfl (y := (xs (ix + 1))) (x := (xs (ix + 2))) hl.1) lw_L_223 rfl ⟨(Nat.le_of_ble_eq_true rfl), (Nat.le_of_ble_eq_true rfl)⟩ ⟨show (_ : Nat) ≤ 603072 by omega, show (_ : Nat) ≤ 7211114 by omega⟩ [] rfl (Nat.le_of_ble_eq_true rfl) 1559 rfl (fun r1 I2 D3 J4 X5 p6 => ?_)
  obtain ⟨rfl, z1, z2, jj, rfl, hjj⟩ := p6
  obtain rfl := z1.symm
  obtain rfl := z2.symm
  refine fo_istore C dL_law_1559 [(6, .int (nI (fg_pa np (xs (ix + 1)) (xs (ix + 2)) FP.dconst0 (fun p k => if fp_need (kd p) (par p) ≤ n k then (0, fp_fore (kd p) (par p) (v k) (n k)) else (2, FP.dconst0))).1)), (5, .int (nI ix)), (0, .ref b), (1, .ref (Λ.2.2.1 605)), (2, .ref (Λ.2.2.1 616)), (3, .ref (Λ.2.2.1 629)), (4, .ref (Λ.2.2.1 630))] rfl (by decide) 1561 rfl ?_
  refine fo_aload_n C dL_law_1561 4 rfl rfl 1562 rfl ?_
  refine fo_aload_n C dL_law_1562 2 rfl rfl 1563 rfl ?_
  refine fo_iload C dL_law_1563 1 rfl 1565 rfl ?_
  refine fo_iconst C dL_law_1565 (nI 1) ki_1 1566 rfl ?_
  refine fo_iadd C dL_law_1566 (nI (ix + 1)) (nI_add _ _) 1567 rfl ?_
  refine fo_sld C hX hb hLs (i := ix + 1) (by omega) dL_law_1567 1568 rfl ?_
  refine fo_aload_n C dL_law_1568 2 rfl rfl 1569 rfl ?_
  refine fo_iload C dL_law_1569 1 rfl 1571 rfl ?_
  refine fo_iconst C dL_law_1571 (nI 2) ki_2 1572 rfl ?_
  refine fo_iadd C dL_law_1572 (nI (ix + 2)) (nI_add _ _) 1573 rfl ?_
  refine fo_sld C hX hb hLs (i := ix + 2) (by omega) dL_law_1573 1574 rfl ?_
  refine fo_qvd C dL_law_1574 (mX7_forecast (y := (xs (ix + 1))) (x := (xs (ix + 2))) hM.1) lv_L_225 (by decide : fo_k 616 = 9) rfl (by decide) rfl ⟨(Nat.le_of_ble_eq_true rfl), (Nat.le_of_ble_eq_true rfl)⟩ ⟨show (_ : Nat) ≤ 603072 by omega, show (_ : Nat) ≤ 7211114 by omega⟩ [] rfl (Nat.le_of_ble_eq_true rfl) 1577 rfl (fun r7 I8 D9 J10 X11 p12 => ?_)
  obtain ⟨rfl, z0, z2, z3⟩ := p12
  subst z0
  obtain rfl := z2.symm
  obtain rfl := z3.symm
  have hth : (fo_r I 616 (upd (I 616) 5 (nI (fg_pa np (xs (ix + 1)) (xs (ix + 2)) FP.dconst0 (fun p k => if fp_need (kd p) (par p) ≤ n k then (0, fp_fore (kd p) (par p) (v k) (n k)) else (2, FP.dconst0))).1))) 616 5 = nI (fg_pa np (xs (ix + 1)) (xs (ix + 2)) FP.dconst0 (fun p k => if fp_need (kd p) (par p) ≤ n k then (0, fp_fore (kd p) (par p) (v k) (n k)) else (2, FP.dconst0))).1 := by rw [fo_rs, pk_us]
  replace hl := hl.d (dd := jj).th (x := nI (fg_pa np (xs (ix + 1)) (xs (ix + 2)) FP.dconst0 (fun p k => if fp_need (kd p) (par p) ≤ n k then (0, fp_fore (kd p) (par p) (v k) (n k)) else (2, FP.dconst0))).1)
  replace hM := hM.th (x := nI (fg_pa np (xs (ix + 1)) (xs (ix + 2)) FP.dconst0 (fun p k => if fp_need (kd p) (par p) ≤ n k then (0, fp_fore (kd p) (par p) (v k) (n k)) else (2, FP.dconst0))).1)
  refine fo_dstore C dL_law_1577 [(7, .double ((fg_pa np (xs (ix + 1)) (xs (ix + 2)) FP.dconst0 (fun p k => if fp_need (kd p) (par p) ≤ n k then (0, fp_fore (kd p) (par p) (v k) (n k)) else (2, FP.dconst0))).2)), (6, .int (nI (fg_pa np (xs (ix + 1)) (xs (ix + 2)) FP.dconst0 (fun p k => if fp_need (kd p) (par p) ≤ n k then (0, fp_fore (kd p) (par p) (v k) (n k)) else (2, FP.dconst0))).1)), (5, .int (nI ix)), (0, .ref b), (1, .ref (Λ.2.2.1 605)), (2, .ref (Λ.2.2.1 616)), (3, .ref (Λ.2.2.1 629)), (4, .ref (Λ.2.2.1 630))] rfl (by decide) 1579 rfl ?_
  refine fo_aload_n C dL_law_1579 5 rfl rfl 1580 rfl ?_
  refine fo_qvi C dL_law_1580 (mX7_thrown (x := nI (fg_pa np (xs (ix + 1)) (xs (ix + 2)) FP.dconst0 (fun p k => if fp_need (kd p) (par p) ≤ n k then (0, fp_fore (kd p) (par p) (v k) (n k)) else (2, FP.dconst0))).1) hth) lv_L_154 (by decide : fo_k 616 = 9) rfl (by decide) rfl ⟨(Nat.le_of_ble_eq_true rfl), (Nat.le_of_ble_eq_true rfl)⟩ ⟨show (_ : Nat) ≤ 603072 by omega, show (_ : Nat) ≤ 7211114 by omega⟩ [] rfl (Nat.le_of_ble_eq_true rfl) 1583 rfl (fun r13 I14 D15 J16 X17 p18 => ?_)
  obtain ⟨rfl, z1, z2, z3, z4⟩ := p18
  obtain rfl := z1.symm
  obtain rfl := z2.symm
  obtain rfl := z3.symm
  obtain rfl := z4.symm
  refine fo_iload C dL_law_1583 1 rfl 1585 rfl ?_
  refine fo_icmp_eq C dL_law_1585 1590 (by decide) 1588 rfl (fun c19 => ?_) (fun c19 => ?_)
  · refine fo_iload C dL_law_1590 1 rfl 1592 rfl ?_
    refine fo_if_ne C dL_law_1592 1627 (by decide) 1595 rfl (fun c20 => ?_) (fun c20 => ?_)
    · refine fo_goto C dL_law_1627 2683 (by decide) ?_
      refine fo_sub C [2, 3, 4, 5, 6, 7] (lv' := [(5, .int (nI ix)), (0, .ref b), (1, .ref (Λ.2.2.1 605)), (2, .ref (Λ.2.2.1 616)), (3, .ref (Λ.2.2.1 629)), (4, .ref (Λ.2.2.1 630))]) rfl ?_
      exact k _ _ _ _ _ _ _ _ _ _ _ _ _ _ (by omega) (by omega) hl hM he9 hf9
    · refine fo_aload C dL_law_1595 7 rfl 1597 rfl ?_
      refine fo_iconst C dL_law_1597 (nI 0) ki_0 1598 rfl ?_
      refine fo_dald C dL_law_1598 (by decide : fo_k 630 = 22) (by decide : 0 < fo_n 630) ((fg_pa np (xs (ix + 1)) (xs (ix + 2)) FP.dconst0 (fun p k => if fp_need (kd p) (par p) ≤ n k then (0, fp_fore (kd p) (par p) (v k) (n k)) else (2, FP.dconst0))).2) (by rw [fo_rs]; exact hjj c20) 1599 rfl ?_
      refine fo_dload C dL_law_1599 0 rfl 1601 rfl ?_
      refine fo_dcmp C dL_law_1601 1602 rfl ?_
      refine fo_if_eq C dL_law_1602 1627 (by decide) 1605 rfl (fun c21 => ?_) (fun c21 => ?_)
      · refine fo_goto C dL_law_1627 2683 (by decide) ?_
        refine fo_sub C [2, 3, 4, 5, 6, 7] (lv' := [(5, .int (nI ix)), (0, .ref b), (1, .ref (Λ.2.2.1 605)), (2, .ref (Λ.2.2.1 616)), (3, .ref (Λ.2.2.1 629)), (4, .ref (Λ.2.2.1 630))]) rfl ?_
        exact k _ _ _ _ _ _ _ _ _ _ _ _ _ _ (by omega) (by omega) hl hM he9 hf9
      · refine fo_aload C dL_law_1605 7 rfl 1607 rfl ?_
        refine fo_iconst C dL_law_1607 (nI 0) ki_0 1608 rfl ?_
        refine fo_dald C dL_law_1608 (by decide : fo_k 630 = 22) (by decide : 0 < fo_n 630) ((fg_pa np (xs (ix + 1)) (xs (ix + 2)) FP.dconst0 (fun p k => if fp_need (kd p) (par p) ≤ n k then (0, fp_fore (kd p) (par p) (v k) (n k)) else (2, FP.dconst0))).2) (by rw [fo_rs]; exact hjj c20) 1609 rfl ?_
        refine fo_aload C dL_law_1609 7 rfl 1611 rfl ?_
        refine fo_iconst C dL_law_1611 (nI 0) ki_0 1612 rfl ?_
        refine fo_dald C dL_law_1612 (by decide : fo_k 630 = 22) (by decide : 0 < fo_n 630) ((fg_pa np (xs (ix + 1)) (xs (ix + 2)) FP.dconst0 (fun p k => if fp_need (kd p) (par p) ≤ n k then (0, fp_fore (kd p) (par p) (v k) (n k)) else (2, FP.dconst0))).2) (by rw [fo_rs]; exact hjj c20) 1613 rfl ?_
        refine fo_dcmp C dL_law_1613 1614 rfl ?_
        refine fo_if_eq C dL_law_1614 1625 (by decide) 1617 rfl (fun c22 => ?_) (fun c22 => ?_)
        · exact absurd c22 c21
        · refine fo_dload C dL_law_1617 0 rfl 1619 rfl ?_
          refine fo_dload C dL_law_1619 0 rfl 1621 rfl ?_
          refine fo_dcmp C dL_law_1621 1622 rfl ?_
          refine fo_if_ne C dL_law_1622 1627 (by decide) 1625 rfl (fun c23 => ?_) (fun c23 => ?_)
          · refine fo_goto C dL_law_1627 2683 (by decide) ?_
            refine fo_sub C [2, 3, 4, 5, 6, 7] (lv' := [(5, .int (nI ix)), (0, .ref b), (1, .ref (Λ.2.2.1 605)), (2, .ref (Λ.2.2.1 616)), (3, .ref (Λ.2.2.1 629)), (4, .ref (Λ.2.2.1 630))]) rfl ?_
            exact k _ _ _ _ _ _ _ _ _ _ _ _ _ _ (by omega) (by omega) hl hM he9 hf9
          · exact absurd c23 c21
  · exact absurd rfl c19
set_option maxRecDepth 10000 in
set_option maxHeartbeats 4000000 in
theorem lc_22 {l : Launch} {Λ : fo_Lt} {K : fo_K} {cs ss ix b Ls : Nat} {xs : Nat → Int32} {I : fo_Mi} {D : fo_Md} {J : fo_Mj} {X : fo_Mi} (hfl : l.stackTraces = false) (C : fo_C Λ K cL_law RL 9) (hX : va_X b Ls xs K.2.2.1 K.2.2.1.heap) (hb : b < Λ.2.2.2) (hLs : Ls ≤ 2048) (hi : ix + 3 < Ls) {s : fa_S} {hs : List fa_S} {ks : Option fa_S} {L : List Nat} {m : Nat} {t : Nat → Nat} {e f : Int32} (hl : ll I D s hs ks L m t e f) (hM : fm_M I s hs ks L m t e f) (he9 : e = -1 ∨ ¬ e < 0) (hf9 : f = -1 ∨ ¬ f < 0) (hcs : cs + 3 ≤ 603072) (hss : ss + 18 ≤ 7211114) (k : lk_k l Λ K b ix cs ss) : fo_G l Λ room_1 K cs ss 1630 [(5, .int (nI ix)), (0, .ref b), (1, .ref (Λ.2.2.1 605)), (2, .ref (Λ.2.2.1 616)), (3, .ref (Λ.2.2.1 629)), (4, .ref (Λ.2.2.1 630))] [] I D J X := by
  obtain ⟨np, lim, kd, par, n, v⟩ := s
  refine fo_aload_n C dL_law_1630 2 rfl rfl 1631 rfl ?_
  refine fo_aload_n C dL_law_1631 1 rfl rfl 1632 rfl ?_
  refine fo_iload C dL_law_1632 0 rfl 1634 rfl ?_
  refine fo_iconst C dL_law_1634 (nI 1) ki_1 1635 rfl ?_
  refine fo_iadd C dL_law_1635 (nI (ix + 1)) (nI_add _ _) 1636 rfl ?_
  refine fo_sld C hX hb hLs (i := ix + 1) (by omega) dL_law_1636 1637 rfl ?_
  refine fo_aload_n C dL_law_1637 1 rfl rfl 1638 rfl ?_
  refine fo_iload C dL_law_1638 0 rfl 1640 rfl ?_
  refine fo_iconst C dL_law_1640 (nI 2) ki_2 1641 rfl ?_
  refine fo_iadd C dL_law_1641 (nI (ix + 2)) (nI_add _ _) 1642 rfl ?_
  refine fo_sld C hX hb hLs (i := ix + 2) (by omega) dL_law_1642 1643 rfl ?_
  refine fo_aload_n C dL_law_1643 4 rfl rfl 1644 rfl ?_
  refine fo_qw C dL_law_1644 (mL_forecastBits hfl (y := (xs (ix + 1))) (x := (xs (ix + 2))) hl.1) lw_L_226 rfl ⟨(Nat.le_of_ble_eq_true rfl), (Nat.le_of_ble_eq_true rfl)⟩ ⟨show (_ : Nat) ≤ 603072 by omega, show (_ : Nat) ≤ 7211114 by omega⟩ [] rfl (Nat.le_of_ble_eq_true rfl) 1647 rfl (fun r1 I2 D3 J4 X5 p6 => ?_)
  obtain ⟨rfl, z1, z2, jj, rfl, hjj⟩ := p6
  obtain rfl := z1.symm
  obtain rfl := z2.symm
  refine fo_istore C dL_law_1647 [(6, .int (nI (fg_pa np (xs (ix + 1)) (xs (ix + 2)) (0 : Int64) (fun p k => if fp_need (kd p) (par p) ≤ n k then (0, (fp_fore (kd p) (par p) (v k) (n k)).toInt64) else (2, 0))).1)), (5, .int (nI ix)), (0, .ref b), (1, .ref (Λ.2.2.1 605)), (2, .ref (Λ.2.2.1 616)), (3, .ref (Λ.2.2.1 629)), (4, .ref (Λ.2.2.1 630))] rfl (by decide) 1649 rfl ?_
  refine fo_aload_n C dL_law_1649 4 rfl rfl 1650 rfl ?_
  refine fo_aload_n C dL_law_1650 2 rfl rfl 1651 rfl ?_
  refine fo_iload C dL_law_1651 1 rfl 1653 rfl ?_
  refine fo_iconst C dL_law_1653 (nI 1) ki_1 1654 rfl ?_
  refine fo_iadd C dL_law_1654 (nI (ix + 1)) (nI_add _ _) 1655 rfl ?_
  refine fo_sld C hX hb hLs (i := ix + 1) (by omega) dL_law_1655 1656 rfl ?_
  refine fo_aload_n C dL_law_1656 2 rfl rfl 1657 rfl ?_
  refine fo_iload C dL_law_1657 1 rfl 1659 rfl ?_
  refine fo_iconst C dL_law_1659 (nI 2) ki_2 1660 rfl ?_
  refine fo_iadd C dL_law_1660 (nI (ix + 2)) (nI_add _ _) 1661 rfl ?_
  refine fo_sld C hX hb hLs (i := ix + 2) (by omega) dL_law_1661 1662 rfl ?_
  refine fo_qvl C dL_law_1662 (mX7_forecastBits (y := (xs (ix + 1))) (x := (xs (ix + 2))) hM.1) lv_L_228 (by decide : fo_k 616 = 9) rfl (by decide) rfl ⟨(Nat.le_of_ble_eq_true rfl), (Nat.le_of_ble_eq_true rfl)⟩ ⟨show (_ : Nat) ≤ 603072 by omega, show (_ : Nat) ≤ 7211114 by omega⟩ [] rfl (Nat.le_of_ble_eq_true rfl) 1665 rfl (fun r7 I8 D9 J10 X11 p12 => ?_)
  obtain ⟨rfl, z0, z2, z3⟩ := p12
  subst z0
  obtain rfl := z2.symm
  obtain rfl := z3.symm
  have hth : (fo_r I 616 (upd (I 616) 5 (nI (fg_pa np (xs (ix + 1)) (xs (ix + 2)) (0 : Int64) (fun p k => if fp_need (kd p) (par p) ≤ n k then (0, (fp_fore (kd p) (par p) (v k) (n k)).toInt64) else (2, 0))).1))) 616 5 = nI (fg_pa np (xs (ix + 1)) (xs (ix + 2)) (0 : Int64) (fun p k => if fp_need (kd p) (par p) ≤ n k then (0, (fp_fore (kd p) (par p) (v k) (n k)).toInt64) else (2, 0))).1 := by rw [fo_rs, pk_us]
  replace hl := hl.th (x := nI (fg_pa np (xs (ix + 1)) (xs (ix + 2)) (0 : Int64) (fun p k => if fp_need (kd p) (par p) ≤ n k then (0, (fp_fore (kd p) (par p) (v k) (n k)).toInt64) else (2, 0))).1)
  replace hM := hM.th (x := nI (fg_pa np (xs (ix + 1)) (xs (ix + 2)) (0 : Int64) (fun p k => if fp_need (kd p) (par p) ≤ n k then (0, (fp_fore (kd p) (par p) (v k) (n k)).toInt64) else (2, 0))).1)
  refine fo_lstore C dL_law_1665 [(7, .long ((fg_pa np (xs (ix + 1)) (xs (ix + 2)) (0 : Int64) (fun p k => if fp_need (kd p) (par p) ≤ n k then (0, (fp_fore (kd p) (par p) (v k) (n k)).toInt64) else (2, 0))).2)), (6, .int (nI (fg_pa np (xs (ix + 1)) (xs (ix + 2)) (0 : Int64) (fun p k => if fp_need (kd p) (par p) ≤ n k then (0, (fp_fore (kd p) (par p) (v k) (n k)).toInt64) else (2, 0))).1)), (5, .int (nI ix)), (0, .ref b), (1, .ref (Λ.2.2.1 605)), (2, .ref (Λ.2.2.1 616)), (3, .ref (Λ.2.2.1 629)), (4, .ref (Λ.2.2.1 630))] rfl (by decide) 1667 rfl ?_
  refine fo_aload_n C dL_law_1667 5 rfl rfl 1668 rfl ?_
  refine fo_qvi C dL_law_1668 (mX7_thrown (x := nI (fg_pa np (xs (ix + 1)) (xs (ix + 2)) (0 : Int64) (fun p k => if fp_need (kd p) (par p) ≤ n k then (0, (fp_fore (kd p) (par p) (v k) (n k)).toInt64) else (2, 0))).1) hth) lv_L_154 (by decide : fo_k 616 = 9) rfl (by decide) rfl ⟨(Nat.le_of_ble_eq_true rfl), (Nat.le_of_ble_eq_true rfl)⟩ ⟨show (_ : Nat) ≤ 603072 by omega, show (_ : Nat) ≤ 7211114 by omega⟩ [] rfl (Nat.le_of_ble_eq_true rfl) 1671 rfl (fun r13 I14 D15 J16 X17 p18 => ?_)
  obtain ⟨rfl, z1, z2, z3, z4⟩ := p18
  obtain rfl := z1.symm
  obtain rfl := z2.symm
  obtain rfl := z3.symm
  obtain rfl := z4.symm
  refine fo_iload C dL_law_1671 1 rfl 1673 rfl ?_
  refine fo_icmp_eq C dL_law_1673 1678 (by decide) 1676 rfl (fun c19 => ?_) (fun c19 => ?_)
  · refine fo_iload C dL_law_1678 1 rfl 1680 rfl ?_
    refine fo_if_ne C dL_law_1680 1694 (by decide) 1683 rfl (fun c20 => ?_) (fun c20 => ?_)
    · refine fo_goto C dL_law_1694 2683 (by decide) ?_
      refine fo_sub C [2, 3, 4, 5, 6, 7] (lv' := [(5, .int (nI ix)), (0, .ref b), (1, .ref (Λ.2.2.1 605)), (2, .ref (Λ.2.2.1 616)), (3, .ref (Λ.2.2.1 629)), (4, .ref (Λ.2.2.1 630))]) rfl ?_
      exact k _ _ _ _ _ _ _ _ _ _ _ _ _ _ (by omega) (by omega) hl hM he9 hf9
    · refine fo_aload_n C dL_law_1683 6 rfl rfl 1684 rfl ?_
      refine fo_iconst C dL_law_1684 (nI 0) ki_0 1685 rfl ?_
      refine fo_lald C dL_law_1685 (by decide : fo_k 629 = 24) (by decide : 0 < fo_n 629) ((fg_pa np (xs (ix + 1)) (xs (ix + 2)) (0 : Int64) (fun p k => if fp_need (kd p) (par p) ≤ n k then (0, (fp_fore (kd p) (par p) (v k) (n k)).toInt64) else (2, 0))).2) (by rw [fo_rs]; exact hjj c20) 1686 rfl ?_
      refine fo_lload C dL_law_1686 0 rfl 1688 rfl ?_
      refine fo_lcmp C dL_law_1688 (nI 0) (fw_ls (rfl)) 1689 rfl ?_
      refine fo_nif_eq C (by omega) dL_law_1689 1694 (by decide) 1692 rfl (fun c21 => ?_) (fun c21 => ?_)
      · refine fo_goto C dL_law_1694 2683 (by decide) ?_
        refine fo_sub C [2, 3, 4, 5, 6, 7] (lv' := [(5, .int (nI ix)), (0, .ref b), (1, .ref (Λ.2.2.1 605)), (2, .ref (Λ.2.2.1 616)), (3, .ref (Λ.2.2.1 629)), (4, .ref (Λ.2.2.1 630))]) rfl ?_
        exact k _ _ _ _ _ _ _ _ _ _ _ _ _ _ (by omega) (by omega) hl hM he9 hf9
      · omega
  · exact absurd rfl c19
set_option maxRecDepth 10000 in
set_option maxHeartbeats 4000000 in
theorem lc_23 {l : Launch} {Λ : fo_Lt} {K : fo_K} {cs ss ix b Ls : Nat} {xs : Nat → Int32} {I : fo_Mi} {D : fo_Md} {J : fo_Mj} {X : fo_Mi} (hfl : l.stackTraces = false) (C : fo_C Λ K cL_law RL 9) (hX : va_X b Ls xs K.2.2.1 K.2.2.1.heap) (hb : b < Λ.2.2.2) (hLs : Ls ≤ 2048) (hi : ix + 3 < Ls) {s : fa_S} {hs : List fa_S} {ks : Option fa_S} {L : List Nat} {m : Nat} {t : Nat → Nat} {e f : Int32} (hl : ll I D s hs ks L m t e f) (hM : fm_M I s hs ks L m t e f) (he9 : e = -1 ∨ ¬ e < 0) (hf9 : f = -1 ∨ ¬ f < 0) (hcs : cs + 3 ≤ 603072) (hss : ss + 18 ≤ 7211114) (k : lk_k l Λ K b ix cs ss) : fo_G l Λ room_1 K cs ss 1697 [(5, .int (nI ix)), (0, .ref b), (1, .ref (Λ.2.2.1 605)), (2, .ref (Λ.2.2.1 616)), (3, .ref (Λ.2.2.1 629)), (4, .ref (Λ.2.2.1 630))] [] I D J X := by
  obtain ⟨np, lim, kd, par, n, v⟩ := s
  refine fo_aload_n C dL_law_1697 2 rfl rfl 1698 rfl ?_
  refine fo_aload_n C dL_law_1698 1 rfl rfl 1699 rfl ?_
  refine fo_iload C dL_law_1699 0 rfl 1701 rfl ?_
  refine fo_iconst C dL_law_1701 (nI 1) ki_1 1702 rfl ?_
  refine fo_iadd C dL_law_1702 (nI (ix + 1)) (nI_add _ _) 1703 rfl ?_
  refine fo_sld C hX hb hLs (i := ix + 1) (by omega) dL_law_1703 1704 rfl ?_
  refine fo_aload_n C dL_law_1704 1 rfl rfl 1705 rfl ?_
  refine fo_iload C dL_law_1705 0 rfl 1707 rfl ?_
  refine fo_iconst C dL_law_1707 (nI 2) ki_2 1708 rfl ?_
  refine fo_iadd C dL_law_1708 (nI (ix + 2)) (nI_add _ _) 1709 rfl ?_
  refine fo_sld C hX hb hLs (i := ix + 2) (by omega) dL_law_1709 1710 rfl ?_
  refine fo_aload_n C dL_law_1710 4 rfl rfl 1711 rfl ?_
  refine fo_qw C dL_law_1711 (mL_errors hfl (y := (xs (ix + 1))) (x := (xs (ix + 2))) hl.1) lw_L_229 rfl ⟨(Nat.le_of_ble_eq_true rfl), (Nat.le_of_ble_eq_true rfl)⟩ ⟨show (_ : Nat) ≤ 603072 by omega, show (_ : Nat) ≤ 7211114 by omega⟩ [] rfl (Nat.le_of_ble_eq_true rfl) 1714 rfl (fun r1 I2 D3 J4 X5 p6 => ?_)
  obtain ⟨rfl, z1, z2, jj, rfl, hjj⟩ := p6
  obtain rfl := z1.symm
  obtain rfl := z2.symm
  refine fo_istore C dL_law_1714 [(6, .int (nI (fg_pa np (xs (ix + 1)) (xs (ix + 2)) (nI 0) (fun p k => (0, nI (n k - fp_need (kd p) (par p))))).1)), (5, .int (nI ix)), (0, .ref b), (1, .ref (Λ.2.2.1 605)), (2, .ref (Λ.2.2.1 616)), (3, .ref (Λ.2.2.1 629)), (4, .ref (Λ.2.2.1 630))] rfl (by decide) 1716 rfl ?_
  refine fo_aload_n C dL_law_1716 4 rfl rfl 1717 rfl ?_
  refine fo_aload_n C dL_law_1717 2 rfl rfl 1718 rfl ?_
  refine fo_iload C dL_law_1718 1 rfl 1720 rfl ?_
  refine fo_iconst C dL_law_1720 (nI 1) ki_1 1721 rfl ?_
  refine fo_iadd C dL_law_1721 (nI (ix + 1)) (nI_add _ _) 1722 rfl ?_
  refine fo_sld C hX hb hLs (i := ix + 1) (by omega) dL_law_1722 1723 rfl ?_
  refine fo_aload_n C dL_law_1723 2 rfl rfl 1724 rfl ?_
  refine fo_iload C dL_law_1724 1 rfl 1726 rfl ?_
  refine fo_iconst C dL_law_1726 (nI 2) ki_2 1727 rfl ?_
  refine fo_iadd C dL_law_1727 (nI (ix + 2)) (nI_add _ _) 1728 rfl ?_
  refine fo_sld C hX hb hLs (i := ix + 2) (by omega) dL_law_1728 1729 rfl ?_
  refine fo_qvi C dL_law_1729 (mX7_errors (y := (xs (ix + 1))) (x := (xs (ix + 2))) hM.1) lv_L_231 (by decide : fo_k 616 = 9) rfl (by decide) rfl ⟨(Nat.le_of_ble_eq_true rfl), (Nat.le_of_ble_eq_true rfl)⟩ ⟨show (_ : Nat) ≤ 603072 by omega, show (_ : Nat) ≤ 7211114 by omega⟩ [] rfl (Nat.le_of_ble_eq_true rfl) 1732 rfl (fun r7 I8 D9 J10 X11 p12 => ?_)
  obtain ⟨rfl, z0, z2, z3⟩ := p12
  subst z0
  obtain rfl := z2.symm
  obtain rfl := z3.symm
  have hth : (fo_r I 616 (upd (I 616) 5 (nI (fg_pa np (xs (ix + 1)) (xs (ix + 2)) (nI 0) (fun p k => (0, nI (n k - fp_need (kd p) (par p))))).1))) 616 5 = nI (fg_pa np (xs (ix + 1)) (xs (ix + 2)) (nI 0) (fun p k => (0, nI (n k - fp_need (kd p) (par p))))).1 := by rw [fo_rs, pk_us]
  replace hl := hl.th (x := nI (fg_pa np (xs (ix + 1)) (xs (ix + 2)) (nI 0) (fun p k => (0, nI (n k - fp_need (kd p) (par p))))).1)
  replace hM := hM.th (x := nI (fg_pa np (xs (ix + 1)) (xs (ix + 2)) (nI 0) (fun p k => (0, nI (n k - fp_need (kd p) (par p))))).1)
  refine fo_istore C dL_law_1732 [(7, .int ((fg_pa np (xs (ix + 1)) (xs (ix + 2)) (nI 0) (fun p k => (0, nI (n k - fp_need (kd p) (par p))))).2)), (6, .int (nI (fg_pa np (xs (ix + 1)) (xs (ix + 2)) (nI 0) (fun p k => (0, nI (n k - fp_need (kd p) (par p))))).1)), (5, .int (nI ix)), (0, .ref b), (1, .ref (Λ.2.2.1 605)), (2, .ref (Λ.2.2.1 616)), (3, .ref (Λ.2.2.1 629)), (4, .ref (Λ.2.2.1 630))] rfl (by decide) 1734 rfl ?_
  refine fo_aload_n C dL_law_1734 5 rfl rfl 1735 rfl ?_
  refine fo_qvi C dL_law_1735 (mX7_thrown (x := nI (fg_pa np (xs (ix + 1)) (xs (ix + 2)) (nI 0) (fun p k => (0, nI (n k - fp_need (kd p) (par p))))).1) hth) lv_L_154 (by decide : fo_k 616 = 9) rfl (by decide) rfl ⟨(Nat.le_of_ble_eq_true rfl), (Nat.le_of_ble_eq_true rfl)⟩ ⟨show (_ : Nat) ≤ 603072 by omega, show (_ : Nat) ≤ 7211114 by omega⟩ [] rfl (Nat.le_of_ble_eq_true rfl) 1738 rfl (fun r13 I14 D15 J16 X17 p18 => ?_)
  obtain ⟨rfl, z1, z2, z3, z4⟩ := p18
  obtain rfl := z1.symm
  obtain rfl := z2.symm
  obtain rfl := z3.symm
  obtain rfl := z4.symm
  refine fo_iload C dL_law_1738 1 rfl 1740 rfl ?_
  refine fo_icmp_eq C dL_law_1740 1745 (by decide) 1743 rfl (fun c19 => ?_) (fun c19 => ?_)
  · refine fo_iload C dL_law_1745 1 rfl 1747 rfl ?_
    refine fo_if_ne C dL_law_1747 1762 (by decide) 1750 rfl (fun c20 => ?_) (fun c20 => ?_)
    · refine fo_goto C dL_law_1762 2683 (by decide) ?_
      refine fo_sub C [2, 3, 4, 5, 6, 7] (lv' := [(5, .int (nI ix)), (0, .ref b), (1, .ref (Λ.2.2.1 605)), (2, .ref (Λ.2.2.1 616)), (3, .ref (Λ.2.2.1 629)), (4, .ref (Λ.2.2.1 630))]) rfl ?_
      exact k _ _ _ _ _ _ _ _ _ _ _ _ _ _ (by omega) (by omega) hl hM he9 hf9
    · refine fo_aload_n C dL_law_1750 6 rfl rfl 1751 rfl ?_
      refine fo_iconst C dL_law_1751 (nI 0) ki_0 1752 rfl ?_
      refine fo_lald C dL_law_1752 (by decide : fo_k 629 = 24) (by decide : 0 < fo_n 629) (((fg_pa np (xs (ix + 1)) (xs (ix + 2)) (nI 0) (fun p k => (0, nI (n k - fp_need (kd p) (par p))))).2).toInt64) (by rw [fo_rs]; exact hjj c20) 1753 rfl ?_
      refine fo_iload C dL_law_1753 0 rfl 1755 rfl ?_
      refine fo_i2l C dL_law_1755 _ rfl 1756 rfl ?_
      refine fo_lcmp C dL_law_1756 (nI 0) (fw_ls (rfl)) 1757 rfl ?_
      refine fo_nif_eq C (by omega) dL_law_1757 1762 (by decide) 1760 rfl (fun c21 => ?_) (fun c21 => ?_)
      · refine fo_goto C dL_law_1762 2683 (by decide) ?_
        refine fo_sub C [2, 3, 4, 5, 6, 7] (lv' := [(5, .int (nI ix)), (0, .ref b), (1, .ref (Λ.2.2.1 605)), (2, .ref (Λ.2.2.1 616)), (3, .ref (Λ.2.2.1 629)), (4, .ref (Λ.2.2.1 630))]) rfl ?_
        exact k _ _ _ _ _ _ _ _ _ _ _ _ _ _ (by omega) (by omega) hl hM he9 hf9
      · omega
  · exact absurd rfl c19
set_option maxRecDepth 10000 in
set_option maxHeartbeats 4000000 in
theorem lc_24 {l : Launch} {Λ : fo_Lt} {K : fo_K} {cs ss ix b Ls : Nat} {xs : Nat → Int32} {I : fo_Mi} {D : fo_Md} {J : fo_Mj} {X : fo_Mi} (hfl : l.stackTraces = false) (C : fo_C Λ K cL_law RL 9) (hX : va_X b Ls xs K.2.2.1 K.2.2.1.heap) (hb : b < Λ.2.2.2) (hLs : Ls ≤ 2048) (hi : ix + 3 < Ls) {s : fa_S} {hs : List fa_S} {ks : Option fa_S} {L : List Nat} {m : Nat} {t : Nat → Nat} {e f : Int32} (hl : ll I D s hs ks L m t e f) (hM : fm_M I s hs ks L m t e f) (he9 : e = -1 ∨ ¬ e < 0) (hf9 : f = -1 ∨ ¬ f < 0) (hcs : cs + 3 ≤ 603072) (hss : ss + 18 ≤ 7211114) (k : lk_k l Λ K b ix cs ss) : fo_G l Λ room_1 K cs ss 1765 [(5, .int (nI ix)), (0, .ref b), (1, .ref (Λ.2.2.1 605)), (2, .ref (Λ.2.2.1 616)), (3, .ref (Λ.2.2.1 629)), (4, .ref (Λ.2.2.1 630))] [] I D J X := by
  obtain ⟨np, lim, kd, par, n, v⟩ := s
  refine fo_aload_n C dL_law_1765 2 rfl rfl 1766 rfl ?_
  refine fo_aload_n C dL_law_1766 1 rfl rfl 1767 rfl ?_
  refine fo_iload C dL_law_1767 0 rfl 1769 rfl ?_
  refine fo_iconst C dL_law_1769 (nI 1) ki_1 1770 rfl ?_
  refine fo_iadd C dL_law_1770 (nI (ix + 1)) (nI_add _ _) 1771 rfl ?_
  refine fo_sld C hX hb hLs (i := ix + 1) (by omega) dL_law_1771 1772 rfl ?_
  refine fo_aload_n C dL_law_1772 1 rfl rfl 1773 rfl ?_
  refine fo_iload C dL_law_1773 0 rfl 1775 rfl ?_
  refine fo_iconst C dL_law_1775 (nI 2) ki_2 1776 rfl ?_
  refine fo_iadd C dL_law_1776 (nI (ix + 2)) (nI_add _ _) 1777 rfl ?_
  refine fo_sld C hX hb hLs (i := ix + 2) (by omega) dL_law_1777 1778 rfl ?_
  refine fo_aload C dL_law_1778 5 rfl 1780 rfl ?_
  refine fo_qw C dL_law_1780 (mL_errorSum hfl (y := (xs (ix + 1))) (x := (xs (ix + 2))) hl.1) lw_L_232 rfl ⟨(Nat.le_of_ble_eq_true rfl), (Nat.le_of_ble_eq_true rfl)⟩ ⟨show (_ : Nat) ≤ 603072 by omega, show (_ : Nat) ≤ 7211114 by omega⟩ [] rfl (Nat.le_of_ble_eq_true rfl) 1783 rfl (fun r1 I2 D3 J4 X5 p6 => ?_)
  obtain ⟨rfl, z1, z2, jj, rfl, hjj⟩ := p6
  obtain rfl := z1.symm
  obtain rfl := z2.symm
  refine fo_istore C dL_law_1783 [(6, .int (nI (fg_pa np (xs (ix + 1)) (xs (ix + 2)) FP.dconst0 (fun p k => (0, fp_es (kd p) (par p) (v k) (n k)))).1)), (5, .int (nI ix)), (0, .ref b), (1, .ref (Λ.2.2.1 605)), (2, .ref (Λ.2.2.1 616)), (3, .ref (Λ.2.2.1 629)), (4, .ref (Λ.2.2.1 630))] rfl (by decide) 1785 rfl ?_
  refine fo_aload_n C dL_law_1785 4 rfl rfl 1786 rfl ?_
  refine fo_aload_n C dL_law_1786 2 rfl rfl 1787 rfl ?_
  refine fo_iload C dL_law_1787 1 rfl 1789 rfl ?_
  refine fo_iconst C dL_law_1789 (nI 1) ki_1 1790 rfl ?_
  refine fo_iadd C dL_law_1790 (nI (ix + 1)) (nI_add _ _) 1791 rfl ?_
  refine fo_sld C hX hb hLs (i := ix + 1) (by omega) dL_law_1791 1792 rfl ?_
  refine fo_aload_n C dL_law_1792 2 rfl rfl 1793 rfl ?_
  refine fo_iload C dL_law_1793 1 rfl 1795 rfl ?_
  refine fo_iconst C dL_law_1795 (nI 2) ki_2 1796 rfl ?_
  refine fo_iadd C dL_law_1796 (nI (ix + 2)) (nI_add _ _) 1797 rfl ?_
  refine fo_sld C hX hb hLs (i := ix + 2) (by omega) dL_law_1797 1798 rfl ?_
  refine fo_qvd C dL_law_1798 (mX7_errorSum (y := (xs (ix + 1))) (x := (xs (ix + 2))) hM.1) lv_L_234 (by decide : fo_k 616 = 9) rfl (by decide) rfl ⟨(Nat.le_of_ble_eq_true rfl), (Nat.le_of_ble_eq_true rfl)⟩ ⟨show (_ : Nat) ≤ 603072 by omega, show (_ : Nat) ≤ 7211114 by omega⟩ [] rfl (Nat.le_of_ble_eq_true rfl) 1801 rfl (fun r7 I8 D9 J10 X11 p12 => ?_)
  obtain ⟨rfl, z0, z2, z3⟩ := p12
  subst z0
  obtain rfl := z2.symm
  obtain rfl := z3.symm
  have hth : (fo_r I 616 (upd (I 616) 5 (nI (fg_pa np (xs (ix + 1)) (xs (ix + 2)) FP.dconst0 (fun p k => (0, fp_es (kd p) (par p) (v k) (n k)))).1))) 616 5 = nI (fg_pa np (xs (ix + 1)) (xs (ix + 2)) FP.dconst0 (fun p k => (0, fp_es (kd p) (par p) (v k) (n k)))).1 := by rw [fo_rs, pk_us]
  replace hl := hl.d (dd := jj).th (x := nI (fg_pa np (xs (ix + 1)) (xs (ix + 2)) FP.dconst0 (fun p k => (0, fp_es (kd p) (par p) (v k) (n k)))).1)
  replace hM := hM.th (x := nI (fg_pa np (xs (ix + 1)) (xs (ix + 2)) FP.dconst0 (fun p k => (0, fp_es (kd p) (par p) (v k) (n k)))).1)
  refine fo_dstore C dL_law_1801 [(7, .double ((fg_pa np (xs (ix + 1)) (xs (ix + 2)) FP.dconst0 (fun p k => (0, fp_es (kd p) (par p) (v k) (n k)))).2)), (6, .int (nI (fg_pa np (xs (ix + 1)) (xs (ix + 2)) FP.dconst0 (fun p k => (0, fp_es (kd p) (par p) (v k) (n k)))).1)), (5, .int (nI ix)), (0, .ref b), (1, .ref (Λ.2.2.1 605)), (2, .ref (Λ.2.2.1 616)), (3, .ref (Λ.2.2.1 629)), (4, .ref (Λ.2.2.1 630))] rfl (by decide) 1803 rfl ?_
  refine fo_aload_n C dL_law_1803 5 rfl rfl 1804 rfl ?_
  refine fo_qvi C dL_law_1804 (mX7_thrown (x := nI (fg_pa np (xs (ix + 1)) (xs (ix + 2)) FP.dconst0 (fun p k => (0, fp_es (kd p) (par p) (v k) (n k)))).1) hth) lv_L_154 (by decide : fo_k 616 = 9) rfl (by decide) rfl ⟨(Nat.le_of_ble_eq_true rfl), (Nat.le_of_ble_eq_true rfl)⟩ ⟨show (_ : Nat) ≤ 603072 by omega, show (_ : Nat) ≤ 7211114 by omega⟩ [] rfl (Nat.le_of_ble_eq_true rfl) 1807 rfl (fun r13 I14 D15 J16 X17 p18 => ?_)
  obtain ⟨rfl, z1, z2, z3, z4⟩ := p18
  obtain rfl := z1.symm
  obtain rfl := z2.symm
  obtain rfl := z3.symm
  obtain rfl := z4.symm
  refine fo_iload C dL_law_1807 1 rfl 1809 rfl ?_
  refine fo_icmp_eq C dL_law_1809 1814 (by decide) 1812 rfl (fun c19 => ?_) (fun c19 => ?_)
  · refine fo_iload C dL_law_1814 1 rfl 1816 rfl ?_
    refine fo_if_ne C dL_law_1816 1851 (by decide) 1819 rfl (fun c20 => ?_) (fun c20 => ?_)
    · refine fo_goto C dL_law_1851 2683 (by decide) ?_
      refine fo_sub C [2, 3, 4, 5, 6, 7] (lv' := [(5, .int (nI ix)), (0, .ref b), (1, .ref (Λ.2.2.1 605)), (2, .ref (Λ.2.2.1 616)), (3, .ref (Λ.2.2.1 629)), (4, .ref (Λ.2.2.1 630))]) rfl ?_
      exact k _ _ _ _ _ _ _ _ _ _ _ _ _ _ (by omega) (by omega) hl hM he9 hf9
    · refine fo_aload C dL_law_1819 7 rfl 1821 rfl ?_
      refine fo_iconst C dL_law_1821 (nI 0) ki_0 1822 rfl ?_
      refine fo_dald C dL_law_1822 (by decide : fo_k 630 = 22) (by decide : 0 < fo_n 630) ((fg_pa np (xs (ix + 1)) (xs (ix + 2)) FP.dconst0 (fun p k => (0, fp_es (kd p) (par p) (v k) (n k)))).2) (by rw [fo_rs]; exact hjj c20) 1823 rfl ?_
      refine fo_dload C dL_law_1823 0 rfl 1825 rfl ?_
      refine fo_dcmp C dL_law_1825 1826 rfl ?_
      refine fo_if_eq C dL_law_1826 1851 (by decide) 1829 rfl (fun c21 => ?_) (fun c21 => ?_)
      · refine fo_goto C dL_law_1851 2683 (by decide) ?_
        refine fo_sub C [2, 3, 4, 5, 6, 7] (lv' := [(5, .int (nI ix)), (0, .ref b), (1, .ref (Λ.2.2.1 605)), (2, .ref (Λ.2.2.1 616)), (3, .ref (Λ.2.2.1 629)), (4, .ref (Λ.2.2.1 630))]) rfl ?_
        exact k _ _ _ _ _ _ _ _ _ _ _ _ _ _ (by omega) (by omega) hl hM he9 hf9
      · refine fo_aload C dL_law_1829 7 rfl 1831 rfl ?_
        refine fo_iconst C dL_law_1831 (nI 0) ki_0 1832 rfl ?_
        refine fo_dald C dL_law_1832 (by decide : fo_k 630 = 22) (by decide : 0 < fo_n 630) ((fg_pa np (xs (ix + 1)) (xs (ix + 2)) FP.dconst0 (fun p k => (0, fp_es (kd p) (par p) (v k) (n k)))).2) (by rw [fo_rs]; exact hjj c20) 1833 rfl ?_
        refine fo_aload C dL_law_1833 7 rfl 1835 rfl ?_
        refine fo_iconst C dL_law_1835 (nI 0) ki_0 1836 rfl ?_
        refine fo_dald C dL_law_1836 (by decide : fo_k 630 = 22) (by decide : 0 < fo_n 630) ((fg_pa np (xs (ix + 1)) (xs (ix + 2)) FP.dconst0 (fun p k => (0, fp_es (kd p) (par p) (v k) (n k)))).2) (by rw [fo_rs]; exact hjj c20) 1837 rfl ?_
        refine fo_dcmp C dL_law_1837 1838 rfl ?_
        refine fo_if_eq C dL_law_1838 1849 (by decide) 1841 rfl (fun c22 => ?_) (fun c22 => ?_)
        · exact absurd c22 c21
        · refine fo_dload C dL_law_1841 0 rfl 1843 rfl ?_
          refine fo_dload C dL_law_1843 0 rfl 1845 rfl ?_
          refine fo_dcmp C dL_law_1845 1846 rfl ?_
          refine fo_if_ne C dL_law_1846 1851 (by decide) 1849 rfl (fun c23 => ?_) (fun c23 => ?_)
          · refine fo_goto C dL_law_1851 2683 (by decide) ?_
            refine fo_sub C [2, 3, 4, 5, 6, 7] (lv' := [(5, .int (nI ix)), (0, .ref b), (1, .ref (Λ.2.2.1 605)), (2, .ref (Λ.2.2.1 616)), (3, .ref (Λ.2.2.1 629)), (4, .ref (Λ.2.2.1 630))]) rfl ?_
            exact k _ _ _ _ _ _ _ _ _ _ _ _ _ _ (by omega) (by omega) hl hM he9 hf9
          · exact absurd c23 c21
  · exact absurd rfl c19
set_option maxRecDepth 10000 in
set_option maxHeartbeats 4000000 in
theorem lc_25 {l : Launch} {Λ : fo_Lt} {K : fo_K} {cs ss ix b Ls : Nat} {xs : Nat → Int32} {I : fo_Mi} {D : fo_Md} {J : fo_Mj} {X : fo_Mi} (hfl : l.stackTraces = false) (C : fo_C Λ K cL_law RL 9) (hX : va_X b Ls xs K.2.2.1 K.2.2.1.heap) (hb : b < Λ.2.2.2) (hLs : Ls ≤ 2048) (hi : ix + 3 < Ls) {s : fa_S} {hs : List fa_S} {ks : Option fa_S} {L : List Nat} {m : Nat} {t : Nat → Nat} {e f : Int32} (hl : ll I D s hs ks L m t e f) (hM : fm_M I s hs ks L m t e f) (he9 : e = -1 ∨ ¬ e < 0) (hf9 : f = -1 ∨ ¬ f < 0) (hcs : cs + 3 ≤ 603072) (hss : ss + 18 ≤ 7211114) (k : lk_k l Λ K b ix cs ss) : fo_G l Λ room_1 K cs ss 1854 [(5, .int (nI ix)), (0, .ref b), (1, .ref (Λ.2.2.1 605)), (2, .ref (Λ.2.2.1 616)), (3, .ref (Λ.2.2.1 629)), (4, .ref (Λ.2.2.1 630))] [] I D J X := by
  obtain ⟨np, lim, kd, par, n, v⟩ := s
  refine fo_aload_n C dL_law_1854 2 rfl rfl 1855 rfl ?_
  refine fo_aload_n C dL_law_1855 1 rfl rfl 1856 rfl ?_
  refine fo_iload C dL_law_1856 0 rfl 1858 rfl ?_
  refine fo_iconst C dL_law_1858 (nI 1) ki_1 1859 rfl ?_
  refine fo_iadd C dL_law_1859 (nI (ix + 1)) (nI_add _ _) 1860 rfl ?_
  refine fo_sld C hX hb hLs (i := ix + 1) (by omega) dL_law_1860 1861 rfl ?_
  refine fo_aload_n C dL_law_1861 1 rfl rfl 1862 rfl ?_
  refine fo_iload C dL_law_1862 0 rfl 1864 rfl ?_
  refine fo_iconst C dL_law_1864 (nI 2) ki_2 1865 rfl ?_
  refine fo_iadd C dL_law_1865 (nI (ix + 2)) (nI_add _ _) 1866 rfl ?_
  refine fo_sld C hX hb hLs (i := ix + 2) (by omega) dL_law_1866 1867 rfl ?_
  refine fo_aload C dL_law_1867 5 rfl 1869 rfl ?_
  refine fo_qw C dL_law_1869 (mL_errorSumByBacktest hfl (y := (xs (ix + 1))) (x := (xs (ix + 2))) hl.1) lw_L_235 rfl ⟨(Nat.le_of_ble_eq_true rfl), (Nat.le_of_ble_eq_true rfl)⟩ ⟨show (_ : Nat) ≤ 603072 by omega, show (_ : Nat) ≤ 7211114 by omega⟩ [] rfl (Nat.le_of_ble_eq_true rfl) 1872 rfl (fun r1 I2 D3 J4 X5 p6 => ?_)
  obtain ⟨rfl, z1, z2, jj, rfl, hjj⟩ := p6
  obtain rfl := z1.symm
  obtain rfl := z2.symm
  refine fo_istore C dL_law_1872 [(6, .int (nI (fg_pa np (xs (ix + 1)) (xs (ix + 2)) FP.dconst0 (fun p k => (0, fp_es (kd p) (par p) (v k) (n k)))).1)), (5, .int (nI ix)), (0, .ref b), (1, .ref (Λ.2.2.1 605)), (2, .ref (Λ.2.2.1 616)), (3, .ref (Λ.2.2.1 629)), (4, .ref (Λ.2.2.1 630))] rfl (by decide) 1874 rfl ?_
  refine fo_aload_n C dL_law_1874 4 rfl rfl 1875 rfl ?_
  refine fo_aload_n C dL_law_1875 2 rfl rfl 1876 rfl ?_
  refine fo_iload C dL_law_1876 1 rfl 1878 rfl ?_
  refine fo_iconst C dL_law_1878 (nI 1) ki_1 1879 rfl ?_
  refine fo_iadd C dL_law_1879 (nI (ix + 1)) (nI_add _ _) 1880 rfl ?_
  refine fo_sld C hX hb hLs (i := ix + 1) (by omega) dL_law_1880 1881 rfl ?_
  refine fo_aload_n C dL_law_1881 2 rfl rfl 1882 rfl ?_
  refine fo_iload C dL_law_1882 1 rfl 1884 rfl ?_
  refine fo_iconst C dL_law_1884 (nI 2) ki_2 1885 rfl ?_
  refine fo_iadd C dL_law_1885 (nI (ix + 2)) (nI_add _ _) 1886 rfl ?_
  refine fo_sld C hX hb hLs (i := ix + 2) (by omega) dL_law_1886 1887 rfl ?_
  refine fo_qvd C dL_law_1887 (mX7_errorSumByBacktest (y := (xs (ix + 1))) (x := (xs (ix + 2))) hM.1) lv_L_237 (by decide : fo_k 616 = 9) rfl (by decide) rfl ⟨(Nat.le_of_ble_eq_true rfl), (Nat.le_of_ble_eq_true rfl)⟩ ⟨show (_ : Nat) ≤ 603072 by omega, show (_ : Nat) ≤ 7211114 by omega⟩ [] rfl (Nat.le_of_ble_eq_true rfl) 1890 rfl (fun r7 I8 D9 J10 X11 p12 => ?_)
  obtain ⟨rfl, z0, z2, z3⟩ := p12
  subst z0
  obtain rfl := z2.symm
  obtain rfl := z3.symm
  have hth : (fo_r I 616 (upd (I 616) 5 (nI (fg_pa np (xs (ix + 1)) (xs (ix + 2)) FP.dconst0 (fun p k => (0, fp_es (kd p) (par p) (v k) (n k)))).1))) 616 5 = nI (fg_pa np (xs (ix + 1)) (xs (ix + 2)) FP.dconst0 (fun p k => (0, fp_es (kd p) (par p) (v k) (n k)))).1 := by rw [fo_rs, pk_us]
  replace hl := hl.d (dd := jj).th (x := nI (fg_pa np (xs (ix + 1)) (xs (ix + 2)) FP.dconst0 (fun p k => (0, fp_es (kd p) (par p) (v k) (n k)))).1)
  replace hM := hM.th (x := nI (fg_pa np (xs (ix + 1)) (xs (ix + 2)) FP.dconst0 (fun p k => (0, fp_es (kd p) (par p) (v k) (n k)))).1)
  refine fo_dstore C dL_law_1890 [(7, .double ((fg_pa np (xs (ix + 1)) (xs (ix + 2)) FP.dconst0 (fun p k => (0, fp_es (kd p) (par p) (v k) (n k)))).2)), (6, .int (nI (fg_pa np (xs (ix + 1)) (xs (ix + 2)) FP.dconst0 (fun p k => (0, fp_es (kd p) (par p) (v k) (n k)))).1)), (5, .int (nI ix)), (0, .ref b), (1, .ref (Λ.2.2.1 605)), (2, .ref (Λ.2.2.1 616)), (3, .ref (Λ.2.2.1 629)), (4, .ref (Λ.2.2.1 630))] rfl (by decide) 1892 rfl ?_
  refine fo_aload_n C dL_law_1892 5 rfl rfl 1893 rfl ?_
  refine fo_qvi C dL_law_1893 (mX7_thrown (x := nI (fg_pa np (xs (ix + 1)) (xs (ix + 2)) FP.dconst0 (fun p k => (0, fp_es (kd p) (par p) (v k) (n k)))).1) hth) lv_L_154 (by decide : fo_k 616 = 9) rfl (by decide) rfl ⟨(Nat.le_of_ble_eq_true rfl), (Nat.le_of_ble_eq_true rfl)⟩ ⟨show (_ : Nat) ≤ 603072 by omega, show (_ : Nat) ≤ 7211114 by omega⟩ [] rfl (Nat.le_of_ble_eq_true rfl) 1896 rfl (fun r13 I14 D15 J16 X17 p18 => ?_)
  obtain ⟨rfl, z1, z2, z3, z4⟩ := p18
  obtain rfl := z1.symm
  obtain rfl := z2.symm
  obtain rfl := z3.symm
  obtain rfl := z4.symm
  refine fo_iload C dL_law_1896 1 rfl 1898 rfl ?_
  refine fo_icmp_eq C dL_law_1898 1903 (by decide) 1901 rfl (fun c19 => ?_) (fun c19 => ?_)
  · refine fo_iload C dL_law_1903 1 rfl 1905 rfl ?_
    refine fo_if_ne C dL_law_1905 1940 (by decide) 1908 rfl (fun c20 => ?_) (fun c20 => ?_)
    · refine fo_goto C dL_law_1940 2683 (by decide) ?_
      refine fo_sub C [2, 3, 4, 5, 6, 7] (lv' := [(5, .int (nI ix)), (0, .ref b), (1, .ref (Λ.2.2.1 605)), (2, .ref (Λ.2.2.1 616)), (3, .ref (Λ.2.2.1 629)), (4, .ref (Λ.2.2.1 630))]) rfl ?_
      exact k _ _ _ _ _ _ _ _ _ _ _ _ _ _ (by omega) (by omega) hl hM he9 hf9
    · refine fo_aload C dL_law_1908 7 rfl 1910 rfl ?_
      refine fo_iconst C dL_law_1910 (nI 0) ki_0 1911 rfl ?_
      refine fo_dald C dL_law_1911 (by decide : fo_k 630 = 22) (by decide : 0 < fo_n 630) ((fg_pa np (xs (ix + 1)) (xs (ix + 2)) FP.dconst0 (fun p k => (0, fp_es (kd p) (par p) (v k) (n k)))).2) (by rw [fo_rs]; exact hjj c20) 1912 rfl ?_
      refine fo_dload C dL_law_1912 0 rfl 1914 rfl ?_
      refine fo_dcmp C dL_law_1914 1915 rfl ?_
      refine fo_if_eq C dL_law_1915 1940 (by decide) 1918 rfl (fun c21 => ?_) (fun c21 => ?_)
      · refine fo_goto C dL_law_1940 2683 (by decide) ?_
        refine fo_sub C [2, 3, 4, 5, 6, 7] (lv' := [(5, .int (nI ix)), (0, .ref b), (1, .ref (Λ.2.2.1 605)), (2, .ref (Λ.2.2.1 616)), (3, .ref (Λ.2.2.1 629)), (4, .ref (Λ.2.2.1 630))]) rfl ?_
        exact k _ _ _ _ _ _ _ _ _ _ _ _ _ _ (by omega) (by omega) hl hM he9 hf9
      · refine fo_aload C dL_law_1918 7 rfl 1920 rfl ?_
        refine fo_iconst C dL_law_1920 (nI 0) ki_0 1921 rfl ?_
        refine fo_dald C dL_law_1921 (by decide : fo_k 630 = 22) (by decide : 0 < fo_n 630) ((fg_pa np (xs (ix + 1)) (xs (ix + 2)) FP.dconst0 (fun p k => (0, fp_es (kd p) (par p) (v k) (n k)))).2) (by rw [fo_rs]; exact hjj c20) 1922 rfl ?_
        refine fo_aload C dL_law_1922 7 rfl 1924 rfl ?_
        refine fo_iconst C dL_law_1924 (nI 0) ki_0 1925 rfl ?_
        refine fo_dald C dL_law_1925 (by decide : fo_k 630 = 22) (by decide : 0 < fo_n 630) ((fg_pa np (xs (ix + 1)) (xs (ix + 2)) FP.dconst0 (fun p k => (0, fp_es (kd p) (par p) (v k) (n k)))).2) (by rw [fo_rs]; exact hjj c20) 1926 rfl ?_
        refine fo_dcmp C dL_law_1926 1927 rfl ?_
        refine fo_if_eq C dL_law_1927 1938 (by decide) 1930 rfl (fun c22 => ?_) (fun c22 => ?_)
        · exact absurd c22 c21
        · refine fo_dload C dL_law_1930 0 rfl 1932 rfl ?_
          refine fo_dload C dL_law_1932 0 rfl 1934 rfl ?_
          refine fo_dcmp C dL_law_1934 1935 rfl ?_
          refine fo_if_ne C dL_law_1935 1940 (by decide) 1938 rfl (fun c23 => ?_) (fun c23 => ?_)
          · refine fo_goto C dL_law_1940 2683 (by decide) ?_
            refine fo_sub C [2, 3, 4, 5, 6, 7] (lv' := [(5, .int (nI ix)), (0, .ref b), (1, .ref (Λ.2.2.1 605)), (2, .ref (Λ.2.2.1 616)), (3, .ref (Λ.2.2.1 629)), (4, .ref (Λ.2.2.1 630))]) rfl ?_
            exact k _ _ _ _ _ _ _ _ _ _ _ _ _ _ (by omega) (by omega) hl hM he9 hf9
          · exact absurd c23 c21
  · exact absurd rfl c19
set_option maxRecDepth 10000 in
set_option maxHeartbeats 4000000 in
theorem lc_26 {l : Launch} {Λ : fo_Lt} {K : fo_K} {cs ss ix b Ls : Nat} {xs : Nat → Int32} {I : fo_Mi} {D : fo_Md} {J : fo_Mj} {X : fo_Mi} (hfl : l.stackTraces = false) (C : fo_C Λ K cL_law RL 9) (hX : va_X b Ls xs K.2.2.1 K.2.2.1.heap) (hb : b < Λ.2.2.2) (hLs : Ls ≤ 2048) (hi : ix + 3 < Ls) {s : fa_S} {hs : List fa_S} {ks : Option fa_S} {L : List Nat} {m : Nat} {t : Nat → Nat} {e f : Int32} (hl : ll I D s hs ks L m t e f) (hM : fm_M I s hs ks L m t e f) (he9 : e = -1 ∨ ¬ e < 0) (hf9 : f = -1 ∨ ¬ f < 0) (hcs : cs + 3 ≤ 603072) (hss : ss + 18 ≤ 7211114) (k : lk_k l Λ K b ix cs ss) : fo_G l Λ room_1 K cs ss 1943 [(5, .int (nI ix)), (0, .ref b), (1, .ref (Λ.2.2.1 605)), (2, .ref (Λ.2.2.1 616)), (3, .ref (Λ.2.2.1 629)), (4, .ref (Λ.2.2.1 630))] [] I D J X := by
  obtain ⟨np, lim, kd, par, n, v⟩ := s
  refine fo_aload_n C dL_law_1943 2 rfl rfl 1944 rfl ?_
  refine fo_aload_n C dL_law_1944 1 rfl rfl 1945 rfl ?_
  refine fo_iload C dL_law_1945 0 rfl 1947 rfl ?_
  refine fo_iconst C dL_law_1947 (nI 1) ki_1 1948 rfl ?_
  refine fo_iadd C dL_law_1948 (nI (ix + 1)) (nI_add _ _) 1949 rfl ?_
  refine fo_sld C hX hb hLs (i := ix + 1) (by omega) dL_law_1949 1950 rfl ?_
  refine fo_aload_n C dL_law_1950 1 rfl rfl 1951 rfl ?_
  refine fo_iload C dL_law_1951 0 rfl 1953 rfl ?_
  refine fo_iconst C dL_law_1953 (nI 2) ki_2 1954 rfl ?_
  refine fo_iadd C dL_law_1954 (nI (ix + 2)) (nI_add _ _) 1955 rfl ?_
  refine fo_sld C hX hb hLs (i := ix + 2) (by omega) dL_law_1955 1956 rfl ?_
  refine fo_aload_n C dL_law_1956 4 rfl rfl 1957 rfl ?_
  refine fo_qw C dL_law_1957 (mL_points hfl (y := (xs (ix + 1))) (x := (xs (ix + 2))) hl.1) lw_L_238 rfl ⟨(Nat.le_of_ble_eq_true rfl), (Nat.le_of_ble_eq_true rfl)⟩ ⟨show (_ : Nat) ≤ 603072 by omega, show (_ : Nat) ≤ 7211114 by omega⟩ [] rfl (Nat.le_of_ble_eq_true rfl) 1960 rfl (fun r1 I2 D3 J4 X5 p6 => ?_)
  obtain ⟨rfl, z1, z2, jj, rfl, hjj⟩ := p6
  obtain rfl := z1.symm
  obtain rfl := z2.symm
  refine fo_istore C dL_law_1960 [(6, .int (nI (fg_pa np (xs (ix + 1)) (xs (ix + 2)) (nI 0) (fun p k => (0, nI (fp_pts np kd par (v k) p (n k))))).1)), (5, .int (nI ix)), (0, .ref b), (1, .ref (Λ.2.2.1 605)), (2, .ref (Λ.2.2.1 616)), (3, .ref (Λ.2.2.1 629)), (4, .ref (Λ.2.2.1 630))] rfl (by decide) 1962 rfl ?_
  refine fo_aload_n C dL_law_1962 4 rfl rfl 1963 rfl ?_
  refine fo_aload_n C dL_law_1963 2 rfl rfl 1964 rfl ?_
  refine fo_iload C dL_law_1964 1 rfl 1966 rfl ?_
  refine fo_iconst C dL_law_1966 (nI 1) ki_1 1967 rfl ?_
  refine fo_iadd C dL_law_1967 (nI (ix + 1)) (nI_add _ _) 1968 rfl ?_
  refine fo_sld C hX hb hLs (i := ix + 1) (by omega) dL_law_1968 1969 rfl ?_
  refine fo_aload_n C dL_law_1969 2 rfl rfl 1970 rfl ?_
  refine fo_iload C dL_law_1970 1 rfl 1972 rfl ?_
  refine fo_iconst C dL_law_1972 (nI 2) ki_2 1973 rfl ?_
  refine fo_iadd C dL_law_1973 (nI (ix + 2)) (nI_add _ _) 1974 rfl ?_
  refine fo_sld C hX hb hLs (i := ix + 2) (by omega) dL_law_1974 1975 rfl ?_
  refine fo_qvi C dL_law_1975 (mX7_points (y := (xs (ix + 1))) (x := (xs (ix + 2))) hM.1) lv_L_240 (by decide : fo_k 616 = 9) rfl (by decide) rfl ⟨(Nat.le_of_ble_eq_true rfl), (Nat.le_of_ble_eq_true rfl)⟩ ⟨show (_ : Nat) ≤ 603072 by omega, show (_ : Nat) ≤ 7211114 by omega⟩ [] rfl (Nat.le_of_ble_eq_true rfl) 1978 rfl (fun r7 I8 D9 J10 X11 p12 => ?_)
  obtain ⟨rfl, z0, z2, z3⟩ := p12
  subst z0
  obtain rfl := z2.symm
  obtain rfl := z3.symm
  have hth : (fo_r I 616 (upd (I 616) 5 (nI (fg_pa np (xs (ix + 1)) (xs (ix + 2)) (nI 0) (fun p k => (0, nI (fp_pts np kd par (v k) p (n k))))).1))) 616 5 = nI (fg_pa np (xs (ix + 1)) (xs (ix + 2)) (nI 0) (fun p k => (0, nI (fp_pts np kd par (v k) p (n k))))).1 := by rw [fo_rs, pk_us]
  replace hl := hl.th (x := nI (fg_pa np (xs (ix + 1)) (xs (ix + 2)) (nI 0) (fun p k => (0, nI (fp_pts np kd par (v k) p (n k))))).1)
  replace hM := hM.th (x := nI (fg_pa np (xs (ix + 1)) (xs (ix + 2)) (nI 0) (fun p k => (0, nI (fp_pts np kd par (v k) p (n k))))).1)
  refine fo_istore C dL_law_1978 [(7, .int ((fg_pa np (xs (ix + 1)) (xs (ix + 2)) (nI 0) (fun p k => (0, nI (fp_pts np kd par (v k) p (n k))))).2)), (6, .int (nI (fg_pa np (xs (ix + 1)) (xs (ix + 2)) (nI 0) (fun p k => (0, nI (fp_pts np kd par (v k) p (n k))))).1)), (5, .int (nI ix)), (0, .ref b), (1, .ref (Λ.2.2.1 605)), (2, .ref (Λ.2.2.1 616)), (3, .ref (Λ.2.2.1 629)), (4, .ref (Λ.2.2.1 630))] rfl (by decide) 1980 rfl ?_
  refine fo_aload_n C dL_law_1980 5 rfl rfl 1981 rfl ?_
  refine fo_qvi C dL_law_1981 (mX7_thrown (x := nI (fg_pa np (xs (ix + 1)) (xs (ix + 2)) (nI 0) (fun p k => (0, nI (fp_pts np kd par (v k) p (n k))))).1) hth) lv_L_154 (by decide : fo_k 616 = 9) rfl (by decide) rfl ⟨(Nat.le_of_ble_eq_true rfl), (Nat.le_of_ble_eq_true rfl)⟩ ⟨show (_ : Nat) ≤ 603072 by omega, show (_ : Nat) ≤ 7211114 by omega⟩ [] rfl (Nat.le_of_ble_eq_true rfl) 1984 rfl (fun r13 I14 D15 J16 X17 p18 => ?_)
  obtain ⟨rfl, z1, z2, z3, z4⟩ := p18
  obtain rfl := z1.symm
  obtain rfl := z2.symm
  obtain rfl := z3.symm
  obtain rfl := z4.symm
  refine fo_iload C dL_law_1984 1 rfl 1986 rfl ?_
  refine fo_icmp_eq C dL_law_1986 1991 (by decide) 1989 rfl (fun c19 => ?_) (fun c19 => ?_)
  · refine fo_iload C dL_law_1991 1 rfl 1993 rfl ?_
    refine fo_if_ne C dL_law_1993 2008 (by decide) 1996 rfl (fun c20 => ?_) (fun c20 => ?_)
    · refine fo_goto C dL_law_2008 2683 (by decide) ?_
      refine fo_sub C [2, 3, 4, 5, 6, 7] (lv' := [(5, .int (nI ix)), (0, .ref b), (1, .ref (Λ.2.2.1 605)), (2, .ref (Λ.2.2.1 616)), (3, .ref (Λ.2.2.1 629)), (4, .ref (Λ.2.2.1 630))]) rfl ?_
      exact k _ _ _ _ _ _ _ _ _ _ _ _ _ _ (by omega) (by omega) hl hM he9 hf9
    · refine fo_aload_n C dL_law_1996 6 rfl rfl 1997 rfl ?_
      refine fo_iconst C dL_law_1997 (nI 0) ki_0 1998 rfl ?_
      refine fo_lald C dL_law_1998 (by decide : fo_k 629 = 24) (by decide : 0 < fo_n 629) (((fg_pa np (xs (ix + 1)) (xs (ix + 2)) (nI 0) (fun p k => (0, nI (fp_pts np kd par (v k) p (n k))))).2).toInt64) (by rw [fo_rs]; exact hjj c20) 1999 rfl ?_
      refine fo_iload C dL_law_1999 0 rfl 2001 rfl ?_
      refine fo_i2l C dL_law_2001 _ rfl 2002 rfl ?_
      refine fo_lcmp C dL_law_2002 (nI 0) (fw_ls (rfl)) 2003 rfl ?_
      refine fo_nif_eq C (by omega) dL_law_2003 2008 (by decide) 2006 rfl (fun c21 => ?_) (fun c21 => ?_)
      · refine fo_goto C dL_law_2008 2683 (by decide) ?_
        refine fo_sub C [2, 3, 4, 5, 6, 7] (lv' := [(5, .int (nI ix)), (0, .ref b), (1, .ref (Λ.2.2.1 605)), (2, .ref (Λ.2.2.1 616)), (3, .ref (Λ.2.2.1 629)), (4, .ref (Λ.2.2.1 630))]) rfl ?_
        exact k _ _ _ _ _ _ _ _ _ _ _ _ _ _ (by omega) (by omega) hl hM he9 hf9
      · omega
  · exact absurd rfl c19
set_option maxRecDepth 10000 in
set_option maxHeartbeats 4000000 in
theorem lc_27 {l : Launch} {Λ : fo_Lt} {K : fo_K} {cs ss ix b Ls : Nat} {xs : Nat → Int32} {I : fo_Mi} {D : fo_Md} {J : fo_Mj} {X : fo_Mi} (hfl : l.stackTraces = false) (C : fo_C Λ K cL_law RL 9) (hX : va_X b Ls xs K.2.2.1 K.2.2.1.heap) (hb : b < Λ.2.2.2) (hLs : Ls ≤ 2048) (hi : ix + 3 < Ls) {s : fa_S} {hs : List fa_S} {ks : Option fa_S} {L : List Nat} {m : Nat} {t : Nat → Nat} {e f : Int32} (hl : ll I D s hs ks L m t e f) (hM : fm_M I s hs ks L m t e f) (he9 : e = -1 ∨ ¬ e < 0) (hf9 : f = -1 ∨ ¬ f < 0) (hcs : cs + 3 ≤ 603072) (hss : ss + 18 ≤ 7211114) (k : lk_k l Λ K b ix cs ss) : fo_G l Λ room_1 K cs ss 2011 [(5, .int (nI ix)), (0, .ref b), (1, .ref (Λ.2.2.1 605)), (2, .ref (Λ.2.2.1 616)), (3, .ref (Λ.2.2.1 629)), (4, .ref (Λ.2.2.1 630))] [] I D J X := by
  obtain ⟨np, lim, kd, par, n, v⟩ := s
  refine fo_aload_n C dL_law_2011 2 rfl rfl 2012 rfl ?_
  refine fo_aload_n C dL_law_2012 1 rfl rfl 2013 rfl ?_
  refine fo_iload C dL_law_2013 0 rfl 2015 rfl ?_
  refine fo_iconst C dL_law_2015 (nI 1) ki_1 2016 rfl ?_
  refine fo_iadd C dL_law_2016 (nI (ix + 1)) (nI_add _ _) 2017 rfl ?_
  refine fo_sld C hX hb hLs (i := ix + 1) (by omega) dL_law_2017 2018 rfl ?_
  refine fo_aload C dL_law_2018 5 rfl 2020 rfl ?_
  refine fo_qw C dL_law_2020 (mL_meanError hfl (y := (xs (ix + 1))) hl.1) lw_L_241 rfl ⟨(Nat.le_of_ble_eq_true rfl), (Nat.le_of_ble_eq_true rfl)⟩ ⟨show (_ : Nat) ≤ 603072 by omega, show (_ : Nat) ≤ 7211114 by omega⟩ [] rfl (Nat.le_of_ble_eq_true rfl) 2023 rfl (fun r1 I2 D3 J4 X5 p6 => ?_)
  obtain ⟨rfl, z1, z2, jj, rfl, hjj⟩ := p6
  obtain rfl := z1.symm
  obtain rfl := z2.symm
  refine fo_istore C dL_law_2023 [(6, .int (nI (fg_pr np (xs (ix + 1)) FP.dconst0 (fun p => if fp_ae kd par n p = 0 then (2, FP.dconst0) else (0, fp_me kd par n v p))).1)), (5, .int (nI ix)), (0, .ref b), (1, .ref (Λ.2.2.1 605)), (2, .ref (Λ.2.2.1 616)), (3, .ref (Λ.2.2.1 629)), (4, .ref (Λ.2.2.1 630))] rfl (by decide) 2025 rfl ?_
  refine fo_aload_n C dL_law_2025 4 rfl rfl 2026 rfl ?_
  refine fo_aload_n C dL_law_2026 2 rfl rfl 2027 rfl ?_
  refine fo_iload C dL_law_2027 1 rfl 2029 rfl ?_
  refine fo_iconst C dL_law_2029 (nI 1) ki_1 2030 rfl ?_
  refine fo_iadd C dL_law_2030 (nI (ix + 1)) (nI_add _ _) 2031 rfl ?_
  refine fo_sld C hX hb hLs (i := ix + 1) (by omega) dL_law_2031 2032 rfl ?_
  refine fo_qvd C dL_law_2032 (mX7_meanError (y := (xs (ix + 1))) hM.1) lv_L_244 (by decide : fo_k 616 = 9) rfl (by decide) rfl ⟨(Nat.le_of_ble_eq_true rfl), (Nat.le_of_ble_eq_true rfl)⟩ ⟨show (_ : Nat) ≤ 603072 by omega, show (_ : Nat) ≤ 7211114 by omega⟩ [] rfl (Nat.le_of_ble_eq_true rfl) 2035 rfl (fun r7 I8 D9 J10 X11 p12 => ?_)
  obtain ⟨rfl, z0, z2, z3⟩ := p12
  subst z0
  obtain rfl := z2.symm
  obtain rfl := z3.symm
  have hth : (fo_r I 616 (upd (I 616) 5 (nI (fg_pr np (xs (ix + 1)) FP.dconst0 (fun p => if fp_ae kd par n p = 0 then (2, FP.dconst0) else (0, fp_me kd par n v p))).1))) 616 5 = nI (fg_pr np (xs (ix + 1)) FP.dconst0 (fun p => if fp_ae kd par n p = 0 then (2, FP.dconst0) else (0, fp_me kd par n v p))).1 := by rw [fo_rs, pk_us]
  replace hl := hl.d (dd := jj).th (x := nI (fg_pr np (xs (ix + 1)) FP.dconst0 (fun p => if fp_ae kd par n p = 0 then (2, FP.dconst0) else (0, fp_me kd par n v p))).1)
  replace hM := hM.th (x := nI (fg_pr np (xs (ix + 1)) FP.dconst0 (fun p => if fp_ae kd par n p = 0 then (2, FP.dconst0) else (0, fp_me kd par n v p))).1)
  refine fo_dstore C dL_law_2035 [(7, .double ((fg_pr np (xs (ix + 1)) FP.dconst0 (fun p => if fp_ae kd par n p = 0 then (2, FP.dconst0) else (0, fp_me kd par n v p))).2)), (6, .int (nI (fg_pr np (xs (ix + 1)) FP.dconst0 (fun p => if fp_ae kd par n p = 0 then (2, FP.dconst0) else (0, fp_me kd par n v p))).1)), (5, .int (nI ix)), (0, .ref b), (1, .ref (Λ.2.2.1 605)), (2, .ref (Λ.2.2.1 616)), (3, .ref (Λ.2.2.1 629)), (4, .ref (Λ.2.2.1 630))] rfl (by decide) 2037 rfl ?_
  refine fo_aload_n C dL_law_2037 5 rfl rfl 2038 rfl ?_
  refine fo_qvi C dL_law_2038 (mX7_thrown (x := nI (fg_pr np (xs (ix + 1)) FP.dconst0 (fun p => if fp_ae kd par n p = 0 then (2, FP.dconst0) else (0, fp_me kd par n v p))).1) hth) lv_L_154 (by decide : fo_k 616 = 9) rfl (by decide) rfl ⟨(Nat.le_of_ble_eq_true rfl), (Nat.le_of_ble_eq_true rfl)⟩ ⟨show (_ : Nat) ≤ 603072 by omega, show (_ : Nat) ≤ 7211114 by omega⟩ [] rfl (Nat.le_of_ble_eq_true rfl) 2041 rfl (fun r13 I14 D15 J16 X17 p18 => ?_)
  obtain ⟨rfl, z1, z2, z3, z4⟩ := p18
  obtain rfl := z1.symm
  obtain rfl := z2.symm
  obtain rfl := z3.symm
  obtain rfl := z4.symm
  refine fo_iload C dL_law_2041 1 rfl 2043 rfl ?_
  refine fo_icmp_eq C dL_law_2043 2048 (by decide) 2046 rfl (fun c19 => ?_) (fun c19 => ?_)
  · refine fo_iload C dL_law_2048 1 rfl 2050 rfl ?_
    refine fo_if_ne C dL_law_2050 2085 (by decide) 2053 rfl (fun c20 => ?_) (fun c20 => ?_)
    · refine fo_goto C dL_law_2085 2683 (by decide) ?_
      refine fo_sub C [2, 3, 4, 5, 6, 7] (lv' := [(5, .int (nI ix)), (0, .ref b), (1, .ref (Λ.2.2.1 605)), (2, .ref (Λ.2.2.1 616)), (3, .ref (Λ.2.2.1 629)), (4, .ref (Λ.2.2.1 630))]) rfl ?_
      exact k _ _ _ _ _ _ _ _ _ _ _ _ _ _ (by omega) (by omega) hl hM he9 hf9
    · refine fo_aload C dL_law_2053 7 rfl 2055 rfl ?_
      refine fo_iconst C dL_law_2055 (nI 0) ki_0 2056 rfl ?_
      refine fo_dald C dL_law_2056 (by decide : fo_k 630 = 22) (by decide : 0 < fo_n 630) ((fg_pr np (xs (ix + 1)) FP.dconst0 (fun p => if fp_ae kd par n p = 0 then (2, FP.dconst0) else (0, fp_me kd par n v p))).2) (by rw [fo_rs]; exact hjj c20) 2057 rfl ?_
      refine fo_dload C dL_law_2057 0 rfl 2059 rfl ?_
      refine fo_dcmp C dL_law_2059 2060 rfl ?_
      refine fo_if_eq C dL_law_2060 2085 (by decide) 2063 rfl (fun c21 => ?_) (fun c21 => ?_)
      · refine fo_goto C dL_law_2085 2683 (by decide) ?_
        refine fo_sub C [2, 3, 4, 5, 6, 7] (lv' := [(5, .int (nI ix)), (0, .ref b), (1, .ref (Λ.2.2.1 605)), (2, .ref (Λ.2.2.1 616)), (3, .ref (Λ.2.2.1 629)), (4, .ref (Λ.2.2.1 630))]) rfl ?_
        exact k _ _ _ _ _ _ _ _ _ _ _ _ _ _ (by omega) (by omega) hl hM he9 hf9
      · refine fo_aload C dL_law_2063 7 rfl 2065 rfl ?_
        refine fo_iconst C dL_law_2065 (nI 0) ki_0 2066 rfl ?_
        refine fo_dald C dL_law_2066 (by decide : fo_k 630 = 22) (by decide : 0 < fo_n 630) ((fg_pr np (xs (ix + 1)) FP.dconst0 (fun p => if fp_ae kd par n p = 0 then (2, FP.dconst0) else (0, fp_me kd par n v p))).2) (by rw [fo_rs]; exact hjj c20) 2067 rfl ?_
        refine fo_aload C dL_law_2067 7 rfl 2069 rfl ?_
        refine fo_iconst C dL_law_2069 (nI 0) ki_0 2070 rfl ?_
        refine fo_dald C dL_law_2070 (by decide : fo_k 630 = 22) (by decide : 0 < fo_n 630) ((fg_pr np (xs (ix + 1)) FP.dconst0 (fun p => if fp_ae kd par n p = 0 then (2, FP.dconst0) else (0, fp_me kd par n v p))).2) (by rw [fo_rs]; exact hjj c20) 2071 rfl ?_
        refine fo_dcmp C dL_law_2071 2072 rfl ?_
        refine fo_if_eq C dL_law_2072 2083 (by decide) 2075 rfl (fun c22 => ?_) (fun c22 => ?_)
        · exact absurd c22 c21
        · refine fo_dload C dL_law_2075 0 rfl 2077 rfl ?_
          refine fo_dload C dL_law_2077 0 rfl 2079 rfl ?_
          refine fo_dcmp C dL_law_2079 2080 rfl ?_
          refine fo_if_ne C dL_law_2080 2085 (by decide) 2083 rfl (fun c23 => ?_) (fun c23 => ?_)
          · refine fo_goto C dL_law_2085 2683 (by decide) ?_
            refine fo_sub C [2, 3, 4, 5, 6, 7] (lv' := [(5, .int (nI ix)), (0, .ref b), (1, .ref (Λ.2.2.1 605)), (2, .ref (Λ.2.2.1 616)), (3, .ref (Λ.2.2.1 629)), (4, .ref (Λ.2.2.1 630))]) rfl ?_
            exact k _ _ _ _ _ _ _ _ _ _ _ _ _ _ (by omega) (by omega) hl hM he9 hf9
          · exact absurd c23 c21
  · exact absurd rfl c19
set_option maxRecDepth 10000 in
set_option maxHeartbeats 4000000 in
theorem lc_28 {l : Launch} {Λ : fo_Lt} {K : fo_K} {cs ss ix b Ls : Nat} {xs : Nat → Int32} {I : fo_Mi} {D : fo_Md} {J : fo_Mj} {X : fo_Mi} (hfl : l.stackTraces = false) (C : fo_C Λ K cL_law RL 9) (hX : va_X b Ls xs K.2.2.1 K.2.2.1.heap) (hb : b < Λ.2.2.2) (hLs : Ls ≤ 2048) (hi : ix + 3 < Ls) {s : fa_S} {hs : List fa_S} {ks : Option fa_S} {L : List Nat} {m : Nat} {t : Nat → Nat} {e f : Int32} (hl : ll I D s hs ks L m t e f) (hM : fm_M I s hs ks L m t e f) (he9 : e = -1 ∨ ¬ e < 0) (hf9 : f = -1 ∨ ¬ f < 0) (hcs : cs + 3 ≤ 603072) (hss : ss + 18 ≤ 7211114) (k : lk_k l Λ K b ix cs ss) : fo_G l Λ room_1 K cs ss 2088 [(5, .int (nI ix)), (0, .ref b), (1, .ref (Λ.2.2.1 605)), (2, .ref (Λ.2.2.1 616)), (3, .ref (Λ.2.2.1 629)), (4, .ref (Λ.2.2.1 630))] [] I D J X := by
  obtain ⟨np, lim, kd, par, n, v⟩ := s
  refine fo_aload_n C dL_law_2088 2 rfl rfl 2089 rfl ?_
  refine fo_aload_n C dL_law_2089 1 rfl rfl 2090 rfl ?_
  refine fo_iload C dL_law_2090 0 rfl 2092 rfl ?_
  refine fo_iconst C dL_law_2092 (nI 1) ki_1 2093 rfl ?_
  refine fo_iadd C dL_law_2093 (nI (ix + 1)) (nI_add _ _) 2094 rfl ?_
  refine fo_sld C hX hb hLs (i := ix + 1) (by omega) dL_law_2094 2095 rfl ?_
  refine fo_aload_n C dL_law_2095 4 rfl rfl 2096 rfl ?_
  refine fo_qw C dL_law_2096 (mL_prophetByPoints hfl (z := (xs (ix + 1))) hl.1) lw_L_245 rfl ⟨(Nat.le_of_ble_eq_true rfl), (Nat.le_of_ble_eq_true rfl)⟩ ⟨show (_ : Nat) ≤ 603072 by omega, show (_ : Nat) ≤ 7211114 by omega⟩ [] rfl (Nat.le_of_ble_eq_true rfl) 2099 rfl (fun r1 I2 D3 J4 X5 p6 => ?_)
  obtain ⟨rfl, z1, z2, jj, rfl, hjj⟩ := p6
  obtain rfl := z1.symm
  obtain rfl := z2.symm
  refine fo_istore C dL_law_2099 [(6, .int (nI (fg_op (fp_fst (fun i => decide (nI (fp_rank (fp_ap np kd par n v) np i) = (xs (ix + 1)))) 0 np)).1)), (5, .int (nI ix)), (0, .ref b), (1, .ref (Λ.2.2.1 605)), (2, .ref (Λ.2.2.1 616)), (3, .ref (Λ.2.2.1 629)), (4, .ref (Λ.2.2.1 630))] rfl (by decide) 2101 rfl ?_
  refine fo_aload_n C dL_law_2101 4 rfl rfl 2102 rfl ?_
  refine fo_aload_n C dL_law_2102 2 rfl rfl 2103 rfl ?_
  refine fo_iload C dL_law_2103 1 rfl 2105 rfl ?_
  refine fo_iconst C dL_law_2105 (nI 1) ki_1 2106 rfl ?_
  refine fo_iadd C dL_law_2106 (nI (ix + 1)) (nI_add _ _) 2107 rfl ?_
  refine fo_sld C hX hb hLs (i := ix + 1) (by omega) dL_law_2107 2108 rfl ?_
  refine fo_qvi C dL_law_2108 (mX7_prophetByPoints (z := (xs (ix + 1))) hM.1) lv_L_247 (by decide : fo_k 616 = 9) rfl (by decide) rfl ⟨(Nat.le_of_ble_eq_true rfl), (Nat.le_of_ble_eq_true rfl)⟩ ⟨show (_ : Nat) ≤ 603072 by omega, show (_ : Nat) ≤ 7211114 by omega⟩ [] rfl (Nat.le_of_ble_eq_true rfl) 2111 rfl (fun r7 I8 D9 J10 X11 p12 => ?_)
  obtain ⟨rfl, z0, z2, z3⟩ := p12
  subst z0
  obtain rfl := z2.symm
  obtain rfl := z3.symm
  have hth : (fo_r I 616 (upd (I 616) 5 (nI (fg_op (fp_fst (fun i => decide (nI (fp_rank (fp_ap np kd par n v) np i) = (xs (ix + 1)))) 0 np)).1))) 616 5 = nI (fg_op (fp_fst (fun i => decide (nI (fp_rank (fp_ap np kd par n v) np i) = (xs (ix + 1)))) 0 np)).1 := by rw [fo_rs, pk_us]
  replace hl := hl.th (x := nI (fg_op (fp_fst (fun i => decide (nI (fp_rank (fp_ap np kd par n v) np i) = (xs (ix + 1)))) 0 np)).1)
  replace hM := hM.th (x := nI (fg_op (fp_fst (fun i => decide (nI (fp_rank (fp_ap np kd par n v) np i) = (xs (ix + 1)))) 0 np)).1)
  refine fo_istore C dL_law_2111 [(7, .int ((fg_op (fp_fst (fun i => decide (nI (fp_rank (fp_ap np kd par n v) np i) = (xs (ix + 1)))) 0 np)).2)), (6, .int (nI (fg_op (fp_fst (fun i => decide (nI (fp_rank (fp_ap np kd par n v) np i) = (xs (ix + 1)))) 0 np)).1)), (5, .int (nI ix)), (0, .ref b), (1, .ref (Λ.2.2.1 605)), (2, .ref (Λ.2.2.1 616)), (3, .ref (Λ.2.2.1 629)), (4, .ref (Λ.2.2.1 630))] rfl (by decide) 2113 rfl ?_
  refine fo_aload_n C dL_law_2113 5 rfl rfl 2114 rfl ?_
  refine fo_qvi C dL_law_2114 (mX7_thrown (x := nI (fg_op (fp_fst (fun i => decide (nI (fp_rank (fp_ap np kd par n v) np i) = (xs (ix + 1)))) 0 np)).1) hth) lv_L_154 (by decide : fo_k 616 = 9) rfl (by decide) rfl ⟨(Nat.le_of_ble_eq_true rfl), (Nat.le_of_ble_eq_true rfl)⟩ ⟨show (_ : Nat) ≤ 603072 by omega, show (_ : Nat) ≤ 7211114 by omega⟩ [] rfl (Nat.le_of_ble_eq_true rfl) 2117 rfl (fun r13 I14 D15 J16 X17 p18 => ?_)
  obtain ⟨rfl, z1, z2, z3, z4⟩ := p18
  obtain rfl := z1.symm
  obtain rfl := z2.symm
  obtain rfl := z3.symm
  obtain rfl := z4.symm
  refine fo_iload C dL_law_2117 1 rfl 2119 rfl ?_
  refine fo_icmp_eq C dL_law_2119 2124 (by decide) 2122 rfl (fun c19 => ?_) (fun c19 => ?_)
  · refine fo_iload C dL_law_2124 1 rfl 2126 rfl ?_
    refine fo_if_ne C dL_law_2126 2141 (by decide) 2129 rfl (fun c20 => ?_) (fun c20 => ?_)
    · refine fo_goto C dL_law_2141 2683 (by decide) ?_
      refine fo_sub C [2, 3, 4, 5, 6, 7] (lv' := [(5, .int (nI ix)), (0, .ref b), (1, .ref (Λ.2.2.1 605)), (2, .ref (Λ.2.2.1 616)), (3, .ref (Λ.2.2.1 629)), (4, .ref (Λ.2.2.1 630))]) rfl ?_
      exact k _ _ _ _ _ _ _ _ _ _ _ _ _ _ (by omega) (by omega) hl hM he9 hf9
    · refine fo_aload_n C dL_law_2129 6 rfl rfl 2130 rfl ?_
      refine fo_iconst C dL_law_2130 (nI 0) ki_0 2131 rfl ?_
      refine fo_lald C dL_law_2131 (by decide : fo_k 629 = 24) (by decide : 0 < fo_n 629) (((fg_op (fp_fst (fun i => decide (nI (fp_rank (fp_ap np kd par n v) np i) = (xs (ix + 1)))) 0 np)).2).toInt64) (by rw [fo_rs]; exact hjj c20) 2132 rfl ?_
      refine fo_iload C dL_law_2132 0 rfl 2134 rfl ?_
      refine fo_i2l C dL_law_2134 _ rfl 2135 rfl ?_
      refine fo_lcmp C dL_law_2135 (nI 0) (fw_ls (rfl)) 2136 rfl ?_
      refine fo_nif_eq C (by omega) dL_law_2136 2141 (by decide) 2139 rfl (fun c21 => ?_) (fun c21 => ?_)
      · refine fo_goto C dL_law_2141 2683 (by decide) ?_
        refine fo_sub C [2, 3, 4, 5, 6, 7] (lv' := [(5, .int (nI ix)), (0, .ref b), (1, .ref (Λ.2.2.1 605)), (2, .ref (Λ.2.2.1 616)), (3, .ref (Λ.2.2.1 629)), (4, .ref (Λ.2.2.1 630))]) rfl ?_
        exact k _ _ _ _ _ _ _ _ _ _ _ _ _ _ (by omega) (by omega) hl hM he9 hf9
      · omega
  · exact absurd rfl c19
set_option maxRecDepth 10000 in
set_option maxHeartbeats 4000000 in
theorem lc_29 {l : Launch} {Λ : fo_Lt} {K : fo_K} {cs ss ix b Ls : Nat} {xs : Nat → Int32} {I : fo_Mi} {D : fo_Md} {J : fo_Mj} {X : fo_Mi} (hfl : l.stackTraces = false) (C : fo_C Λ K cL_law RL 9) (hX : va_X b Ls xs K.2.2.1 K.2.2.1.heap) (hb : b < Λ.2.2.2) (hLs : Ls ≤ 2048) (hi : ix + 3 < Ls) {s : fa_S} {hs : List fa_S} {ks : Option fa_S} {L : List Nat} {m : Nat} {t : Nat → Nat} {e f : Int32} (hl : ll I D s hs ks L m t e f) (hM : fm_M I s hs ks L m t e f) (he9 : e = -1 ∨ ¬ e < 0) (hf9 : f = -1 ∨ ¬ f < 0) (hcs : cs + 3 ≤ 603072) (hss : ss + 18 ≤ 7211114) (k : lk_k l Λ K b ix cs ss) : fo_G l Λ room_1 K cs ss 2144 [(5, .int (nI ix)), (0, .ref b), (1, .ref (Λ.2.2.1 605)), (2, .ref (Λ.2.2.1 616)), (3, .ref (Λ.2.2.1 629)), (4, .ref (Λ.2.2.1 630))] [] I D J X := by
  obtain ⟨np, lim, kd, par, n, v⟩ := s
  refine fo_aload_n C dL_law_2144 2 rfl rfl 2145 rfl ?_
  refine fo_aload_n C dL_law_2145 4 rfl rfl 2146 rfl ?_
  refine fo_qw C dL_law_2146 (mL_bestProphet hfl hl.1) lw_L_248 rfl ⟨(Nat.le_of_ble_eq_true rfl), (Nat.le_of_ble_eq_true rfl)⟩ ⟨show (_ : Nat) ≤ 603072 by omega, show (_ : Nat) ≤ 7211114 by omega⟩ [] rfl (Nat.le_of_ble_eq_true rfl) 2149 rfl (fun r1 I2 D3 J4 X5 p6 => ?_)
  obtain ⟨rfl, z1, z2, jj, rfl, hjj⟩ := p6
  obtain rfl := z1.symm
  obtain rfl := z2.symm
  refine fo_istore C dL_law_2149 [(6, .int (nI (fg_op (fp_lst (fun p => decide (0 < fp_ae kd par n p)) (fun p => fp_me kd par n v p) np)).1)), (5, .int (nI ix)), (0, .ref b), (1, .ref (Λ.2.2.1 605)), (2, .ref (Λ.2.2.1 616)), (3, .ref (Λ.2.2.1 629)), (4, .ref (Λ.2.2.1 630))] rfl (by decide) 2151 rfl ?_
  refine fo_aload_n C dL_law_2151 4 rfl rfl 2152 rfl ?_
  refine fo_qvi C dL_law_2152 (mX7_bestProphet hM.1) lv_L_251 (by decide : fo_k 616 = 9) rfl (by decide) rfl ⟨(Nat.le_of_ble_eq_true rfl), (Nat.le_of_ble_eq_true rfl)⟩ ⟨show (_ : Nat) ≤ 603072 by omega, show (_ : Nat) ≤ 7211114 by omega⟩ [] rfl (Nat.le_of_ble_eq_true rfl) 2155 rfl (fun r7 I8 D9 J10 X11 p12 => ?_)
  obtain ⟨rfl, z0, z2, z3⟩ := p12
  subst z0
  obtain rfl := z2.symm
  obtain rfl := z3.symm
  have hth : (fo_r I 616 (upd (I 616) 5 (nI (fg_op (fp_lst (fun p => decide (0 < fp_ae kd par n p)) (fun p => fp_me kd par n v p) np)).1))) 616 5 = nI (fg_op (fp_lst (fun p => decide (0 < fp_ae kd par n p)) (fun p => fp_me kd par n v p) np)).1 := by rw [fo_rs, pk_us]
  replace hl := hl.th (x := nI (fg_op (fp_lst (fun p => decide (0 < fp_ae kd par n p)) (fun p => fp_me kd par n v p) np)).1)
  replace hM := hM.th (x := nI (fg_op (fp_lst (fun p => decide (0 < fp_ae kd par n p)) (fun p => fp_me kd par n v p) np)).1)
  refine fo_istore C dL_law_2155 [(7, .int ((fg_op (fp_lst (fun p => decide (0 < fp_ae kd par n p)) (fun p => fp_me kd par n v p) np)).2)), (6, .int (nI (fg_op (fp_lst (fun p => decide (0 < fp_ae kd par n p)) (fun p => fp_me kd par n v p) np)).1)), (5, .int (nI ix)), (0, .ref b), (1, .ref (Λ.2.2.1 605)), (2, .ref (Λ.2.2.1 616)), (3, .ref (Λ.2.2.1 629)), (4, .ref (Λ.2.2.1 630))] rfl (by decide) 2157 rfl ?_
  refine fo_aload_n C dL_law_2157 5 rfl rfl 2158 rfl ?_
  refine fo_qvi C dL_law_2158 (mX7_thrown (x := nI (fg_op (fp_lst (fun p => decide (0 < fp_ae kd par n p)) (fun p => fp_me kd par n v p) np)).1) hth) lv_L_154 (by decide : fo_k 616 = 9) rfl (by decide) rfl ⟨(Nat.le_of_ble_eq_true rfl), (Nat.le_of_ble_eq_true rfl)⟩ ⟨show (_ : Nat) ≤ 603072 by omega, show (_ : Nat) ≤ 7211114 by omega⟩ [] rfl (Nat.le_of_ble_eq_true rfl) 2161 rfl (fun r13 I14 D15 J16 X17 p18 => ?_)
  obtain ⟨rfl, z1, z2, z3, z4⟩ := p18
  obtain rfl := z1.symm
  obtain rfl := z2.symm
  obtain rfl := z3.symm
  obtain rfl := z4.symm
  refine fo_iload C dL_law_2161 1 rfl 2163 rfl ?_
  refine fo_icmp_eq C dL_law_2163 2168 (by decide) 2166 rfl (fun c19 => ?_) (fun c19 => ?_)
  · refine fo_iload C dL_law_2168 1 rfl 2170 rfl ?_
    refine fo_if_ne C dL_law_2170 2185 (by decide) 2173 rfl (fun c20 => ?_) (fun c20 => ?_)
    · refine fo_goto C dL_law_2185 2683 (by decide) ?_
      refine fo_sub C [2, 3, 4, 5, 6, 7] (lv' := [(5, .int (nI ix)), (0, .ref b), (1, .ref (Λ.2.2.1 605)), (2, .ref (Λ.2.2.1 616)), (3, .ref (Λ.2.2.1 629)), (4, .ref (Λ.2.2.1 630))]) rfl ?_
      exact k _ _ _ _ _ _ _ _ _ _ _ _ _ _ (by omega) (by omega) hl hM he9 hf9
    · refine fo_aload_n C dL_law_2173 6 rfl rfl 2174 rfl ?_
      refine fo_iconst C dL_law_2174 (nI 0) ki_0 2175 rfl ?_
      refine fo_lald C dL_law_2175 (by decide : fo_k 629 = 24) (by decide : 0 < fo_n 629) (((fg_op (fp_lst (fun p => decide (0 < fp_ae kd par n p)) (fun p => fp_me kd par n v p) np)).2).toInt64) (by rw [fo_rs]; exact hjj c20) 2176 rfl ?_
      refine fo_iload C dL_law_2176 0 rfl 2178 rfl ?_
      refine fo_i2l C dL_law_2178 _ rfl 2179 rfl ?_
      refine fo_lcmp C dL_law_2179 (nI 0) (fw_ls (rfl)) 2180 rfl ?_
      refine fo_nif_eq C (by omega) dL_law_2180 2185 (by decide) 2183 rfl (fun c21 => ?_) (fun c21 => ?_)
      · refine fo_goto C dL_law_2185 2683 (by decide) ?_
        refine fo_sub C [2, 3, 4, 5, 6, 7] (lv' := [(5, .int (nI ix)), (0, .ref b), (1, .ref (Λ.2.2.1 605)), (2, .ref (Λ.2.2.1 616)), (3, .ref (Λ.2.2.1 629)), (4, .ref (Λ.2.2.1 630))]) rfl ?_
        exact k _ _ _ _ _ _ _ _ _ _ _ _ _ _ (by omega) (by omega) hl hM he9 hf9
      · omega
  · exact absurd rfl c19
set_option maxRecDepth 10000 in
set_option maxHeartbeats 4000000 in
theorem lc_30 {l : Launch} {Λ : fo_Lt} {K : fo_K} {cs ss ix b Ls : Nat} {xs : Nat → Int32} {I : fo_Mi} {D : fo_Md} {J : fo_Mj} {X : fo_Mi} (hfl : l.stackTraces = false) (C : fo_C Λ K cL_law RL 9) (hX : va_X b Ls xs K.2.2.1 K.2.2.1.heap) (hb : b < Λ.2.2.2) (hLs : Ls ≤ 2048) (hi : ix + 3 < Ls) {s : fa_S} {hs : List fa_S} {ks : Option fa_S} {L : List Nat} {m : Nat} {t : Nat → Nat} {e f : Int32} (hl : ll I D s hs ks L m t e f) (hM : fm_M I s hs ks L m t e f) (he9 : e = -1 ∨ ¬ e < 0) (hf9 : f = -1 ∨ ¬ f < 0) (hcs : cs + 3 ≤ 603072) (hss : ss + 18 ≤ 7211114) (k : lk_k l Λ K b ix cs ss) : fo_G l Λ room_1 K cs ss 2188 [(5, .int (nI ix)), (0, .ref b), (1, .ref (Λ.2.2.1 605)), (2, .ref (Λ.2.2.1 616)), (3, .ref (Λ.2.2.1 629)), (4, .ref (Λ.2.2.1 630))] [] I D J X := by
  obtain ⟨np, lim, kd, par, n, v⟩ := s
  have hn30 : ∀ k, k < 4 → n k ≤ 30 := hl.1.1.2.1.2.2.2.1
  have fw_os : vf_n32 ((if 0 < fp_sum n 0 4 then (0, FP.fdiv (FP.i2f (nI (fp_sum (fun k => fp_cnt (fp_off (v k) lim) (n k)) 0 4))) (FP.i2f (nI (fp_sum n 0 4)))) else (1, FP.fconst0) : Nat × UInt32)).2 := fw_osn hn30
  refine fo_aload_n C dL_law_2188 2 rfl rfl 2189 rfl ?_
  refine fo_aload C dL_law_2189 5 rfl 2191 rfl ?_
  refine fo_qw C dL_law_2191 (mL_outlierShare hfl hl.1) lw_L_252 rfl ⟨(Nat.le_of_ble_eq_true rfl), (Nat.le_of_ble_eq_true rfl)⟩ ⟨show (_ : Nat) ≤ 603072 by omega, show (_ : Nat) ≤ 7211114 by omega⟩ [] rfl (Nat.le_of_ble_eq_true rfl) 2194 rfl (fun r1 I2 D3 J4 X5 p6 => ?_)
  obtain ⟨rfl, z1, z2, jj, rfl, hjj⟩ := p6
  obtain rfl := z1.symm
  obtain rfl := z2.symm
  refine fo_istore C dL_law_2194 [(6, .int (nI ((if 0 < fp_sum n 0 4 then (0, FP.fdiv (FP.i2f (nI (fp_sum (fun k => fp_cnt (fp_off (v k) lim) (n k)) 0 4))) (FP.i2f (nI (fp_sum n 0 4)))) else (1, FP.fconst0) : Nat × UInt32)).1)), (5, .int (nI ix)), (0, .ref b), (1, .ref (Λ.2.2.1 605)), (2, .ref (Λ.2.2.1 616)), (3, .ref (Λ.2.2.1 629)), (4, .ref (Λ.2.2.1 630))] rfl (by decide) 2196 rfl ?_
  refine fo_aload_n C dL_law_2196 4 rfl rfl 2197 rfl ?_
  refine fo_qvf C dL_law_2197 (mX7_outlierShare hM.1) lv_L_255 (by decide : fo_k 616 = 9) rfl (by decide) rfl ⟨(Nat.le_of_ble_eq_true rfl), (Nat.le_of_ble_eq_true rfl)⟩ ⟨show (_ : Nat) ≤ 603072 by omega, show (_ : Nat) ≤ 7211114 by omega⟩ [] rfl (Nat.le_of_ble_eq_true rfl) 2200 rfl (fun r7 I8 D9 J10 X11 p12 => ?_)
  obtain ⟨rfl, z0, z2, z3⟩ := p12
  subst z0
  obtain rfl := z2.symm
  obtain rfl := z3.symm
  have hth : (fo_r I 616 (upd (I 616) 5 (nI ((if 0 < fp_sum n 0 4 then (0, FP.fdiv (FP.i2f (nI (fp_sum (fun k => fp_cnt (fp_off (v k) lim) (n k)) 0 4))) (FP.i2f (nI (fp_sum n 0 4)))) else (1, FP.fconst0) : Nat × UInt32)).1))) 616 5 = nI ((if 0 < fp_sum n 0 4 then (0, FP.fdiv (FP.i2f (nI (fp_sum (fun k => fp_cnt (fp_off (v k) lim) (n k)) 0 4))) (FP.i2f (nI (fp_sum n 0 4)))) else (1, FP.fconst0) : Nat × UInt32)).1 := by rw [fo_rs, pk_us]
  replace hl := hl.d (dd := jj).th (x := nI ((if 0 < fp_sum n 0 4 then (0, FP.fdiv (FP.i2f (nI (fp_sum (fun k => fp_cnt (fp_off (v k) lim) (n k)) 0 4))) (FP.i2f (nI (fp_sum n 0 4)))) else (1, FP.fconst0) : Nat × UInt32)).1)
  replace hM := hM.th (x := nI ((if 0 < fp_sum n 0 4 then (0, FP.fdiv (FP.i2f (nI (fp_sum (fun k => fp_cnt (fp_off (v k) lim) (n k)) 0 4))) (FP.i2f (nI (fp_sum n 0 4)))) else (1, FP.fconst0) : Nat × UInt32)).1)
  refine fo_fstore C dL_law_2200 [(7, .float (((if 0 < fp_sum n 0 4 then (0, FP.fdiv (FP.i2f (nI (fp_sum (fun k => fp_cnt (fp_off (v k) lim) (n k)) 0 4))) (FP.i2f (nI (fp_sum n 0 4)))) else (1, FP.fconst0) : Nat × UInt32)).2)), (6, .int (nI ((if 0 < fp_sum n 0 4 then (0, FP.fdiv (FP.i2f (nI (fp_sum (fun k => fp_cnt (fp_off (v k) lim) (n k)) 0 4))) (FP.i2f (nI (fp_sum n 0 4)))) else (1, FP.fconst0) : Nat × UInt32)).1)), (5, .int (nI ix)), (0, .ref b), (1, .ref (Λ.2.2.1 605)), (2, .ref (Λ.2.2.1 616)), (3, .ref (Λ.2.2.1 629)), (4, .ref (Λ.2.2.1 630))] rfl (by decide) 2202 rfl ?_
  refine fo_aload_n C dL_law_2202 5 rfl rfl 2203 rfl ?_
  refine fo_qvi C dL_law_2203 (mX7_thrown (x := nI ((if 0 < fp_sum n 0 4 then (0, FP.fdiv (FP.i2f (nI (fp_sum (fun k => fp_cnt (fp_off (v k) lim) (n k)) 0 4))) (FP.i2f (nI (fp_sum n 0 4)))) else (1, FP.fconst0) : Nat × UInt32)).1) hth) lv_L_154 (by decide : fo_k 616 = 9) rfl (by decide) rfl ⟨(Nat.le_of_ble_eq_true rfl), (Nat.le_of_ble_eq_true rfl)⟩ ⟨show (_ : Nat) ≤ 603072 by omega, show (_ : Nat) ≤ 7211114 by omega⟩ [] rfl (Nat.le_of_ble_eq_true rfl) 2206 rfl (fun r13 I14 D15 J16 X17 p18 => ?_)
  obtain ⟨rfl, z1, z2, z3, z4⟩ := p18
  obtain rfl := z1.symm
  obtain rfl := z2.symm
  obtain rfl := z3.symm
  obtain rfl := z4.symm
  refine fo_iload C dL_law_2206 1 rfl 2208 rfl ?_
  refine fo_icmp_eq C dL_law_2208 2213 (by decide) 2211 rfl (fun c19 => ?_) (fun c19 => ?_)
  · refine fo_iload C dL_law_2213 1 rfl 2215 rfl ?_
    refine fo_if_ne C dL_law_2215 2251 (by decide) 2218 rfl (fun c20 => ?_) (fun c20 => ?_)
    · refine fo_goto C dL_law_2251 2683 (by decide) ?_
      refine fo_sub C [2, 3, 4, 5, 6, 7] (lv' := [(5, .int (nI ix)), (0, .ref b), (1, .ref (Λ.2.2.1 605)), (2, .ref (Λ.2.2.1 616)), (3, .ref (Λ.2.2.1 629)), (4, .ref (Λ.2.2.1 630))]) rfl ?_
      exact k _ _ _ _ _ _ _ _ _ _ _ _ _ _ (by omega) (by omega) hl hM he9 hf9
    · refine fo_aload C dL_law_2218 7 rfl 2220 rfl ?_
      refine fo_iconst C dL_law_2220 (nI 0) ki_0 2221 rfl ?_
      refine fo_dald C dL_law_2221 (by decide : fo_k 630 = 22) (by decide : 0 < fo_n 630) (FP.f2d (((if 0 < fp_sum n 0 4 then (0, FP.fdiv (FP.i2f (nI (fp_sum (fun k => fp_cnt (fp_off (v k) lim) (n k)) 0 4))) (FP.i2f (nI (fp_sum n 0 4)))) else (1, FP.fconst0) : Nat × UInt32)).2)) (by rw [fo_rs]; exact hjj c20) 2222 rfl ?_
      refine fo_fload C dL_law_2222 0 rfl 2224 rfl ?_
      refine fo_f2d C dL_law_2224 (fw_f2 fw_os) 2225 rfl ?_
      refine fo_dcmp C dL_law_2225 2226 rfl ?_
      refine fo_if_eq C dL_law_2226 2251 (by decide) 2229 rfl (fun c9 => ?_) (fun c9 => absurd (fw_ds (fw_f2 fw_os)) c9)
      refine fo_goto C dL_law_2251 2683 (by decide) ?_
      refine fo_sub C [2, 3, 4, 5, 6, 7] (lv' := [(5, .int (nI ix)), (0, .ref b), (1, .ref (Λ.2.2.1 605)), (2, .ref (Λ.2.2.1 616)), (3, .ref (Λ.2.2.1 629)), (4, .ref (Λ.2.2.1 630))]) rfl ?_
      exact k _ _ _ _ _ _ _ _ _ _ _ _ _ _ (by omega) (by omega) hl hM he9 hf9
  · exact absurd rfl c19
set_option maxRecDepth 10000 in
set_option maxHeartbeats 4000000 in
theorem lc_31 {l : Launch} {Λ : fo_Lt} {K : fo_K} {cs ss ix b Ls : Nat} {xs : Nat → Int32} {I : fo_Mi} {D : fo_Md} {J : fo_Mj} {X : fo_Mi} (hfl : l.stackTraces = false) (C : fo_C Λ K cL_law RL 9) (hX : va_X b Ls xs K.2.2.1 K.2.2.1.heap) (hb : b < Λ.2.2.2) (hLs : Ls ≤ 2048) (hi : ix + 3 < Ls) {s : fa_S} {hs : List fa_S} {ks : Option fa_S} {L : List Nat} {m : Nat} {t : Nat → Nat} {e f : Int32} (hl : ll I D s hs ks L m t e f) (hM : fm_M I s hs ks L m t e f) (he9 : e = -1 ∨ ¬ e < 0) (hf9 : f = -1 ∨ ¬ f < 0) (hcs : cs + 3 ≤ 603072) (hss : ss + 18 ≤ 7211114) (k : lk_k l Λ K b ix cs ss) : fo_G l Λ room_1 K cs ss 2254 [(5, .int (nI ix)), (0, .ref b), (1, .ref (Λ.2.2.1 605)), (2, .ref (Λ.2.2.1 616)), (3, .ref (Λ.2.2.1 629)), (4, .ref (Λ.2.2.1 630))] [] I D J X := by
  obtain ⟨np, lim, kd, par, n, v⟩ := s
  refine fo_aload_n C dL_law_2254 2 rfl rfl 2255 rfl ?_
  refine fo_qvi C dL_law_2255 (mX6_isConsistent hl.1) lv_L_256 (by decide : fo_k 605 = 8) rfl (by decide) rfl ⟨(Nat.le_of_ble_eq_true rfl), (Nat.le_of_ble_eq_true rfl)⟩ ⟨show (_ : Nat) ≤ 603072 by omega, show (_ : Nat) ≤ 7211114 by omega⟩ [] rfl (Nat.le_of_ble_eq_true rfl) 2258 rfl (fun r1 I2 D3 J4 X5 p6 => ?_)
  obtain ⟨rfl, z1, z2, z3⟩ := p6
  obtain rfl := z1.symm
  obtain rfl := z2.symm
  obtain rfl := z3.symm
  refine fo_aload_n C dL_law_2258 3 rfl rfl 2259 rfl ?_
  refine fo_qvi C dL_law_2259 mX7_isConsistent lv_L_260 (by decide : fo_k 616 = 9) rfl (by decide) rfl ⟨(Nat.le_of_ble_eq_true rfl), (Nat.le_of_ble_eq_true rfl)⟩ ⟨show (_ : Nat) ≤ 603072 by omega, show (_ : Nat) ≤ 7211114 by omega⟩ [.int (fo_b true)] rfl (Nat.le_of_ble_eq_true rfl) 2262 rfl (fun r7 I8 D9 J10 X11 p12 => ?_)
  obtain ⟨rfl, z0, z2, z3, z4⟩ := p12
  subst z0
  obtain rfl := z2.symm
  obtain rfl := z3.symm
  obtain rfl := z4.symm
  replace hl := hl.th (x := nI 0)
  replace hM := hM.th (x := nI 0)
  refine fo_icmp_eq C dL_law_2262 2683 (by decide) 2265 rfl (fun c13 => ?_) (fun c13 => ?_)
  · exact k _ _ _ _ _ _ _ _ _ _ _ _ _ _ (by omega) (by omega) hl hM he9 hf9
  · exact absurd rfl c13
set_option maxRecDepth 10000 in
set_option maxHeartbeats 4000000 in
theorem lc_32 {l : Launch} {Λ : fo_Lt} {K : fo_K} {cs ss ix b Ls : Nat} {xs : Nat → Int32} {I : fo_Mi} {D : fo_Md} {J : fo_Mj} {X : fo_Mi} (hfl : l.stackTraces = false) (C : fo_C Λ K cL_law RL 9) (hX : va_X b Ls xs K.2.2.1 K.2.2.1.heap) (hb : b < Λ.2.2.2) (hLs : Ls ≤ 2048) (hi : ix + 3 < Ls) {s : fa_S} {hs : List fa_S} {ks : Option fa_S} {L : List Nat} {m : Nat} {t : Nat → Nat} {e f : Int32} (hl : ll I D s hs ks L m t e f) (hM : fm_M I s hs ks L m t e f) (he9 : e = -1 ∨ ¬ e < 0) (hf9 : f = -1 ∨ ¬ f < 0) (hcs : cs + 3 ≤ 603072) (hss : ss + 18 ≤ 7211114) (k : lk_k l Λ K b ix cs ss) : fo_G l Λ room_1 K cs ss 2267 [(5, .int (nI ix)), (0, .ref b), (1, .ref (Λ.2.2.1 605)), (2, .ref (Λ.2.2.1 616)), (3, .ref (Λ.2.2.1 629)), (4, .ref (Λ.2.2.1 630))] [] I D J X := by
  obtain ⟨np, lim, kd, par, n, v⟩ := s
  refine fo_aload_n C dL_law_2267 2 rfl rfl 2268 rfl ?_
  refine fo_aload_n C dL_law_2268 1 rfl rfl 2269 rfl ?_
  refine fo_iload C dL_law_2269 0 rfl 2271 rfl ?_
  refine fo_iconst C dL_law_2271 (nI 1) ki_1 2272 rfl ?_
  refine fo_iadd C dL_law_2272 (nI (ix + 1)) (nI_add _ _) 2273 rfl ?_
  refine fo_sld C hX hb hLs (i := ix + 1) (by omega) dL_law_2273 2274 rfl ?_
  refine fo_aload_n C dL_law_2274 4 rfl rfl 2275 rfl ?_
  refine fo_qw C dL_law_2275 (mL_writeSeries hfl (x := (xs (ix + 1))) hl) lw_L_261 rfl ⟨(Nat.le_of_ble_eq_true rfl), (Nat.le_of_ble_eq_true rfl)⟩ ⟨show (_ : Nat) ≤ 603072 by omega, show (_ : Nat) ≤ 7211114 by omega⟩ [] rfl (Nat.le_of_ble_eq_true rfl) 2278 rfl (fun r1 I2 D3 J4 X5 p6 => ?_)
  obtain ⟨rfl, hl1, hg1, jj, rfl, hjj⟩ := p6
  replace hM := hM.g hg1
  refine fo_istore C dL_law_2278 [(6, .int (nI (fg_ws (np, lim, kd, par, n, v) (xs (ix + 1)) L).1)), (5, .int (nI ix)), (0, .ref b), (1, .ref (Λ.2.2.1 605)), (2, .ref (Λ.2.2.1 616)), (3, .ref (Λ.2.2.1 629)), (4, .ref (Λ.2.2.1 630))] rfl (by decide) 2280 rfl ?_
  refine fo_aload_n C dL_law_2280 4 rfl rfl 2281 rfl ?_
  refine fo_aload_n C dL_law_2281 2 rfl rfl 2282 rfl ?_
  refine fo_iload C dL_law_2282 1 rfl 2284 rfl ?_
  refine fo_iconst C dL_law_2284 (nI 1) ki_1 2285 rfl ?_
  refine fo_iadd C dL_law_2285 (nI (ix + 1)) (nI_add _ _) 2286 rfl ?_
  refine fo_sld C hX hb hLs (i := ix + 1) (by omega) dL_law_2286 2287 rfl ?_
  refine fo_qvi C dL_law_2287 (mX7_writeSeries (x := (xs (ix + 1))) hM) lv_L_263 (by decide : fo_k 616 = 9) rfl (by decide) rfl ⟨(Nat.le_of_ble_eq_true rfl), (Nat.le_of_ble_eq_true rfl)⟩ ⟨show (_ : Nat) ≤ 603072 by omega, show (_ : Nat) ≤ 7211114 by omega⟩ [] rfl (Nat.le_of_ble_eq_true rfl) 2290 rfl (fun r7 I8 D9 J10 X11 p12 => ?_)
  obtain ⟨rfl, hth, hM1, hg2, z2, z3⟩ := p12
  obtain rfl := z2.symm
  obtain rfl := z3.symm
  replace hl := hl1.f hg2
  replace hM := hM1
  refine fo_istore C dL_law_2290 [(7, .int ((fg_ws (np, lim, kd, par, n, v) (xs (ix + 1)) L).2.1)), (6, .int (nI (fg_ws (np, lim, kd, par, n, v) (xs (ix + 1)) L).1)), (5, .int (nI ix)), (0, .ref b), (1, .ref (Λ.2.2.1 605)), (2, .ref (Λ.2.2.1 616)), (3, .ref (Λ.2.2.1 629)), (4, .ref (Λ.2.2.1 630))] rfl (by decide) 2292 rfl ?_
  refine fo_aload_n C dL_law_2292 5 rfl rfl 2293 rfl ?_
  refine fo_qvi C dL_law_2293 (mX7_thrown (x := nI (fg_ws (np, lim, kd, par, n, v) (xs (ix + 1)) L).1) hth) lv_L_154 (by decide : fo_k 616 = 9) rfl (by decide) rfl ⟨(Nat.le_of_ble_eq_true rfl), (Nat.le_of_ble_eq_true rfl)⟩ ⟨show (_ : Nat) ≤ 603072 by omega, show (_ : Nat) ≤ 7211114 by omega⟩ [] rfl (Nat.le_of_ble_eq_true rfl) 2296 rfl (fun r13 I14 D15 J16 X17 p18 => ?_)
  obtain ⟨rfl, z1, z2, z3, z4⟩ := p18
  obtain rfl := z1.symm
  obtain rfl := z2.symm
  obtain rfl := z3.symm
  obtain rfl := z4.symm
  refine fo_iload C dL_law_2296 1 rfl 2298 rfl ?_
  refine fo_icmp_eq C dL_law_2298 2303 (by decide) 2301 rfl (fun c19 => ?_) (fun c19 => ?_)
  · refine fo_iload C dL_law_2303 1 rfl 2305 rfl ?_
    refine fo_if_ne C dL_law_2305 2320 (by decide) 2308 rfl (fun c20 => ?_) (fun c20 => ?_)
    · refine fo_goto C dL_law_2320 2683 (by decide) ?_
      refine fo_sub C [2, 3, 4, 5, 6, 7] (lv' := [(5, .int (nI ix)), (0, .ref b), (1, .ref (Λ.2.2.1 605)), (2, .ref (Λ.2.2.1 616)), (3, .ref (Λ.2.2.1 629)), (4, .ref (Λ.2.2.1 630))]) rfl ?_
      exact k _ _ _ _ _ _ _ _ _ _ _ _ _ _ (by omega) (by omega) hl hM he9 hf9
    · refine fo_aload_n C dL_law_2308 6 rfl rfl 2309 rfl ?_
      refine fo_iconst C dL_law_2309 (nI 0) ki_0 2310 rfl ?_
      refine fo_lald C dL_law_2310 (by decide : fo_k 629 = 24) (by decide : 0 < fo_n 629) (((fg_ws (np, lim, kd, par, n, v) (xs (ix + 1)) L).2.1).toInt64) (by rw [fo_rs]; exact hjj c20) 2311 rfl ?_
      refine fo_iload C dL_law_2311 0 rfl 2313 rfl ?_
      refine fo_i2l C dL_law_2313 _ rfl 2314 rfl ?_
      refine fo_lcmp C dL_law_2314 (nI 0) (fw_ls (rfl)) 2315 rfl ?_
      refine fo_nif_eq C (by omega) dL_law_2315 2320 (by decide) 2318 rfl (fun c21 => ?_) (fun c21 => ?_)
      · refine fo_goto C dL_law_2320 2683 (by decide) ?_
        refine fo_sub C [2, 3, 4, 5, 6, 7] (lv' := [(5, .int (nI ix)), (0, .ref b), (1, .ref (Λ.2.2.1 605)), (2, .ref (Λ.2.2.1 616)), (3, .ref (Λ.2.2.1 629)), (4, .ref (Λ.2.2.1 630))]) rfl ?_
        exact k _ _ _ _ _ _ _ _ _ _ _ _ _ _ (by omega) (by omega) hl hM he9 hf9
      · omega
  · exact absurd rfl c19
set_option maxRecDepth 10000 in
set_option maxHeartbeats 4000000 in
theorem lc_33 {l : Launch} {Λ : fo_Lt} {K : fo_K} {cs ss ix b Ls : Nat} {xs : Nat → Int32} {I : fo_Mi} {D : fo_Md} {J : fo_Mj} {X : fo_Mi} (hfl : l.stackTraces = false) (C : fo_C Λ K cL_law RL 9) (hX : va_X b Ls xs K.2.2.1 K.2.2.1.heap) (hb : b < Λ.2.2.2) (hLs : Ls ≤ 2048) (hi : ix + 3 < Ls) {s : fa_S} {hs : List fa_S} {ks : Option fa_S} {L : List Nat} {m : Nat} {t : Nat → Nat} {e f : Int32} (hl : ll I D s hs ks L m t e f) (hM : fm_M I s hs ks L m t e f) (he9 : e = -1 ∨ ¬ e < 0) (hf9 : f = -1 ∨ ¬ f < 0) (hcs : cs + 3 ≤ 603072) (hss : ss + 18 ≤ 7211114) (k : lk_k l Λ K b ix cs ss) : fo_G l Λ room_1 K cs ss 2323 [(5, .int (nI ix)), (0, .ref b), (1, .ref (Λ.2.2.1 605)), (2, .ref (Λ.2.2.1 616)), (3, .ref (Λ.2.2.1 629)), (4, .ref (Λ.2.2.1 630))] [] I D J X := by
  obtain ⟨np, lim, kd, par, n, v⟩ := s
  refine fo_aload_n C dL_law_2323 2 rfl rfl 2324 rfl ?_
  refine fo_qvi C dL_law_2324 (mX6_writeProphets hl.1) lv_L_264 (by decide : fo_k 605 = 8) rfl (by decide) rfl ⟨(Nat.le_of_ble_eq_true rfl), (Nat.le_of_ble_eq_true rfl)⟩ ⟨show (_ : Nat) ≤ 603072 by omega, show (_ : Nat) ≤ 7211114 by omega⟩ [] rfl (Nat.le_of_ble_eq_true rfl) 2327 rfl (fun r1 I2 D3 J4 X5 p6 => ?_)
  obtain ⟨rfl, g1, g2, z1, z2, z3⟩ := p6
  obtain rfl := z1.symm
  obtain rfl := z2.symm
  obtain rfl := z3.symm
  replace hl := hl.ln g1 g2
  replace hM := hM.g (fs_lf.g (D := D) g2)
  refine fo_aload_n C dL_law_2327 3 rfl rfl 2328 rfl ?_
  refine fo_qvi C dL_law_2328 (mX7_writeProphets hM) lv_L_267 (by decide : fo_k 616 = 9) rfl (by decide) rfl ⟨(Nat.le_of_ble_eq_true rfl), (Nat.le_of_ble_eq_true rfl)⟩ ⟨show (_ : Nat) ≤ 603072 by omega, show (_ : Nat) ≤ 7211114 by omega⟩ [.int (nI (fo_prs kd par (fp_ap np kd par n v) np).length)] rfl (Nat.le_of_ble_eq_true rfl) 2331 rfl (fun r7 I8 D9 J10 X11 p12 => ?_)
  obtain ⟨rfl, hth, hM1, hg2, z2, z3⟩ := p12
  obtain rfl := z2.symm
  obtain rfl := z3.symm
  replace hl := hl.f hg2
  replace hM := hM1
  refine fo_icmp_eq C dL_law_2331 2683 (by decide) 2334 rfl (fun c13 => ?_) (fun c13 => ?_)
  · exact k _ _ _ _ _ _ _ _ _ _ _ _ _ _ (by omega) (by omega) hl hM he9 hf9
  · exact absurd rfl c13
set_option maxRecDepth 10000 in
set_option maxHeartbeats 4000000 in
theorem lc_34 {l : Launch} {Λ : fo_Lt} {K : fo_K} {cs ss ix b Ls : Nat} {xs : Nat → Int32} {I : fo_Mi} {D : fo_Md} {J : fo_Mj} {X : fo_Mi} (hfl : l.stackTraces = false) (C : fo_C Λ K cL_law RL 9) (hX : va_X b Ls xs K.2.2.1 K.2.2.1.heap) (hb : b < Λ.2.2.2) (hLs : Ls ≤ 2048) (hi : ix + 3 < Ls) {s : fa_S} {hs : List fa_S} {ks : Option fa_S} {L : List Nat} {m : Nat} {t : Nat → Nat} {e f : Int32} (hl : ll I D s hs ks L m t e f) (hM : fm_M I s hs ks L m t e f) (he9 : e = -1 ∨ ¬ e < 0) (hf9 : f = -1 ∨ ¬ f < 0) (hcs : cs + 3 ≤ 603072) (hss : ss + 18 ≤ 7211114) (k : lk_k l Λ K b ix cs ss) : fo_G l Λ room_1 K cs ss 2336 [(5, .int (nI ix)), (0, .ref b), (1, .ref (Λ.2.2.1 605)), (2, .ref (Λ.2.2.1 616)), (3, .ref (Λ.2.2.1 629)), (4, .ref (Λ.2.2.1 630))] [] I D J X := by
  obtain ⟨np, lim, kd, par, n, v⟩ := s
  refine fo_aload_n C dL_law_2336 2 rfl rfl 2337 rfl ?_
  refine fo_aload_n C dL_law_2337 1 rfl rfl 2338 rfl ?_
  refine fo_iload C dL_law_2338 0 rfl 2340 rfl ?_
  refine fo_iconst C dL_law_2340 (nI 1) ki_1 2341 rfl ?_
  refine fo_iadd C dL_law_2341 (nI (ix + 1)) (nI_add _ _) 2342 rfl ?_
  refine fo_sld C hX hb hLs (i := ix + 1) (by omega) dL_law_2342 2343 rfl ?_
  refine fo_aload_n C dL_law_2343 4 rfl rfl 2344 rfl ?_
  refine fo_qw C dL_law_2344 (mL_charAt hfl (z := (xs (ix + 1))) hl.2.2.2.1) lw_L_268 rfl ⟨(Nat.le_of_ble_eq_true rfl), (Nat.le_of_ble_eq_true rfl)⟩ ⟨show (_ : Nat) ≤ 603072 by omega, show (_ : Nat) ≤ 7211114 by omega⟩ [] rfl (Nat.le_of_ble_eq_true rfl) 2347 rfl (fun r1 I2 D3 J4 X5 p6 => ?_)
  obtain ⟨rfl, z1, z2, jj, rfl, hjj⟩ := p6
  obtain rfl := z1.symm
  obtain rfl := z2.symm
  refine fo_istore C dL_law_2347 [(6, .int (nI (fg_c1 (xs (ix + 1)) L).1)), (5, .int (nI ix)), (0, .ref b), (1, .ref (Λ.2.2.1 605)), (2, .ref (Λ.2.2.1 616)), (3, .ref (Λ.2.2.1 629)), (4, .ref (Λ.2.2.1 630))] rfl (by decide) 2349 rfl ?_
  refine fo_aload_n C dL_law_2349 4 rfl rfl 2350 rfl ?_
  refine fo_aload_n C dL_law_2350 2 rfl rfl 2351 rfl ?_
  refine fo_iload C dL_law_2351 1 rfl 2353 rfl ?_
  refine fo_iconst C dL_law_2353 (nI 1) ki_1 2354 rfl ?_
  refine fo_iadd C dL_law_2354 (nI (ix + 1)) (nI_add _ _) 2355 rfl ?_
  refine fo_sld C hX hb hLs (i := ix + 1) (by omega) dL_law_2355 2356 rfl ?_
  refine fo_qvi C dL_law_2356 (mX7_charAt (z := (xs (ix + 1))) hM.2.2.2.1) lv_L_270 (by decide : fo_k 616 = 9) rfl (by decide) rfl ⟨(Nat.le_of_ble_eq_true rfl), (Nat.le_of_ble_eq_true rfl)⟩ ⟨show (_ : Nat) ≤ 603072 by omega, show (_ : Nat) ≤ 7211114 by omega⟩ [] rfl (Nat.le_of_ble_eq_true rfl) 2359 rfl (fun r7 I8 D9 J10 X11 p12 => ?_)
  obtain ⟨rfl, z0, z2, z3⟩ := p12
  subst z0
  obtain rfl := z2.symm
  obtain rfl := z3.symm
  have hth : (fo_r I 616 (upd (I 616) 5 (nI (fg_c1 (xs (ix + 1)) L).1))) 616 5 = nI (fg_c1 (xs (ix + 1)) L).1 := by rw [fo_rs, pk_us]
  replace hl := hl.th (x := nI (fg_c1 (xs (ix + 1)) L).1)
  replace hM := hM.th (x := nI (fg_c1 (xs (ix + 1)) L).1)
  refine fo_istore C dL_law_2359 [(7, .int ((fg_c1 (xs (ix + 1)) L).2)), (6, .int (nI (fg_c1 (xs (ix + 1)) L).1)), (5, .int (nI ix)), (0, .ref b), (1, .ref (Λ.2.2.1 605)), (2, .ref (Λ.2.2.1 616)), (3, .ref (Λ.2.2.1 629)), (4, .ref (Λ.2.2.1 630))] rfl (by decide) 2361 rfl ?_
  refine fo_aload_n C dL_law_2361 5 rfl rfl 2362 rfl ?_
  refine fo_qvi C dL_law_2362 (mX7_thrown (x := nI (fg_c1 (xs (ix + 1)) L).1) hth) lv_L_154 (by decide : fo_k 616 = 9) rfl (by decide) rfl ⟨(Nat.le_of_ble_eq_true rfl), (Nat.le_of_ble_eq_true rfl)⟩ ⟨show (_ : Nat) ≤ 603072 by omega, show (_ : Nat) ≤ 7211114 by omega⟩ [] rfl (Nat.le_of_ble_eq_true rfl) 2365 rfl (fun r13 I14 D15 J16 X17 p18 => ?_)
  obtain ⟨rfl, z1, z2, z3, z4⟩ := p18
  obtain rfl := z1.symm
  obtain rfl := z2.symm
  obtain rfl := z3.symm
  obtain rfl := z4.symm
  refine fo_iload C dL_law_2365 1 rfl 2367 rfl ?_
  refine fo_icmp_eq C dL_law_2367 2372 (by decide) 2370 rfl (fun c19 => ?_) (fun c19 => ?_)
  · refine fo_iload C dL_law_2372 1 rfl 2374 rfl ?_
    refine fo_if_ne C dL_law_2374 2389 (by decide) 2377 rfl (fun c20 => ?_) (fun c20 => ?_)
    · refine fo_goto C dL_law_2389 2683 (by decide) ?_
      refine fo_sub C [2, 3, 4, 5, 6, 7] (lv' := [(5, .int (nI ix)), (0, .ref b), (1, .ref (Λ.2.2.1 605)), (2, .ref (Λ.2.2.1 616)), (3, .ref (Λ.2.2.1 629)), (4, .ref (Λ.2.2.1 630))]) rfl ?_
      exact k _ _ _ _ _ _ _ _ _ _ _ _ _ _ (by omega) (by omega) hl hM he9 hf9
    · refine fo_aload_n C dL_law_2377 6 rfl rfl 2378 rfl ?_
      refine fo_iconst C dL_law_2378 (nI 0) ki_0 2379 rfl ?_
      refine fo_lald C dL_law_2379 (by decide : fo_k 629 = 24) (by decide : 0 < fo_n 629) (((fg_c1 (xs (ix + 1)) L).2).toInt64) (by rw [fo_rs]; exact hjj c20) 2380 rfl ?_
      refine fo_iload C dL_law_2380 0 rfl 2382 rfl ?_
      refine fo_i2l C dL_law_2382 _ rfl 2383 rfl ?_
      refine fo_lcmp C dL_law_2383 (nI 0) (fw_ls (rfl)) 2384 rfl ?_
      refine fo_nif_eq C (by omega) dL_law_2384 2389 (by decide) 2387 rfl (fun c21 => ?_) (fun c21 => ?_)
      · refine fo_goto C dL_law_2389 2683 (by decide) ?_
        refine fo_sub C [2, 3, 4, 5, 6, 7] (lv' := [(5, .int (nI ix)), (0, .ref b), (1, .ref (Λ.2.2.1 605)), (2, .ref (Λ.2.2.1 616)), (3, .ref (Λ.2.2.1 629)), (4, .ref (Λ.2.2.1 630))]) rfl ?_
        exact k _ _ _ _ _ _ _ _ _ _ _ _ _ _ (by omega) (by omega) hl hM he9 hf9
      · omega
  · exact absurd rfl c19
set_option maxRecDepth 10000 in
set_option maxHeartbeats 4000000 in
theorem lc_35 {l : Launch} {Λ : fo_Lt} {K : fo_K} {cs ss ix b Ls : Nat} {xs : Nat → Int32} {I : fo_Mi} {D : fo_Md} {J : fo_Mj} {X : fo_Mi} (hfl : l.stackTraces = false) (C : fo_C Λ K cL_law RL 9) (hX : va_X b Ls xs K.2.2.1 K.2.2.1.heap) (hb : b < Λ.2.2.2) (hLs : Ls ≤ 2048) (hi : ix + 3 < Ls) {s : fa_S} {hs : List fa_S} {ks : Option fa_S} {L : List Nat} {m : Nat} {t : Nat → Nat} {e f : Int32} (hl : ll I D s hs ks L m t e f) (hM : fm_M I s hs ks L m t e f) (he9 : e = -1 ∨ ¬ e < 0) (hf9 : f = -1 ∨ ¬ f < 0) (hcs : cs + 3 ≤ 603072) (hss : ss + 18 ≤ 7211114) (k : lk_k l Λ K b ix cs ss) : fo_G l Λ room_1 K cs ss 2392 [(5, .int (nI ix)), (0, .ref b), (1, .ref (Λ.2.2.1 605)), (2, .ref (Λ.2.2.1 616)), (3, .ref (Λ.2.2.1 629)), (4, .ref (Λ.2.2.1 630))] [] I D J X := by
  obtain ⟨np, lim, kd, par, n, v⟩ := s
  obtain ⟨w, hw, hwe⟩ := fw_ch (xs (ix + 1))
  refine fo_aload_n C dL_law_2392 2 rfl rfl 2393 rfl ?_
  refine fo_aload_n C dL_law_2393 1 rfl rfl 2394 rfl ?_
  refine fo_iload C dL_law_2394 0 rfl 2396 rfl ?_
  refine fo_iconst C dL_law_2396 (nI 1) ki_1 2397 rfl ?_
  refine fo_iadd C dL_law_2397 (nI (ix + 1)) (nI_add _ _) 2398 rfl ?_
  refine fo_sld C hX hb hLs (i := ix + 1) (by omega) dL_law_2398 2399 rfl ?_
  refine fo_i2c C dL_law_2399 (nI w) hwe 2400 rfl ?_
  refine fo_aload_n C dL_law_2400 4 rfl rfl 2401 rfl ?_
  refine fo_qw C dL_law_2401 (mL_type hfl (w := w) hw hl) lw_L_271 rfl ⟨(Nat.le_of_ble_eq_true rfl), (Nat.le_of_ble_eq_true rfl)⟩ ⟨show (_ : Nat) ≤ 603072 by omega, show (_ : Nat) ≤ 7211114 by omega⟩ [] rfl (Nat.le_of_ble_eq_true rfl) 2404 rfl (fun r1 I2 D3 J4 X5 p6 => ?_)
  obtain ⟨rfl, hl1, hg1, jj, rfl, hjj⟩ := p6
  replace hM := hM.g hg1
  refine fo_istore C dL_law_2404 [(6, .int (nI (fg_ty m).1)), (5, .int (nI ix)), (0, .ref b), (1, .ref (Λ.2.2.1 605)), (2, .ref (Λ.2.2.1 616)), (3, .ref (Λ.2.2.1 629)), (4, .ref (Λ.2.2.1 630))] rfl (by decide) 2406 rfl ?_
  refine fo_aload_n C dL_law_2406 4 rfl rfl 2407 rfl ?_
  refine fo_aload_n C dL_law_2407 2 rfl rfl 2408 rfl ?_
  refine fo_iload C dL_law_2408 1 rfl 2410 rfl ?_
  refine fo_iconst C dL_law_2410 (nI 1) ki_1 2411 rfl ?_
  refine fo_iadd C dL_law_2411 (nI (ix + 1)) (nI_add _ _) 2412 rfl ?_
  refine fo_sld C hX hb hLs (i := ix + 1) (by omega) dL_law_2412 2413 rfl ?_
  refine fo_i2c C dL_law_2413 (nI w) hwe 2414 rfl ?_
  refine fo_qvi C dL_law_2414 (mX7_type (w := w) hw hM) lv_L_274 (by decide : fo_k 616 = 9) rfl (by decide) rfl ⟨(Nat.le_of_ble_eq_true rfl), (Nat.le_of_ble_eq_true rfl)⟩ ⟨show (_ : Nat) ≤ 603072 by omega, show (_ : Nat) ≤ 7211114 by omega⟩ [] rfl (Nat.le_of_ble_eq_true rfl) 2417 rfl (fun r7 I8 D9 J10 X11 p12 => ?_)
  obtain ⟨rfl, hth, hM1, hg2, z2, z3⟩ := p12
  obtain rfl := z2.symm
  obtain rfl := z3.symm
  replace hl := hl1.f hg2
  replace hM := hM1
  refine fo_istore C dL_law_2417 [(7, .int ((fg_ty m).2)), (6, .int (nI (fg_ty m).1)), (5, .int (nI ix)), (0, .ref b), (1, .ref (Λ.2.2.1 605)), (2, .ref (Λ.2.2.1 616)), (3, .ref (Λ.2.2.1 629)), (4, .ref (Λ.2.2.1 630))] rfl (by decide) 2419 rfl ?_
  refine fo_aload_n C dL_law_2419 5 rfl rfl 2420 rfl ?_
  refine fo_qvi C dL_law_2420 (mX7_thrown (x := nI (fg_ty m).1) hth) lv_L_154 (by decide : fo_k 616 = 9) rfl (by decide) rfl ⟨(Nat.le_of_ble_eq_true rfl), (Nat.le_of_ble_eq_true rfl)⟩ ⟨show (_ : Nat) ≤ 603072 by omega, show (_ : Nat) ≤ 7211114 by omega⟩ [] rfl (Nat.le_of_ble_eq_true rfl) 2423 rfl (fun r13 I14 D15 J16 X17 p18 => ?_)
  obtain ⟨rfl, z1, z2, z3, z4⟩ := p18
  obtain rfl := z1.symm
  obtain rfl := z2.symm
  obtain rfl := z3.symm
  obtain rfl := z4.symm
  refine fo_iload C dL_law_2423 1 rfl 2425 rfl ?_
  refine fo_icmp_eq C dL_law_2425 2430 (by decide) 2428 rfl (fun c19 => ?_) (fun c19 => ?_)
  · refine fo_iload C dL_law_2430 1 rfl 2432 rfl ?_
    refine fo_if_ne C dL_law_2432 2447 (by decide) 2435 rfl (fun c20 => ?_) (fun c20 => ?_)
    · refine fo_goto C dL_law_2447 2683 (by decide) ?_
      refine fo_sub C [2, 3, 4, 5, 6, 7] (lv' := [(5, .int (nI ix)), (0, .ref b), (1, .ref (Λ.2.2.1 605)), (2, .ref (Λ.2.2.1 616)), (3, .ref (Λ.2.2.1 629)), (4, .ref (Λ.2.2.1 630))]) rfl ?_
      exact k _ _ _ _ _ _ _ _ _ _ _ _ _ _ (by omega) (by omega) hl hM he9 hf9
    · refine fo_aload_n C dL_law_2435 6 rfl rfl 2436 rfl ?_
      refine fo_iconst C dL_law_2436 (nI 0) ki_0 2437 rfl ?_
      refine fo_lald C dL_law_2437 (by decide : fo_k 629 = 24) (by decide : 0 < fo_n 629) (((fg_ty m).2).toInt64) (by rw [fo_rs]; exact hjj c20) 2438 rfl ?_
      refine fo_iload C dL_law_2438 0 rfl 2440 rfl ?_
      refine fo_i2l C dL_law_2440 _ rfl 2441 rfl ?_
      refine fo_lcmp C dL_law_2441 (nI 0) (fw_ls (rfl)) 2442 rfl ?_
      refine fo_nif_eq C (by omega) dL_law_2442 2447 (by decide) 2445 rfl (fun c21 => ?_) (fun c21 => ?_)
      · refine fo_goto C dL_law_2447 2683 (by decide) ?_
        refine fo_sub C [2, 3, 4, 5, 6, 7] (lv' := [(5, .int (nI ix)), (0, .ref b), (1, .ref (Λ.2.2.1 605)), (2, .ref (Λ.2.2.1 616)), (3, .ref (Λ.2.2.1 629)), (4, .ref (Λ.2.2.1 630))]) rfl ?_
        exact k _ _ _ _ _ _ _ _ _ _ _ _ _ _ (by omega) (by omega) hl hM he9 hf9
      · omega
  · exact absurd rfl c19
set_option maxRecDepth 10000 in
set_option maxHeartbeats 4000000 in
theorem lc_36 {l : Launch} {Λ : fo_Lt} {K : fo_K} {cs ss ix b Ls : Nat} {xs : Nat → Int32} {I : fo_Mi} {D : fo_Md} {J : fo_Mj} {X : fo_Mi} (hfl : l.stackTraces = false) (C : fo_C Λ K cL_law RL 9) (hX : va_X b Ls xs K.2.2.1 K.2.2.1.heap) (hb : b < Λ.2.2.2) (hLs : Ls ≤ 2048) (hi : ix + 3 < Ls) {s : fa_S} {hs : List fa_S} {ks : Option fa_S} {L : List Nat} {m : Nat} {t : Nat → Nat} {e f : Int32} (hl : ll I D s hs ks L m t e f) (hM : fm_M I s hs ks L m t e f) (he9 : e = -1 ∨ ¬ e < 0) (hf9 : f = -1 ∨ ¬ f < 0) (hcs : cs + 3 ≤ 603072) (hss : ss + 18 ≤ 7211114) (k : lk_k l Λ K b ix cs ss) : fo_G l Λ room_1 K cs ss 2450 [(5, .int (nI ix)), (0, .ref b), (1, .ref (Λ.2.2.1 605)), (2, .ref (Λ.2.2.1 616)), (3, .ref (Λ.2.2.1 629)), (4, .ref (Λ.2.2.1 630))] [] I D J X := by
  obtain ⟨np, lim, kd, par, n, v⟩ := s
  refine fo_aload_n C dL_law_2450 2 rfl rfl 2451 rfl ?_
  refine fo_aload_n C dL_law_2451 4 rfl rfl 2452 rfl ?_
  refine fo_qw C dL_law_2452 (mL_run hfl hl) lw_L_275 rfl ⟨(Nat.le_of_ble_eq_true rfl), (Nat.le_of_ble_eq_true rfl)⟩ ⟨show (_ : Nat) ≤ 603072 by omega, show (_ : Nat) ≤ 7211114 by omega⟩ [] rfl (Nat.le_of_ble_eq_true rfl) 2455 rfl (fun r1 I2 D3 J4 X5 p6 => ?_)
  obtain ⟨rfl, hl1, hg1, jj, rfl, hjj⟩ := p6
  replace hM := hM.g hg1
  refine fo_istore C dL_law_2455 [(6, .int (nI (fg_run (np, lim, kd, par, n, v) hs m t e f).1)), (5, .int (nI ix)), (0, .ref b), (1, .ref (Λ.2.2.1 605)), (2, .ref (Λ.2.2.1 616)), (3, .ref (Λ.2.2.1 629)), (4, .ref (Λ.2.2.1 630))] rfl (by decide) 2457 rfl ?_
  refine fo_aload_n C dL_law_2457 4 rfl rfl 2458 rfl ?_
  refine fo_qvi C dL_law_2458 (mX7_run hM) lv_L_277 (by decide : fo_k 616 = 9) rfl (by decide) rfl ⟨(Nat.le_of_ble_eq_true rfl), (Nat.le_of_ble_eq_true rfl)⟩ ⟨show (_ : Nat) ≤ 603072 by omega, show (_ : Nat) ≤ 7211114 by omega⟩ [] rfl (Nat.le_of_ble_eq_true rfl) 2461 rfl (fun r7 I8 D9 J10 X11 p12 => ?_)
  obtain ⟨q1, q2, hg2, z2, z3, z4⟩ := p12
  obtain rfl := z2.symm
  obtain rfl := z3.symm
  obtain rfl := z4.symm
  obtain ⟨hth, hrv, hM1, he2, hf2⟩ := fw_run he9 hf9 q1 q2
  replace hl := hl1.f hg2
  replace hM := hM1
  refine fo_istore C dL_law_2461 [(7, .int (r7)), (6, .int (nI (fg_run (np, lim, kd, par, n, v) hs m t e f).1)), (5, .int (nI ix)), (0, .ref b), (1, .ref (Λ.2.2.1 605)), (2, .ref (Λ.2.2.1 616)), (3, .ref (Λ.2.2.1 629)), (4, .ref (Λ.2.2.1 630))] rfl (by decide) 2463 rfl ?_
  refine fo_aload_n C dL_law_2463 5 rfl rfl 2464 rfl ?_
  refine fo_qvi C dL_law_2464 (mX7_thrown (x := nI (fg_run (np, lim, kd, par, n, v) hs m t e f).1) hth) lv_L_154 (by decide : fo_k 616 = 9) rfl (by decide) rfl ⟨(Nat.le_of_ble_eq_true rfl), (Nat.le_of_ble_eq_true rfl)⟩ ⟨show (_ : Nat) ≤ 603072 by omega, show (_ : Nat) ≤ 7211114 by omega⟩ [] rfl (Nat.le_of_ble_eq_true rfl) 2467 rfl (fun r13 I14 D15 J16 X17 p18 => ?_)
  obtain ⟨rfl, z1, z2, z3, z4⟩ := p18
  obtain rfl := z1.symm
  obtain rfl := z2.symm
  obtain rfl := z3.symm
  obtain rfl := z4.symm
  refine fo_iload C dL_law_2467 1 rfl 2469 rfl ?_
  refine fo_icmp_eq C dL_law_2469 2474 (by decide) 2472 rfl (fun c19 => ?_) (fun c19 => ?_)
  · refine fo_iload C dL_law_2474 1 rfl 2476 rfl ?_
    refine fo_if_ne C dL_law_2476 2491 (by decide) 2479 rfl (fun c20 => ?_) (fun c20 => ?_)
    · refine fo_goto C dL_law_2491 2683 (by decide) ?_
      refine fo_sub C [2, 3, 4, 5, 6, 7] (lv' := [(5, .int (nI ix)), (0, .ref b), (1, .ref (Λ.2.2.1 605)), (2, .ref (Λ.2.2.1 616)), (3, .ref (Λ.2.2.1 629)), (4, .ref (Λ.2.2.1 630))]) rfl ?_
      exact k _ _ _ _ _ _ _ _ _ _ _ _ _ _ (by omega) (by omega) hl hM he2 hf2
    · refine fo_aload_n C dL_law_2479 6 rfl rfl 2480 rfl ?_
      refine fo_iconst C dL_law_2480 (nI 0) ki_0 2481 rfl ?_
      refine fo_lald C dL_law_2481 (by decide : fo_k 629 = 24) (by decide : 0 < fo_n 629) (((fg_run (np, lim, kd, par, n, v) hs m t e f).2.1).toInt64) (by rw [fo_rs]; exact hjj c20) 2482 rfl ?_
      refine fo_iload C dL_law_2482 0 rfl 2484 rfl ?_
      refine fo_i2l C dL_law_2484 _ rfl 2485 rfl ?_
      refine fo_lcmp C dL_law_2485 (nI 0) (fw_ls (by rw [hrv c20])) 2486 rfl ?_
      refine fo_nif_eq C (by omega) dL_law_2486 2491 (by decide) 2489 rfl (fun c21 => ?_) (fun c21 => ?_)
      · refine fo_goto C dL_law_2491 2683 (by decide) ?_
        refine fo_sub C [2, 3, 4, 5, 6, 7] (lv' := [(5, .int (nI ix)), (0, .ref b), (1, .ref (Λ.2.2.1 605)), (2, .ref (Λ.2.2.1 616)), (3, .ref (Λ.2.2.1 629)), (4, .ref (Λ.2.2.1 630))]) rfl ?_
        exact k _ _ _ _ _ _ _ _ _ _ _ _ _ _ (by omega) (by omega) hl hM he2 hf2
      · omega
  · exact absurd rfl c19
set_option maxRecDepth 10000 in
set_option maxHeartbeats 4000000 in
theorem lc_37 {l : Launch} {Λ : fo_Lt} {K : fo_K} {cs ss ix b Ls : Nat} {xs : Nat → Int32} {I : fo_Mi} {D : fo_Md} {J : fo_Mj} {X : fo_Mi} (hfl : l.stackTraces = false) (C : fo_C Λ K cL_law RL 9) (hX : va_X b Ls xs K.2.2.1 K.2.2.1.heap) (hb : b < Λ.2.2.2) (hLs : Ls ≤ 2048) (hi : ix + 3 < Ls) {s : fa_S} {hs : List fa_S} {ks : Option fa_S} {L : List Nat} {m : Nat} {t : Nat → Nat} {e f : Int32} (hl : ll I D s hs ks L m t e f) (hM : fm_M I s hs ks L m t e f) (he9 : e = -1 ∨ ¬ e < 0) (hf9 : f = -1 ∨ ¬ f < 0) (hcs : cs + 3 ≤ 603072) (hss : ss + 18 ≤ 7211114) (k : lk_k l Λ K b ix cs ss) : fo_G l Λ room_1 K cs ss 2494 [(5, .int (nI ix)), (0, .ref b), (1, .ref (Λ.2.2.1 605)), (2, .ref (Λ.2.2.1 616)), (3, .ref (Λ.2.2.1 629)), (4, .ref (Λ.2.2.1 630))] [] I D J X := by
  obtain ⟨np, lim, kd, par, n, v⟩ := s
  refine fo_aload_n C dL_law_2494 2 rfl rfl 2495 rfl ?_
  refine fo_aload_n C dL_law_2495 4 rfl rfl 2496 rfl ?_
  refine fo_qw C dL_law_2496 (mL_errorPosition hfl hl.2.2.2.2.2.1 he9) lw_L_278 rfl ⟨(Nat.le_of_ble_eq_true rfl), (Nat.le_of_ble_eq_true rfl)⟩ ⟨show (_ : Nat) ≤ 603072 by omega, show (_ : Nat) ≤ 7211114 by omega⟩ [] rfl (Nat.le_of_ble_eq_true rfl) 2499 rfl (fun r1 I2 D3 J4 X5 p6 => ?_)
  obtain ⟨rfl, z1, z2, jj, rfl, hjj⟩ := p6
  obtain rfl := z1.symm
  obtain rfl := z2.symm
  refine fo_istore C dL_law_2499 [(6, .int (nI (fg_ps e).1)), (5, .int (nI ix)), (0, .ref b), (1, .ref (Λ.2.2.1 605)), (2, .ref (Λ.2.2.1 616)), (3, .ref (Λ.2.2.1 629)), (4, .ref (Λ.2.2.1 630))] rfl (by decide) 2501 rfl ?_
  refine fo_aload_n C dL_law_2501 4 rfl rfl 2502 rfl ?_
  refine fo_qvi C dL_law_2502 (mX7_errorPosition hM.2.2.2.2.2.1) lv_L_280 (by decide : fo_k 616 = 9) rfl (by decide) rfl ⟨(Nat.le_of_ble_eq_true rfl), (Nat.le_of_ble_eq_true rfl)⟩ ⟨show (_ : Nat) ≤ 603072 by omega, show (_ : Nat) ≤ 7211114 by omega⟩ [] rfl (Nat.le_of_ble_eq_true rfl) 2505 rfl (fun r7 I8 D9 J10 X11 p12 => ?_)
  obtain ⟨rfl, z0, z2, z3⟩ := p12
  subst z0
  obtain rfl := z2.symm
  obtain rfl := z3.symm
  have hth : (fo_r I 616 (upd (I 616) 5 (nI (fg_ps e).1))) 616 5 = nI (fg_ps e).1 := by rw [fo_rs, pk_us]
  replace hl := hl.th (x := nI (fg_ps e).1)
  replace hM := hM.th (x := nI (fg_ps e).1)
  refine fo_istore C dL_law_2505 [(7, .int ((fg_ps e).2)), (6, .int (nI (fg_ps e).1)), (5, .int (nI ix)), (0, .ref b), (1, .ref (Λ.2.2.1 605)), (2, .ref (Λ.2.2.1 616)), (3, .ref (Λ.2.2.1 629)), (4, .ref (Λ.2.2.1 630))] rfl (by decide) 2507 rfl ?_
  refine fo_aload_n C dL_law_2507 5 rfl rfl 2508 rfl ?_
  refine fo_qvi C dL_law_2508 (mX7_thrown (x := nI (fg_ps e).1) hth) lv_L_154 (by decide : fo_k 616 = 9) rfl (by decide) rfl ⟨(Nat.le_of_ble_eq_true rfl), (Nat.le_of_ble_eq_true rfl)⟩ ⟨show (_ : Nat) ≤ 603072 by omega, show (_ : Nat) ≤ 7211114 by omega⟩ [] rfl (Nat.le_of_ble_eq_true rfl) 2511 rfl (fun r13 I14 D15 J16 X17 p18 => ?_)
  obtain ⟨rfl, z1, z2, z3, z4⟩ := p18
  obtain rfl := z1.symm
  obtain rfl := z2.symm
  obtain rfl := z3.symm
  obtain rfl := z4.symm
  refine fo_iload C dL_law_2511 1 rfl 2513 rfl ?_
  refine fo_icmp_eq C dL_law_2513 2518 (by decide) 2516 rfl (fun c19 => ?_) (fun c19 => ?_)
  · refine fo_iload C dL_law_2518 1 rfl 2520 rfl ?_
    refine fo_if_ne C dL_law_2520 2535 (by decide) 2523 rfl (fun c20 => ?_) (fun c20 => ?_)
    · refine fo_goto C dL_law_2535 2683 (by decide) ?_
      refine fo_sub C [2, 3, 4, 5, 6, 7] (lv' := [(5, .int (nI ix)), (0, .ref b), (1, .ref (Λ.2.2.1 605)), (2, .ref (Λ.2.2.1 616)), (3, .ref (Λ.2.2.1 629)), (4, .ref (Λ.2.2.1 630))]) rfl ?_
      exact k _ _ _ _ _ _ _ _ _ _ _ _ _ _ (by omega) (by omega) hl hM he9 hf9
    · refine fo_aload_n C dL_law_2523 6 rfl rfl 2524 rfl ?_
      refine fo_iconst C dL_law_2524 (nI 0) ki_0 2525 rfl ?_
      refine fo_lald C dL_law_2525 (by decide : fo_k 629 = 24) (by decide : 0 < fo_n 629) (((fg_ps e).2).toInt64) (by rw [fo_rs]; exact hjj c20) 2526 rfl ?_
      refine fo_iload C dL_law_2526 0 rfl 2528 rfl ?_
      refine fo_i2l C dL_law_2528 _ rfl 2529 rfl ?_
      refine fo_lcmp C dL_law_2529 (nI 0) (fw_ls (rfl)) 2530 rfl ?_
      refine fo_nif_eq C (by omega) dL_law_2530 2535 (by decide) 2533 rfl (fun c21 => ?_) (fun c21 => ?_)
      · refine fo_goto C dL_law_2535 2683 (by decide) ?_
        refine fo_sub C [2, 3, 4, 5, 6, 7] (lv' := [(5, .int (nI ix)), (0, .ref b), (1, .ref (Λ.2.2.1 605)), (2, .ref (Λ.2.2.1 616)), (3, .ref (Λ.2.2.1 629)), (4, .ref (Λ.2.2.1 630))]) rfl ?_
        exact k _ _ _ _ _ _ _ _ _ _ _ _ _ _ (by omega) (by omega) hl hM he9 hf9
      · omega
  · exact absurd rfl c19
set_option maxRecDepth 10000 in
set_option maxHeartbeats 4000000 in
theorem lc_38 {l : Launch} {Λ : fo_Lt} {K : fo_K} {cs ss ix b Ls : Nat} {xs : Nat → Int32} {I : fo_Mi} {D : fo_Md} {J : fo_Mj} {X : fo_Mi} (hfl : l.stackTraces = false) (C : fo_C Λ K cL_law RL 9) (hX : va_X b Ls xs K.2.2.1 K.2.2.1.heap) (hb : b < Λ.2.2.2) (hLs : Ls ≤ 2048) (hi : ix + 3 < Ls) {s : fa_S} {hs : List fa_S} {ks : Option fa_S} {L : List Nat} {m : Nat} {t : Nat → Nat} {e f : Int32} (hl : ll I D s hs ks L m t e f) (hM : fm_M I s hs ks L m t e f) (he9 : e = -1 ∨ ¬ e < 0) (hf9 : f = -1 ∨ ¬ f < 0) (hcs : cs + 3 ≤ 603072) (hss : ss + 18 ≤ 7211114) (k : lk_k l Λ K b ix cs ss) : fo_G l Λ room_1 K cs ss 2538 [(5, .int (nI ix)), (0, .ref b), (1, .ref (Λ.2.2.1 605)), (2, .ref (Λ.2.2.1 616)), (3, .ref (Λ.2.2.1 629)), (4, .ref (Λ.2.2.1 630))] [] I D J X := by
  obtain ⟨np, lim, kd, par, n, v⟩ := s
  refine fo_aload_n C dL_law_2538 2 rfl rfl 2539 rfl ?_
  refine fo_aload_n C dL_law_2539 4 rfl rfl 2540 rfl ?_
  refine fo_qw C dL_law_2540 (mL_failedCommand hfl hl.2.2.2.2.2.2 hf9) lw_L_281 rfl ⟨(Nat.le_of_ble_eq_true rfl), (Nat.le_of_ble_eq_true rfl)⟩ ⟨show (_ : Nat) ≤ 603072 by omega, show (_ : Nat) ≤ 7211114 by omega⟩ [] rfl (Nat.le_of_ble_eq_true rfl) 2543 rfl (fun r1 I2 D3 J4 X5 p6 => ?_)
  obtain ⟨rfl, z1, z2, jj, rfl, hjj⟩ := p6
  obtain rfl := z1.symm
  obtain rfl := z2.symm
  refine fo_istore C dL_law_2543 [(6, .int (nI (fg_ps f).1)), (5, .int (nI ix)), (0, .ref b), (1, .ref (Λ.2.2.1 605)), (2, .ref (Λ.2.2.1 616)), (3, .ref (Λ.2.2.1 629)), (4, .ref (Λ.2.2.1 630))] rfl (by decide) 2545 rfl ?_
  refine fo_aload_n C dL_law_2545 4 rfl rfl 2546 rfl ?_
  refine fo_qvi C dL_law_2546 (mX7_failedCommand hM.2.2.2.2.2.2) lv_L_283 (by decide : fo_k 616 = 9) rfl (by decide) rfl ⟨(Nat.le_of_ble_eq_true rfl), (Nat.le_of_ble_eq_true rfl)⟩ ⟨show (_ : Nat) ≤ 603072 by omega, show (_ : Nat) ≤ 7211114 by omega⟩ [] rfl (Nat.le_of_ble_eq_true rfl) 2549 rfl (fun r7 I8 D9 J10 X11 p12 => ?_)
  obtain ⟨rfl, z0, z2, z3⟩ := p12
  subst z0
  obtain rfl := z2.symm
  obtain rfl := z3.symm
  have hth : (fo_r I 616 (upd (I 616) 5 (nI (fg_ps f).1))) 616 5 = nI (fg_ps f).1 := by rw [fo_rs, pk_us]
  replace hl := hl.th (x := nI (fg_ps f).1)
  replace hM := hM.th (x := nI (fg_ps f).1)
  refine fo_istore C dL_law_2549 [(7, .int ((fg_ps f).2)), (6, .int (nI (fg_ps f).1)), (5, .int (nI ix)), (0, .ref b), (1, .ref (Λ.2.2.1 605)), (2, .ref (Λ.2.2.1 616)), (3, .ref (Λ.2.2.1 629)), (4, .ref (Λ.2.2.1 630))] rfl (by decide) 2551 rfl ?_
  refine fo_aload_n C dL_law_2551 5 rfl rfl 2552 rfl ?_
  refine fo_qvi C dL_law_2552 (mX7_thrown (x := nI (fg_ps f).1) hth) lv_L_154 (by decide : fo_k 616 = 9) rfl (by decide) rfl ⟨(Nat.le_of_ble_eq_true rfl), (Nat.le_of_ble_eq_true rfl)⟩ ⟨show (_ : Nat) ≤ 603072 by omega, show (_ : Nat) ≤ 7211114 by omega⟩ [] rfl (Nat.le_of_ble_eq_true rfl) 2555 rfl (fun r13 I14 D15 J16 X17 p18 => ?_)
  obtain ⟨rfl, z1, z2, z3, z4⟩ := p18
  obtain rfl := z1.symm
  obtain rfl := z2.symm
  obtain rfl := z3.symm
  obtain rfl := z4.symm
  refine fo_iload C dL_law_2555 1 rfl 2557 rfl ?_
  refine fo_icmp_eq C dL_law_2557 2562 (by decide) 2560 rfl (fun c19 => ?_) (fun c19 => ?_)
  · refine fo_iload C dL_law_2562 1 rfl 2564 rfl ?_
    refine fo_if_ne C dL_law_2564 2579 (by decide) 2567 rfl (fun c20 => ?_) (fun c20 => ?_)
    · refine fo_goto C dL_law_2579 2683 (by decide) ?_
      refine fo_sub C [2, 3, 4, 5, 6, 7] (lv' := [(5, .int (nI ix)), (0, .ref b), (1, .ref (Λ.2.2.1 605)), (2, .ref (Λ.2.2.1 616)), (3, .ref (Λ.2.2.1 629)), (4, .ref (Λ.2.2.1 630))]) rfl ?_
      exact k _ _ _ _ _ _ _ _ _ _ _ _ _ _ (by omega) (by omega) hl hM he9 hf9
    · refine fo_aload_n C dL_law_2567 6 rfl rfl 2568 rfl ?_
      refine fo_iconst C dL_law_2568 (nI 0) ki_0 2569 rfl ?_
      refine fo_lald C dL_law_2569 (by decide : fo_k 629 = 24) (by decide : 0 < fo_n 629) (((fg_ps f).2).toInt64) (by rw [fo_rs]; exact hjj c20) 2570 rfl ?_
      refine fo_iload C dL_law_2570 0 rfl 2572 rfl ?_
      refine fo_i2l C dL_law_2572 _ rfl 2573 rfl ?_
      refine fo_lcmp C dL_law_2573 (nI 0) (fw_ls (rfl)) 2574 rfl ?_
      refine fo_nif_eq C (by omega) dL_law_2574 2579 (by decide) 2577 rfl (fun c21 => ?_) (fun c21 => ?_)
      · refine fo_goto C dL_law_2579 2683 (by decide) ?_
        refine fo_sub C [2, 3, 4, 5, 6, 7] (lv' := [(5, .int (nI ix)), (0, .ref b), (1, .ref (Λ.2.2.1 605)), (2, .ref (Λ.2.2.1 616)), (3, .ref (Λ.2.2.1 629)), (4, .ref (Λ.2.2.1 630))]) rfl ?_
        exact k _ _ _ _ _ _ _ _ _ _ _ _ _ _ (by omega) (by omega) hl hM he9 hf9
      · omega
  · exact absurd rfl c19
set_option maxRecDepth 10000 in
set_option maxHeartbeats 4000000 in
theorem lc_39 {l : Launch} {Λ : fo_Lt} {K : fo_K} {cs ss ix b Ls : Nat} {xs : Nat → Int32} {I : fo_Mi} {D : fo_Md} {J : fo_Mj} {X : fo_Mi} (hfl : l.stackTraces = false) (C : fo_C Λ K cL_law RL 9) (hX : va_X b Ls xs K.2.2.1 K.2.2.1.heap) (hb : b < Λ.2.2.2) (hLs : Ls ≤ 2048) (hi : ix + 3 < Ls) {s : fa_S} {hs : List fa_S} {ks : Option fa_S} {L : List Nat} {m : Nat} {t : Nat → Nat} {e f : Int32} (hl : ll I D s hs ks L m t e f) (hM : fm_M I s hs ks L m t e f) (he9 : e = -1 ∨ ¬ e < 0) (hf9 : f = -1 ∨ ¬ f < 0) (hcs : cs + 3 ≤ 603072) (hss : ss + 18 ≤ 7211114) (k : lk_k l Λ K b ix cs ss) : fo_G l Λ room_1 K cs ss 2582 [(5, .int (nI ix)), (0, .ref b), (1, .ref (Λ.2.2.1 605)), (2, .ref (Λ.2.2.1 616)), (3, .ref (Λ.2.2.1 629)), (4, .ref (Λ.2.2.1 630))] [] I D J X := by
  obtain ⟨np, lim, kd, par, n, v⟩ := s
  refine fo_aload_n C dL_law_2582 2 rfl rfl 2583 rfl ?_
  refine fo_aload_n C dL_law_2583 4 rfl rfl 2584 rfl ?_
  refine fo_qw C dL_law_2584 (mL_undo hfl hl) lw_L_284 rfl ⟨(Nat.le_of_ble_eq_true rfl), (Nat.le_of_ble_eq_true rfl)⟩ ⟨show (_ : Nat) ≤ 603072 by omega, show (_ : Nat) ≤ 7211114 by omega⟩ [] rfl (Nat.le_of_ble_eq_true rfl) 2587 rfl (fun r1 I2 D3 J4 X5 p6 => ?_)
  obtain ⟨rfl, hl1, hg1, jj, rfl, hjj⟩ := p6
  replace hM := hM.g hg1
  refine fo_istore C dL_law_2587 [(6, .int (nI (fg_ud hs).1)), (5, .int (nI ix)), (0, .ref b), (1, .ref (Λ.2.2.1 605)), (2, .ref (Λ.2.2.1 616)), (3, .ref (Λ.2.2.1 629)), (4, .ref (Λ.2.2.1 630))] rfl (by decide) 2589 rfl ?_
  refine fo_aload_n C dL_law_2589 4 rfl rfl 2590 rfl ?_
  refine fo_qvi C dL_law_2590 (mX7_undo hM) lv_L_286 (by decide : fo_k 616 = 9) rfl (by decide) rfl ⟨(Nat.le_of_ble_eq_true rfl), (Nat.le_of_ble_eq_true rfl)⟩ ⟨show (_ : Nat) ≤ 603072 by omega, show (_ : Nat) ≤ 7211114 by omega⟩ [] rfl (Nat.le_of_ble_eq_true rfl) 2593 rfl (fun r7 I8 D9 J10 X11 p12 => ?_)
  obtain ⟨rfl, hth, hM1, hg2, z2, z3⟩ := p12
  obtain rfl := z2.symm
  obtain rfl := z3.symm
  replace hl := hl1.f hg2
  replace hM := hM1
  refine fo_istore C dL_law_2593 [(7, .int ((fg_ud hs).2.1)), (6, .int (nI (fg_ud hs).1)), (5, .int (nI ix)), (0, .ref b), (1, .ref (Λ.2.2.1 605)), (2, .ref (Λ.2.2.1 616)), (3, .ref (Λ.2.2.1 629)), (4, .ref (Λ.2.2.1 630))] rfl (by decide) 2595 rfl ?_
  refine fo_aload_n C dL_law_2595 5 rfl rfl 2596 rfl ?_
  refine fo_qvi C dL_law_2596 (mX7_thrown (x := nI (fg_ud hs).1) hth) lv_L_154 (by decide : fo_k 616 = 9) rfl (by decide) rfl ⟨(Nat.le_of_ble_eq_true rfl), (Nat.le_of_ble_eq_true rfl)⟩ ⟨show (_ : Nat) ≤ 603072 by omega, show (_ : Nat) ≤ 7211114 by omega⟩ [] rfl (Nat.le_of_ble_eq_true rfl) 2599 rfl (fun r13 I14 D15 J16 X17 p18 => ?_)
  obtain ⟨rfl, z1, z2, z3, z4⟩ := p18
  obtain rfl := z1.symm
  obtain rfl := z2.symm
  obtain rfl := z3.symm
  obtain rfl := z4.symm
  refine fo_iload C dL_law_2599 1 rfl 2601 rfl ?_
  refine fo_icmp_eq C dL_law_2601 2606 (by decide) 2604 rfl (fun c19 => ?_) (fun c19 => ?_)
  · refine fo_iload C dL_law_2606 1 rfl 2608 rfl ?_
    refine fo_if_ne C dL_law_2608 2623 (by decide) 2611 rfl (fun c20 => ?_) (fun c20 => ?_)
    · refine fo_goto C dL_law_2623 2683 (by decide) ?_
      refine fo_sub C [2, 3, 4, 5, 6, 7] (lv' := [(5, .int (nI ix)), (0, .ref b), (1, .ref (Λ.2.2.1 605)), (2, .ref (Λ.2.2.1 616)), (3, .ref (Λ.2.2.1 629)), (4, .ref (Λ.2.2.1 630))]) rfl ?_
      exact k _ _ _ _ _ _ _ _ _ _ _ _ _ _ (by omega) (by omega) hl hM he9 hf9
    · refine fo_aload_n C dL_law_2611 6 rfl rfl 2612 rfl ?_
      refine fo_iconst C dL_law_2612 (nI 0) ki_0 2613 rfl ?_
      refine fo_lald C dL_law_2613 (by decide : fo_k 629 = 24) (by decide : 0 < fo_n 629) (((fg_ud hs).2.1).toInt64) (by rw [fo_rs]; exact hjj c20) 2614 rfl ?_
      refine fo_iload C dL_law_2614 0 rfl 2616 rfl ?_
      refine fo_i2l C dL_law_2616 _ rfl 2617 rfl ?_
      refine fo_lcmp C dL_law_2617 (nI 0) (fw_ls (rfl)) 2618 rfl ?_
      refine fo_nif_eq C (by omega) dL_law_2618 2623 (by decide) 2621 rfl (fun c21 => ?_) (fun c21 => ?_)
      · refine fo_goto C dL_law_2623 2683 (by decide) ?_
        refine fo_sub C [2, 3, 4, 5, 6, 7] (lv' := [(5, .int (nI ix)), (0, .ref b), (1, .ref (Λ.2.2.1 605)), (2, .ref (Λ.2.2.1 616)), (3, .ref (Λ.2.2.1 629)), (4, .ref (Λ.2.2.1 630))]) rfl ?_
        exact k _ _ _ _ _ _ _ _ _ _ _ _ _ _ (by omega) (by omega) hl hM he9 hf9
      · omega
  · exact absurd rfl c19
set_option maxRecDepth 10000 in
set_option maxHeartbeats 4000000 in
theorem lc_40 {l : Launch} {Λ : fo_Lt} {K : fo_K} {cs ss ix b Ls : Nat} {xs : Nat → Int32} {I : fo_Mi} {D : fo_Md} {J : fo_Mj} {X : fo_Mi} (hfl : l.stackTraces = false) (C : fo_C Λ K cL_law RL 9) (hX : va_X b Ls xs K.2.2.1 K.2.2.1.heap) (hb : b < Λ.2.2.2) (hLs : Ls ≤ 2048) (hi : ix + 3 < Ls) {s : fa_S} {hs : List fa_S} {ks : Option fa_S} {L : List Nat} {m : Nat} {t : Nat → Nat} {e f : Int32} (hl : ll I D s hs ks L m t e f) (hM : fm_M I s hs ks L m t e f) (he9 : e = -1 ∨ ¬ e < 0) (hf9 : f = -1 ∨ ¬ f < 0) (hcs : cs + 3 ≤ 603072) (hss : ss + 18 ≤ 7211114) (k : lk_k l Λ K b ix cs ss) : fo_G l Λ room_1 K cs ss 2626 [(5, .int (nI ix)), (0, .ref b), (1, .ref (Λ.2.2.1 605)), (2, .ref (Λ.2.2.1 616)), (3, .ref (Λ.2.2.1 629)), (4, .ref (Λ.2.2.1 630))] [] I D J X := by
  obtain ⟨np, lim, kd, par, n, v⟩ := s
  refine fo_aload_n C dL_law_2626 2 rfl rfl 2627 rfl ?_
  refine fo_qvi C dL_law_2627 (mX6_save hl.1) lv_L_287 (by decide : fo_k 605 = 8) rfl (by decide) rfl ⟨(Nat.le_of_ble_eq_true rfl), (Nat.le_of_ble_eq_true rfl)⟩ ⟨show (_ : Nat) ≤ 603072 by omega, show (_ : Nat) ≤ 7211114 by omega⟩ [] rfl (Nat.le_of_ble_eq_true rfl) 2630 rfl (fun r1 I2 D3 J4 X5 p6 => ?_)
  obtain ⟨rfl, g1, g2, g3, z1⟩ := p6
  obtain rfl := z1.symm
  replace hl := hl.sv g1 g2 g3
  replace hM := hM.g (I' := I2) (D := D) (D' := D3) (fun c hc => g2 c (by omega) (by omega))
  refine fo_aload_n C dL_law_2630 3 rfl rfl 2631 rfl ?_
  refine fo_qvi C dL_law_2631 (mX7_save hM) lv_L_290 (by decide : fo_k 616 = 9) rfl (by decide) rfl ⟨(Nat.le_of_ble_eq_true rfl), (Nat.le_of_ble_eq_true rfl)⟩ ⟨show (_ : Nat) ≤ 603072 by omega, show (_ : Nat) ≤ 7211114 by omega⟩ [.int (nI np)] rfl (Nat.le_of_ble_eq_true rfl) 2634 rfl (fun r7 I8 D9 J10 X11 p12 => ?_)
  obtain ⟨rfl, hth, hM1, hg2, z2, z3⟩ := p12
  obtain rfl := z2.symm
  obtain rfl := z3.symm
  replace hl := hl.f hg2
  replace hM := hM1
  refine fo_icmp_eq C dL_law_2634 2683 (by decide) 2637 rfl (fun c13 => ?_) (fun c13 => ?_)
  · exact k _ _ _ _ _ _ _ _ _ _ _ _ _ _ (by omega) (by omega) hl hM he9 hf9
  · exact absurd rfl c13
set_option maxRecDepth 10000 in
set_option maxHeartbeats 4000000 in
theorem lc_41 {l : Launch} {Λ : fo_Lt} {K : fo_K} {cs ss ix b Ls : Nat} {xs : Nat → Int32} {I : fo_Mi} {D : fo_Md} {J : fo_Mj} {X : fo_Mi} (hfl : l.stackTraces = false) (C : fo_C Λ K cL_law RL 9) (hX : va_X b Ls xs K.2.2.1 K.2.2.1.heap) (hb : b < Λ.2.2.2) (hLs : Ls ≤ 2048) (hi : ix + 3 < Ls) {s : fa_S} {hs : List fa_S} {ks : Option fa_S} {L : List Nat} {m : Nat} {t : Nat → Nat} {e f : Int32} (hl : ll I D s hs ks L m t e f) (hM : fm_M I s hs ks L m t e f) (he9 : e = -1 ∨ ¬ e < 0) (hf9 : f = -1 ∨ ¬ f < 0) (hcs : cs + 3 ≤ 603072) (hss : ss + 18 ≤ 7211114) (k : lk_k l Λ K b ix cs ss) : fo_G l Λ room_1 K cs ss 2639 [(5, .int (nI ix)), (0, .ref b), (1, .ref (Λ.2.2.1 605)), (2, .ref (Λ.2.2.1 616)), (3, .ref (Λ.2.2.1 629)), (4, .ref (Λ.2.2.1 630))] [] I D J X := by
  obtain ⟨np, lim, kd, par, n, v⟩ := s
  refine fo_aload_n C dL_law_2639 2 rfl rfl 2640 rfl ?_
  refine fo_aload_n C dL_law_2640 4 rfl rfl 2641 rfl ?_
  refine fo_qw C dL_law_2641 (mL_restore hfl hl) lw_L_291 rfl ⟨(Nat.le_of_ble_eq_true rfl), (Nat.le_of_ble_eq_true rfl)⟩ ⟨show (_ : Nat) ≤ 603072 by omega, show (_ : Nat) ≤ 7211114 by omega⟩ [] rfl (Nat.le_of_ble_eq_true rfl) 2644 rfl (fun r1 I2 D3 J4 X5 p6 => ?_)
  obtain ⟨rfl, hl1, hg1, jj, rfl, hjj⟩ := p6
  replace hM := hM.g hg1
  refine fo_istore C dL_law_2644 [(6, .int (nI (fg_rs ks).1)), (5, .int (nI ix)), (0, .ref b), (1, .ref (Λ.2.2.1 605)), (2, .ref (Λ.2.2.1 616)), (3, .ref (Λ.2.2.1 629)), (4, .ref (Λ.2.2.1 630))] rfl (by decide) 2646 rfl ?_
  refine fo_aload_n C dL_law_2646 4 rfl rfl 2647 rfl ?_
  refine fo_qvi C dL_law_2647 (mX7_restore hM) lv_L_293 (by decide : fo_k 616 = 9) rfl (by decide) rfl ⟨(Nat.le_of_ble_eq_true rfl), (Nat.le_of_ble_eq_true rfl)⟩ ⟨show (_ : Nat) ≤ 603072 by omega, show (_ : Nat) ≤ 7211114 by omega⟩ [] rfl (Nat.le_of_ble_eq_true rfl) 2650 rfl (fun r7 I8 D9 J10 X11 p12 => ?_)
  obtain ⟨rfl, hth, hM1, hg2, z2, z3⟩ := p12
  obtain rfl := z2.symm
  obtain rfl := z3.symm
  replace hl := hl1.f hg2
  replace hM := hM1
  refine fo_istore C dL_law_2650 [(7, .int ((fg_rs ks).2.1)), (6, .int (nI (fg_rs ks).1)), (5, .int (nI ix)), (0, .ref b), (1, .ref (Λ.2.2.1 605)), (2, .ref (Λ.2.2.1 616)), (3, .ref (Λ.2.2.1 629)), (4, .ref (Λ.2.2.1 630))] rfl (by decide) 2652 rfl ?_
  refine fo_aload_n C dL_law_2652 5 rfl rfl 2653 rfl ?_
  refine fo_qvi C dL_law_2653 (mX7_thrown (x := nI (fg_rs ks).1) hth) lv_L_154 (by decide : fo_k 616 = 9) rfl (by decide) rfl ⟨(Nat.le_of_ble_eq_true rfl), (Nat.le_of_ble_eq_true rfl)⟩ ⟨show (_ : Nat) ≤ 603072 by omega, show (_ : Nat) ≤ 7211114 by omega⟩ [] rfl (Nat.le_of_ble_eq_true rfl) 2656 rfl (fun r13 I14 D15 J16 X17 p18 => ?_)
  obtain ⟨rfl, z1, z2, z3, z4⟩ := p18
  obtain rfl := z1.symm
  obtain rfl := z2.symm
  obtain rfl := z3.symm
  obtain rfl := z4.symm
  refine fo_iload C dL_law_2656 1 rfl 2658 rfl ?_
  refine fo_icmp_eq C dL_law_2658 2663 (by decide) 2661 rfl (fun c19 => ?_) (fun c19 => ?_)
  · refine fo_iload C dL_law_2663 1 rfl 2665 rfl ?_
    refine fo_if_ne C dL_law_2665 2680 (by decide) 2668 rfl (fun c20 => ?_) (fun c20 => ?_)
    · refine fo_goto C dL_law_2680 2683 (by decide) ?_
      refine fo_sub C [2, 3, 4, 5, 6, 7] (lv' := [(5, .int (nI ix)), (0, .ref b), (1, .ref (Λ.2.2.1 605)), (2, .ref (Λ.2.2.1 616)), (3, .ref (Λ.2.2.1 629)), (4, .ref (Λ.2.2.1 630))]) rfl ?_
      exact k _ _ _ _ _ _ _ _ _ _ _ _ _ _ (by omega) (by omega) hl hM he9 hf9
    · refine fo_aload_n C dL_law_2668 6 rfl rfl 2669 rfl ?_
      refine fo_iconst C dL_law_2669 (nI 0) ki_0 2670 rfl ?_
      refine fo_lald C dL_law_2670 (by decide : fo_k 629 = 24) (by decide : 0 < fo_n 629) (((fg_rs ks).2.1).toInt64) (by rw [fo_rs]; exact hjj c20) 2671 rfl ?_
      refine fo_iload C dL_law_2671 0 rfl 2673 rfl ?_
      refine fo_i2l C dL_law_2673 _ rfl 2674 rfl ?_
      refine fo_lcmp C dL_law_2674 (nI 0) (fw_ls (rfl)) 2675 rfl ?_
      refine fo_nif_eq C (by omega) dL_law_2675 2680 (by decide) 2678 rfl (fun c21 => ?_) (fun c21 => ?_)
      · refine fo_goto C dL_law_2680 2683 (by decide) ?_
        refine fo_sub C [2, 3, 4, 5, 6, 7] (lv' := [(5, .int (nI ix)), (0, .ref b), (1, .ref (Λ.2.2.1 605)), (2, .ref (Λ.2.2.1 616)), (3, .ref (Λ.2.2.1 629)), (4, .ref (Λ.2.2.1 630))]) rfl ?_
        exact k _ _ _ _ _ _ _ _ _ _ _ _ _ _ (by omega) (by omega) hl hM he9 hf9
      · omega
  · exact absurd rfl c19
