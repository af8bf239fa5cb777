section FOW
/-! THE LAW'S CALLS OF THE LABORATORY: methods with a table of their own -/
def fw_i (l : Launch) (y : MethodName) (cc : ByteArray) (nL fr lo mc ms : Nat) (hh : List (Nat × Nat × Nat × Nat)) (Λ : fo_Lt) (av : List Value) (I : fo_Mi) (D : fo_Md) (J : fo_Mj) (X : fo_Mi) (post : Int32 → fo_Mi → fo_Md → fo_Mj → fo_Mi → Prop) : Prop :=
  Met l y (.codeWith y cc nL (some .int) hh :: fo_W0) { frames := fr, cells := mc, slots := ms, locals := lo } (fo_P Λ av I D J X) (va_Qi (fun r (u : fo_U) => post r u.1 u.2.1 u.2.2.1 u.2.2.2) (fo_B Λ) (fo_A Λ)) mc ms (fo_A Λ)
theorem fo_ofWH {l : Launch} {y : MethodName} {ws ws' : List Cond} {rm : Room} {Pc : Array Value → State → Prop} {Qc : Array Value → State → Outcome → State → Prop} {mc ms : Nat} {free : Addr → Prop} {cc : ByteArray} {maxL : Nat} {ret : Option FieldType} {hh : List (Nat × Nat × Nat × Nat)}
    (hy : plainName y.cls = true) (hw : ws = Cond.codeWith y cc maxL ret hh :: ws')
    (body : ∀ p e s m args below meth c s₁, BodyLoose p l y (headSpec ws rm) cc maxL ret e s m args below meth c s₁ → c.maxLocals = maxL → c.exceptionTable.toList = tableOf hh → Pc args s →
      W p l e (headSpec ws rm).room s m args below meth c s.heap [] 0 0 (MQ below Qc args s mc ms free) (entryFrame m args maxL)) : Met l y ws rm Pc Qc mc ms free := by
  refine MetFree.of_bodyS (code := cc) (maxLocals := maxL) (ret := ret) hy ?_ ?_
  · intro args s m h hn
    obtain ⟨m9, meth, c, hn9, h1, h2, h3, h4, -, h5, h6, -⟩ := Cond.codeWith_spec (atoms_spec (ws := ws) h _ (by rw [hw]; exact List.mem_cons_self))
    cases hn.symm.trans hn9
    exact ⟨meth, c, h1, h2, h3, h4, h5, h6⟩
  · intro p e s m args below meth c s₁ B hml hP _
    have hh0 : s₁.heap = s.heap := by rw [B.state]; rfl
    have htb := vx_table (x := y) B (atoms_spec (ws := ws) B.pre _ (by rw [hw]; exact List.mem_cons_self))
    obtain ⟨t, a1, o, b1, b2, b3⟩ := body p e s m args below meth c s₁ B hml htb hP s₁ hh0 (Stand.of_body B)
    exact ⟨t, o, a1, b1, b2, ⟨b3.1, b3.2⟩⟩
theorem fo_sw {l : Launch} {y : MethodName} {cc : ByteArray} {nL fr lo mc ms : Nat} {hh : List (Nat × Nat × Nat × Nat)} {Λ : fo_Lt} {av : List Value} {I : fo_Mi} {D : fo_Md} {J : fo_Mj} {X : fo_Mi} {post : Int32 → fo_Mi → fo_Md → fo_Mj → fo_Mi → Prop} (hy : plainName y.cls = true) (lv : List (Nat × Value)) (hlv : lv_args 0 av = lv) (hfit : (lg_sl av).length ≤ nL)
  (body : ∀ K : fo_K, fo_C Λ K cc y.cls nL → K.2.2.2.2.2.2.2.1.exceptionTable.toList = tableOf hh → (∀ {cs ss : Nat} {pc : Nat} {lv : List (Nat × Value)} {v : Int32} {I' : fo_Mi} {D' : fo_Md} {J' : fo_Mj} {X' : fo_Mi}, decode cc pc = .ok (.ireturn, 1) → narrow .int (.int v) = .int v → cs ≤ mc → ss ≤ ms → post v I' D' J' X' → fo_G l Λ { frames := fr, cells := mc, slots := ms, locals := lo } K cs ss pc lv [.int v] I' D' J' X') → fo_G l Λ { frames := fr, cells := mc, slots := ms, locals := lo } K 0 0 0 lv [] I D J X) : fw_i l y cc nL fr lo mc ms hh Λ av I D J X post := by
  refine fo_ofWH (cc := cc) (maxL := nL) (ret := (some .int)) (hh := hh) hy rfl ?_
  intro p e s m args below meth c s₁ B hml htb hv
  obtain ⟨rfl, hP, hK, hO, hZ⟩ := hv
  have hx := B.exec
  have hb := B.bytes
  have hr := B.returns
  have hts := atoms_spec (ws := .codeWith y cc nL (some .int) hh :: fo_W0) B.pre
  have hown : s.vm.findClass y.cls = some m.cls := findClass_of_methodNamed B.named
  have hlocks := B.notSynchronized
  have hl := lv_entry av (n := nL) hfit
  rw [hlv] at hl
  rw [lg_entry_eq]
  refine body (p, e, s, m, av.toArray, below, meth, c, nL, MQ below (va_Qi (fun r (u : fo_U) => post r u.1 u.2.1 u.2.2.1 u.2.2.2) (fo_B Λ) (fo_A Λ)) av.toArray s mc ms (fo_A Λ)) ⟨hx, hb, hml, hown, fun w h => hts w (List.mem_cons_of_mem _ h), hK, hO, hZ, rfl⟩ htb ?_ s.heap [] _ hP va_S.rf hl
  intro cs ss pc lv v I' D' J' X' d hn h1 h2 hp H locs ls hP' hS' hl'
  refine W.widen h1 h2 ?_
  exact W.zret (v := v) hx hb hr hn (fun t ht hW => ⟨⟨v, (I', D', J', X'), rfl, hp, by show va_P _ _ _ t.heap; rw [ht]; exact hP'⟩, hS'.F ht⟩) hS'.2.2 d hlocks
variable {l : Launch} {Λ : fo_Lt} {R : Room} {K : fo_K} {cs ss pc : Nat} {lv : List (Nat × Value)} {st st0 : List Value} {I : fo_Mi} {D : fo_Md} {J : fo_Mj} {X : fo_Mi} {cc : ByteArray} {own : String} {nL : Nat}
/-- caught by a row of the table: pre the rows ahead of it -/
theorem fo_ca (C : fo_C Λ K cc own nL) {hh : List (Nat × Nat × Nat × Nat)} (ht : K.2.2.2.2.2.2.2.1.exceptionTable.toList = tableOf hh) (pre : List (Nat × Nat × Nat × Nat)) (x : Nat × Nat × Nat × Nat) (suf : List (Nat × Nat × Nat × Nat)) (hs : hh = pre ++ x :: suf) {E : String} (hE : E ∈ fo_xs)
    (hpass : ∀ z ∈ pre, z.2.2.2 ≠ 0 ∧ ∃ nm, Cond.classLink own z.2.2.2 nm ∈ fo_W0 ∧ nm ∈ fo_xs ∧ E ≠ nm) (hx : covers ⟨x.1, x.2.1, x.2.2.1, x.2.2.2⟩ pc = true) (h0 : x.2.2.2 ≠ 0) (hl : Cond.classLink own x.2.2.2 E ∈ fo_W0) (tg : Nat) (htg : x.2.2.1 = tg) (k : ∀ q : Nat, fo_G l Λ R K cs ss tg lv [.ref q] I D J X) : fo_T l Λ R K cs ss pc lv st E I D J X := by
  subst htg
  intro H locs ls q ce hP hS hl9 hc hv hcl
  refine vx_catch C.2.2.2.1 (tableOf pre) ⟨x.1, x.2.1, x.2.2.1, x.2.2.2⟩ (tableOf suf) (by rw [ht, hs]; simp only [tableOf, List.map_append, List.map_cons]) (fun z hz => ?_) hx h0 (C.2.2.2.2.1 _ hl) (va_Nw.use rfl (C.zz.2.2.2.1 E hE)) hc hv hcl (k q H locs ls hP hS hl9)
  obtain ⟨w, hw, rfl⟩ := List.mem_map.mp hz
  obtain ⟨h1, nm, h2, h3, h4⟩ := hpass w hw
  exact Or.inr ⟨h1, nm, C.2.2.2.2.1 _ h2, C.zz.2.2.2.2.2.1 E hE nm h3 h4⟩
/-- what a call of such a method needs of the tables -/
def fo_lw (own : String) (idx : Nat) (y : MethodName) (cc : ByteArray) (nL : Nat) (hh : List (Nat × Nat × Nat × Nat)) (n : Nat) : Prop := GoodIn fo_W0 (va_wsS own idx y (.codeWith y cc nL (some .int) hh :: fo_W0)) ∧ (y.cls ≠ "java/lang/invoke/MethodHandle" ∧ y.cls ≠ "java/lang/invoke/VarHandle" ∧ (parseMethodDescriptor y.desc).map (fun d => d.parameters.length) = some n)
theorem fo_lw_of {own : String} {idx : Nat} {y : MethodName} {cc : ByteArray} {nL : Nat} {hh : List (Nat × Nat × Nat × Nat)} {n : Nat} (h1 : Cond.methodLink own idx y ∈ fo_W0) (h2 : Cond.static y ∈ fo_W0) (h4 : Cond.initialized y.cls ∈ fo_W0) (h5 : Cond.codeWith y cc nL (some .int) hh ∈ fo_W0) (hd : y.cls ≠ "java/lang/invoke/MethodHandle" ∧ y.cls ≠ "java/lang/invoke/VarHandle" ∧ (parseMethodDescriptor y.desc).map (fun d => d.parameters.length) = some n) : fo_lw own idx y cc nL hh n := by
  refine ⟨fo_gl (fun w hw => ?_), hd⟩
  simp only [va_wsS, List.cons_append, List.nil_append, List.mem_cons] at hw
  rcases hw with rfl | rfl | rfl | rfl | hw
  · exact h1
  · exact h2
  · exact h4
  · exact h5
  · exact hw
theorem fo_qw {fr lo mc ms idx maxL n : Nat} {y : MethodName} {bytes : ByteArray} {hh : List (Nat × Nat × Nat × Nat)} {As : List Value} (C : fo_C Λ K cc own nL) {post : Int32 → fo_Mi → fo_Md → fo_Mj → fo_Mi → Prop} (d : decode cc pc = .ok (.invokestatic idx, 3)) (hM : fw_i l y bytes maxL fr lo mc ms hh Λ As I D J X post) (hl : fo_lw own idx y bytes maxL hh n) (hn : As.length = n) (hR : fr + 1 ≤ R.frames ∧ 8 + (maxL + 11) + lo ≤ R.locals) (hf : cs + mc ≤ R.cells ∧ ss + ms ≤ R.slots) (st : List Value) (hst : st0 = As.reverse ++ st) (hW : (st.map fun v => v.category).sum ≤ 8) (n' : Nat) (hn' : pc + 3 = n') (k : ∀ (r : Int32) (I' : fo_Mi) (D' : fo_Md) (J' : fo_Mj) (X' : fo_Mi), post r I' D' J' X' → fo_G l Λ R K (cs + mc) (ss + ms) n' lv (.int r :: st) I' D' J' X') : fo_G l Λ R K cs ss pc lv st0 I D J X := by
  intro H locs ls hP hS hl9
  subst hn'
  subst hst
  refine va_calli (vx_runSW (As := As) (rest := st) C.fix hM (vx_cwSW n C.2.2.2.2.1 hl.1 rfl rfl rfl hl.2 hR) ⟨fo_PB, fun U hU hW9 => fo_pre hP hS C.vk C.ok C.zq hU hW9⟩ rfl hn (hl9.1.trans C.nl) rfl (lv_room hW) d ⟨hf.1, hf.2⟩) hS (fun q _ h => h) (fun q h => h) (fun r u t H1 locs1 ht hvm hw hB hz1 hk1 hS1 => ?_)
  obtain ⟨I', D', J', X'⟩ := u
  exact k r I' D' J' X' hw H1 locs1 ls (by rw [← ht]; exact hB) hS1 hl9
end FOW
theorem fh_13 : Cond.classLink RL 13 "java/lang/IllegalArgumentException" ∈ fo_W0 := fo_in 413 (by decide +kernel) (by decide +kernel)
theorem fh_15 : Cond.classLink RL 15 "java/lang/IllegalStateException" ∈ fo_W0 := fo_in 414 (by decide +kernel) (by decide +kernel)
theorem fh_21 : Cond.classLink RL 21 "java/lang/IndexOutOfBoundsException" ∈ fo_W0 := fo_in 540 (by decide +kernel) (by decide +kernel)
theorem fh_36 : Cond.classLink RL 36 "java/util/NoSuchElementException" ∈ fo_W0 := fo_in 652 (by decide +kernel) (by decide +kernel)
theorem fh_104 : Cond.classLink RL 104 "java/lang/ArithmeticException" ∈ fo_W0 := fo_in 876 (by decide +kernel) (by decide +kernel)
theorem fh_130 : Cond.classLink RL 130 "java/lang/UnsupportedOperationException" ∈ fo_W0 := fo_in 977 (by decide +kernel) (by decide +kernel)
theorem lw_L_148 : fo_lw RL 148 yL_addProphet cL_addProphet 5 [(0, 10, 13, 13), (0, 10, 17, 15)] 4 := fo_lw_of fn_L_148 ft_L_addProphet fi_L fc_L_addProphet (by decide +kernel)
theorem lw_L_157 : fo_lw RL 157 yL_observe cL_observe 5 [(0, 10, 13, 21), (0, 10, 17, 13), (0, 10, 21, 15)] 4 := fo_lw_of fn_L_157 ft_L_observe fi_L fc_L_observe (by decide +kernel)
theorem lw_L_161 : fo_lw RL 161 yL_setLimit cL_setLimit 4 [(0, 9, 12, 13)] 3 := fo_lw_of fn_L_161 ft_L_setLimit fi_L fc_L_setLimit (by decide +kernel)
theorem lw_L_165 : fo_lw RL 165 yL_forget cL_forget 4 [(0, 9, 12, 21)] 3 := fo_lw_of fn_L_165 ft_L_forget fi_L fc_L_forget (by decide +kernel)
theorem lw_L_168 : fo_lw RL 168 yL_days cL_days 4 [(0, 9, 12, 21)] 3 := fo_lw_of fn_L_168 ft_L_days fi_L fc_L_days (by decide +kernel)
theorem lw_L_171 : fo_lw RL 171 yL_value cL_value 5 [(0, 10, 13, 21), (0, 10, 17, 36)] 4 := fo_lw_of fn_L_171 ft_L_value fi_L fc_L_value (by decide +kernel)
theorem lw_L_174 : fo_lw RL 174 yL_range cL_range 4 [(0, 9, 12, 21), (0, 9, 15, 36)] 3 := fo_lw_of fn_L_174 ft_L_range fi_L fc_L_range (by decide +kernel)
theorem lw_L_177 : fo_lw RL 177 yL_movingAverage cL_movingAverage 5 [(0, 9, 12, 21), (0, 9, 16, 13), (0, 9, 20, 36)] 4 := fo_lw_of fn_L_177 ft_L_movingAverage fi_L fc_L_movingAverage (by decide +kernel)
theorem lw_L_181 : fo_lw RL 181 yL_movingAverageBySums cL_movingAverageBySums 5 [(0, 9, 12, 21), (0, 9, 16, 13), (0, 9, 20, 36)] 4 := fo_lw_of fn_L_181 ft_L_movingAverageBySums fi_L fc_L_movingAverageBySums (by decide +kernel)
theorem lw_L_184 : fo_lw RL 184 yL_median cL_median 5 [(0, 10, 13, 21), (0, 10, 17, 13), (0, 10, 21, 36)] 4 := fo_lw_of fn_L_184 ft_L_median fi_L fc_L_median (by decide +kernel)
theorem lw_L_187 : fo_lw RL 187 yL_medianByCounting cL_medianByCounting 5 [(0, 10, 13, 21), (0, 10, 17, 13), (0, 10, 21, 36)] 4 := fo_lw_of fn_L_187 ft_L_medianByCounting fi_L fc_L_medianByCounting (by decide +kernel)
theorem lw_L_190 : fo_lw RL 190 yL_smoothed cL_smoothed 5 [(0, 9, 12, 21), (0, 9, 16, 13), (0, 9, 20, 36)] 4 := fo_lw_of fn_L_190 ft_L_smoothed fi_L fc_L_smoothed (by decide +kernel)
theorem lw_L_193 : fo_lw RL 193 yL_isOutlier cL_isOutlier 5 [(0, 17, 20, 21), (0, 17, 24, 36)] 4 := fo_lw_of fn_L_193 ft_L_isOutlier fi_L fc_L_isOutlier (by decide +kernel)
theorem lw_L_196 : fo_lw RL 196 yL_outliers cL_outliers 4 [(0, 9, 12, 21)] 3 := fo_lw_of fn_L_196 ft_L_outliers fi_L fc_L_outliers (by decide +kernel)
theorem lw_L_199 : fo_lw RL 199 yL_longestRise cL_longestRise 4 [(0, 9, 12, 21)] 3 := fo_lw_of fn_L_199 ft_L_longestRise fi_L fc_L_longestRise (by decide +kernel)
theorem lw_L_202 : fo_lw RL 202 yL_valuesBetween cL_valuesBetween 6 [(0, 12, 15, 21)] 5 := fo_lw_of fn_L_202 ft_L_valuesBetween fi_L fc_L_valuesBetween (by decide +kernel)
theorem lw_L_214 : fo_lw RL 214 yL_kind cL_kind 4 [(0, 9, 12, 21)] 3 := fo_lw_of fn_L_214 ft_L_kind fi_L fc_L_kind (by decide +kernel)
theorem lw_L_217 : fo_lw RL 217 yL_parameter cL_parameter 4 [(0, 9, 12, 21)] 3 := fo_lw_of fn_L_217 ft_L_parameter fi_L fc_L_parameter (by decide +kernel)
theorem lw_L_220 : fo_lw RL 220 yL_hasForecast cL_hasForecast 5 [(0, 17, 20, 21)] 4 := fo_lw_of fn_L_220 ft_L_hasForecast fi_L fc_L_hasForecast (by decide +kernel)
theorem lw_L_223 : fo_lw RL 223 yL_forecast cL_forecast 5 [(0, 9, 12, 21), (0, 9, 16, 36)] 4 := fo_lw_of fn_L_223 ft_L_forecast fi_L fc_L_forecast (by decide +kernel)
theorem lw_L_226 : fo_lw RL 226 yL_forecastBits cL_forecastBits 5 [(0, 9, 12, 21), (0, 9, 16, 36)] 4 := fo_lw_of fn_L_226 ft_L_forecastBits fi_L fc_L_forecastBits (by decide +kernel)
theorem lw_L_229 : fo_lw RL 229 yL_errors cL_errors 5 [(0, 10, 13, 21)] 4 := fo_lw_of fn_L_229 ft_L_errors fi_L fc_L_errors (by decide +kernel)
theorem lw_L_232 : fo_lw RL 232 yL_errorSum cL_errorSum 5 [(0, 9, 12, 21)] 4 := fo_lw_of fn_L_232 ft_L_errorSum fi_L fc_L_errorSum (by decide +kernel)
theorem lw_L_235 : fo_lw RL 235 yL_errorSumByBacktest cL_errorSumByBacktest 5 [(0, 9, 12, 21)] 4 := fo_lw_of fn_L_235 ft_L_errorSumByBacktest fi_L fc_L_errorSumByBacktest (by decide +kernel)
theorem lw_L_238 : fo_lw RL 238 yL_points cL_points 5 [(0, 10, 13, 21)] 4 := fo_lw_of fn_L_238 ft_L_points fi_L fc_L_points (by decide +kernel)
theorem lw_L_241 : fo_lw RL 241 yL_meanError cL_meanError 4 [(0, 8, 11, 21), (0, 8, 14, 104)] 3 := fo_lw_of fn_L_241 ft_L_meanError fi_L fc_L_meanError (by decide +kernel)
theorem lw_L_245 : fo_lw RL 245 yL_prophetByPoints cL_prophetByPoints 4 [(0, 9, 12, 36)] 3 := fo_lw_of fn_L_245 ft_L_prophetByPoints fi_L fc_L_prophetByPoints (by decide +kernel)
theorem lw_L_248 : fo_lw RL 248 yL_bestProphet cL_bestProphet 3 [(0, 8, 11, 36)] 2 := fo_lw_of fn_L_248 ft_L_bestProphet fi_L fc_L_bestProphet (by decide +kernel)
theorem lw_L_252 : fo_lw RL 252 yL_outlierShare cL_outlierShare 3 [(0, 8, 11, 104)] 2 := fo_lw_of fn_L_252 ft_L_outlierShare fi_L fc_L_outlierShare (by decide +kernel)
theorem lw_L_261 : fo_lw RL 261 yL_writeSeries cL_writeSeries 4 [(0, 9, 12, 21)] 3 := fo_lw_of fn_L_261 ft_L_writeSeries fi_L fc_L_writeSeries (by decide +kernel)
theorem lw_L_268 : fo_lw RL 268 yL_charAt cL_charAt 4 [(0, 9, 12, 21)] 3 := fo_lw_of fn_L_268 ft_L_charAt fi_L fc_L_charAt (by decide +kernel)
theorem lw_L_271 : fo_lw RL 271 yL_type cL_type 4 [(0, 9, 12, 15)] 3 := fo_lw_of fn_L_271 ft_L_type fi_L fc_L_type (by decide +kernel)
theorem lw_L_275 : fo_lw RL 275 yL_run cL_run 3 [(0, 8, 11, 13), (0, 8, 14, 130)] 2 := fo_lw_of fn_L_275 ft_L_run fi_L fc_L_run (by decide +kernel)
theorem lw_L_278 : fo_lw RL 278 yL_errorPosition cL_errorPosition 3 [(0, 8, 11, 36)] 2 := fo_lw_of fn_L_278 ft_L_errorPosition fi_L fc_L_errorPosition (by decide +kernel)
theorem lw_L_281 : fo_lw RL 281 yL_failedCommand cL_failedCommand 3 [(0, 8, 11, 36)] 2 := fo_lw_of fn_L_281 ft_L_failedCommand fi_L fc_L_failedCommand (by decide +kernel)
theorem lw_L_284 : fo_lw RL 284 yL_undo cL_undo 3 [(0, 8, 11, 15)] 2 := fo_lw_of fn_L_284 ft_L_undo fi_L fc_L_undo (by decide +kernel)
theorem lw_L_291 : fo_lw RL 291 yL_restore cL_restore 3 [(0, 8, 11, 15)] 2 := fo_lw_of fn_L_291 ft_L_restore fi_L fc_L_restore (by decide +kernel)
