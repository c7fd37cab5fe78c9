/-! Calls of static methods with handlers. -/
def sp_MetW (l : Launch) (G : sp_G) (y : MethodName) (cc : ByteArray) (maxL : Nat) (ret : Option FieldType) (hh : List (Nat × Nat × Nat × Nat)) (rm : Room) (T : sp_T) : Prop :=
  ∀ (av : List Value) (M : sp_M) (sz : Nat) (Post : Option Value → sp_M → Prop), T av M Post → Met l y (Cond.codeWith y cc maxL ret hh :: sp_TB) rm (sp_Pc G M sz av) (sp_Qc G M sz Post) rm.cells rm.slots (sp_A M sz)
theorem sp_entryW {l : Launch} {G : sp_G} {y : MethodName} {cc : ByteArray} {maxL : Nat} {ret : Option FieldType} {hh : List (Nat × Nat × Nat × Nat)} {rm : Room} {T : sp_T} (hy : plainName y.cls = true) (hav : ∀ av M Post, T av M Post → (lg_sl av).length ≤ maxL)
    (body : ∀ (z : sp_Z) (M : sp_M) (av : List Value) (Post : Option Value → sp_M → Prop), sp_C z l rm G M y.cls cc maxL ret → (sp_zh z).code = some (sp_zc z) → (sp_zc z).exceptionTable.toList.map (fun h => (h.startPc, h.endPc, h.handlerPc, h.catchType)) = hh → T av M Post → sp_W z G M (sp_Q z G M Post rm.cells rm.slots) maxL 0 0 0 (lv_args 0 av) [] M) : sp_MetW l G y cc maxL ret hh rm T := by
  intro av M sz Post hT
  refine va_MetW (cc := cc) (maxL := maxL) (ret := ret) (hh := hh) hy rfl ?_
  intro p e s m args below meth c s₁ B hml hv
  obtain ⟨rfl, hsz, hP, hE⟩ := hv
  subst hsz
  have hl := lv_entry av (n := maxL) (hav av M Post hT)
  rw [lg_entry_eq]
  have hts := atoms_spec (ws := Cond.codeWith y cc maxL ret hh :: sp_TB) B.pre
  have hcode : meth.code = some c := (Stand.of_body B).code
  obtain ⟨m9, meth9, c9, hn9, h1, h2, h3, h4, h5, -⟩ := Cond.codeWith_spec (hts _ List.mem_cons_self)
  cases B.named.symm.trans hn9
  cases B.method.symm.trans h1
  cases hcode.symm.trans h2
  refine body (p, l, e, rm, s, m, av.toArray, below, meth, c) M av Post ⟨B.exec, B.bytes, hml, findClass_of_methodNamed B.named, fun w hw => hts w (List.mem_cons_of_mem _ hw), B.returns, B.notSynchronized, hE, rfl, rfl⟩ hcode h5 hT s.heap [] _ hl hP (fun q x hq => Or.inl (by rw [hq]; exact fun h => by cases h)) va_S.rf
theorem sp_callSW {z : sp_Z} {G : sp_G} {M0 M : sp_M} {Q : State → Prop} {own : String} {cc cc' : ByteArray} {nL cs sl pc maxL n index : Nat} {L : sp_L} {st rest As : List Value} {l : Launch} {R0 rm : Room} {ret ret' : Option FieldType} {hh : List (Nat × Nat × Nat × Nat)} {y : MethodName} {T : sp_T} (hz : sp_C z l R0 G M0 own cc nL ret) (hM : sp_MetW l G y cc' maxL ret' hh rm T) {ps : List Nat} (hw : sp_wSW own index y cc' maxL ret' hh n ps = true) (hR : sp_rm R0 rm maxL cs sl = true)
    (hn : As.length = n) (hrest : (rest.map fun v => v.category).sum ≤ 8) (hdg : decode cc pc = .ok (.invokestatic index, 3))
    (hT : T As M (fun v M' => sp_W z G M0 Q nL (cs + rm.cells) (sl + rm.slots) (pc + 3) L (v.toList ++ rest) M')) (hst : st = As.reverse ++ rest) : sp_W z G M0 Q nL cs sl pc L st M := by
  obtain ⟨hx, hbc, hml, hown, hts, -, -, hE, hzl, hzr⟩ := hz
  subst hst
  subst hzl
  subst hzr
  simp only [sp_wSW, Bool.and_eq_true, decide_eq_true_eq] at hw
  obtain ⟨⟨⟨⟨⟨⟨w2, w3⟩, w4⟩, w5⟩, w6⟩, w8⟩, w9⟩ := hw
  replace w5 := sp_in_e w5
  replace w6 := sp_in_e w6
  replace w8 := sp_in_e w8
  replace w9 := sp_in_e w9
  simp only [sp_rm, Bool.and_eq_true, decide_eq_true_eq] at hR
  obtain ⟨⟨⟨r1, r2⟩, r3⟩, r4⟩ := hR
  intro H locs ls hl hP hA hS
  have hK : ∀ below, Back (sp_zl z) (sp_zr z) (sp_zp z) (sp_ze z) below (sp_zs z) (sp_za z) y 3 8 (PreOf (sp_zr z) rm.cells rm.slots (sp_Pc G M H.size As)) (PostOf (sp_Qc G M H.size _) rm.cells rm.slots (sp_A M H.size)) := fun below =>
    va_backW (hM As M H.size _ hT) (sp_blind G M H.size _) rfl rfl r1 r2 (fun w hw a' U hW => by
      rcases List.mem_cons.mp hw with e | hw
      · subst e; exact word_at hW (sp_TB_good _ w9) (hts _ w9)
      · exact word_at hW (sp_TB_good _ hw) (hts _ hw)) List.mem_cons_self (fun a' U hW => word_at hW (sp_TB_good _ w8) (hts _ w8))
  obtain ⟨mk, methM, cM, hnamed, hmethM, -, -, -, -, -, -, hsigM⟩ := Cond.codeWith_spec (hts _ w9)
  have hstatic : methM.isStatic = true := Cond.static_spec hnamed hmethM (hts _ w6)
  obtain ⟨kP, hkP, -⟩ := className_of_methodNamed hnamed
  have hinitP : kP.init = .initialized := Cond.initialized_spec (findClass_of_methodNamed hnamed) hkP (hts _ w8)
  have hlen : As.length = methM.sig.parameters.length := by
    rw [hsigM, Option.map_some, Option.some.injEq] at w4
    rw [hn, w4]
  refine sp_after (G := G) (mc := rm.cells) (ms := rm.slots) (Post := fun v M' => sp_W z G M0 Q nL (cs + rm.cells) (sl + rm.slots) (pc + 3) L (v.toList ++ rest) M') (ar := As.toArray) (rest := rest) (st0 := As.reverse ++ rest) hl hA hS (fun T0 hT0 X => ?_) (fun v M' h => h)
  obtain ⟨vm₁, X₁, hstep₁⟩ := X.invokestatic hx hown (hts _ w5) hnamed hmethM hstatic hkP hinitP ⟨w2, w3⟩ (g := F0 (sp_zm z) pc ls (As.reverse ++ rest)) rfl (argsL := As) (rest := rest) hlen rfl (by rw [hbc]; exact hdg)
  obtain ⟨v, ⟨U', l2, c2, s2⟩, X', ⟨g', mk', t, L2, e1, e2, hq, h1, hL, h2, h3⟩, hsteps⟩ := hK (sp_zb z) (sp_zm z) (sp_zh z) (sp_zc z) ⟨T0.setVm vm₁, locs, cs, sl⟩ (F0 (sp_zm z) pc ls rest) (.invokestatic index) mk As.toArray X₁ rfl (hl.1.trans hml.symm) (by rw [hbc]; exact hdg) (lv_room hrest) (X₁.named hnamed) ⟨r3, r4, rfl, by show T0.heap.size = _; rw [hT0], by show sp_P G M T0.heap; rw [hT0]; exact hP, by
      have h9 := (sp_E_at hE hA hS).warm (U := T0.setVm vm₁) X₁.warmed
      show sp_E G (sp_A M H.size) (T0.setVm vm₁) T0.heap
      rw [hT0]
      exact h9⟩
  dsimp only [Pt.U, Pt.locs, Pt.cells, Pt.slots] at X' e1 e2 h1 h2 h3 hsteps
  subst h1; subst h2; subst h3
  exact ⟨v, (T0.setVm vm₁).calling g' mk' As.toArray, t, U', L2, hT0, X', hL, e1, e2, hq, fun target h => hstep₁ _ fun acts => by rw [doInvoke_state]; exact hsteps.trans h⟩
theorem sp_rm_of {R0 rm : Room} {maxL cs sl : Nat} (h1 : rm.frames + 1 ≤ R0.frames) (h2 : 8 + (maxL + 11) + rm.locals ≤ R0.locals) (h3 : cs + rm.cells ≤ R0.cells) (h4 : sl + rm.slots ≤ R0.slots) : sp_rm R0 rm maxL cs sl = true := by
  unfold sp_rm
  rw [decide_eq_true h1, decide_eq_true h2, decide_eq_true h3, decide_eq_true h4]
  rfl
