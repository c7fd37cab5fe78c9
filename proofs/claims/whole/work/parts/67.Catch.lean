/-! A call that throws, caught by the caller's own handler. -/
def fT (e : Env) (s : State) (f : JFrame) (a : Addr) (pc : Nat) (vm' : Vm) : Prop := ∀ (Q : Handler → Pre) (E : CtlPost) (d : Bool) (acts : List Action), wp (findHandler f a) Q E e d acts s ↔ Q (.found pc) d acts (s.setVm vm')
theorem fT_step {e : Env} {s : State} {a : Addr} {f : JFrame} {r : List Frame} {pc : Nat} {vm' : Vm} (h : fT e s f a pc vm') : (stepThrowing e s a (.java f :: r)).1 = (s.setVm vm').setFrames (.java { f with pc := pc, stack := [.ref a] } :: r) := by
  simp only [stepThrowing, searchFrame, vmDo]
  generalize hr : Sem.go _ e false [] s = res
  obtain ⟨as, rfl, ha⟩ := Sem.eq_ok_of hr (a := Handler.found pc) (s' := s.setVm vm') (acts' := []) (by simp [h _ _ _ _])
  rfl
theorem fT_steps {tb : Tables} {e : Env} {s target : State} {g : JFrame} {c : Code} {below : List Frame} {a : Addr} (h : At s g.method c below) {pc : Nat} {vm' : Vm}
    (hf : fT e ((s.setTop g).pushFrame (.throwing a)) g a pc vm') (hrest : Steps tb e below ((s.setVm vm').setTop { g with pc := pc, stack := [.ref a] }) target) : Steps tb e below ((s.setTop g).pushFrame (.throwing a)) target := by
  obtain ⟨hgo, hw⟩ := h.throwing a
  refine Steps.head hgo hw ?_
  rw [stepThread_throwing (frames_entered h.top _), fT_step hf]
  obtain ⟨g₀, hg⟩ := Option.isSome_iff_exists.mp h.top
  obtain ⟨r, hr⟩ := State.topJava?_eq_some.mp hg
  have hr' : (s.setVm vm').frames = .java g₀ :: r := hr
  rw [State.setTop_of_frames _ hr'] at hrest
  have e1 : ∀ (u : State) (F K : List Frame), ((u.setFrames F).setVm vm').setFrames K = (u.setVm vm').setFrames K := fun u F K => by
    have h1 : (u.setFrames F).setVm vm' = (u.setVm vm').setFrames F := rfl
    rw [h1, State.setFrames_setFrames]
  rw [hr, List.tail_cons, State.pushFrame, e1, State.setTop_of_frames _ hr, e1]
  exact hrest
section FH
variable {e : Env} {s : State} {f : JFrame} {a : Addr} {Q : Handler → Pre} {E : CtlPost} {d : Bool} {acts : List Action}
theorem fh_row {x : ExceptionTableEntry} {t : List ExceptionTableEntry} {c : ClassId} {cell : Cell} (hx : covers x f.pc = true) (h0 : x.catchType ≠ 0) (hl : s.vm.ClassLinks e.platform f.method.cls x.catchType c) (hcell : s.heap[a]? = some cell) (hobj : ∀ k, cell.vm ≠ .statics k)
    (hk : ∃ k, s.vm.classes[cell.cls]? = some k) (hc : ∃ k, s.vm.classes[c]? = some k) :
    wp (findHandler.go f a (x :: t)) Q E e d acts s ↔ if s.vm.assignable cell.cls c = true then Q (.found x.handlerPc) d acts (s.setVm (s.vm.noted f.method.cls x.catchType (.cls c))) else wp (findHandler.go f a t) Q E e d acts (s.setVm (s.vm.noted f.method.cls x.catchType (.cls c))) := by
  simp only [covers] at hx
  obtain ⟨ha, ht⟩ := (resolveClass_links e.toSetting hl).op (op := VmOp.resolveClass f.method.cls x.catchType) rfl
  have hal : s.vm.Alike (s.vm.noted f.method.cls x.catchType (.cls c)) := (Vm.Alike.refl s.vm).noted _ _ _
  obtain ⟨k1, hk1⟩ := hk
  obtain ⟨k2, hk2⟩ := hc
  obtain ⟨k1', hk1', -⟩ := hal.2.2 _ _ hk1
  obtain ⟨k2', hk2', -⟩ := hal.2.2 _ _ hk2
  have hfit' : (s.vm.noted f.method.cls x.catchType (.cls c)).assignable cell.cls c = s.vm.assignable cell.cls c := hal.assignable ..
  cases hf : s.vm.assignable cell.cls c <;> simp [findHandler.go, hx, h0, ha, ht, hcell, hobj, hk1', hk2', hfit', hf, VmOp.dirties, VmOp.acts]
end FH
/-- how the helper's table answers: the first row takes it, or lets it pass to the second -/
def sp_hnd (z : sp_Z) (cls : String) (pc hpc : Nat) : Prop := ∀ (S : State) (g : JFrame) (x : Nat) (cell : Cell), (sp_zs z).WarmedH S.vm → g.method = sp_zm z → g.pc = pc → S.vm.method? (sp_zm z) = some (sp_zh z) → S.heap[x]? = some cell → cell.vm.isStatics = false → (sp_zs z).vm.findClass cls = some cell.cls → (sp_ze z).platform.magicAccessors = ({} : Platform).magicAccessors → ∃ vm', (sp_zs z).WarmedH vm' ∧ fT (sp_ze z) S g x hpc vm'
theorem st_ne {c : Cell} (h : c.vm.isStatics = false) : ∀ k, c.vm ≠ .statics k := fun k e => by rw [e] at h; cases h
theorem sp_hnd1 {z : sp_Z} {cls own : String} {pc hpc a0 a1 ct : Nat} {rest : List (Nat × Nat × Nat × Nat)} {k6 : Nat} (hcode : (sp_zh z).code = some (sp_zc z)) (htab : (sp_zc z).exceptionTable.toList.map (fun h => (h.startPc, h.endPc, h.handlerPc, h.catchType)) = (a0, a1, hpc, ct) :: rest) (hown : (sp_zs z).vm.findClass own = some (sp_zm z).cls)
    (h1 : a0 ≤ pc ∧ pc < a1) (h0 : ct ≠ 0) (hl : (Cond.classLink own ct cls).before (sp_za z) (sp_zs z) = true) (hi : (Cond.instantiable cls k6).before (sp_za z) (sp_zs z) = true) : sp_hnd z cls pc hpc := by
  intro S g x cell hW hg hpc' hm hcell hobj hcls hpl
  obtain ⟨c', hc', hcl⟩ := Cond.classLink_spec hown hl (sp_ze z).platform hpl
  cases Option.some.inj (hcls.symm.trans hc')
  obtain ⟨c2, k2, q1, q2, q3, -⟩ := Cond.instantiable_spec hi
  cases Option.some.inj (q1.symm.trans hcls)
  obtain ⟨dk, _, _, kt, hd, _, _, _, _, hkt, _, hopen⟩ := hcl.here
  obtain ⟨x0, t0, ht, e1, e2⟩ : ∃ x0 t0, (sp_zc z).exceptionTable.toList = x0 :: t0 ∧ (x0.startPc, x0.endPc, x0.handlerPc, x0.catchType) = (a0, a1, hpc, ct) ∧ t0.map (fun h => (h.startPc, h.endPc, h.handlerPc, h.catchType)) = rest := by
    cases hh : (sp_zc z).exceptionTable.toList with
    | nil => rw [hh] at htab; cases htab
    | cons x0 t0 =>
      rw [hh, List.map_cons, List.cons.injEq] at htab
      exact ⟨x0, t0, rfl, htab.1, htab.2⟩
  simp only [Prod.mk.injEq] at e1
  obtain ⟨e3, e4, e5, e6⟩ := e1
  obtain ⟨k2', hk2', -⟩ := hW.alike.2.2 _ _ q2
  refine ⟨S.vm.noted (sp_zm z).cls ct (.cls cell.cls), hW.noted hd hopen (State.rightAt_cls hcl), fun Q E d acts => ?_⟩
  cases g
  dsimp only at hg hpc'
  subst hg
  rw [W.findHandler_eq hm hcode, ht, fh_row (c := cell.cls) (cell := cell) (by simp only [covers, e3, e4, hpc', h1.1, h1.2, decide_true, Bool.and_self]) (by rw [e6]; exact h0) (by rw [e6]; exact hW.classLinks hcl) hcell (st_ne hobj) ⟨k2', hk2'⟩ ⟨k2', hk2'⟩, if_pos (by rw [hW.alike.assignable]; exact va_assign (C := cls) ⟨hcls, k2, q2, q3⟩), e5, e6]
theorem sp_hnd2 {z : sp_Z} {cls cl1 own : String} {pc hpc h1p a0 a1 b0 b1 ct c1 : Nat} {rest : List (Nat × Nat × Nat × Nat)} {k6 k7 : Nat} (hcode : (sp_zh z).code = some (sp_zc z)) (htab : (sp_zc z).exceptionTable.toList.map (fun h => (h.startPc, h.endPc, h.handlerPc, h.catchType)) = (b0, b1, h1p, c1) :: (a0, a1, hpc, ct) :: rest) (hown : (sp_zs z).vm.findClass own = some (sp_zm z).cls)
    (h1 : a0 ≤ pc ∧ pc < a1) (h0 : ct ≠ 0) (g1 : b0 ≤ pc ∧ pc < b1) (g0 : c1 ≠ 0) (hl : (Cond.classLink own ct cls).before (sp_za z) (sp_zs z) = true) (hi : (Cond.instantiable cls k6).before (sp_za z) (sp_zs z) = true) (hl1 : (Cond.classLink own c1 cl1).before (sp_za z) (sp_zs z) = true) (hi1 : (Cond.instantiable cl1 k7).before (sp_za z) (sp_zs z) = true)
    (hno : ∃ c t : ClassId, (sp_zs z).vm.findClass cls = some c ∧ (sp_zs z).vm.findClass cl1 = some t ∧ (sp_zs z).vm.assignable c t = false) : sp_hnd z cls pc hpc := by
  intro S g x cell hW hg hpc' hm hcell hobj hcls hpl
  obtain ⟨c', hc', hcl⟩ := Cond.classLink_spec hown hl (sp_ze z).platform hpl
  cases Option.some.inj (hcls.symm.trans hc')
  obtain ⟨d', hd', hdl⟩ := Cond.classLink_spec hown hl1 (sp_ze z).platform hpl
  obtain ⟨n1, n2, hn1, hn2, hn3⟩ := hno
  cases Option.some.inj (hcls.symm.trans hn1)
  cases Option.some.inj (hd'.symm.trans hn2)
  obtain ⟨c2, k2, q1, q2, q3, -⟩ := Cond.instantiable_spec hi
  cases Option.some.inj (q1.symm.trans hcls)
  obtain ⟨c3, k3, r1, r2, r3, -⟩ := Cond.instantiable_spec hi1
  cases Option.some.inj (r1.symm.trans hd')
  obtain ⟨dk, _, _, kt, hd, _, _, _, _, hkt, _, hopen⟩ := hcl.here
  obtain ⟨dj, _, _, ku, hj, _, _, _, _, hku, _, hopen1⟩ := hdl.here
  obtain ⟨x0, y0, t0, ht, e1, e2⟩ : ∃ x0 y0 t0, (sp_zc z).exceptionTable.toList = x0 :: y0 :: t0 ∧ (x0.startPc, x0.endPc, x0.handlerPc, x0.catchType) = (b0, b1, h1p, c1) ∧ (y0.startPc, y0.endPc, y0.handlerPc, y0.catchType) = (a0, a1, hpc, ct) := by
    cases hh : (sp_zc z).exceptionTable.toList with
    | nil => rw [hh] at htab; cases htab
    | cons x0 t0 =>
      cases t0 with
      | nil => rw [hh] at htab; simp at htab
      | cons y0 t0 =>
        rw [hh, List.map_cons, List.map_cons, List.cons.injEq, List.cons.injEq] at htab
        exact ⟨x0, y0, t0, rfl, htab.1, htab.2.1⟩
  simp only [Prod.mk.injEq] at e1 e2
  obtain ⟨e3, e4, e5, e6⟩ := e1
  obtain ⟨f3, f4, f5, f6⟩ := e2
  obtain ⟨k2', hk2', -⟩ := hW.alike.2.2 _ _ q2
  obtain ⟨k3', hk3', -⟩ := hW.alike.2.2 _ _ r2
  have hW1 : (sp_zs z).WarmedH (S.setVm (S.vm.noted (sp_zm z).cls c1 (.cls d'))).vm := hW.noted hj hopen1 (State.rightAt_cls hdl)
  obtain ⟨k4, hk4, -⟩ := hW1.alike.2.2 _ _ q2
  refine ⟨(S.vm.noted (sp_zm z).cls c1 (.cls d')).noted (sp_zm z).cls ct (.cls cell.cls), hW1.noted hd hopen (State.rightAt_cls hcl), fun Q E d acts => ?_⟩
  cases g
  dsimp only at hg hpc'
  subst hg
  rw [W.findHandler_eq hm hcode, ht, fh_row (c := d') (cell := cell) (by simp only [covers, e3, e4, hpc', g1.1, g1.2, decide_true, Bool.and_self]) (by rw [e6]; exact g0) (by rw [e6]; exact hW.classLinks hdl) hcell (st_ne hobj) ⟨k2', hk2'⟩ ⟨k3', hk3'⟩, if_neg (by rw [hW.alike.assignable, hn3]; decide), e6]
  refine (fh_row (s := S.setVm (S.vm.noted (sp_zm z).cls c1 (Resolved.cls d'))) (c := cell.cls) (cell := cell) (by simp only [covers, f3, f4, hpc', h1.1, h1.2, decide_true, Bool.and_self]) (by rw [f6]; exact h0) (by rw [f6]; exact hW1.classLinks hcl) hcell (st_ne hobj) ⟨k4, hk4⟩ ⟨k4, hk4⟩).trans ?_
  rw [if_pos (by rw [hW1.alike.assignable]; exact va_assign (C := cls) ⟨hcls, k2, q2, q3⟩), f5, f6]
  exact Iff.rfl
theorem sp_callT {z : sp_Z} {G : sp_G} {M0 M : sp_M} {Q : State → Prop} {own : String} {cc cc' : ByteArray} {nL cs sl pc maxL n index : Nat} {L : sp_L} {st rest As : List Value} {l : Launch} {R0 rm : Room} {ret ret' : Option FieldType} {y : MethodName} {T : List Value → sp_M → Prop} {b : Nat} {cls : String}
    (hz : sp_C z l R0 G M0 own cc nL ret) (hM : sp_MetT l G y cc' maxL ret' rm cls T) {C : String} {TT : u_T} {N ci : Nat} {fs : List Value} (hci : classes[ci]? = some (C, TT, N)) {ps : List Nat} (hw : sp_wV own index C y cc' maxL ret' n ps = true) (hR : sp_rm R0 rm maxL cs sl = true)
    (hb : M b = some (.inr (ci, fs))) (hn : As.length = n) (hrest : (rest.map fun v => v.category).sum ≤ 8) (hdg : decode cc pc = .ok (.invokevirtual index, 3)) (hT : T (.ref b :: As) M) {hpc : Nat} (hH : sp_hnd z cls pc hpc)
    (kk : ∀ x, sp_W z G M0 Q nL (cs + rm.cells) (sl + rm.slots) hpc L [.ref x] M) (hst : st = As.reverse ++ .ref b :: rest) : sp_W z G M0 Q nL cs sl pc L st M := by
  obtain ⟨hx, hbc, hml, hown, hts, -, -, hE, hzl, hzr⟩ := hz
  subst hst
  subst hzl
  subst hzr
  simp only [sp_wV, Bool.and_eq_true, decide_eq_true_eq] at hw
  obtain ⟨⟨⟨⟨⟨⟨⟨⟨w1, w2⟩, w3⟩, w4⟩, w5⟩, w6⟩, w7⟩, w8⟩, w9⟩ := hw
  replace w5 := sp_in_e w5
  replace w6 := sp_in_e w6
  replace w7 := sp_in_e w7
  replace w8 := sp_in_e w8
  replace w9 := sp_in_e w9
  simp only [sp_rm, Bool.and_eq_true, decide_eq_true_eq] at hR
  obtain ⟨⟨⟨r1, r2⟩, r3⟩, r4⟩ := hR
  intro H locs ls hl hP hA hS T0 hT0 X
  subst hT0
  have hsize : ls.size = (sp_zc z).maxLocals := hl.1.trans hml.symm
  obtain ⟨cellB, hcB, hoB, hclB⟩ := va_recv (q0 := 0) (fs := fs) hE.K (hP.one hb) hci rfl
  obtain ⟨mk, methM, hnamed, hmethM, hstM, habM⟩ := Cond.instanceMethod_spec (hts _ w6)
  obtain ⟨methM', cM, hmethM', hcM, -, hlM, -, -, -, hsigM⟩ := Cond.code_spec hnamed (hts _ w9)
  cases hmethM.symm.trans hmethM'
  obtain ⟨c2, r2', m2, q1, q2, q3, q4, kP, hkP, hkPi⟩ := Cond.selects_spec (hts _ w7)
  cases hclB.symm.trans q1
  cases (State.methodFound?_of_named hnamed ⟨w2, w3⟩).symm.trans q2
  cases hnamed.symm.trans q3
  have hselP : selectMethod (sp_ze z).platform (sp_zs z).vm cellB.cls mk = .method mk := by rw [Launch.admits_selectMethod X.admits]; exact q4
  have hlen : As.length = methM.sig.parameters.length := by
    rw [hsigM, Option.map_some, Option.some.injEq] at w4
    rw [hn, w4]
  obtain ⟨vm₁, X₁, hstep₁⟩ := X.invokevirtual hx hown (hts _ w5) hnamed hmethM hstM hkP hkPi ⟨w2, w3⟩ (a := b) (cell := cellB) hcB
    (fun z h => by rw [h] at hoB; cases hoB) hselP hmethM habM hkP hkPi (g := F0 (sp_zm z) pc ls (As.reverse ++ .ref b :: rest)) rfl (argsL := As) (rest := rest) hlen rfl (by rw [hbc]; exact hdg)
  have hW1 : (sp_zs z).WarmedH (T0.setVm vm₁).vm := X₁.warmed
  have hn1 := X₁.named hnamed
  have pw : ∀ w ∈ (Cond.code y cc' maxL ret' :: sp_TB), w.before (Value.ref b :: As).toArray (T0.setVm vm₁) = true := fun w hw => by
    have h2 := sp_good w9 w hw
    exact word_at hW1 h2.2 (hts _ h2.1)
  obtain ⟨methY, cY, hmY, hcY, -, hlY, -⟩ := Cond.code_spec hn1 (pw _ List.mem_cons_self)
  obtain ⟨kY, hkY, -⟩ := className_of_methodNamed hn1
  have hiY : (Cond.initialized y.cls).before (Value.ref b :: As).toArray (T0.setVm vm₁) = true := by rw [w1]; exact word_at hW1 (sp_TB_good _ w8) (hts _ w8)
  have hinitY : kY.init = .initialized := Cond.initialized_spec (findClass_of_methodNamed hn1) hkY hiY
  have happ : (headSpec (Cond.code y cc' maxL ret' :: sp_TB) rm).appliesLoose y (sp_ze z).platform ((T0.setVm vm₁).calling (F0 (sp_zm z) pc ls rest) mk (Value.ref b :: As).toArray) = true :=
    Spec.appliesLoose_calling (g := F0 (sp_zm z) pc ls rest) X₁.here (by rw [hbc]; exact hdg) hn1 hkY hinitY (X₁.room_calling (g := F0 (sp_zm z) pc ls rest) (R' := rm) hsize hmY hcY r1 (by
      rw [hlY]
      show 2 * 0 + (rest.map fun v => v.category).sum + (maxL + 11) + rm.locals ≤ (sp_zr z).locals
      omega) r3 r4) (atoms_intro pw)
  obtain ⟨mid, hmid⟩ := X₁.here.above
  have hfr : ((T0.setVm vm₁).setTop (F0 (sp_zm z) pc ls rest)).frames = (.java (F0 (sp_zm z) pc ls rest) :: mid) ++ sp_zb z := by rw [State.frames_setTop' _ X₁.here.top, hmid]; rfl
  have hpc0 : sp_Pc G M T0.heap.size (.ref b :: As) (Value.ref b :: As).toArray ((T0.setVm vm₁).calling (F0 (sp_zm z) pc ls rest) mk (Value.ref b :: As).toArray) := sp_blind G M T0.heap.size _ _ _ _ _ ⟨rfl, rfl, hP, (sp_E_at hE hA hS).warm hW1⟩
  obtain ⟨o, s₂, hsteps, -, hend, hq⟩ := Steps.callFree (hM (.ref b :: As) M T0.heap.size hT) (sp_zp z) X.admits X.cas X.clock (acts := []) hfr happ hpc0 trivial
  obtain ⟨x, cell, L2, rfl, hcell, hobj, hcls, hP2, hF2, hW2, hsame, hL2⟩ := hq
  rw [State.frames_setTop' _ X₁.here.top, X₁.tail] at hend
  obtain ⟨T', X', hWT, hsT, ht⟩ := X₁.outOfThrown (g := F0 (sp_zm z) pc ls rest) rfl hend hW2 hsame
  have hheap : s₂.heap = T'.heap := by rw [ht, Stand.throwing_heap]
  have hcls' : (sp_zs z).vm.findClass cls = some cell.cls := by rw [← hW1.alike.findClass]; exact hcls
  obtain ⟨vm', hW', hf⟩ := hH ((T'.setTop (F0 (sp_zm z) pc ls rest)).pushFrame (.throwing x)) (F0 (sp_zm z) pc ls rest) x cell (by rw [Stand.throwing_vm]; exact X'.warmed) rfl rfl (by rw [Stand.throwing_vm]; exact X'.method') (by rw [← ht]; exact hcell) hobj hcls' (by rw [X.admits.platform])
  have hAA : ∀ q, sp_A M T0.heap.size q → sp_A M0 (sp_zs z).heap.size q := by
    intro q hq
    rcases hq with hq | hq
    · cases hm : M q with
      | none => exact absurd hm hq
      | some e => exact hA q e hm
    · exact Or.inr (Nat.le_trans hS.1 hq)
  have hz2 : T0.heap.size ≤ T'.heap.size := by rw [← hheap]; exact hF2.1
  obtain ⟨t2, a1, b1⟩ := kk x T'.heap (locs ++ L2) ls hl (by rw [← hheap]; exact hP2) hA ⟨Nat.le_trans hS.1 hz2, fun q h1 h2 => by
      rw [← hheap, hF2.2 q (Nat.lt_of_lt_of_le h1 hS.1) (fun w => h2 (hAA q w))]
      exact hS.2.1 q h1 h2, fun q hq => by
      rcases List.mem_append.mp hq with h | h
      · exact hS.2.2 q h
      · exact hAA _ (hL2 q h)⟩ (T'.setVm vm') rfl (X'.noted hW')
  refine ⟨t2, hstep₁ _ (fun acts => ?_), b1⟩
  have hs2 : Steps (sp_zp z).tables (sp_ze z) (sp_zb z) s₂ t2 := by
    rw [ht]
    exact fT_steps (c := sp_zc z) X'.here hf a1
  rw [doInvoke_state] at hsteps ⊢
  exact hsteps.trans hs2
