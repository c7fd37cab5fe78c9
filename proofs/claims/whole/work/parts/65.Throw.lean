/-! Throwing: the walk's start told anew; an exception made and thrown. -/
section RB
variable {p : Program} {l : Launch} {e : Env} {R : Room} {s : State} {m : MethodId} {args : Array Value} {below : List Frame} {meth : Method} {c : Code} {T : State} {locs : List Loc} {cells slots : Nat}
theorem st_re (X : Stand p l e R s m args below meth c T locs cells slots) (hcl : cells ≤ R.cells) (hsl : slots ≤ R.slots) : Stand p l e { R with cells := R.cells - cells, slots := R.slots - slots } (T.setFrames (.invoking m args :: below)) m args below meth c T [] 0 0 := by
  obtain ⟨g₀, hg⟩ := X.frames_eq
  have hcur : T.cur < T.threads.size := State.cur_lt_of_frames hg
  obtain ⟨th, hth, -⟩ := State.frames_cons hg
  have hF : (T.setFrames (.invoking m args :: below)).frames = .invoking m args :: below := State.frames_setFrames _ hcur
  have hm' : (T.setFrames (.invoking m args :: below)).vm.method? m = some meth := X.method'
  have hak := Vm.Akin.of_alike X.warmed.alike
  have hmeth : ∀ mm : MethodId, (T.setFrames (.invoking m args :: below)).vm.method? mm = s.vm.method? mm := fun mm => hak.method? mm
  have hcode : ∀ mm : MethodId, (T.setFrames (.invoking m args :: below)).code? mm = s.code? mm := fun mm => by
    rw [State.code?_eq, State.code?_eq, hmeth]
  have hU : (T.setFrames (.invoking m args :: below)).localsInUse = s.localsInUse := by
    rw [State.localsInUse_invoking hF hm' X.code, State.localsInUse_invoking X.frames X.method X.code]
  have hroom : (T.setFrames (.invoking m args :: below)).hasRoom e.platform { R with cells := R.cells - cells, slots := R.slots - slots } = true := by
    have h := X.room
    have h1 := X.heapSize
    have h2 := X.used
    have h3 := X.book
    have h4 := X.limits
    have h5 := X.bytes
    simp only [State.hasRoom, Bool.and_eq_true, decide_eq_true_eq] at h ⊢
    rw [hU, hF, State.stackLimits_setFrames, State.stackBytes_setFrames, h4, h5]
    obtain ⟨⟨⟨⟨q1, q2⟩, q3⟩, q4⟩, q5⟩ := h
    rw [X.frames] at q2
    have e1 : (T.setFrames (.invoking m args :: below)).heap.size = T.heap.size := rfl
    have e2 : (T.setFrames (.invoking m args :: below)).slotsUsed = T.slotsUsed := rfl
    refine ⟨⟨⟨⟨q1, q2⟩, ?_⟩, ?_⟩, h3⟩
    · rw [e1]
      show _ + (R.cells - cells) ≤ _
      omega
    · rw [e2]
      show _ + (R.slots - slots) ≤ _
      omega
  have hhears : (T.setFrames (.invoking m args :: below)).hears m below = true := by
    have h := X.hears
    cases hb : below with
    | nil => rw [hb] at h hmeth; simp only [State.hears] at h ⊢; rw [hmeth]; exact h
    | cons f r =>
      rw [hb] at h hmeth hcode
      cases f <;> simp only [State.hears] at h ⊢ <;> first | (rw [hcode]; exact h) | (rw [hmeth]; exact h) | exact h
  have hsame : (T.setFrames (.invoking m args :: below)).sameButNew T [] 0 0 := by
    obtain ⟨th', hth', -⟩ := State.frames_cons hF
    have h := (State.sameButNew.refl (T.setFrames (.invoking m args :: below)) hth').setFrames T.frames (by exact State.cur_lt_of_frames hF)
    rw [State.setFrames_setFrames, State.setFrames_self hth] at h
    exact h
  exact ⟨X.admits, X.cas, X.clock, hF, hroom, hhears, hm', X.code, X.here, X.tail, State.WarmedH.refl _, (State.stackLimits_setFrames _ _ _).symm, (State.stackBytes_setFrames _ _).symm, hsame⟩
end RB

/-- the words of an exception's making that no table keeps -/
def sp_rfw (w : Cond) : Bool := match w with
  | .isRef _ => true
  | .laysStatic _ _ _ => true
  | .declares _ => true
  | .castable _ _ => true
  | _ => false
def sp_own (ic : Nat) (cls : String) : Bool := (Bundle.ownAtoms0 "SlabPantry" ic cls ["java/lang/RuntimeException", "java/lang/Exception"]).all (fun w => sp_rfw w || (decide (w ∈ lw_tbl) && goodWord w))
set_option maxRecDepth 100000 in
theorem own_IOB : sp_own 65 "java/lang/IndexOutOfBoundsException" = true := by decide +kernel
set_option maxRecDepth 100000 in
theorem own_IAE : sp_own 73 "java/lang/IllegalArgumentException" = true := by decide +kernel
theorem isRef_of {A : Nat → Prop} {U : State} {C n d : String} {args : Array Value} (h : va_Zq C n d A U U.heap) : (Cond.isRef (.static C n d)).before args U = true := by
  rcases h with ⟨cf, kf, fi, f, a, cell, h1, h2, h3, h4, h5, h6, h7, h8⟩ | ⟨t, cf, kf, fi, f, a, cell, h1, h2, h3, h4, h5, h6, h7, h8⟩
  · simp [Cond.before, Cond.holds, Cond.value, Term.eval, State.fieldNamed?, h1, h2, h4, h5, h6, h7]
  · simp [Cond.before, Cond.holds, Cond.value, Term.eval, State.fieldNamed?, h1, h2, h4, h5, h6, h7]
theorem lays_of {A : Nat → Prop} {U : State} {C n d : String} {args : Array Value} (h : ev_ls C n d A U U.heap) : (Cond.laysStatic C n d).before args U = true := by
  obtain ⟨c, kf, fi, f, a, cell, h0, h1, h2, h4, h5, h6, h7, h8, h9, h10⟩ := h
  simp [Cond.before, Cond.holds, Cond.value, h0, h1, h2, h4, h5, h6, h7, h8, h9]
theorem decl_of {U : State} {x : MethodName} {args : Array Value} {b : ByteArray} {m : Nat} {ret : Option FieldType} (hi : (Cond.instanceMethod x).before args U = true) (hc : (Cond.code x b m ret).before args U = true) : (Cond.declares x).before args U = true := by
  obtain ⟨r0, r, h1, h2, h3, h4⟩ := va_Decl.of hi hc
  simp [Cond.before, Cond.holds, Cond.value, h1, h2, h3, h4]
theorem cast_of {U : State} {C : String} {n : Nat} {args : Array Value} (h : (Cond.instantiable C n).before args U = true) : (Cond.castable C C).before args U = true := by
  obtain ⟨c, k, h1, h2, h3, -⟩ := Cond.instantiable_spec h
  have := va_assign (s := U) (C := C) ⟨h1, k, h2, h3⟩
  simp [Cond.before, Cond.holds, Cond.value, h1, this]
theorem sp_own_ok {ic : Nat} {cls : String} (h : sp_own ic cls = true) {args : Array Value} {s U : State} {G : sp_G} {A : Nat → Prop} (hts : ∀ w ∈ sp_TB, w.before args s = true) (hW : s.WarmedH U.vm) (hE : sp_E G A U U.heap) : ∀ w ∈ Bundle.ownAtoms0 "SlabPantry" ic cls ["java/lang/RuntimeException", "java/lang/Exception"], w.before args U = true := by
  have key : ∀ w ∈ Bundle.ownAtoms0 "SlabPantry" ic cls ["java/lang/RuntimeException", "java/lang/Exception"], sp_rfw w = false → w.before args U = true := by
    intro w hw hf
    have h1 := List.all_eq_true.mp h w hw
    rw [Bool.or_eq_true, hf] at h1
    rcases h1 with h1 | h1
    · cases h1
    rw [Bool.and_eq_true, decide_eq_true_eq] at h1
    have hw' : w ∈ sp_TB := List.mem_filter.mpr h1
    exact word_at hW (sp_TB_good _ hw') (hts w hw')
  have hr : ∀ w : Cond, w ∈ Bundle.throwableAtoms ++ Bundle.chain0Atoms cls ["java/lang/RuntimeException", "java/lang/Exception"] → w ∈ Bundle.ownAtoms0 "SlabPantry" ic cls ["java/lang/RuntimeException", "java/lang/Exception"] := fun w hw => List.mem_append_left _ hw
  have d1 : (Cond.declares (Bundle.init0 "java/lang/RuntimeException")).before args U = true := decl_of (key _ (hr _ (by simp [Bundle.chain0Atoms, Bundle.passAtoms])) rfl) (key (.code (Bundle.init0 "java/lang/RuntimeException") Bundle.five 1 none) (hr _ (by simp [Bundle.chain0Atoms, Bundle.passAtoms])) rfl)
  have d2 : (Cond.declares (Bundle.init0 "java/lang/Exception")).before args U = true := decl_of (key _ (hr _ (by simp [Bundle.chain0Atoms, Bundle.passAtoms])) rfl) (key (.code (Bundle.init0 "java/lang/Exception") Bundle.five 1 none) (hr _ (by simp [Bundle.chain0Atoms, Bundle.passAtoms])) rfl)
  have d3 : (Cond.declares (Bundle.init0 Bundle.tN)).before args U = true := decl_of (key _ (hr _ (by simp [Bundle.chain0Atoms, Bundle.passAtoms])) rfl) (key (.code Bundle.tInit0 LibCode.Throwable.Init0.code 1 none) (hr _ (by simp [Bundle.throwableAtoms])) rfl)
  have d4 : (Cond.castable cls cls).before args U = true := cast_of (key (.instantiable cls 6) (by simp [Bundle.ownAtoms0]) rfl)
  have d5 : (Cond.isRef (.static Bundle.tN "UNASSIGNED_STACK" Bundle.steD)).before args U = true := isRef_of hE.2.2.2.2.2.2.2.2.2.1
  have d6 : (Cond.isRef (.static Bundle.tN "SUPPRESSED_SENTINEL" Bundle.listD)).before args U = true := isRef_of hE.2.2.2.2.2.2.2.2.2.2.1
  have d7 : (Cond.laysStatic Bundle.tN "UNASSIGNED_STACK" Bundle.steD).before args U = true := lays_of hE.2.2.2.2.2.2.2.2.2.2.2.2.2.1
  have d8 : (Cond.laysStatic Bundle.tN "SUPPRESSED_SENTINEL" Bundle.listD).before args U = true := lays_of hE.2.2.2.2.2.2.2.2.2.2.2.2.2.2.1
  intro w hw
  cases hf : sp_rfw w with
  | false => exact key w hw hf
  | true =>
    simp only [Bundle.ownAtoms0, Bundle.throwableAtoms, Bundle.chain0Atoms, Bundle.passAtoms, List.mem_append, List.mem_cons, List.not_mem_nil, or_false] at hw
    rcases hw with ((hw | hw) | hw)
    · rcases hw with rfl | rfl | rfl | rfl | rfl | rfl | rfl | rfl | rfl | rfl | rfl | rfl | rfl | rfl | rfl | rfl | rfl | rfl | rfl | rfl | rfl | rfl | rfl | rfl <;> first | exact d7 | exact d8 | cases hf
    · rcases hw with (rfl | rfl | rfl | rfl | rfl) | (rfl | rfl | rfl | rfl | rfl) | (rfl | rfl | rfl | rfl | rfl) <;> first | exact d1 | exact d2 | exact d3 | cases hf
    · rcases hw with rfl | rfl | rfl | rfl | rfl | rfl | rfl | rfl | rfl | rfl | rfl | rfl | rfl | rfl <;> first | exact d4 | exact d5 | exact d6 | cases hf
/-- a call that ends with an exception: the world is as before -/
def sp_Qt (G : sp_G) (M : sp_M) (sz : Nat) (cls : String) (mc ms : Nat) (st : State) (o : Outcome) (t : State) : Prop := ∃ (x : Nat) (cell : Cell) (L : List Loc), o = .threw x ∧ t.heap[x]? = some cell ∧ cell.vm.isStatics = false ∧ st.vm.findClass cls = some cell.cls ∧ sp_P G M t.heap ∧ va_F (sp_A M sz) st t ∧ st.WarmedH t.vm ∧ st.sameButNew ({ t with vm := st.vm } : State) L mc ms ∧ ∀ q ∈ L, sp_A M sz q.base
def sp_MetT (l : Launch) (G : sp_G) (y : MethodName) (cc : ByteArray) (maxL : Nat) (ret : Option FieldType) (rm : Room) (cls : String) (T : List Value → sp_M → Prop) : Prop :=
  ∀ (av : List Value) (M : sp_M) (sz : Nat), T av M → MetFree l y (headSpec (Cond.code y cc maxL ret :: sp_TB) rm) (sp_Pc G M sz av) (fun _ _ _ _ _ => True) (fun _ st o t => sp_Qt G M sz cls rm.cells rm.slots st o t)
def sp_QT (z : sp_Z) (G : sp_G) (M0 : sp_M) (cls : String) (mc ms : Nat) : State → Prop := fun t => ∃ o, t.status = .running ∧ Ended t (sp_zb z) o ∧ sp_Qt G M0 (sp_zs z).heap.size cls mc ms (sp_zs z) o t
theorem sp_entryT {l : Launch} {G : sp_G} {y : MethodName} {cc : ByteArray} {maxL : Nat} {ret : Option FieldType} {rm : Room} {cls : String} {T : List Value → sp_M → Prop} (hy : plainName y.cls = true) (hav : ∀ av M, T av M → (lg_sl av).length ≤ maxL)
    (body : ∀ (z : sp_Z) (M : sp_M) (av : List Value), sp_C z l rm G M y.cls cc maxL ret → (sp_zc z).exceptionTable.isEmpty = true → T av M → sp_W z G M (sp_QT z G M cls rm.cells rm.slots) maxL 0 0 0 (lv_args 0 av) [] M) : sp_MetT l G y cc maxL ret rm cls T := by
  intro av M sz hT
  refine MetFree.of_bodyS (code := cc) (maxLocals := maxL) (ret := ret) hy ?_ ?_
  · intro args s m h hn
    obtain ⟨meth, c, h1, h2, h3, h4, h5, h6, -, -⟩ := Cond.code_spec hn (atoms_spec (ws := Cond.code y cc maxL ret :: sp_TB) h _ List.mem_cons_self)
    exact ⟨meth, c, h1, h2, h3, h4, h5, h6⟩
  · intro p e s m args below meth c s₁ B hml hP _
    have hh0 : s₁.heap = s.heap := by rw [B.state]; rfl
    obtain ⟨rfl, hsz, hP, hE⟩ := hP
    subst hsz
    have hl := lv_entry av (n := maxL) (hav av M hT)
    have hts := atoms_spec (ws := Cond.code y cc maxL ret :: sp_TB) B.pre
    have k7 := B.noHandlers (hts _ List.mem_cons_self)
    have w := body (p, l, e, rm, s, m, av.toArray, below, meth, c) M av ⟨B.exec, B.bytes, hml, findClass_of_methodNamed B.named, fun w hw => hts w (List.mem_cons_of_mem _ hw), B.returns, B.notSynchronized, hE, rfl, rfl⟩ k7 hT s.heap [] _ hl hP (fun q x hq => Or.inl (by rw [hq]; exact fun h => by cases h)) va_S.rf
    rw [← lg_entry_eq] at w
    obtain ⟨t, a1, o, b1, b2, b3⟩ := w s₁ hh0 (Stand.of_body B)
    exact ⟨t, o, a1, b1, b2, b3⟩
/-- the world of a call that ends with an exception -/
theorem sp_thr {z : sp_Z} {G : sp_G} {M0 : sp_M} {cc : ByteArray} {nL cs sl pc ix ic : Nat} {L : sp_L} {l : Launch} {R0 : Room} {ret : Option FieldType} {cls : String} {mc ms : Nat} (hz : sp_C z l R0 G M0 "SlabPantry" cc nL ret) (hh : (sp_zc z).exceptionTable.isEmpty = true) (htr : l.stackTraces = false)
    (how : sp_own ic cls = true) (hfit : Bundle.fit cls = true) (hw1 : Cond.classLink "SlabPantry" ix cls ∈ sp_TB) (hw2 : Cond.instantiable cls 6 ∈ sp_TB) (hw3 : Cond.initialized cls ∈ sp_TB)
    (hd0 : decode cc pc = .ok (.new ix, 3)) (hd3 : decode cc (pc + 3) = .ok (.dup, 1)) (hd4 : decode cc (pc + 4) = .ok (.invokespecial ic, 3)) (hd7 : decode cc (pc + 7) = .ok (.athrow, 1))
    (hR : cs + 1 ≤ R0.cells ∧ sl + 6 ≤ R0.slots ∧ 6 ≤ R0.frames ∧ 81 ≤ R0.locals) (hm : cs + 1 ≤ mc ∧ sl + 6 ≤ ms) : sp_W z G M0 (sp_QT z G M0 cls mc ms) nL cs sl pc L [] M0 := by
  obtain ⟨hx, hbc, hml, hown, hts, -, hlk, hE, hzl, hzr⟩ := hz
  subst hzl
  subst hzr
  obtain ⟨hR1, hR2, hR3, hR4⟩ := hR
  intro H locs ls hl hP hA hS T hT X
  subst hT
  have X' := st_re X (by omega) (by omega)
  have hWs : (sp_zs z).WarmedH (T.setFrames (.invoking (sp_zm z) (sp_za z) :: sp_zb z)).vm := X.warmed
  have hown' : (T.setFrames (.invoking (sp_zm z) (sp_za z) :: sp_zb z)).vm.findClass "SlabPantry" = some (sp_zm z).cls := by rw [hWs.alike.findClass]; exact hown
  have hE' : sp_E G (sp_A M0 T.heap.size) (T.setFrames (.invoking (sp_zm z) (sp_za z) :: sp_zb z)) (T.setFrames (.invoking (sp_zm z) (sp_za z) :: sp_zb z)).heap := (sp_E_at hE hA hS).warm hWs
  have hat := sp_own_ok how hts hWs hE'
  have wd : ∀ w ∈ sp_TB, w.before (sp_za z) (T.setFrames (.invoking (sp_zm z) (sp_za z) :: sp_zb z)) = true := fun w hw => word_at hWs (sp_TB_good _ hw) (hts w hw)
  have htr' : (sp_ze z).platform.stackTraces = false := by rw [X.admits.platform]; exact htr
  obtain ⟨vm₁, cX, kX, hfX, hkX, -, -, X₁, st1⟩ := X'.newCold hx (own := "SlabPantry") (C := cls) (index := ix) (n := 6) hown' (wd _ hw1) (wd _ hw2) (wd _ hw3)
    (g := F0 (sp_zm z) pc ls []) rfl (by rw [hbc]; exact hd0) (by show 0 + 1 ≤ (sp_zr z).cells - cs; omega) (by show 0 + 6 ≤ (sp_zr z).slots - sl; omega)
  generalize hT2 : (T.setVm vm₁).pushCell { cls := cX, slots := kX.instanceTypes.map defaultValue, vm := .none } = T2 at X₁ st1
  have hcellA : T2.heap[T.heap.size]? = some (freshCell cX kX) := by rw [← hT2]; exact State.heap_pushCell_size _ _
  obtain ⟨U, hsteps, hrun, hend, hW, hsame, ce, hce, K⟩ := X₁.ctorThrow0 hx htr' (own := "SlabPantry") (cls := cls) (names := ["java/lang/RuntimeException", "java/lang/Exception"]) (ic := ic) hown' hfit (by decide +kernel) hat (fun y hy => by cases hy) hfX hkX hcellA (Nat.le_refl _)
    (g := F0 (sp_zm z) (pc + 4) ls [.ref T.heap.size, .ref T.heap.size]) rfl (hl.1.trans hml.symm) rfl rfl (rest := []) rfl (by rw [hbc]; exact hd4) (by rw [hbc]; exact hd7) (covers_of_empty hh _) (by show 2 + 3 < (sp_zr z).frames; omega) (by show 2 * 0 + (1 + 0) + (13 * (2 + 1) + 41) ≤ (sp_zr z).locals; omega) hlk
  have hst : Steps (sp_zp z).tables (sp_ze z) (sp_zb z) (T.setTop (F0 (sp_zm z) pc ls [])) U := by
    refine st1 _ ?_
    show Steps _ _ _ (T2.setTop (F0 (sp_zm z) (pc + 3) ls [.ref T.heap.size])) _
    have hdd : decode (sp_zc z).code (pc + 3) = .ok (.dup, 1) := by rw [hbc]; exact hd3
    jvm_step X₁.here [X₁.here.top, hx, hdd, Value.category]
    exact hsteps
  refine ⟨U, hst, .threw T.heap.size, hrun, hend, T.heap.size, ce, locs, rfl, hce, by rw [K.vm]; rfl, ?_, ?_, ?_, ?_, ?_, hS.2.2⟩
  · rw [← hWs.alike.findClass]; exact K.cls
  · exact hP.kept (fun q x hq => by
      have hlt := hP.lt hq
      have : (T.setFrames (.invoking (sp_zm z) (sp_za z) :: sp_zb z)).heap[q]? = some T.heap[q] := Array.getElem?_eq_getElem hlt
      have h2 := hsame.old_cell this
      exact h2.trans this.symm)
  · refine ⟨Nat.le_trans hS.1 hsame.2.1, fun q h1 h2 => ?_⟩
    have hlt : q < T.heap.size := Nat.lt_of_lt_of_le h1 hS.1
    have : (T.setFrames (.invoking (sp_zm z) (sp_za z) :: sp_zb z)).heap[q]? = some T.heap[q] := Array.getElem?_eq_getElem hlt
    exact ((hsame.old_cell this).trans this.symm).trans (hS.2.1 q h1 h2)
  · exact State.WarmedH.trans X.warmed hW
  · have h2 : T.sameButNew ({ U with vm := T.vm } : State) [] (0 + 1) (0 + 6) := by
      obtain ⟨h1, h2⟩ := hsame
      rw [State.setFrames_setFrames] at h1
      exact ⟨h1, h2⟩
    have h3 := X.same.trans (h2.setVm (sp_zs z).vm)
    rw [List.append_nil] at h3
    exact h3.mono (by omega) (by omega)
