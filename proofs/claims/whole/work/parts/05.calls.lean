/-! contracts: what a method does, as a map from what shall hold behind it to what must hold before it -/
abbrev sp_T : Type := List Value → sp_M → (Option Value → sp_M → Prop) → Prop
def sp_Qc (G : sp_G) (M : sp_M) (sz : Nat) (Post : Option Value → sp_M → Prop) : Array Value → State → Outcome → State → Prop := fun _ st oc t => (∃ (v : Option Value) (M' : sp_M), oc = .returned v ∧ Post v M' ∧ sp_P G M' t.heap ∧ ∀ (q : Nat) (e : va_E), M' q = some e → sp_A M sz q) ∧ va_F (sp_A M sz) st t
def sp_Pc (G : sp_G) (M : sp_M) (sz : Nat) (av : List Value) : Array Value → State → Prop := va_Pc av (fun U => U.heap.size = sz ∧ sp_P G M U.heap ∧ sp_E G (sp_A M sz) U U.heap)
def sp_Met (l : Launch) (G : sp_G) (y : MethodName) (cc : ByteArray) (maxL : Nat) (ret : Option FieldType) (rm : Room) (T : sp_T) : Prop :=
  ∀ (av : List Value) (M : sp_M) (sz : Nat) (Post : Option Value → sp_M → Prop), T av M Post → Met l y (Cond.code y cc maxL ret :: sp_TB) rm (sp_Pc G M sz av) (sp_Qc G M sz Post) rm.cells rm.slots (sp_A M sz)
theorem sp_blind (G : sp_G) (M : sp_M) (sz : Nat) (av : List Value) : FrameBlind (sp_Pc G M sz av) := fun _ U _ _ q => by
  obtain ⟨q0, q1, q2, q3⟩ := q
  exact ⟨q0, q1, q2, q3.same (u := U) rfl⟩
def sp_Q (z : sp_Z) (G : sp_G) (M0 : sp_M) (Post : Option Value → sp_M → Prop) (mc ms : Nat) : State → Prop := MQ (sp_zb z) (sp_Qc G M0 (sp_zs z).heap.size Post) (sp_za z) (sp_zs z) mc ms (sp_A M0 (sp_zs z).heap.size)
/-- a method's entry -/
theorem sp_entry {l : Launch} {G : sp_G} {y : MethodName} {cc : ByteArray} {maxL : Nat} {ret : Option FieldType} {rm : Room} {T : sp_T} (hy : plainName y.cls = true) (hav : ∀ av M Post, T av M Post → (lg_sl av).length ≤ maxL)
    (body : ∀ (z : sp_Z) (M : sp_M) (av : List Value) (Post : Option Value → sp_M → Prop), sp_C z l rm G M y.cls cc maxL ret → (y.name = "<init>" → (sp_zh z).name = "<init>") → T av M Post → sp_W z G M (sp_Q z G M Post rm.cells rm.slots) maxL 0 0 0 (lv_args 0 av) [] M) : sp_Met l G y cc maxL ret rm T := by
  intro av M sz Post hT
  refine Met.ofW (cc := cc) (maxL := maxL) (ret := ret) hy rfl ?_
  intro p e s m args below meth c s₁ B hml hv
  obtain ⟨rfl, hsz, hP, hE⟩ := hv
  subst hsz
  have hl := lv_entry av (n := maxL) (hav av M Post hT)
  rw [lg_entry_eq]
  have hts := atoms_spec (ws := Cond.code y cc maxL ret :: sp_TB) B.pre
  refine body (p, l, e, rm, s, m, av.toArray, below, meth, c) M av Post ⟨B.exec, B.bytes, hml, findClass_of_methodNamed B.named, fun w hw => hts w (List.mem_cons_of_mem _ hw), B.returns, B.notSynchronized, hE, rfl, rfl⟩ (fun hn => ((name_of_methodNamed B.named B.method).1).trans hn) hT s.heap [] _ hl hP (fun q x hq => Or.inl (by rw [hq]; exact fun h => by cases h)) va_S.rf
section SPC
variable {z : sp_Z} {G : sp_G} {M0 M : sp_M} {Q : State → Prop} {own : String} {cc cc' : ByteArray} {nL cs sl pc maxL n index : Nat} {L : sp_L} {st rest As : List Value} {l : Launch} {R0 rm : Room} {ret ret' : Option FieldType} {y : MethodName} {T : sp_T} {b : Nat}
theorem sp_E_at {H : Heap} {locs : List Loc} (hE : sp_E G (sp_A M0 (sp_zs z).heap.size) (sp_zs z) (sp_zs z).heap) (hA : ∀ (q : Nat) (e : va_E), M q = some e → sp_A M0 (sp_zs z).heap.size q) (hS : va_S (sp_A M0 (sp_zs z).heap.size) (sp_zs z).heap H locs) : sp_E G (sp_A M H.size) (sp_zs z) H := by
  refine (hE.kept hS.2.1).narrow (fun q hq => ?_)
  rcases hq with hq | hq
  · cases hm : M q with
    | none => exact absurd hm hq
    | some e => exact hA q e hm
  · exact Or.inr (Nat.le_trans hS.1 hq)
/-- behind a call -/
theorem sp_after {H : Heap} {locs : List Loc} {ls : Array Slot} {st0 : List Value} {mc ms : Nat} {ar : Array Value} {Post : Option Value → sp_M → Prop} (hl : lv_has ls nL L) (hA : ∀ (q : Nat) (e : va_E), M q = some e → sp_A M0 (sp_zs z).heap.size q) (hS : va_S (sp_A M0 (sp_zs z).heap.size) (sp_zs z).heap H locs)
    (hr : va_Run (sp_zp z) (sp_zl z) (sp_ze z) (sp_zr z) (sp_zs z) (sp_zm z) (sp_za z) (sp_zb z) (sp_zh z) (sp_zc z) H locs cs sl mc ms (F0 (sp_zm z) pc ls st0) rest (sp_Qc G M H.size Post ar) (sp_A M H.size))
    (kk : ∀ v M', Post v M' → sp_W z G M0 Q nL (cs + mc) (sl + ms) (pc + 3) L (v.toList ++ rest) M') : W (sp_zp z) (sp_zl z) (sp_ze z) (sp_zr z) (sp_zs z) (sp_zm z) (sp_za z) (sp_zb z) (sp_zh z) (sp_zc z) H locs cs sl Q (F0 (sp_zm z) pc ls st0) := by
  have hAA : ∀ q, sp_A M H.size q → sp_A M0 (sp_zs z).heap.size q := by
    intro q hq
    rcases hq with hq | hq
    · cases hm : M q with
      | none => exact absurd hm hq
      | some e => exact hA q e hm
    · exact Or.inr (Nat.le_trans hS.1 hq)
  intro T hT X
  obtain ⟨v, st₀, t, T', L2, h0, X', hL, e1, e2, ⟨⟨v2, M', hv, hp, hP', hA'⟩, hz, hk⟩, st⟩ := hr T hT X
  cases hv
  rw [h0] at hz hk
  have e1' : t.heap = T'.heap := e1.symm
  rw [e1'] at hP' hz hk
  obtain ⟨t2, a1, b1⟩ := kk v M' hp T'.heap (locs ++ L2) ls hl hP' (fun q e hq => hAA q (hA' q e hq))
    ⟨Nat.le_trans hS.1 hz, fun q h1 h2 => by rw [hk q (Nat.lt_of_lt_of_le h1 hS.1) (fun w => h2 (hAA q w))]; exact hS.2.1 q h1 h2, fun q hq => by
      rcases List.mem_append.mp hq with h | h
      · exact hS.2.2 q h
      · exact hAA _ (hL q h)⟩ T' rfl X'
  exact ⟨t2, st t2 a1, b1⟩
theorem sp_good (h : Cond.code y cc' maxL ret' ∈ sp_TB) : GoodIn sp_TB (Cond.code y cc' maxL ret' :: sp_TB) := fun w hw => by
  rcases List.mem_cons.mp hw with e | hw
  · subst e; exact ⟨h, sp_TB_good _ h⟩
  · exact ⟨hw, sp_TB_good _ hw⟩
/-- the words that a call of an object's method needs -/
def sp_wV (own : String) (index : Nat) (C : String) (y : MethodName) (cc' : ByteArray) (maxL : Nat) (ret' : Option FieldType) (n : Nat) (ps : List Nat) : Bool :=
  decide (y.cls = C) && decide (y.cls ≠ "java/lang/invoke/MethodHandle") && decide (y.cls ≠ "java/lang/invoke/VarHandle") && decide ((parseMethodDescriptor y.desc).map (fun d => d.parameters.length) = some n) && sp_in (ps.getD 0 0) (Cond.methodLink own index y) && sp_in (ps.getD 1 0) (Cond.instanceMethod y) && sp_in (ps.getD 2 0) (Cond.selects C y y) && sp_in (ps.getD 3 0) (Cond.initialized C) && sp_in (ps.getD 4 0) (Cond.code y cc' maxL ret')
def sp_rm (R0 rm : Room) (maxL cs sl : Nat) : Bool := decide (rm.frames + 1 ≤ R0.frames) && decide (8 + (maxL + 11) + rm.locals ≤ R0.locals) && decide (cs + rm.cells ≤ R0.cells) && decide (sl + rm.slots ≤ R0.slots)
theorem sp_callV (hz : sp_C z l R0 G M0 own cc nL ret) (hM : sp_Met l G y cc' maxL ret' rm T) {C : String} {TT : u_T} {N ci : Nat} {fs : List Value} (hci : classes[ci]? = some (C, TT, N)) {ps : List Nat} (hw : sp_wV own index C y cc' maxL ret' n ps = true) (hR : sp_rm R0 rm maxL cs sl = true)
    (hb : M b = some (.inr (ci, fs))) (hn : As.length = n) (hrest : (rest.map fun v => v.category).sum ≤ 8) (hdg : decode cc pc = .ok (.invokevirtual index, 3))
    (hT : T (.ref b :: As) M (fun v M' => sp_W z G M0 Q nL (cs + rm.cells) (sl + rm.slots) (pc + 3) L (v.toList ++ rest) M')) (hst : st = As.reverse ++ .ref b :: rest) : sp_W z G M0 Q nL cs sl pc L st M := by
  obtain ⟨hx, hbc, hml, hown, hts, -, -, hE, hzl, hzr⟩ := hz
  subst hst
  subst hzl
  subst hzr
  simp only [sp_wV, Bool.and_eq_true, decide_eq_true_eq] at hw
  obtain ⟨⟨⟨⟨⟨⟨⟨⟨w1, w2⟩, w3⟩, w4⟩, w5⟩, w6⟩, w7⟩, w8⟩, w9⟩ := hw
  replace w5 := sp_in_e w5
  replace w6 := sp_in_e w6
  replace w7 := sp_in_e w7
  replace w8 := sp_in_e w8
  replace w9 := sp_in_e w9
  simp only [sp_rm, Bool.and_eq_true, decide_eq_true_eq] at hR
  obtain ⟨⟨⟨r1, r2⟩, r3⟩, r4⟩ := hR
  intro H locs ls hl hP hA hS
  have hgood : GoodIn sp_TB (wsV own index C y (Cond.code y cc' maxL ret' :: sp_TB)) := fun w hw => by
    unfold wsV at hw
    rcases List.mem_append.mp hw with hw | hw
    · have : w ∈ sp_TB := by
        simp only [List.mem_cons, List.not_mem_nil, or_false] at hw
        rcases hw with rfl | rfl | rfl | rfl
        · exact w5
        · exact w6
        · exact w7
        · exact w8
      exact ⟨this, sp_TB_good _ this⟩
    · exact sp_good w9 w hw
  have cw := cwV (R := sp_zr z) (s := sp_zs z) (args := sp_za z) (mc := rm.cells) (ms := rm.slots) n hts hgood rfl rfl rfl ⟨w1, w2, w3, w4⟩ ⟨r1, r2⟩
  have hpre : PreV (sp_zs z) H C b (sp_Pc G M H.size (.ref b :: As)) As := ⟨sp_blind G M H.size _, va_recv (q0 := 0) (fs := fs) hE.K (hP.one hb) hci rfl, fun U hU hW => ⟨rfl, by rw [hU], by rw [hU]; exact hP, by rw [hU]; exact (sp_E_at hE hA hS).warm hW⟩⟩
  exact sp_after hl hA hS (va_runV (nL := nL) ⟨hx, hbc, hml, hown, hts⟩ (hM (.ref b :: As) M H.size _ hT) cw hpre rfl hn hl.1 rfl (lv_room hrest) hdg ⟨r3, r4⟩) (fun v M' h => h)
def sp_wS (own : String) (index : Nat) (y : MethodName) (cc' : ByteArray) (maxL : Nat) (ret' : Option FieldType) (n : Nat) (ps : List Nat) : Bool :=
  decide (y.cls ≠ "java/lang/invoke/MethodHandle") && decide (y.cls ≠ "java/lang/invoke/VarHandle") && decide ((parseMethodDescriptor y.desc).map (fun d => d.parameters.length) = some n) && sp_in (ps.getD 0 0) (Cond.methodLink own index y) && sp_in (ps.getD 1 0) (Cond.static y) && sp_in (ps.getD 2 0) (Cond.initialized y.cls) && sp_in (ps.getD 3 0) (Cond.code y cc' maxL ret')
theorem sp_callS (hz : sp_C z l R0 G M0 own cc nL ret) (hM : sp_Met l G y cc' maxL ret' rm T) {ps : List Nat} (hw : sp_wS own index y cc' maxL ret' n ps = true) (hR : sp_rm R0 rm maxL cs sl = true)
    (hn : As.length = n) (hrest : (rest.map fun v => v.category).sum ≤ 8) (hdg : decode cc pc = .ok (.invokestatic index, 3))
    (hT : T As M (fun v M' => sp_W z G M0 Q nL (cs + rm.cells) (sl + rm.slots) (pc + 3) L (v.toList ++ rest) M')) (hst : st = As.reverse ++ rest) : sp_W z G M0 Q nL cs sl pc L st M := by
  obtain ⟨hx, hbc, hml, hown, hts, -, -, hE, hzl, hzr⟩ := hz
  subst hst
  subst hzl
  subst hzr
  simp only [sp_wS, Bool.and_eq_true, decide_eq_true_eq] at hw
  obtain ⟨⟨⟨⟨⟨⟨w2, w3⟩, w4⟩, w5⟩, w6⟩, w8⟩, w9⟩ := hw
  replace w5 := sp_in_e w5
  replace w6 := sp_in_e w6
  replace w8 := sp_in_e w8
  replace w9 := sp_in_e w9
  simp only [sp_rm, Bool.and_eq_true, decide_eq_true_eq] at hR
  obtain ⟨⟨⟨r1, r2⟩, r3⟩, r4⟩ := hR
  intro H locs ls hl hP hA hS
  have hgood : GoodIn sp_TB (va_wsS own index y (Cond.code y cc' maxL ret' :: sp_TB)) := fun w hw => by
    unfold va_wsS at hw
    rcases List.mem_append.mp hw with hw | hw
    · have : w ∈ sp_TB := by
        simp only [List.mem_cons, List.not_mem_nil, or_false] at hw
        rcases hw with rfl | rfl | rfl
        · exact w5
        · exact w6
        · exact w8
      exact ⟨this, sp_TB_good _ this⟩
    · exact sp_good w9 w hw
  have cw := va_cwS (R := sp_zr z) (s := sp_zs z) (args := sp_za z) (mc := rm.cells) (ms := rm.slots) n hts hgood rfl rfl rfl ⟨w2, w3, w4⟩ ⟨r1, r2⟩
  have hpre : PreS (sp_zs z) H (sp_Pc G M H.size As) As := ⟨sp_blind G M H.size _, fun U hU hW => ⟨rfl, by rw [hU], by rw [hU]; exact hP, by rw [hU]; exact (sp_E_at hE hA hS).warm hW⟩⟩
  exact sp_after hl hA hS (va_runS (nL := nL) ⟨hx, hbc, hml, hown, hts⟩ (hM As M H.size _ hT) cw hpre rfl hn hl.1 rfl (lv_room hrest) hdg ⟨r3, r4⟩) (fun v M' h => h)
def sp_wI (own : String) (index : Nat) (y : MethodName) (cc' : ByteArray) (maxL : Nat) (n : Nat) (ps : List Nat) : Bool :=
  decide (y.name = "<init>") && decide (y.cls ≠ "java/lang/invoke/MethodHandle") && decide (y.cls ≠ "java/lang/invoke/VarHandle") && decide ((parseMethodDescriptor y.desc).map (fun d => d.parameters.length) = some n) && sp_in (ps.getD 0 0) (Cond.methodLink own index y) && sp_in (ps.getD 1 0) (Cond.instanceMethod y) && sp_in (ps.getD 2 0) (Cond.initialized y.cls) && sp_in (ps.getD 3 0) (Cond.code y cc' maxL none)
theorem sp_callI (hz : sp_C z l R0 G M0 own cc nL ret) (hM : sp_Met l G y cc' maxL none rm T) {ps : List Nat} (hw : sp_wI own index y cc' maxL n ps = true) (hR : sp_rm R0 rm maxL cs sl = true)
    (hn : As.length = n) (hrest : (rest.map fun v => v.category).sum ≤ 8) (hdg : decode cc pc = .ok (.invokespecial index, 3))
    (hT : T (.ref b :: As) M (fun v M' => sp_W z G M0 Q nL (cs + rm.cells) (sl + rm.slots) (pc + 3) L (v.toList ++ rest) M')) (hst : st = As.reverse ++ .ref b :: rest) : sp_W z G M0 Q nL cs sl pc L st M := by
  obtain ⟨hx, hbc, hml, hown, hts, -, -, hE, hzl, hzr⟩ := hz
  subst hst
  subst hzl
  subst hzr
  simp only [sp_wI, Bool.and_eq_true, decide_eq_true_eq] at hw
  obtain ⟨⟨⟨⟨⟨⟨⟨w1, w2⟩, w3⟩, w4⟩, w5⟩, w6⟩, w8⟩, w9⟩ := hw
  replace w5 := sp_in_e w5
  replace w6 := sp_in_e w6
  replace w8 := sp_in_e w8
  replace w9 := sp_in_e w9
  simp only [sp_rm, Bool.and_eq_true, decide_eq_true_eq] at hR
  obtain ⟨⟨⟨r1, r2⟩, r3⟩, r4⟩ := hR
  intro H locs ls hl hP hA hS
  have cw := cwI (R := sp_zr z) (s := sp_zs z) (args := sp_za z) (mc := rm.cells) (ms := rm.slots) (own := own) (index := index) n hts (sp_good w9) rfl rfl rfl (hts _ w8) (hts _ w5) (hts _ w6) w1 ⟨w2, w3, w4⟩ ⟨r1, r2⟩
  have hpre : PreS (sp_zs z) H (sp_Pc G M H.size (.ref b :: As)) (.ref b :: As) := ⟨sp_blind G M H.size _, fun U hU hW => ⟨rfl, by rw [hU], by rw [hU]; exact hP, by rw [hU]; exact (sp_E_at hE hA hS).warm hW⟩⟩
  exact sp_after hl hA hS (va_runI (nL := nL) ⟨hx, hbc, hml, hown, hts⟩ (hM (.ref b :: As) M H.size _ hT) cw hpre rfl hn hl.1 rfl (lv_room hrest) hdg ⟨r3, r4⟩) (fun v M' h => h)
-- returns
theorem sp_qc {Post : Option Value → sp_M → Prop} {v : Option Value} {H : Heap} {locs : List Loc} (hP : sp_P G M H) (hA : ∀ (q : Nat) (e : va_E), M q = some e → sp_A M0 (sp_zs z).heap.size q) (hS : va_S (sp_A M0 (sp_zs z).heap.size) (sp_zs z).heap H locs) (hp : Post v M) : ∀ t : State, t.heap = H → (sp_zs z).WarmedH t.vm → sp_Qc G M0 (sp_zs z).heap.size Post (sp_za z) (sp_zs z) (.returned v) t :=
  fun _ ht _ => ⟨⟨v, M, rfl, hp, by rw [ht]; exact hP, hA⟩, hS.F ht⟩
theorem sp_iret {Post : Option Value → sp_M → Prop} {mc ms : Nat} (hz : sp_C z l R0 G M0 own cc nL (some .int)) (hdg : decode cc pc = .ok (.ireturn, 1)) {v : Int32} (hc : cs ≤ mc) (hs : sl ≤ ms) (hp : Post (some (.int v)) M) : sp_W z G M0 (sp_Q z G M0 Post mc ms) nL cs sl pc L [.int v] M := by
  obtain ⟨hx, hbc, -, -, -, hr, hlk, -⟩ := hz
  intro H locs ls hl hP hA hS
  exact W.widen hc hs (W.iret hx hbc hr (sp_qc hP hA hS hp) hS.2.2 hdg hlk)
theorem sp_zret {Post : Option Value → sp_M → Prop} {mc ms : Nat} {ty : FieldType} (hz : sp_C z l R0 G M0 own cc nL (some ty)) (hdg : decode cc pc = .ok (.ireturn, 1)) {v : Int32} (hn : narrow ty (.int v) = .int v) (hc : cs ≤ mc) (hs : sl ≤ ms) (hp : Post (some (.int v)) M) : sp_W z G M0 (sp_Q z G M0 Post mc ms) nL cs sl pc L [.int v] M := by
  obtain ⟨hx, hbc, -, -, -, hr, hlk, -⟩ := hz
  intro H locs ls hl hP hA hS
  exact W.widen hc hs (W.zret hx hbc hr hn (sp_qc hP hA hS hp) hS.2.2 hdg hlk)
theorem sp_vret {Post : Option Value → sp_M → Prop} {mc ms : Nat} (hz : sp_C z l R0 G M0 own cc nL none) (hdg : decode cc pc = .ok (.return_, 1)) (hc : cs ≤ mc) (hs : sl ≤ ms) (hp : Post none M) : sp_W z G M0 (sp_Q z G M0 Post mc ms) nL cs sl pc L [] M := by
  obtain ⟨hx, hbc, -, -, -, hr, hlk, -⟩ := hz
  intro H locs ls hl hP hA hS
  exact W.widen hc hs (W.vret hx hbc hr (sp_qc hP hA hS hp) hS.2.2 hdg hlk)
theorem sp_lret {Post : Option Value → sp_M → Prop} {mc ms : Nat} (hz : sp_C z l R0 G M0 own cc nL (some .long)) (hdg : decode cc pc = .ok (.lreturn, 1)) {v : Int64} (hc : cs ≤ mc) (hs : sl ≤ ms) (hp : Post (some (.long v)) M) : sp_W z G M0 (sp_Q z G M0 Post mc ms) nL cs sl pc L [.long v] M := by
  obtain ⟨hx, hbc, -, -, -, hr, hlk, -⟩ := hz
  intro H locs ls hl hP hA hS
  exact W.widen hc hs (W.lret hx hbc hr (sp_qc hP hA hS hp) hS.2.2 hdg hlk)
theorem sp_aret {Post : Option Value → sp_M → Prop} {mc ms : Nat} {C : String} {r : Option Nat} (hz : sp_C z l R0 G M0 own cc nL (some (.object C))) (hdg : decode cc pc = .ok (.areturn, 1)) (hc : cs ≤ mc) (hs : sl ≤ ms) (hp : Post (some (va_rf r)) M) : sp_W z G M0 (sp_Q z G M0 Post mc ms) nL cs sl pc L [va_rf r] M := by
  obtain ⟨hx, hbc, -, -, -, hr, hlk, -⟩ := hz
  intro H locs ls hl hP hA hS
  exact W.widen hc hs (W.aret hx hbc hr (Or.inl ⟨_, rfl⟩) (va_rf_or r) (sp_qc hP hA hS hp) hS.2.2 hdg hlk)
end SPC
section SPN
variable {z : sp_Z} {G : sp_G} {M0 M : sp_M} {Q : State → Prop} {own : String} {cc : ByteArray} {nL cs sl pc index : Nat} {L : sp_L} {st rest : List Value} {l : Launch} {R0 : Room} {ret : Option FieldType}
theorem sp_fresh {H : Heap} (hP : sp_P G M H) : M H.size = none := by
  cases h : M H.size with
  | none => rfl
  | some e => exact absurd (hP.lt h) (Nat.lt_irrefl _)
def sp_wN (own : String) (index : Nat) (C : String) (N : Nat) (ps : List Nat) : Bool := sp_in (ps.getD 0 0) (Cond.classLink own index C) && sp_in (ps.getD 1 0) (Cond.instantiable C N) && sp_in (ps.getD 2 0) (Cond.initialized C)
theorem sp_new (hz : sp_C z l R0 G M0 own cc nL ret) {C : String} {T : u_T} {N ci : Nat} {fs : List Value} (hc : classes[ci]? = some (C, T, N)) {ps : List Nat} (hw : sp_wN own index C N ps = true) (hfs : ∀ j, j < N → defaultValue ((parseFieldDescriptor (T j).2.2.1).getD .int) = vp_V fs j) (hcs : cs + 1 ≤ R0.cells) (hsl : sl + N ≤ R0.slots) (hdg : decode cc pc = .ok (.new index, 3))
    (kk : ∀ q, M q = none → sp_W z G M0 Q nL (cs + 1) (sl + N) (pc + 3) L (.ref q :: st) (sp_u M q (.inr (ci, fs)))) : sp_W z G M0 Q nL cs sl pc L st M := by
  obtain ⟨hx, hbc, hml, hown, hts, -, -, hE, hzl, hzr⟩ := hz
  subst hzl
  subst hzr
  simp only [sp_wN, Bool.and_eq_true, decide_eq_true_eq] at hw
  obtain ⟨⟨w1, w2⟩, w3⟩ := hw
  replace w1 := sp_in_e w1
  replace w2 := sp_in_e w2
  replace w3 := sp_in_e w3
  intro H locs ls hl hP hA hS
  have hKn := hE.K.1 ci _ hc
  refine W.newcK hx hbc hown (hts _ w1) (hts _ w2) (hts _ w3) rfl hdg hcs hsl hKn.2.1 rfl fun H1 kC hkC e1 z1 o1 => ?_
  exact kk H.size (sp_fresh hP) H1 locs ls hl (hP.push ⟨_, hc, (u_born (fun j => (parseFieldDescriptor (T j).2.2.1).getD .int) hts (sp_cl_ws hc) hKn hkC e1 (fun j hj => sp_cl_ty hc j hj)).to hfs⟩ (Nat.le_refl _) o1) (sp_A_u hA (Or.inr hS.1)) ⟨Nat.le_trans hS.1 (by omega), fun x h1 h2 => (o1 x (Nat.lt_of_lt_of_le h1 hS.1)).trans (hS.2.1 x h1 h2), hS.2.2⟩
def sp_wO (own : String) (index : Nat) (ps : List Nat) : Bool := sp_in (ps.getD 0 0) (Cond.methodLink own index Lib.objectInit) && sp_in (ps.getD 1 0) (Cond.instanceMethod Lib.objectInit) && sp_in (ps.getD 2 0) (Cond.code Lib.objectInit ⟨#[0xb1]⟩ 1 none)
theorem sp_objI (hz : sp_C z l R0 G M0 own cc nL ret) {a : Nat} {ps : List Nat} (hw : sp_wO own index ps = true) (hf : 1 ≤ R0.frames) (hlo : (rest.map fun v => v.category).sum + 12 ≤ R0.locals) (hdg : decode cc pc = .ok (.invokespecial index, 3))
    (kk : sp_W z G M0 Q nL cs sl (pc + 3) L rest M) : sp_W z G M0 Q nL cs sl pc L (.ref a :: rest) M := by
  obtain ⟨hx, hbc, hml, hown, hts, -, -, hE, hzl, hzr⟩ := hz
  subst hzl
  subst hzr
  simp only [sp_wO, Bool.and_eq_true, decide_eq_true_eq] at hw
  obtain ⟨⟨w1, w2⟩, w3⟩ := hw
  replace w1 := sp_in_e w1
  replace w2 := sp_in_e w2
  replace w3 := sp_in_e w3
  intro H locs ls hl hP hA hS
  refine W.objInit hx hbc hown (hts _ w1) (hts _ w2) (hts _ w3) rfl (by rw [hml]; exact hl.1) rfl hdg hf (by show 2 * 0 + _ + 12 ≤ _; omega) ?_
  exact kk H locs ls hl hP hA hS
theorem sp_newa (hz : sp_C z l R0 G M0 own cc nL ret) {atype : ArrayType} {ty : FieldType} {num N' : Nat} {a0 : vp_A} (hty : newarray.typeOf atype = ty) (hw : Cond.arrayClass ty ∈ sp_TB) (hnum : (sp_tys G)[num]? = some (G.2.1 num, ty)) (hRA : ∀ U, va_RA U (G.2.1 num) ty = (U.vm.findClass ("[" ++ ty.toString) = some (G.2.1 num))) (ha : ∀ cA : ClassId, vp_cell cA a0 = arrV cA N' (fun _ => defaultValue ty))
    {n : Int32} (hn : ¬ n < 0) (hN : n.toNatClampNeg = N') (hbytes : N' * componentBytes ty ≤ 536870912) (hcs : cs + 1 ≤ R0.cells) (hsl : sl + N' ≤ R0.slots) (hdg : decode cc pc = .ok (.newarray atype, 2))
    (kk : ∀ q, M q = none → sp_W z G M0 Q nL (cs + 1) (sl + N') (pc + 2) L (.ref q :: rest) (sp_u M q (.inl (G.2.1 num, a0)))) : sp_W z G M0 Q nL cs sl pc L (.int n :: rest) M := by
  obtain ⟨hx, hbc, hml, hown, hts, -, -, hE, hzl, hzr⟩ := hz
  subst hzl
  subst hzr
  subst hty
  intro H locs ls hl hP hA hS
  refine va_newaK hx hbc (hts _ hw) rfl hdg rfl hn hN hbytes hcs hsl rfl fun H1 cA e1 z1 o1 hAr hNm => ?_
  have hRA' := (hE.K.2 num _ hnum).2
  rw [hRA] at hRA'
  have hcA : cA = G.2.1 num := Option.some.inj (hNm.symm.trans hRA')
  subst hcA
  refine kk H.size (sp_fresh hP) H1 locs ls hl (hP.push ?_ (Nat.le_refl _) o1) (sp_A_u hA (Or.inr hS.1)) ⟨Nat.le_trans hS.1 (by omega), fun x h1 h2 => (o1 x (Nat.lt_of_lt_of_le h1 hS.1)).trans (hS.2.1 x h1 h2), hS.2.2⟩
  show H1[H.size]? = some (vp_cell _ _)
  rw [ha]
  exact e1
theorem sp_widen {k n : Nat} (h1 : cs ≤ k) (h2 : sl ≤ n) (kk : sp_W z G M0 Q nL k n pc L st M) : sp_W z G M0 Q nL cs sl pc L st M := fun H locs ls hl hP hA hS => W.widen h1 h2 (kk H locs ls hl hP hA hS)
theorem sp_alen (hz : sp_C z l R0 G M0 own cc nL ret) {a num : Nat} {x : vp_A} {ty : FieldType} (hM : M a = some (.inl (G.2.1 num, x))) (hnum : (sp_tys G)[num]? = some (G.2.1 num, ty)) (hdg : decode cc pc = .ok (.arraylength, 1))
    (kk : sp_W z G M0 Q nL cs sl (pc + 1) L (.int (nI x.1) :: rest) M) : sp_W z G M0 Q nL cs sl pc L (.ref a :: rest) M := by
  obtain ⟨hx, hbc, hml, hown, hts, -, -, hE, hzl, hzr⟩ := hz
  intro H locs ls hl hP hA hS
  exact va_alen hx hbc hE.K (hP.one hM) 0 num rfl hnum rfl hdg (kk H locs ls hl hP hA hS)
end SPN
/-- a final field, stored by a constructor: 0 an int, 1 a reference -/
def sp_wF (own : String) (index ci k : Nat) (v : Int32) (j : Nat) : Bool := match classes[ci]? with
  | some q => decide (k < q.2.2) && sp_in j (Cond.fieldLink own index (q.2.1 k).1 (q.2.1 k).2.1 (q.2.1 k).2.2.1) && (q.2.1 k).2.2.2 && decide ((q.2.1 k).1 = own) && (match parseFieldDescriptor (q.2.1 k).2.2.1 with
    | some .int => decide (v = 0)
    | some (.object _) => decide (v = 1)
    | some (.array _) => decide (v = 1)
    | _ => false)
  | none => false
section SPF
variable {z : sp_Z} {G : sp_G} {M0 M : sp_M} {Q : State → Prop} {own : String} {cc : ByteArray} {nL cs sl pc index : Nat} {L : sp_L} {st rest : List Value} {l : Launch} {R0 : Room} {ret : Option FieldType}
theorem sp_pFi (hz : sp_C z l R0 G M0 own cc nL ret) (hin2 : (sp_zh z).name = "<init>") {a ci k j : Nat} {fs : List Value} {x : Int32} (hw : sp_wF own index ci k 0 j = true) (hM : M a = some (.inr (ci, fs))) (hlen : k < fs.length) (hdg : decode cc pc = .ok (.putfield index, 3))
    (kk : sp_W z G M0 Q nL cs sl (pc + 3) L rest (sp_u M a (.inr (ci, fs.set k (.int x))))) : sp_W z G M0 Q nL cs sl pc L (.int x :: .ref a :: rest) M := by
  obtain ⟨hx, hbc, hml, hown, hts, -, -, hE, -, -⟩ := hz
  unfold sp_wF at hw
  split at hw
  · rename_i q hq
    obtain ⟨C, T, N⟩ := q
    simp only [Bool.and_eq_true, decide_eq_true_eq] at hw
    obtain ⟨⟨⟨⟨w1, w2⟩, w3⟩, w4⟩, w5⟩ := hw
    split at w5
    · rename_i hty
      exact sp_putF hx hbc hts hown hE hq w1 (sp_in_e w2) w3 hin2 w4 hty rfl rfl hM hlen hdg kk
    · exact absurd w5 (by decide)
    · exact absurd w5 (by decide)
    · cases w5
  · cases hw
theorem sp_pFr (hz : sp_C z l R0 G M0 own cc nL ret) (hin2 : (sp_zh z).name = "<init>") {a ci k j : Nat} {fs : List Value} {x : Nat} (hw : sp_wF own index ci k 1 j = true) (hM : M a = some (.inr (ci, fs))) (hlen : k < fs.length) (hdg : decode cc pc = .ok (.putfield index, 3))
    (kk : sp_W z G M0 Q nL cs sl (pc + 3) L rest (sp_u M a (.inr (ci, fs.set k (.ref x))))) : sp_W z G M0 Q nL cs sl pc L (.ref x :: .ref a :: rest) M := by
  obtain ⟨hx, hbc, hml, hown, hts, -, -, hE, -, -⟩ := hz
  unfold sp_wF at hw
  split at hw
  · rename_i q hq
    obtain ⟨C, T, N⟩ := q
    simp only [Bool.and_eq_true, decide_eq_true_eq] at hw
    obtain ⟨⟨⟨⟨w1, w2⟩, w3⟩, w4⟩, w5⟩ := hw
    split at w5
    · exact absurd w5 (by decide)
    · rename_i hty
      exact sp_putF hx hbc hts hown hE hq w1 (sp_in_e w2) w3 hin2 w4 hty rfl rfl hM hlen hdg kk
    · rename_i hty
      exact sp_putF hx hbc hts hown hE hq w1 (sp_in_e w2) w3 hin2 w4 hty rfl rfl hM hlen hdg kk
    · cases w5
  · cases hw
/-- a new row of characters -/
theorem sp_newC (hz : sp_C z l R0 G M0 own cc nL ret) {N : Nat} (hw : Cond.arrayClass .char ∈ sp_TB) (hN : N < 100000) (hcs : cs + 1 ≤ R0.cells) (hsl : sl + N ≤ R0.slots) (hdg : decode cc pc = .ok (.newarray .char, 2))
    (kk : ∀ q, M q = none → sp_W z G M0 Q nL (cs + 1) (sl + N) (pc + 2) L (.ref q :: rest) (sp_u M q (.inl (G.2.1 0, N, .inl (fun _ => 0))))) : sp_W z G M0 Q nL cs sl pc L (.int (nI N) :: rest) M :=
  sp_newa hz (num := 0) (a0 := (N, .inl (fun _ => 0))) (ty := .char) rfl hw rfl (fun _ => rfl) (fun _ => rfl) (nI_pos (by omega)) (nI_clamp (by omega)) (by show N * 2 ≤ _; omega) hcs hsl hdg kk
theorem sp_newI (hz : sp_C z l R0 G M0 own cc nL ret) {N : Nat} (hw : Cond.arrayClass .int ∈ sp_TB) (hN : N < 100000) (hcs : cs + 1 ≤ R0.cells) (hsl : sl + N ≤ R0.slots) (hdg : decode cc pc = .ok (.newarray .int, 2))
    (kk : ∀ q, M q = none → sp_W z G M0 Q nL (cs + 1) (sl + N) (pc + 2) L (.ref q :: rest) (sp_u M q (.inl (G.2.1 1, N, .inl (fun _ => 0))))) : sp_W z G M0 Q nL cs sl pc L (.int (nI N) :: rest) M :=
  sp_newa hz (num := 1) (a0 := (N, .inl (fun _ => 0))) (ty := .int) rfl hw rfl (fun _ => rfl) (fun _ => rfl) (nI_pos (by omega)) (nI_clamp (by omega)) (by show N * 4 ≤ _; omega) hcs hsl hdg kk
theorem sp_newJ (hz : sp_C z l R0 G M0 own cc nL ret) {N : Nat} (hw : Cond.arrayClass .long ∈ sp_TB) (hN : N < 100000) (hcs : cs + 1 ≤ R0.cells) (hsl : sl + N ≤ R0.slots) (hdg : decode cc pc = .ok (.newarray .long, 2))
    (kk : ∀ q, M q = none → sp_W z G M0 Q nL (cs + 1) (sl + N) (pc + 2) L (.ref q :: rest) (sp_u M q (.inl (G.2.1 2, N, .inr (.inl (fun _ => 0)))))) : sp_W z G M0 Q nL cs sl pc L (.int (nI N) :: rest) M :=
  sp_newa hz (num := 2) (a0 := (N, .inr (.inl (fun _ => 0)))) (ty := .long) rfl hw rfl (fun _ => rfl) (fun _ => rfl) (nI_pos (by omega)) (nI_clamp (by omega)) (by show N * 8 ≤ _; omega) hcs hsl hdg kk
theorem sp_aCh : Cond.arrayClass .char ∈ sp_TB := by decide +kernel
theorem sp_aI : Cond.arrayClass .int ∈ sp_TB := by decide +kernel
theorem sp_aJ : Cond.arrayClass .long ∈ sp_TB := by decide +kernel
end SPF
