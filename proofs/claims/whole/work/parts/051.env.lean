/-! the start's constants in a walk -/
theorem sp_entryF {l : Launch} {G : sp_G} {y : MethodName} {cc : ByteArray} {maxL : Nat} {ret : Option FieldType} {rm : Room} {T : sp_T} (hy : plainFor y = true) (hav : ∀ av M Post, T av M Post → (lg_sl av).length ≤ maxL)
    (body : ∀ (z : sp_Z) (M : sp_M) (av : List Value) (Post : Option Value → sp_M → Prop), sp_C z l rm G M y.cls cc maxL ret → (y.name = "<init>" → (sp_zh z).name = "<init>") → T av M Post → sp_W z G M (sp_Q z G M Post rm.cells rm.slots) maxL 0 0 0 (lv_args 0 av) [] M) : sp_Met l G y cc maxL ret rm T := by
  intro av M sz Post hT
  refine va_MetF (cc := cc) (maxL := maxL) (ret := ret) hy rfl ?_
  intro p e s m args below meth c s₁ B hml hv
  obtain ⟨rfl, hsz, hP, hE⟩ := hv
  subst hsz
  have hl := lv_entry av (n := maxL) (hav av M Post hT)
  rw [lg_entry_eq]
  have hts := atoms_spec (ws := Cond.code y cc maxL ret :: sp_TB) B.pre
  refine body (p, l, e, rm, s, m, av.toArray, below, meth, c) M av Post ⟨B.exec, B.bytes, hml, findClass_of_methodNamed B.named, fun w hw => hts w (List.mem_cons_of_mem _ hw), B.returns, B.notSynchronized, hE, rfl, rfl⟩ (fun hn => ((name_of_methodNamed B.named B.method).1).trans hn) hT s.heap [] _ hl hP (fun q x hq => Or.inl (by rw [hq]; exact fun h => by cases h)) va_S.rf
section SPV
variable {z : sp_Z} {G : sp_G} {M0 M : sp_M} {Q : State → Prop} {own : String} {cc cc' : ByteArray} {nL cs sl pc maxL n index : Nat} {L : sp_L} {st rest As : List Value} {l : Launch} {R0 rm : Room} {ret ret' : Option FieldType} {y : MethodName} {T : sp_T} {b : Nat}
theorem sp_C.E (hz : sp_C z l R0 G M0 own cc nL ret) : sp_E G (sp_A M0 (sp_zs z).heap.size) (sp_zs z) (sp_zs z).heap := hz.2.2.2.2.2.2.2.1
/-- an object's method, the object one that was there at the start -/
theorem sp_callE (hz : sp_C z l R0 G M0 own cc nL ret) (hM : sp_Met l G y cc' maxL ret' rm T) {C : String} (hO : va_O C b (sp_A M0 (sp_zs z).heap.size) (sp_zs z) (sp_zs z).heap) {ps : List Nat} (hw : sp_wV own index C y cc' maxL ret' n ps = true) (hR : sp_rm R0 rm maxL cs sl = true)
    (hn : As.length = n) (hrest : (rest.map fun v => v.category).sum ≤ 8) (hdg : decode cc pc = .ok (.invokevirtual index, 3))
    (hT : T (.ref b :: As) M (fun v M' => sp_W z G M0 Q nL (cs + rm.cells) (sl + rm.slots) (pc + 3) L (v.toList ++ rest) M')) (hst : st = As.reverse ++ .ref b :: rest) : sp_W z G M0 Q nL cs sl pc L st M := by
  obtain ⟨hx, hbc, hml, hown, hts, -, -, hE, hzl, hzr⟩ := hz
  subst hst
  subst hzl
  subst hzr
  simp only [sp_wV, Bool.and_eq_true, decide_eq_true_eq] at hw
  obtain ⟨⟨⟨⟨⟨⟨⟨⟨w1, w2⟩, w3⟩, w4⟩, w5⟩, w6⟩, w7⟩, w8⟩, w9⟩ := hw
  replace w5 := sp_in_e w5
  replace w6 := sp_in_e w6
  replace w7 := sp_in_e w7
  replace w8 := sp_in_e w8
  replace w9 := sp_in_e w9
  simp only [sp_rm, Bool.and_eq_true, decide_eq_true_eq] at hR
  obtain ⟨⟨⟨r1, r2⟩, r3⟩, r4⟩ := hR
  intro H locs ls hl hP hA hS
  have hgood : GoodIn sp_TB (wsV own index C y (Cond.code y cc' maxL ret' :: sp_TB)) := fun w hw => by
    unfold wsV at hw
    rcases List.mem_append.mp hw with hw | hw
    · have : w ∈ sp_TB := by
        simp only [List.mem_cons, List.not_mem_nil, or_false] at hw
        rcases hw with rfl | rfl | rfl | rfl
        · exact w5
        · exact w6
        · exact w7
        · exact w8
      exact ⟨this, sp_TB_good _ this⟩
    · exact sp_good w9 w hw
  have cw := cwV (R := sp_zr z) (s := sp_zs z) (args := sp_za z) (mc := rm.cells) (ms := rm.slots) n hts hgood rfl rfl rfl ⟨w1, w2, w3, w4⟩ ⟨r1, r2⟩
  have hrc : ∃ cell : Cell, H[b]? = some cell ∧ cell.vm.isStatics = false ∧ (sp_zs z).vm.findClass C = some cell.cls := by
    obtain ⟨cell, h1, h2, h3, -⟩ := hO.kept hS.2.1
    exact ⟨cell, h1, h2, h3⟩
  have hpre : PreV (sp_zs z) H C b (sp_Pc G M H.size (.ref b :: As)) As := ⟨sp_blind G M H.size _, hrc, fun U hU hW => ⟨rfl, by rw [hU], by rw [hU]; exact hP, by rw [hU]; exact (sp_E_at hE hA hS).warm hW⟩⟩
  exact sp_after hl hA hS (va_runV (nL := nL) ⟨hx, hbc, hml, hown, hts⟩ (hM (.ref b :: As) M H.size _ hT) cw hpre rfl hn hl.1 rfl (lv_room hrest) hdg ⟨r3, r4⟩) (fun v M' h => h)
theorem sp_gets (hz : sp_C z l R0 G M0 own cc nL ret) {C nm d : String} {v : Value} (hZ : va_Z C nm d v (sp_A M0 (sp_zs z).heap.size) (sp_zs z) (sp_zs z).heap) (hw : Cond.fieldLink own index C nm d ∈ sp_TB) (hdg : decode cc pc = .ok (.getstatic index, 3))
    (kk : sp_W z G M0 Q nL cs sl (pc + 3) L (v :: st) M) : sp_W z G M0 Q nL cs sl pc L st M := by
  obtain ⟨hx, hbc, hml, hown, hts, -, -, hE, hzl, hzr⟩ := hz
  intro H locs ls hl hP hA hS
  exact va_gets hx hbc hZ hS hown (hts _ hw) (fun _ h => h) hdg (kk H locs ls hl hP hA hS)
theorem sp_getsQ (hz : sp_C z l R0 G M0 own cc nL ret) {C nm d : String} (hZ : va_Zq C nm d (sp_A M0 (sp_zs z).heap.size) (sp_zs z) (sp_zs z).heap) (hw : Cond.fieldLink own index C nm d ∈ sp_TB) (hdg : decode cc pc = .ok (.getstatic index, 3))
    (kk : ∀ r : Option Nat, sp_W z G M0 Q nL cs sl (pc + 3) L (va_rf r :: st) M) : sp_W z G M0 Q nL cs sl pc L st M := by
  rcases hZ with hZ | ⟨t, hZ⟩
  · exact sp_gets hz hZ hw hdg (kk none)
  · exact sp_gets hz hZ hw hdg (kk (some t))
theorem sp_getO (hz : sp_C z l R0 G M0 own cc nL ret) {o nm d : String} {q : Nat} {v : Value} (hO : va_OF o nm d v q (sp_A M0 (sp_zs z).heap.size) (sp_zs z) (sp_zs z).heap) (hw : Cond.fieldLink own index o nm d ∈ sp_TB) (hdg : decode cc pc = .ok (.getfield index, 3))
    (kk : sp_W z G M0 Q nL cs sl (pc + 3) L (v :: rest) M) : sp_W z G M0 Q nL cs sl pc L (.ref q :: rest) M := by
  obtain ⟨hx, hbc, hml, hown, hts, -, -, hE, hzl, hzr⟩ := hz
  intro H locs ls hl hP hA hS
  exact vk_getf hx hbc hO hS hown (hts _ hw) (fun _ h => h) hdg (kk H locs ls hl hP hA hS)
theorem sp_tlen (hz : sp_C z l R0 G M0 own cc nL ret) {ty : FieldType} {t N : Nat} {f : Nat → Value} (hT : va_T ty t N f (sp_A M0 (sp_zs z).heap.size) (sp_zs z) (sp_zs z).heap) (hdg : decode cc pc = .ok (.arraylength, 1))
    (kk : sp_W z G M0 Q nL cs sl (pc + 1) L (.int (nI N) :: rest) M) : sp_W z G M0 Q nL cs sl pc L (.ref t :: rest) M := by
  obtain ⟨hx, hbc, hml, hown, hts, -, -, hE, hzl, hzr⟩ := hz
  intro H locs ls hl hP hA hS
  exact va_tlen hx hbc hT hS rfl hdg (kk H locs ls hl hP hA hS)
theorem sp_tb (hz : sp_C z l R0 G M0 own cc nL ret) {t N : Nat} {f : Nat → Value} (hT : va_T .byte t N f (sp_A M0 (sp_zs z).heap.size) (sp_zs z) (sp_zs z).heap) {i : Int32} (hin : vp_in i N) {v : Value} (hv : f i.toNatClampNeg = v) (hdg : decode cc pc = .ok (.baload, 1))
    (kk : sp_W z G M0 Q nL cs sl (pc + 1) L (v :: rest) M) : sp_W z G M0 Q nL cs sl pc L (.int i :: .ref t :: rest) M := by
  obtain ⟨hx, hbc, hml, hown, hts, -, -, hE, hzl, hzr⟩ := hz
  intro H locs ls hl hP hA hS
  exact va_tb hx hbc hT hS hin hv hdg (kk H locs ls hl hP hA hS)
theorem sp_ti (hz : sp_C z l R0 G M0 own cc nL ret) {t N : Nat} {f : Nat → Value} (hT : va_T .int t N f (sp_A M0 (sp_zs z).heap.size) (sp_zs z) (sp_zs z).heap) {i : Int32} (hin : vp_in i N) {v : Value} (hv : f i.toNatClampNeg = v) (hdg : decode cc pc = .ok (.iaload, 1))
    (kk : sp_W z G M0 Q nL cs sl (pc + 1) L (v :: rest) M) : sp_W z G M0 Q nL cs sl pc L (.int i :: .ref t :: rest) M := by
  obtain ⟨hx, hbc, hml, hown, hts, -, -, hE, hzl, hzr⟩ := hz
  intro H locs ls hl hP hA hS
  exact va_ti hx hbc hT hS hin hv hdg (kk H locs ls hl hP hA hS)
theorem sp_ta (hz : sp_C z l R0 G M0 own cc nL ret) {C : String} {t N : Nat} {f : Nat → Value} (hT : va_T (.object C) t N f (sp_A M0 (sp_zs z).heap.size) (sp_zs z) (sp_zs z).heap) {i : Int32} (hin : vp_in i N) {v : Value} (hv : f i.toNatClampNeg = v) (hdg : decode cc pc = .ok (.aaload, 1))
    (kk : sp_W z G M0 Q nL cs sl (pc + 1) L (v :: rest) M) : sp_W z G M0 Q nL cs sl pc L (.int i :: .ref t :: rest) M := by
  obtain ⟨hx, hbc, hml, hown, hts, -, -, hE, hzl, hzr⟩ := hz
  intro H locs ls hl hP hA hS
  obtain ⟨cell, h1, h2, h3, h4, h5, h6, h7⟩ := hT
  have hlt : i.toNatClampNeg < N := Nat.not_le.mp fun q => hin (Or.inr q)
  have hin' : ¬ (i < 0 ∨ cell.slots.size ≤ i.toNatClampNeg) := by
    intro q
    rcases q with q | q
    · exact hin (Or.inl q)
    · omega
  exact W.aald (v := v) (ty := .object C) hx hbc (by rw [hS.2.1 t (Array.getElem?_eq_some_iff.mp h1).1 h7]; exact h1) h2 rfl h3 hin' (by rw [h6 _ hlt, hv]) rfl rfl hdg (kk H locs ls hl hP hA hS)
theorem sp_ldcS (hz : sp_C z l R0 G M0 own cc nL ret) (j : Nat) (hj : j < 38) (h1 : (sv_tab.getD j ("", 0, "", [])).1 = own) (h2 : (sv_tab.getD j ("", 0, "", [])).2.1 = index) (hdg : decode cc pc = .ok (.ldc index, 2))
    (kk : sp_W z G M0 Q nL cs sl (pc + 2) L (.ref (G.2.2 (100 + j)) :: st) M) : sp_W z G M0 Q nL cs sl pc L st M := by
  obtain ⟨hx, hbc, hml, hown, hts, -, -, hE, hzl, hzr⟩ := hz
  intro H locs ls hl hP hA hS
  have hR := (hE.2.2.2.1 j hj).1
  rw [h1, h2] at hR
  exact va_ldcS hx hbc hown hR hdg (kk H locs ls hl hP hA hS)
end SPV
