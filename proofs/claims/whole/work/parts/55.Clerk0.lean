/-! The clerk's state: texts, draft, command, memory; what a step leaves as it was. -/
def x_ord : MethodName := ⟨R_Verb, "ordinal", "()I"⟩
theorem sp_ord {z : sp_Z} {G : sp_G} {M0 M : sp_M} {Q : State → Prop} {cc : ByteArray} {nL cs sl pc : Nat} {L : sp_L} {rest : List Value} {l : Launch} {R0 : Room} {ret : Option FieldType} (hz : sp_C z l R0 G M0 R_Clerk cc nL ret) {v : Nat} (hv : v < 14) (hR : sp_rm R0 {} 1 cs sl = true) (hrest : (rest.map fun v => v.category).sum ≤ 8) (hdg : decode cc pc = .ok (.invokevirtual 72, 3))
    (kk : sp_W z G M0 Q nL cs sl (pc + 3) L (.int (nI v) :: rest) M) : sp_W z G M0 Q nL cs sl pc L (.ref (G.2.2 v) :: rest) M := by
  have hO := (hz.E.2.1 v hv).2.1
  obtain ⟨hx, hbc, hml, hown, hts, -, -, hE, hzl, hzr⟩ := hz
  subst hzl
  subst hzr
  have w1 : Cond.methodLink R_Clerk 72 x_ord ∈ sp_TB := sp_in_e (j := 464) (by decide +kernel)
  have w2 : Cond.sameMethod x_ord.cls "java/lang/Enum" x_ord.name x_ord.desc ∈ sp_TB := sp_in_e (j := 465) (by decide +kernel)
  have w3 : Cond.selects "SlabPantry$Verb" x_ord y_Enum_ordinal ∈ sp_TB := sp_in_e (j := 467) (by decide +kernel)
  have w4 : Cond.instanceMethod y_Enum_ordinal ∈ sp_TB := sp_in_e (j := 468) (by decide +kernel)
  have w5 : Cond.initialized y_Enum_ordinal.cls ∈ sp_TB := sp_in_e (j := 73) (by decide +kernel)
  have w9 : Cond.code y_Enum_ordinal b_Enum_ordinal 1 (some .int) ∈ sp_TB := sp_in_e (j := 469) (by decide +kernel)
  simp only [sp_rm, Bool.and_eq_true, decide_eq_true_eq] at hR
  obtain ⟨⟨⟨r1, r2⟩, r3⟩, r4⟩ := hR
  intro H locs ls hl hP hA hS
  have hgood : GoodIn sp_TB (va_wsU R_Clerk 72 "SlabPantry$Verb" "java/lang/Enum" x_ord y_Enum_ordinal (Cond.code y_Enum_ordinal b_Enum_ordinal 1 (some .int) :: sp_TB)) := fun w hw => by
    unfold va_wsU at hw
    rcases List.mem_append.mp hw with hw | hw
    · have : w ∈ sp_TB := by
        simp only [List.mem_cons, List.not_mem_nil, or_false] at hw
        rcases hw with rfl | rfl | rfl | rfl | rfl
        · exact w1
        · exact w2
        · exact w3
        · exact w4
        · exact w5
      exact ⟨this, sp_TB_good _ this⟩
    · exact sp_good w9 w hw
  have cw := va_cwU (R := sp_zr z) (s := sp_zs z) (args := sp_za z) (rm := {}) (mc := 0) (ms := 0) 0 hts hgood rfl rfl rfl rfl ⟨by decide, by decide, by decide⟩ ⟨r1, r2⟩
  have hrc : ∃ cell : Cell, H[G.2.2 v]? = some cell ∧ cell.vm.isStatics = false ∧ (sp_zs z).vm.findClass "SlabPantry$Verb" = some cell.cls := by
    obtain ⟨cell, h1, h2, h3, -⟩ := hO.kept hS.2.1
    exact ⟨cell, h1, h2, h3⟩
  have hpre : PreV (sp_zs z) H "SlabPantry$Verb" (G.2.2 v) (sp_Pc G M H.size [.ref (G.2.2 v)]) [] := ⟨sp_blind G M H.size _, hrc, fun U hU hW => ⟨rfl, by rw [hU], by rw [hU]; exact hP, by rw [hU]; exact (sp_E_at hE hA hS).warm hW⟩⟩
  exact sp_after hl hA hS (va_runU (nL := nL) ⟨hx, hbc, hml, hown, hts⟩ (c_Enum_ordinal _ G [.ref (G.2.2 v)] M H.size (fun w M' => sp_W z G M0 Q nL (cs + 0) (sl + 0) (pc + 3) L (w.toList ++ rest) M') ⟨v, rfl, hv, kk⟩) cw hpre rfl rfl hl.1 rfl (lv_room hrest) hdg ⟨r3, r4⟩) (fun v M' h => h)
def xcap (t : Nat) : Nat := if t = 0 then 140 else if t = 2 then 300 else if t = 10 then 8 else 204
def xt (t : Nat) : Prop := t = 0 ∨ t = 2 ∨ t = 10 ∨ t = 12
def wtab (j : Nat) : Nat := [1, 1, 2, 2, 5, 5, 5, 5, 5, 5, 3, 3, 4, 4, 5, 5].getD j 0
def kCk (A N : Nat → Nat) : va_E := .inr (6, [.ref (A 0), .ref (A 2), .ref (A 4), .ref (A 6), .ref (A 9), .int (nI (N 0)), .int (nI (N 1))])
def kDr (A N : Nat → Nat) : va_E := .inr (5, [.ref (A 10), .ref (A 12), .int (nI (N 2)), .int (nI (N 3))])
def kSP (A : Nat → Nat) : va_E := .inr (7, [.ref (A 0), .ref (A 2), .ref (A 4), .ref (A 14)])
/-- A: line 0 1, answer 2 3, memory 4 5, command 6 7 8, draft 9, its key 10 11, its data 12 13, clerk 14, pantry 15; X: the texts; N: hits 0, misses 1, the draft's flags 2 and end 3, the command's words 4, end 5, verb 6 -/
def kS (G : sp_G) (M : sp_M) (A sh W pg : Nat → Nat) (os fr : Nat → List Nat) (Q : Nat → CR) (nn : NN) (X : Nat → List Nat) (N : Nat → Nat) (ws : List (Nat × Nat)) : Prop :=
  (∀ t, xt t → tx G M (A t) (A (t + 1)) (xcap t) (X t)) ∧ M (A 14) = some (kCk A N) ∧ M (A 9) = some (kDr A N) ∧ M (A 15) = some (kSP A) ∧ M (A 6) = some (cmc G (A 0) (A 7) (A 8) (N 4) (N 5) (N 6)) ∧ wia G M (A 7) (A 8) ws ∧ A 7 ≠ A 8 ∧ N 6 < 14 ∧ mem G M (A 4) (A 5) sh W pg os fr Q nn ∧ (∀ j, j < 16 → j ≠ 4 → W (A j) = wtab j)
def ffr (M M' : sp_M) (W W' : Nat → Nat) : Prop := ∀ q e, M q = some e → oth e → W q = 0 → M' q = some e ∧ W' q = 0
theorem ffr.refl (M : sp_M) (W : Nat → Nat) : ffr M M W W := fun _ _ h _ w => ⟨h, w⟩
theorem ffr.trans {M M1 M2 : sp_M} {W W1 W2 : Nat → Nat} (h1 : ffr M M1 W W1) (h2 : ffr M1 M2 W1 W2) : ffr M M2 W W2 := fun q e a b c => h2 q e (h1 q e a b c).1 b (h1 q e a b c).2
theorem mfw.f {M M' : sp_M} {W W' : Nat → Nat} (h : mfw M M' W W') : ffr M M' W W' := fun q e a b c => by
  obtain ⟨x, y⟩ := h q e a b (by omega)
  exact ⟨x, y.trans c⟩
theorem mem.off {G : sp_G} {M M' : sp_M} {m sa t ch cap : Nat} {sh W pg : Nat → Nat} {os fr : Nat → List Nat} {Q : Nat → CR} {nn : NN} {s : List Nat} (h : mem G M m sa sh W pg os fr Q nn) (ht : tx G M t ch cap s) (w1 : W t < 10) (w2 : W ch < 10) (ho : off2 M M' t ch) : mem G M' m sa sh W pg os fr Q nn := by
  obtain ⟨a1, a2, a3, a4, a5, a6⟩ := h
  obtain ⟨u1, -, -, -, f, u5, -⟩ := ht
  have ob : ∀ {q ci : Nat} {fs : List Value}, M q = some (.inr (ci, fs)) → ¬ ci = 0 → M' q = M q := fun {q ci fs} hq hn => ho q (fun e => by
    rw [e, u1] at hq
    cases hq
    exact hn rfl) (fun e => by
    rw [e, u5] at hq
    cases hq)
  refine ⟨(ob a1 (by decide)).trans a1, ?_, a3, fun i hi => ?_, a5, a6⟩
  · rw [ho sa (fun e => ?_) (fun e => ?_)]
    · exact a2
    · rw [e, u1] at a2
      cases a2
    · rw [e, u5] at a2
      have := congrArg (fun x => match x with | some (.inl (_, _, .inl _)) => true | _ => false) a2
      cases this
  · obtain ⟨b1, b2, b3⟩ := a4 i hi
    refine ⟨b1.keep (ob b1.1 (by decide)) (fun k c hk => ob (b1.2.1 k c hk) (by decide)) (fun k c hk => ?_), b2, fun c hc => ?_⟩
    · obtain ⟨nw, hx⟩ := b1.2.2.1 k c hk
      exact ob hx (by decide)
    · obtain ⟨t1, t2, t3, t4⟩ := b3 c hc
      have t0 := t1
      obtain ⟨v1, -, -, -, f2, v5, -⟩ := t1
      refine ⟨t0.keep (ho _ (fun e => ?_) (fun e => ?_)) (ho _ (fun e => ?_) (fun e => ?_)), t2, t3, t4⟩
      · rw [e] at t2; omega
      · rw [e, u5] at v1; cases v1
      · rw [e, u1] at v5; cases v5
      · rw [e] at t3; omega
section KS
variable {G : sp_G} {M M' : sp_M} {A sh W W' pg pg' : Nat → Nat} {os fr os' fr' : Nat → List Nat} {Q Q' : Nat → CR} {nn nn' : NN} {X : Nat → List Nat} {N : Nat → Nat} {ws : List (Nat × Nat)}
theorem kS.T (h : kS G M A sh W pg os fr Q nn X N ws) {t : Nat} (ht : xt t) : tx G M (A t) (A (t + 1)) (xcap t) (X t) := h.1 t ht
theorem kS.mm (h : kS G M A sh W pg os fr Q nn X N ws) : mem G M (A 4) (A 5) sh W pg os fr Q nn := h.2.2.2.2.2.2.2.2.1
theorem kS.wA (h : kS G M A sh W pg os fr Q nn X N ws) : ∀ j, j < 16 → j ≠ 4 → W (A j) = wtab j := h.2.2.2.2.2.2.2.2.2
theorem kS.nA (h : kS G M A sh W pg os fr Q nn X N ws) {i j : Nat} (hi : i < 16) (hj : j < 16) (h4 : i ≠ 4) (h5 : j ≠ 4) (hn : wtab i ≠ wtab j) : A i ≠ A j := fun e => hn (by rw [← h.wA i hi h4, ← h.wA j hj h5, e])
theorem xt_w : ∀ {t : Nat}, xt t → (t < 15 ∧ t ≠ 4 ∧ t + 1 ≠ 4) ∧ wtab (t + 1) = wtab t ∧ wtab t < 5 ∧ 0 < wtab t ∧ ∀ t2, xt t2 → t2 ≠ t → wtab t2 ≠ wtab t := by
  intro t h
  rcases h with rfl | rfl | rfl | rfl
  all_goals
    refine ⟨by decide, by decide, by decide, by decide, fun t2 h2 => ?_⟩
    rcases h2 with rfl | rfl | rfl | rfl <;> decide
theorem kS.text (h : kS G M A sh W pg os fr Q nn X N ws) {t : Nat} {s' : List Nat} (ht : xt t) (h1 : tx G M' (A t) (A (t + 1)) (xcap t) s') (ho : off2 M M' (A t) (A (t + 1))) : kS G M' A sh W pg os fr Q nn (up X t s') N ws ∧ ffr M M' W W := by
  obtain ⟨⟨x1, x6, x7⟩, x2, x3, x4, x5⟩ := xt_w ht
  have keep : ∀ j, j < 16 → j ≠ 4 → wtab j ≠ wtab t → M' (A j) = M (A j) := fun j hj h4 hn => ho _ (h.nA hj (by omega) h4 x6 hn) (h.nA hj (by omega) h4 x7 (by rw [x2]; exact hn))
  have w1 : W (A t) < 10 := by rw [h.wA t (by omega) x6]; omega
  have w2 : W (A (t + 1)) < 10 := by rw [h.wA (t + 1) (by omega) x7]; omega
  have hm := h.mm.off (h.T ht) w1 w2 ho
  have ht0 := h.T ht
  have hA := h.wA
  obtain ⟨a1, a2, a3, a4, a5, a6, a7, a8, a9, a10⟩ := h
  have e5 : ∀ j, wtab j = 5 → wtab j ≠ wtab t := fun j e => by omega
  refine ⟨⟨fun t2 ht2 => ?_, (keep 14 (by decide) (by decide) (e5 14 rfl)).trans a2, (keep 9 (by decide) (by decide) (e5 9 rfl)).trans a3, (keep 15 (by decide) (by decide) (e5 15 rfl)).trans a4, (keep 6 (by decide) (by decide) (e5 6 rfl)).trans a5, ?_, a7, a8, hm, a10⟩, fun q e hq ho2 hw => ?_⟩
  · by_cases e : t2 = t
    · subst e
      rw [up_s]
      exact h1
    · rw [up_n _ _ e]
      obtain ⟨⟨y1, y6, y7⟩, y2, y3, y4, y5⟩ := xt_w ht2
      exact (a1 t2 ht2).keep (keep t2 (by omega) y6 (x5 t2 ht2 e)) (keep (t2 + 1) (by omega) y7 (by rw [y2]; exact x5 t2 ht2 e))
  · obtain ⟨f, g, g1, g2, g3⟩ := a6
    exact ⟨f, g, (keep 7 (by decide) (by decide) (e5 7 rfl)).trans g1, (keep 8 (by decide) (by decide) (e5 8 rfl)).trans g2, g3⟩
  · refine ⟨?_, hw⟩
    rw [ho q (fun e2 => ?_) (fun e2 => ?_)]
    · exact hq
    · rw [e2, hA t (by omega) x6] at hw
      omega
    · rw [e2, hA (t + 1) (by omega) x7] at hw
      omega
theorem wtab_lt : ∀ j, j < 16 → wtab j < 10 := by decide
theorem kS.mem' (h : kS G M A sh W pg os fr Q nn X N ws) (hf : mfw M M' W W') (hm : mem G M' (A 4) (A 5) sh W' pg' os' fr' Q' nn') : kS G M' A sh W' pg' os' fr' Q' nn' X N ws := by
  have hA := h.wA
  have h10 : ∀ j, j < 16 → j ≠ 4 → W (A j) < 10 := fun j hj h4 => by
    rw [hA j hj h4]
    exact wtab_lt j hj
  obtain ⟨a1, a2, a3, a4, a5, a6, a7, a8, a9, a10⟩ := h
  have ob : ∀ {j ci : Nat} {fs : List Value}, j < 16 → j ≠ 4 → M (A j) = some (.inr (ci, fs)) → ¬ ci = 1 → ¬ ci = 2 → ¬ ci = 3 → M' (A j) = M (A j) ∧ W' (A j) = W (A j) := fun hj h4 hq n1 n2 n3 => by
    obtain ⟨x, y⟩ := hf _ _ hq ⟨n1, n2, n3⟩ (h10 _ hj h4)
    exact ⟨x.trans hq.symm, y⟩
  have ar : ∀ {j : Nat} {x : ClassId × vp_A}, j < 16 → j ≠ 4 → M (A j) = some (.inl x) → M' (A j) = M (A j) ∧ W' (A j) = W (A j) := fun hj h4 hq => by
    obtain ⟨x, y⟩ := hf _ _ hq trivial (h10 _ hj h4)
    exact ⟨x.trans hq.symm, y⟩
  have b14 := ob (j := 14) (by decide) (by decide) a2 (by decide) (by decide) (by decide)
  have b9 := ob (j := 9) (by decide) (by decide) a3 (by decide) (by decide) (by decide)
  have b15 := ob (j := 15) (by decide) (by decide) a4 (by decide) (by decide) (by decide)
  have b6 := ob (j := 6) (by decide) (by decide) a5 (by decide) (by decide) (by decide)
  have b5 := ar (j := 5) (by decide) (by decide) a9.2.1
  obtain ⟨f, g, g1, g2, g3⟩ := a6
  have b7 := ar (j := 7) (by decide) (by decide) g1
  have b8 := ar (j := 8) (by decide) (by decide) g2
  have bt : ∀ t, xt t → (M' (A t) = M (A t) ∧ W' (A t) = W (A t)) ∧ (M' (A (t + 1)) = M (A (t + 1)) ∧ W' (A (t + 1)) = W (A (t + 1))) := fun t ht => by
    obtain ⟨⟨x1, x6, x7⟩, -⟩ := xt_w ht
    obtain ⟨u1, -, -, -, f, u5, -⟩ := a1 t ht
    exact ⟨ob (by omega) x6 u1 (by decide) (by decide) (by decide), ar (by omega) x7 u5⟩
  have b0 := bt 0 (Or.inl rfl)
  have b2 := bt 2 (Or.inr (Or.inl rfl))
  have b10 := bt 10 (Or.inr (Or.inr (Or.inl rfl)))
  have b12 := bt 12 (Or.inr (Or.inr (Or.inr rfl)))
  refine ⟨fun t ht => (a1 t ht).keep (bt t ht).1.1 (bt t ht).2.1, b14.1.trans a2, b9.1.trans a3, b15.1.trans a4, b6.1.trans a5, ⟨f, g, b7.1.trans g1, b8.1.trans g2, g3⟩, a7, a8, hm, fun j hj h4 => ?_⟩
  rw [← a10 j hj h4]
  have cs : j = 0 ∨ j = 1 ∨ j = 2 ∨ j = 3 ∨ j = 5 ∨ j = 6 ∨ j = 7 ∨ j = 8 ∨ j = 9 ∨ j = 10 ∨ j = 11 ∨ j = 12 ∨ j = 13 ∨ j = 14 ∨ j = 15 := by omega
  rcases cs with rfl | rfl | rfl | rfl | rfl | rfl | rfl | rfl | rfl | rfl | rfl | rfl | rfl | rfl | rfl
  · exact b0.1.2
  · exact b0.2.2
  · exact b2.1.2
  · exact b2.2.2
  · exact b5.2
  · exact b6.2
  · exact b7.2
  · exact b8.2
  · exact b9.2
  · exact b10.1.2
  · exact b10.2.2
  · exact b12.1.2
  · exact b12.2.2
  · exact b14.2
  · exact b15.2
/-- the memory's part, where an object that is none of its cells is stored to -/
theorem mem.obj {G : sp_G} {M : sp_M} {m sa q ci : Nat} {sh W pg : Nat → Nat} {os fr : Nat → List Nat} {Q : Nat → CR} {nn : NN} {fs : List Value} {e : va_E} (h : mem G M m sa sh W pg os fr Q nn) (hq : M q = some (.inr (ci, fs))) (n0 : ¬ ci = 0) (n1 : ¬ ci = 1) (n2 : ¬ ci = 2) (n3 : ¬ ci = 3) : mem G (sp_u M q e) m sa sh W pg os fr Q nn := by
  obtain ⟨a1, a2, a3, a4, a5, a6⟩ := h
  have ob : ∀ {x c2 : Nat} {fs2 : List Value}, M x = some (.inr (c2, fs2)) → ¬ c2 = ci → sp_u M q e x = M x := fun {x c2 fs2} hx hn => sp_u_n _ _ (fun e2 => by
    rw [e2, hq] at hx
    cases hx
    exact hn rfl)
  have ar : ∀ {x : Nat} {y : ClassId × vp_A}, M x = some (.inl y) → sp_u M q e x = M x := fun {x y} hx => sp_u_n _ _ (fun e2 => by
    rw [e2, hq] at hx
    cases hx)
  refine ⟨(ob a1 (Ne.symm n3)).trans a1, (ar a2).trans a2, a3, fun i hi => ?_, a5, a6⟩
  obtain ⟨b1, b2, b3⟩ := a4 i hi
  refine ⟨b1.keep (ob b1.1 (Ne.symm n2)) (fun k c hk => ob (b1.2.1 k c hk) (Ne.symm n1)) (fun k c hk => ?_), b2, fun c hc => ?_⟩
  · obtain ⟨nw, hx⟩ := b1.2.2.1 k c hk
    exact ob hx (Ne.symm n1)
  · obtain ⟨t1, t2, t3, t4⟩ := b3 c hc
    refine ⟨t1.keep (ob t1.1 (Ne.symm n0)) ?_, t2, t3, t4⟩
    obtain ⟨-, -, -, -, f, t5, -⟩ := t1
    exact ar t5
theorem kS.txo (h : kS G M A sh W pg os fr Q nn X N ws) {q ci : Nat} {fs : List Value} {e : va_E} (hq : M q = some (.inr (ci, fs))) (n0 : ¬ ci = 0) : ∀ t, xt t → tx G (sp_u M q e) (A t) (A (t + 1)) (xcap t) (X t) := fun t ht => by
  obtain ⟨o1, o2⟩ := (h.T ht).ob hq n0
  exact (h.T ht).keep (sp_u_n _ _ (Ne.symm o1)) (sp_u_n _ _ (Ne.symm o2))
theorem wia.o {G : sp_G} {M : sp_M} {sa la q ci : Nat} {ws : List (Nat × Nat)} {fs : List Value} {e : va_E} (h : wia G M sa la ws) (hq : M q = some (.inr (ci, fs))) : wia G (sp_u M q e) sa la ws := by
  obtain ⟨o1, o2⟩ := h.ne hq
  obtain ⟨f, g, x1, x2, x3⟩ := h
  exact ⟨f, g, (sp_u_n _ _ (Ne.symm o1)).trans x1, (sp_u_n _ _ (Ne.symm o2)).trans x2, x3⟩
/-- the clerk's counters anew -/
theorem kS.clerk (h : kS G M A sh W pg os fr Q nn X N ws) (a b : Nat) : kS G (sp_u M (A 14) (kCk A (up (up N 0 a) 1 b))) A sh W pg os fr Q nn X (up (up N 0 a) 1 b) ws ∧ ffr M (sp_u M (A 14) (kCk A (up (up N 0 a) 1 b))) W W := by
  have hh := h
  obtain ⟨a1, a2, a3, a4, a5, a6, a7, a8, a9, a10⟩ := h
  have n9 : A 9 ≠ A 14 := fun e => by rw [e, a2] at a3; cases a3
  have n15 : A 15 ≠ A 14 := fun e => by rw [e, a2] at a4; cases a4
  have n6 : A 6 ≠ A 14 := fun e => by rw [e, a2] at a5; cases a5
  refine ⟨⟨hh.txo a2 (by decide), sp_u_s _ _ _, (sp_u_n _ _ n9).trans a3, (sp_u_n _ _ n15).trans a4, (sp_u_n _ _ n6).trans a5, a6.o a2, a7, a8, a9.obj a2 (by decide) (by decide) (by decide) (by decide), a10⟩, fun q e hq _ hw => ⟨?_, hw⟩⟩
  rw [sp_u_n _ _ (fun e2 => ?_)]
  · exact hq
  · rw [e2, a10 14 (by decide) (by decide)] at hw
    exact absurd hw (by decide)
/-- the draft's numbers anew -/
theorem kS.draft (h : kS G M A sh W pg os fr Q nn X N ws) (a b : Nat) : kS G (sp_u M (A 9) (kDr A (up (up N 2 a) 3 b))) A sh W pg os fr Q nn X (up (up N 2 a) 3 b) ws ∧ ffr M (sp_u M (A 9) (kDr A (up (up N 2 a) 3 b))) W W := by
  have hh := h
  obtain ⟨a1, a2, a3, a4, a5, a6, a7, a8, a9, a10⟩ := h
  have n14 : A 14 ≠ A 9 := fun e => by rw [e, a3] at a2; cases a2
  have n15 : A 15 ≠ A 9 := fun e => by rw [e, a3] at a4; cases a4
  have n6 : A 6 ≠ A 9 := fun e => by rw [e, a3] at a5; cases a5
  refine ⟨⟨hh.txo a3 (by decide), (sp_u_n _ _ n14).trans a2, sp_u_s _ _ _, (sp_u_n _ _ n15).trans a4, (sp_u_n _ _ n6).trans a5, a6.o a3, a7, a8, a9.obj a3 (by decide) (by decide) (by decide) (by decide), a10⟩, fun q e hq _ hw => ⟨?_, hw⟩⟩
  rw [sp_u_n _ _ (fun e2 => ?_)]
  · exact hq
  · rw [e2, a10 9 (by decide) (by decide)] at hw
    exact absurd hw (by decide)
/-- the command read -/
theorem kS.cmd (h : kS G M A sh W pg os fr Q nn X N ws) {ws' : List (Nat × Nat)} {ce v : Nat} (hc : cm G M' (A 6) (A 0) (A 1) (X 0) (A 7) (A 8) ws' ce v) (ho : off3 M M' (A 6) (A 7) (A 8)) : kS G M' A sh W pg os fr Q nn X (up (up (up N 4 ws'.length) 5 ce) 6 v) ws' ∧ ffr M M' W W := by
  have hh := h
  obtain ⟨a1, a2, a3, a4, a5, a6, a7, a8, a9, a10⟩ := h
  obtain ⟨c1, c2, c3, c4, c5, c6, c7, c8⟩ := hc
  have ob : ∀ {q ci : Nat} {fs : List Value}, M q = some (.inr (ci, fs)) → ¬ ci = 4 → M' q = M q := fun {q ci fs} hq hn => by
    obtain ⟨o1, o2⟩ := a6.ne hq
    exact ho q (fun e => by rw [e, a5] at hq; cases hq; exact hn rfl) o1 o2
  have tt : ∀ t, xt t → tx G M' (A t) (A (t + 1)) (xcap t) (X t) := fun t ht => by
    obtain ⟨⟨x1, x6, x7⟩, x2, x3, x4, x5⟩ := xt_w ht
    have w2 : wtab (t + 1) < 5 := by rw [x2]; exact x3
    refine (a1 t ht).keep (ob (a1 t ht).1 (by decide)) (ho _ ?_ ?_ ?_)
    · exact hh.nA (by omega) (by decide) x7 (by decide) (Nat.ne_of_lt w2)
    · exact hh.nA (by omega) (by decide) x7 (by decide) (Nat.ne_of_lt w2)
    · exact hh.nA (by omega) (by decide) x7 (by decide) (Nat.ne_of_lt w2)
  have hm : mem G M' (A 4) (A 5) sh W pg os fr Q nn := by
    obtain ⟨b1, b2, b3, b4, b5, b6⟩ := a9
    have s5 : wtab 5 = 5 := rfl
    obtain ⟨f, g, g1, g2, g3⟩ := a6
    have sa : M' (A 5) = M (A 5) := ho _ (fun e => by rw [e, a5] at b2; cases b2) (fun e => by
        rw [e, g1] at b2
        have := congrArg (fun x => match x with | some (.inl (_, _, .inl _)) => true | _ => false) b2
        cases this) (fun e => by
        rw [e, g2] at b2
        have := congrArg (fun x => match x with | some (.inl (_, _, .inl _)) => true | _ => false) b2
        cases this)
    refine ⟨(ob b1 (by decide)).trans b1, sa.trans b2, b3, fun i hi => ?_, b5, b6⟩
    obtain ⟨d1, d2, d3⟩ := b4 i hi
    refine ⟨d1.keep (ob d1.1 (by decide)) (fun k c hk => ob (d1.2.1 k c hk) (by decide)) (fun k c hk => ?_), d2, fun c hc => ?_⟩
    · obtain ⟨nw, hx⟩ := d1.2.2.1 k c hk
      exact ob hx (by decide)
    · obtain ⟨t1, t2, t3, t4⟩ := d3 c hc
      have h7 : ∀ j, j = 6 ∨ j = 7 ∨ j = 8 → cRc (Q c) ≠ A j := fun j hj e => by
        have hw : W (A j) = 5 := by rcases hj with rfl | rfl | rfl <;> exact a10 _ (by decide) (by decide)
        rw [e, hw] at t3
        omega
      refine ⟨t1.keep (ob t1.1 (by decide)) (ho _ (h7 6 (Or.inl rfl)) (h7 7 (Or.inr (Or.inl rfl))) (h7 8 (Or.inr (Or.inr rfl)))), t2, t3, t4⟩
  refine ⟨⟨tt, ?_, ?_, (ob a4 (by decide)).trans a4, c1, c2, c3, c8, hm, a10⟩, fun q e hq _ hw => ⟨?_, hw⟩⟩
  · exact (ob a2 (by decide)).trans a2
  · exact (ob a3 (by decide)).trans a3
  · have h7 : ∀ j, j = 6 ∨ j = 7 ∨ j = 8 → q ≠ A j := fun j hj e => by
      have hw2 : W (A j) = 5 := by rcases hj with rfl | rfl | rfl <;> exact a10 _ (by decide) (by decide)
      rw [e, hw2] at hw
      cases hw
    rw [ho q (h7 6 (Or.inl rfl)) (h7 7 (Or.inr (Or.inl rfl))) (h7 8 (Or.inr (Or.inr rfl)))]
    exact hq
/-- the command as it was read of this line -/
def kOk (X : Nat → List Nat) (N : Nat → Nat) (ws : List (Nat × Nat)) : Prop := N 4 = ws.length ∧ ws.length ≤ 8 ∧ (∀ p ∈ ws, p.1 + p.2 ≤ 140) ∧ N 5 ≤ (X 0).length
theorem kS.cm (h : kS G M A sh W pg os fr Q nn X N ws) (hk : kOk X N ws) : cm G M (A 6) (A 0) (A 1) (X 0) (A 7) (A 8) ws (N 5) (N 6) := by
  obtain ⟨a1, a2, a3, a4, a5, a6, a7, a8, a9, a10⟩ := h
  obtain ⟨k1, k2, k3, k4⟩ := hk
  rw [k1] at a5
  exact ⟨a5, a6, a7, a1 0 (Or.inl rfl), k2, k3, k4, a8⟩
theorem kS.dr (h : kS G M A sh W pg os fr Q nn X N ws) : dr G M (A 9) (A 10) (A 11) (A 12) (A 13) (X 10) (X 12) (N 2) (N 3) := ⟨h.2.2.1, h.T (t := 10) (Or.inr (Or.inr (Or.inl rfl))), h.T (t := 12) (Or.inr (Or.inr (Or.inr rfl)))⟩
theorem kS.dw (h : kS G M A sh W pg os fr Q nn X N ws) : dW W (A 9) (A 10) (A 11) (A 12) (A 13) := by
  have := h.wA
  refine ⟨?_, ?_, ?_, ?_, ?_⟩ <;> (rw [this _ (by decide) (by decide)]; decide)
theorem x0 : xt 0 := Or.inl rfl
theorem x2 : xt 2 := Or.inr (Or.inl rfl)
theorem x10 : xt 10 := Or.inr (Or.inr (Or.inl rfl))
theorem x12 : xt 12 := Or.inr (Or.inr (Or.inr rfl))
end KS
