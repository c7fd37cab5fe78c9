/-- what the shelf is made of, where only other cells changed -/
theorem mS.keepall {G : sp_G} {M M' : sp_M} {W W' : Nat → Nat} {i sh pg : Nat} {os fr : List Nat} {Q Q' : Nat → CR} (h : mS G M W i sh pg os fr Q) (hk : ∀ q e, M q = some e → (∃ x, e = .inr (1, x)) ∨ (∃ x, e = .inr (2, x)) ∨ (∃ x, e = .inr (0, x)) ∨ (∃ x, e = .inl x) → M' q = M q) (hW : ∀ q, M q ≠ none → W' q = W q) (hQ : ∀ x, M x ≠ none → Q' x = Q x) : mS G M' W' i sh pg os fr Q' := by
  obtain ⟨b1, b2, b3⟩ := h
  have hx : ∀ {q : Nat} {e : va_E}, M q = some e → M q ≠ none := fun {q e} h1 h2 => by
    rw [h1] at h2
    cases h2
  refine ⟨⟨(hk _ _ b1.1 (Or.inr (Or.inl ⟨_, rfl⟩))).trans b1.1, fun k x hk' => ?_, fun k x hk' => ?_, b1.2.2.2⟩, b2, fun x hx' => ?_⟩
  · have := b1.2.1 k x hk'
    dsimp only
    rw [hk _ _ this (Or.inl ⟨_, rfl⟩), hQ x (hx this)]
    exact this
  · obtain ⟨nw, this⟩ := b1.2.2.1 k x hk'
    refine ⟨nw, ?_⟩
    dsimp only
    rw [hk _ _ this (Or.inl ⟨_, rfl⟩), hQ x (hx this)]
    exact this
  · obtain ⟨t1, t2, t3, t4⟩ := b3 x hx'
    obtain ⟨nw, ol, hc⟩ := mS.cell ⟨b1, b2, b3⟩ hx'
    rw [hQ x (hx hc)]
    have t0 := t1
    obtain ⟨u1, -, -, -, f, u5, -⟩ := t1
    refine ⟨t0.keep (hk _ _ u1 (Or.inr (Or.inr (Or.inl ⟨_, rfl⟩)))) (hk _ _ u5 (Or.inr (Or.inr (Or.inr ⟨_, rfl⟩)))), ?_, ?_, t4⟩
    · rw [hW _ (hx u1)]; exact t2
    · rw [hW _ (hx u5)]; exact t3
theorem shf.congr {M : sp_M} {sh cc cp pg : Nat} {D D' : Nat → CD} {os fr : List Nat} (h : shf M sh cc cp pg D os fr) (h1 : ∀ (i x : Nat), os[i]? = some x → D' x = D x) (h2 : ∀ (i x : Nat), fr[i]? = some x → D' x = D x) : shf M sh cc cp pg D' os fr := by
  refine ⟨h.1, fun k x hk => ?_, fun k x hk => ?_, h.2.2.2⟩
  · rw [h1 k x hk]
    exact h.2.1 k x hk
  · rw [h2 k x hk]
    exact h.2.2.1 k x hk
/-- the records behind a new page: of the new chunks, of the others as they were -/
def pgQ (M : sp_M) (D' : Nat → CD) (R' : Nat → Nat) (Q : Nat → CR) : Nat → CR := fun x => match M x with
  | none => ((D' x).1, (D' x).2.1, (D' x).2.2.1, (D' x).2.2.2.1, R' x, [], [])
  | some _ => Q x
def pgW (D' : Nat → CD) (R' : Nat → Nat) (ns : List Nat) (W : Nat → Nat) : Nat → Nat := fun q => match ns.find? (fun c => decide ((D' c).2.2.2.1 = q ∨ R' c = q)) with
  | some c => c + 10
  | none => W q
theorem pgQ_o {M : sp_M} {D' : Nat → CD} {R' : Nat → Nat} {Q : Nat → CR} {x : Nat} (h : M x ≠ none) : pgQ M D' R' Q x = Q x := by
  unfold pgQ
  cases hx : M x with
  | none => exact absurd hx h
  | some e => rfl
theorem pgQ_n {M : sp_M} {D' : Nat → CD} {R' : Nat → Nat} {Q : Nat → CR} {x : Nat} (h : M x = none) : pgQ M D' R' Q x = ((D' x).1, (D' x).2.1, (D' x).2.2.1, (D' x).2.2.2.1, R' x, [], []) := by
  unfold pgQ
  rw [h]
theorem pgW_o {G : sp_G} {M M' : sp_M} {cc : Nat} {D' : Nat → CD} {R' : Nat → Nat} {ns : List Nat} {W : Nat → Nat} {q : Nat} (hn : nws G M M' cc D' R' ns) (h : M q ≠ none) : pgW D' R' ns W q = W q := by
  unfold pgW
  cases hf : ns.find? (fun c => decide ((D' c).2.2.2.1 = q ∨ R' c = q)) with
  | none => rfl
  | some c =>
    exfalso
    obtain ⟨j, hj⟩ := mem_get (List.mem_of_find?_eq_some hf)
    have h1 : (D' c).2.2.2.1 = q ∨ R' c = q := by
      have := List.find?_some hf
      exact of_decide_eq_true this
    obtain ⟨x1, x2, x3, -⟩ := hn.1 j c hj
    rcases h1 with e | e
    · rw [e] at x2; exact h x2
    · rw [e] at x3; exact h x3
theorem pgW_n {G : sp_G} {M M' : sp_M} {cc : Nat} {D' : Nat → CD} {R' : Nat → Nat} {ns : List Nat} {W : Nat → Nat} {c q : Nat} (hn : nws G M M' cc D' R' ns) (hc : c ∈ ns) (h : (D' c).2.2.2.1 = q ∨ R' c = q) : pgW D' R' ns W q = c + 10 := by
  unfold pgW
  cases hf : ns.find? (fun c => decide ((D' c).2.2.2.1 = q ∨ R' c = q)) with
  | none =>
    have := List.find?_eq_none.mp hf c hc
    exact absurd (decide_eq_true h) this
  | some d =>
    obtain ⟨k, hk⟩ := mem_get hc
    obtain ⟨j, hj⟩ := mem_get (List.mem_of_find?_eq_some hf)
    have h1 : (D' d).2.2.2.1 = q ∨ R' d = q := by
      have := List.find?_some hf
      exact of_decide_eq_true this
    by_cases e : d = c
    · rw [e]
    · exfalso
      obtain ⟨n1, n2⟩ := hn.2 j k d c hj hk e
      obtain ⟨-, -, -, -, -, -, -, t1⟩ := hn.1 j d hj
      obtain ⟨-, -, -, -, -, -, -, t2⟩ := hn.1 k c hk
      rcases h with h | h <;> rcases h1 with h1 | h1
      · exact n1 (h1.trans h.symm)
      · exact t2.ne2 t1 (h.trans h1.symm)
      · exact t1.ne2 t2 (h1.trans h.symm)
      · exact n2 (h1.trans h.symm)
/-- a page more -/
theorem mem.page {G : sp_G} {M M1 M' : sp_M} {m sa : Nat} {sh W pg : Nat → Nat} {os fr : Nat → List Nat} {Q : Nat → CR} {nn nn' : NN} (h : mem G M m sa sh W pg os fr Q nn) {i : Nat} (hi : i < 4) (h1 : M1 m = some (mg sa nn')) (hf : ∀ q, q ≠ m → M1 q = M q) (hs : nn'.1 + 1 = nn.1) (ht : nn'.2.1 < 2 ^ 30) {D' : Nat → CD} {R' : Nat → Nat} {ns : List Nat} (g0 : ns.length = zp i) (g1 : shf M' (sh i) (zc i) (zp i) (pg i + 1) D' (os i) (ns ++ fr i)) (g2 : nws G M1 M' (zc i) D' R' ns) (g3 : ∀ q, M1 q ≠ none → D' q = cD (Q q) ∧ R' q = cRc (Q q)) (g4 : ∀ q, M1 q ≠ none → q ≠ sh i → M' q = M1 q) :
    mem G M' m sa sh (pgW D' R' ns W) (up pg i (pg i + 1)) os (up fr i (ns ++ fr i)) (pgQ M1 D' R' Q) nn' ∧ mfr M M' W ∧ (∀ q, M q ≠ none → pgW D' R' ns W q = W q ∧ pgQ M1 D' R' Q q = Q q) := by
  obtain ⟨a1, a2, a3, a4, a5, a6⟩ := h
  have hM1 : ∀ q, M q ≠ none → M1 q ≠ none := fun q hq => by
    by_cases e : q = m
    · rw [e, h1]; exact fun h => by cases h
    · rw [hf q e]; exact hq
  have hx : ∀ {q : Nat} {e : va_E}, M q = some e → M q ≠ none := fun {q e} h1 h2 => by
    rw [h1] at h2
    cases h2
  have ob : ∀ {q ci : Nat} {fs : List Value}, M q = some (.inr (ci, fs)) → ¬ ci = 3 → M1 q = M q := fun {q ci fs} hq hc => hf q (fun e => by
    rw [e, a1] at hq
    cases hq
    exact hc rfl)
  have ar : ∀ {q : Nat} {x : ClassId × vp_A}, M q = some (.inl x) → M1 q = M q := fun {q x} hq => hf q (fun e => by
    rw [e, a1] at hq
    cases hq)
  have hsi := (a4 i hi).1.1
  have hms : m ≠ sh i := fun e => by
    rw [e, hsi] at a1
    cases a1
  have keep : ∀ q e, M q = some e → q ≠ sh i → (∃ x, e = .inr (1, x)) ∨ (∃ x, e = .inr (2, x)) ∨ (∃ x, e = .inr (0, x)) ∨ (∃ x, e = .inl x) → M' q = M q := fun q e hq hn hk => by
    rw [g4 q (hM1 q (hx hq)) hn]
    rcases hk with ⟨x, rfl⟩ | ⟨x, rfl⟩ | ⟨x, rfl⟩ | ⟨x, rfl⟩
    · exact ob hq (by decide)
    · exact ob hq (by decide)
    · exact ob hq (by decide)
    · exact ar hq
  have hW : ∀ q, M q ≠ none → pgW D' R' ns W q = W q := fun q hq => pgW_o g2 (hM1 q hq)
  have hQ : ∀ q, M q ≠ none → pgQ M1 D' R' Q q = Q q := fun q hq => pgQ_o (hM1 q hq)
  refine ⟨⟨(g4 m (by rw [h1]; exact fun h => by cases h) hms).trans h1, ?_, a3, fun j hj => ?_, ?_, ht⟩, fun q e hq ho _ => ?_, fun q hq => ⟨hW q hq, hQ q hq⟩⟩
  · rw [keep sa _ a2 (fun e => ?_) (Or.inr (Or.inr (Or.inr ⟨_, rfl⟩)))]
    · exact a2
    · rw [e, hsi] at a2
      cases a2
  · by_cases hji : j = i
    · subst hji
      rw [up_s, up_s]
      obtain ⟨b1, b2, b3⟩ := a4 j hj
      refine ⟨g1.congr (fun k x hk => ?_) (fun k x hk => ?_), ?_, fun x hx' => ?_⟩
      · have := hx (b1.2.1 k x hk)
        rw [hQ x this]
        exact (g3 x (hM1 x this)).1.symm
      · rcases List.mem_append.mp (List.mem_of_getElem? hk) with hm | hm
        · obtain ⟨k2, hk2⟩ := mem_get hm
          obtain ⟨y1, y2, y3, y4, y5, y6, y7, y8⟩ := g2.1 k2 x hk2
          rw [pgQ_n y1]
          show ((D' x).1, (D' x).2.1, (D' x).2.2.1, (D' x).2.2.2.1, 0) = D' x
          rw [← y7]
        · obtain ⟨k2, hk2⟩ := mem_get hm
          obtain ⟨nw, hc⟩ := b1.2.2.1 k2 x hk2
          rw [hQ x (hx hc)]
          exact (g3 x (hM1 x (hx hc))).1.symm
      · rw [List.length_append, g0, Nat.mul_succ]
        omega
      · have old : (x ∈ os j ∨ x ∈ fr j) → tx G M' (cRm (pgQ M1 D' R' Q x)) (cRc (pgQ M1 D' R' Q x)) (zc j) (cK (pgQ M1 D' R' Q x) ++ cV (pgQ M1 D' R' Q x)) ∧ pgW D' R' ns W (cRm (pgQ M1 D' R' Q x)) = x + 10 ∧ pgW D' R' ns W (cRc (pgQ M1 D' R' Q x)) = x + 10 ∧ cGn (pgQ M1 D' R' Q x) < 2 ^ 31 := fun ho => by
          obtain ⟨nw, ol, hc⟩ := mS.cell ⟨b1, b2, b3⟩ ho
          obtain ⟨t1, t2, t3, t4⟩ := b3 x ho
          rw [hQ x (hx hc)]
          have t0 := t1
          obtain ⟨u1, -, -, -, f, u5, -⟩ := t1
          have n1 : cRm (Q x) ≠ sh j := fun e => by
            rw [e, hsi] at u1
            cases u1
          have n2 : cRc (Q x) ≠ sh j := fun e => by
            rw [e, hsi] at u5
            cases u5
          refine ⟨t0.keep (keep _ _ u1 n1 (Or.inr (Or.inr (Or.inl ⟨_, rfl⟩)))) (keep _ _ u5 n2 (Or.inr (Or.inr (Or.inr ⟨_, rfl⟩)))), ?_, ?_, t4⟩
          · rw [hW _ (hx u1)]; exact t2
          · rw [hW _ (hx u5)]; exact t3
        rcases hx' with hx' | hx'
        · exact old (Or.inl hx')
        · rcases List.mem_append.mp hx' with hm | hm
          · obtain ⟨k2, hk2⟩ := mem_get hm
            obtain ⟨y1, y2, y3, y4, y5, y6, y7, y8⟩ := g2.1 k2 x hk2
            rw [pgQ_n y1]
            refine ⟨y8, pgW_n g2 hm (Or.inl rfl), pgW_n g2 hm (Or.inr rfl), ?_⟩
            show (D' x).2.2.1 < 2 ^ 31
            rw [y6]
            decide
          · exact old (Or.inr hm)
    · rw [up_n _ _ hji, up_n _ _ hji]
      have hsj : sh j ≠ sh i := fun e => hji (a3 j i hj hi e)
      have hk : ∀ q e, M q = some e → (∃ x, e = .inr (1, x)) ∨ (∃ x, e = .inr (2, x)) ∨ (∃ x, e = .inr (0, x)) ∨ (∃ x, e = .inl x) → q ≠ sh i → M' q = M q := fun q e a b c => keep q e a c b
      obtain ⟨b1, b2, b3⟩ := a4 j hj
      refine mS.keepall (M := fun q => if q = sh i then none else M q) (W := W) (Q := Q) ?_ (fun q e hq hk' => ?_) (fun q hq => ?_) (fun q hq => ?_)
      · have so : ∀ {q : Nat} {e : va_E}, M q = some e → q ≠ sh i → (if q = sh i then none else M q) = some e := fun hq hn => (if_neg hn).trans hq
        refine ⟨⟨so b1.1 hsj, fun k x hk => so (b1.2.1 k x hk) (ce_ne (b1.2.1 k x hk) hsi), fun k x hk => ?_, b1.2.2.2⟩, b2, fun x hx' => ?_⟩
        · obtain ⟨nw, hc⟩ := b1.2.2.1 k x hk
          exact ⟨nw, so hc (ce_ne hc hsi)⟩
        · obtain ⟨t1, t2, t3, t4⟩ := b3 x hx'
          have t0 := t1
          obtain ⟨u1, -, -, -, f, u5, -⟩ := t1
          refine ⟨t0.keep (if_neg fun e => ?_) (if_neg fun e => ?_), t2, t3, t4⟩
          · rw [e, hsi] at u1
            cases u1
          · rw [e, hsi] at u5
            cases u5
      · by_cases e2 : q = sh i
        · rw [if_pos e2] at hq
          cases hq
        · rw [if_neg e2] at hq ⊢
          exact keep q e hq e2 hk'
      · by_cases e2 : q = sh i
        · exact absurd (if_pos e2) hq
        · rw [if_neg e2] at hq
          exact hW q hq
      · by_cases e2 : q = sh i
        · exact absurd (if_pos e2) hq
        · rw [if_neg e2] at hq
          exact hQ q hq
  · have : ∀ i, i < 4 → nn'.1 + up pg i (pg i + 1) 0 + up pg i (pg i + 1) 1 + up pg i (pg i + 1) 2 + up pg i (pg i + 1) 3 = 6 := by
      refine z4 ?_ ?_ ?_ ?_ <;> simp [up] <;> omega
    exact this i hi
  · have hn : q ≠ sh i := fun e2 => by
      rw [e2, hsi] at hq
      cases hq
      exact ho.2.1 rfl
    rw [g4 q (hM1 q (hx hq)) hn, hf q (fun e2 => ?_), hq]
    rw [e2, a1] at hq
    cases hq
    exact ho.2.2 rfl
/-- a chunk filled -/
theorem mem.fill {G : sp_G} {M M' : sp_M} {m sa : Nat} {sh W pg : Nat → Nat} {os fr : Nat → List Nat} {Q : Nat → CR} {nn : NN} (h : mem G M m sa sh W pg os fr Q nn) {i k c fl tk gn : Nat} {key data : List Nat} (hi : i < 4) (hc : (os i)[k]? = some c) (hg : gn < 2 ^ 31) (h1 : M' c = some (ck_e (sh i) fl tk gn (pv (os i) k) (os i)[k + 1]? (cRm (Q c)) key.length)) (h2 : tx G M' (cRm (Q c)) (cRc (Q c)) (zc i) (key ++ data)) (hf : off3 M M' c (cRm (Q c)) (cRc (Q c))) : mem G M' m sa sh W pg os fr (up Q c (fl, tk, gn, cRm (Q c), cRc (Q c), key, data)) nn ∧ mfr M M' W := by
  obtain ⟨a1, a2, a3, a4, a5, a6⟩ := h
  have hcc := (a4 i hi).1.2.1 k c hc
  obtain ⟨t1, t2, t3, t4⟩ := (a4 i hi).2.2 c (Or.inl (List.mem_of_getElem? hc))
  have t0 := t1
  obtain ⟨u1, -, -, -, f, u5, -⟩ := t1
  have ob : ∀ {q ci : Nat} {fs : List Value}, M q = some (.inr (ci, fs)) → ¬ ci = 0 → q ≠ c → M' q = M q := fun {q ci fs} hq hn hqc => hf q hqc (fun e => by
    rw [e, u1] at hq
    cases hq
    exact hn rfl) (fun e => by
    rw [e, u5] at hq
    cases hq)
  have nc : ∀ {q ci : Nat} {fs : List Value}, M q = some (.inr (ci, fs)) → ¬ ci = 1 → q ≠ c := fun {q ci fs} hq hn e => by
    rw [e, hcc] at hq
    exact hn (ce_ci (Option.some.inj hq).symm)
  have ar : ∀ {q : Nat} {cA : ClassId} {x : vp_A}, M q = some (.inl (cA, x)) → q ≠ cRc (Q c) → M' q = M q := fun {q cA x} hq hn => hf q (fun e => by
    rw [e, hcc] at hq
    cases hq) (fun e => by
    rw [e, u1] at hq
    cases hq) hn
  refine ⟨⟨(ob a1 (by decide) (nc a1 (by decide))).trans a1, ?_, a3, fun j hj => ?_, a5, a6⟩, fun q e hq ho hw => ?_⟩
  · rw [ar a2 (fun e => ?_)]
    · exact a2
    · rw [e, u5] at a2
      have := congrArg (fun x => match x with | some (.inl (_, _, .inl _)) => true | _ => false) a2
      cases this
  · obtain ⟨b1, b2, b3⟩ := a4 j hj
    refine ⟨⟨(ob b1.1 (by decide) (nc b1.1 (by decide))).trans b1.1, fun k' x hx => ?_, fun k' x hx => ?_, b1.2.2.2⟩, b2, fun x hx => ?_⟩
    · dsimp only
      by_cases e : x = c
      · have hxx := b1.2.1 k' x hx
        rw [e] at hx hxx ⊢
        have hij : j = i := a3 j i hj hi (ce_sh (Option.some.inj (hxx.symm.trans hcc)))
        subst hij
        have hkk : k' = k := b1.2.2.2.1 k' k c hx hc
        subst hkk
        rw [up_s]
        exact h1
      · rw [ob (b1.2.1 k' x hx) (by decide) e, up_n _ _ e]
        exact b1.2.1 k' x hx
    · obtain ⟨nw, hxx⟩ := b1.2.2.1 k' x hx
      by_cases e : x = c
      · exfalso
        rw [e] at hx hxx
        have hij : j = i := a3 j i hj hi (ce_sh (Option.some.inj (hxx.symm.trans hcc)))
        subst hij
        exact b1.2.2.2.2.2 k c hc k' hx
      · exact ⟨nw, by dsimp only; rw [ob hxx (by decide) e, up_n _ _ e]; exact hxx⟩
    · by_cases e : x = c
      · obtain ⟨nw, ol, hxx⟩ := mS.cell ⟨b1, b2, b3⟩ hx
        rw [e] at hxx ⊢
        have hij : j = i := a3 j i hj hi (ce_sh (Option.some.inj (hxx.symm.trans hcc)))
        subst hij
        rw [up_s]
        exact ⟨h2, t2, t3, hg⟩
      · obtain ⟨v1, v2, v3, v4⟩ := b3 x hx
        rw [up_n _ _ e]
        have v0 := v1
        obtain ⟨w1, -, -, -, g, w5, -⟩ := v1
        refine ⟨v0.keep (hf _ (nc w1 (by decide)) (fun q => ?_) (fun q => ?_)) (ar w5 (fun q => ?_)), v2, v3, v4⟩
        · rw [q, t2] at v2
          omega
        · rw [q, u5] at w1
          cases w1
        · rw [q, t3] at v3
          omega
  · rw [← hq]
    refine hf q (fun e2 => ?_) (fun e2 => ?_) (fun e2 => ?_)
    · rw [e2, hcc] at hq
      cases hq
      exact ho.1 rfl
    · rw [e2, t2] at hw
      omega
    · rw [e2, t3] at hw
      omega
