/-! The memory: four shelves, their chunks and texts; the numbers. -/
theorem sp_Lm {z : sp_Z} {G : sp_G} {M0 M : sp_M} {Q : State → Prop} {nL cs sl pc : Nat} {L : sp_L} {st : List Value} (L' : sp_L) (h : ∀ q ∈ L', q ∈ L) (kk : sp_W z G M0 Q nL cs sl pc L' st M) : sp_W z G M0 Q nL cs sl pc L st M := fun H locs ls hl hP hA hS => kk H locs ls ⟨hl.1, hl.2.1, fun q hq => hl.2.2 q (h q hq)⟩ hP hA hS
def up {α : Type} (f : Nat → α) (i : Nat) (x : α) : Nat → α := fun j => if j = i then x else f j
theorem up_s {α : Type} (f : Nat → α) (i : Nat) (x : α) : up f i x i = x := if_pos rfl
theorem up_n {α : Type} (f : Nat → α) {i j : Nat} (x : α) (h : j ≠ i) : up f i x j = f j := if_neg h
theorem up_same {α : Type} (f : Nat → α) (i : Nat) : up f i (f i) = f := by
  funext j
  by_cases h : j = i
  · rw [h, up_s]
  · rw [up_n _ _ h]
/-- a chunk's record: flags, token, end; its text, the row of its characters; key, data -/
abbrev CR : Type := Nat × Nat × Nat × Nat × Nat × List Nat × List Nat
abbrev cFl (r : CR) : Nat := r.1
abbrev cTk (r : CR) : Nat := r.2.1
abbrev cGn (r : CR) : Nat := r.2.2.1
abbrev cRm (r : CR) : Nat := r.2.2.2.1
abbrev cRc (r : CR) : Nat := r.2.2.2.2.1
abbrev cK (r : CR) : List Nat := r.2.2.2.2.2.1
abbrev cV (r : CR) : List Nat := r.2.2.2.2.2.2
def cD (r : CR) : CD := (cFl r, cTk r, cGn r, cRm r, (cK r).length)
def zc (i : Nat) : Nat := 8 * 2 ^ i
def zp (i : Nat) : Nat := 8 / 2 ^ i
theorem z4 {P : Nat → Prop} (h0 : P 0) (h1 : P 1) (h2 : P 2) (h3 : P 3) : ∀ i, i < 4 → P i
  | 0, _ => h0
  | 1, _ => h1
  | 2, _ => h2
  | 3, _ => h3
theorem zc_lt : ∀ i, i < 4 → zc i ≤ 64 := z4 (by decide) (by decide) (by decide) (by decide)
theorem zp_lt : ∀ i, i < 4 → zp i ≤ 8 := z4 (by decide) (by decide) (by decide) (by decide)
theorem zp_pos : ∀ i, i < 4 → 0 < zp i := z4 (by decide) (by decide) (by decide) (by decide)
/-- a shelf with its chunks' texts; W tells whose a text is -/
def mS (G : sp_G) (M : sp_M) (W : Nat → Nat) (i sh pg : Nat) (os fr : List Nat) (Q : Nat → CR) : Prop :=
  shf M sh (zc i) (zp i) pg (fun c => cD (Q c)) os fr ∧ os.length + fr.length = zp i * pg ∧ ∀ (c : Nat), (c ∈ os ∨ c ∈ fr) → tx G M (cRm (Q c)) (cRc (Q c)) (zc i) (cK (Q c) ++ cV (Q c)) ∧ W (cRm (Q c)) = c + 10 ∧ W (cRc (Q c)) = c + 10 ∧ cGn (Q c) < 2 ^ 31
/-- free pages, time, tokens, evicted, expired -/
abbrev NN : Type := Nat × Nat × Nat × Nat × Nat
def mg (sa : Nat) (nn : NN) : va_E := .inr (3, [.ref sa, .int (nI nn.1), .int (nI nn.2.1), .int (nI nn.2.2.1), .int (nI nn.2.2.2.1), .int (nI nn.2.2.2.2)])
def mem (G : sp_G) (M : sp_M) (m sa : Nat) (sh : Nat → Nat) (W : Nat → Nat) (pg : Nat → Nat) (os fr : Nat → List Nat) (Q : Nat → CR) (nn : NN) : Prop :=
  M m = some (mg sa nn) ∧ M sa = some (.inl (G.2.1 3, 4, .inr (.inr (.inr (.inr (fun i => some (sh i))))))) ∧ (∀ i j, i < 4 → j < 4 → sh i = sh j → i = j) ∧ (∀ i, i < 4 → mS G M W i (sh i) (pg i) (os i) (fr i) Q) ∧ nn.1 + pg 0 + pg 1 + pg 2 + pg 3 = 6 ∧ nn.2.1 < 2 ^ 30
theorem mem_get {os : List Nat} {c : Nat} (h : c ∈ os) : ∃ i : Nat, os[i]? = some c := List.mem_iff_getElem?.mp h
theorem mS.cell {G : sp_G} {M : sp_M} {W : Nat → Nat} {i sh pg : Nat} {os fr : List Nat} {Q : Nat → CR} (h : mS G M W i sh pg os fr Q) {c : Nat} (hc : c ∈ os ∨ c ∈ fr) : ∃ nw ol, M c = some (ce sh (cD (Q c)) nw ol) := by
  rcases hc with hc | hc
  · obtain ⟨k, hk⟩ := mem_get hc
    exact ⟨_, _, h.1.2.1 k c hk⟩
  · obtain ⟨k, hk⟩ := mem_get hc
    obtain ⟨nw, hx⟩ := h.1.2.2.1 k c hk
    exact ⟨nw, _, hx⟩
/-- what a call on a shelf leaves as it was -/
def sfr (M M' : sp_M) (s : Nat) : Prop := ∀ q, q ≠ s → (∀ d nw ol, M q ≠ some (ce s d nw ol)) → M' q = M q
theorem sfr_of {M M' : sp_M} {sh cc cp pg : Nat} {D : Nat → CD} {os fr : List Nat} (h : shf M sh cc cp pg D os fr) (hf : ∀ q, q ≠ sh → ni q os → M' q = M q) : sfr M M' sh := fun q h1 h2 => hf q h1 (fun k hk => h2 _ _ _ (h.2.1 k q hk))
theorem ce_ci {sh : Nat} {d : CD} {nw ol : Option Nat} {ci : Nat} {fs : List Value} (h : (.inr (ci, fs) : va_E) = ce sh d nw ol) : ci = 1 := by
  unfold ce ck_e at h
  cases h
  rfl
theorem ce_sh {sh s2 : Nat} {d d2 : CD} {nw ol nw2 ol2 : Option Nat} (h : ce sh d nw ol = ce s2 d2 nw2 ol2) : sh = s2 := by
  unfold ce ck_e at h
  simp only [Sum.inr.injEq, Prod.mk.injEq, List.cons.injEq, Value.ref.injEq] at h
  exact h.2.1
theorem sfr.obj {M M' : sp_M} {s q ci : Nat} {fs : List Value} (h : sfr M M' s) (hs : q ≠ s) (hq : M q = some (.inr (ci, fs))) (hc : ¬ ci = 1) : M' q = M q := by
  refine h q hs (fun d nw ol e => ?_)
  rw [hq] at e
  exact hc (ce_ci (Option.some.inj e))
theorem sfr.arr {M M' : sp_M} {s q cc cp pg it : Nat} {a : vp_A} {cA : ClassId} {fr f b : Option Nat} (h : sfr M M' s) (hs : M s = some (sg cc cp pg it fr f b)) (hq : M q = some (.inl (cA, a))) : M' q = M q := by
  refine h q (fun e => ?_) (fun d nw ol e => ?_)
  · rw [e, hs] at hq
    cases hq
  · rw [hq] at e
    cases e
theorem sfr.tx {G : sp_G} {M M' : sp_M} {s t ch cap cc cp pg it : Nat} {x : List Nat} {fr f b : Option Nat} (h : sfr M M' s) (hs : M s = some (sg cc cp pg it fr f b)) (ht : tx G M t ch cap x) : tx G M' t ch cap x := by
  have hc := ht
  obtain ⟨h1, -, -, -, g, h5, -⟩ := ht
  refine hc.keep (h.obj (fun e => ?_) h1 (by decide)) (h.arr hs h5)
  rw [e, hs] at h1
  cases h1
theorem sfr.chunk {M M' : sp_M} {s c s2 cc cp pg it : Nat} {d : CD} {nw ol fr f b : Option Nat} (h : sfr M M' s) (hs : M s = some (sg cc cp pg it fr f b)) (hn : s2 ≠ s) (hc : M c = some (ce s2 d nw ol)) : M' c = M c := by
  refine h c (ce_ne hc hs) (fun d' nw' ol' e => ?_)
  rw [hc] at e
  exact hn (ce_sh (Option.some.inj e))
theorem mS.other {G : sp_G} {M M' : sp_M} {W : Nat → Nat} {i sh pg s cc cp p it : Nat} {os fr : List Nat} {Q : Nat → CR} {fo f b : Option Nat} (h : mS G M W i sh pg os fr Q) (hn : sh ≠ s) (hs : M s = some (sg cc cp p it fo f b)) (hf : sfr M M' s) : mS G M' W i sh pg os fr Q := by
  refine ⟨h.1.keep (hf.obj hn h.1.1 (by decide)) (fun k c hk => ?_) (fun k c hk => ?_), h.2.1, fun c hc => ?_⟩
  · exact hf.chunk hs hn (h.1.2.1 k c hk)
  · obtain ⟨nw, hx⟩ := h.1.2.2.1 k c hk
    exact hf.chunk hs hn hx
  · obtain ⟨t1, t2, t3, t4⟩ := h.2.2 c hc
    exact ⟨hf.tx hs t1, t2, t3, t4⟩
/-- a shelf's part anew, the other shelves as they were -/
theorem mem.set {G : sp_G} {M M' : sp_M} {m sa : Nat} {sh W pg : Nat → Nat} {os fr : Nat → List Nat} {Q : Nat → CR} {nn : NN} (h : mem G M m sa sh W pg os fr Q nn) {i : Nat} (hi : i < 4) {o' f' : List Nat} (h1 : mS G M' W i (sh i) (pg i) o' f' Q) (hf : sfr M M' (sh i)) : mem G M' m sa sh W pg (up os i o') (up fr i f') Q nn := by
  obtain ⟨a1, a2, a3, a4, a5, a6⟩ := h
  have hs := (a4 i hi).1.1
  have hm : m ≠ sh i := fun e => by
    rw [e, hs] at a1
    cases a1
  refine ⟨(hf.obj hm a1 (by decide)).trans a1, (hf.arr hs a2).trans a2, a3, fun j hj => ?_, a5, a6⟩
  by_cases hji : j = i
  · subst hji
    rw [up_s, up_s]
    exact h1
  · rw [up_n _ _ hji, up_n _ _ hji]
    exact (a4 j hj).other (fun e => hji (a3 j i hj hi e)) hs hf
/-- the memory's numbers anew -/
theorem mem.num {G : sp_G} {M M' : sp_M} {m sa : Nat} {sh W pg : Nat → Nat} {os fr : Nat → List Nat} {Q : Nat → CR} {nn nn' : NN} (h : mem G M m sa sh W pg os fr Q nn) (h1 : M' m = some (mg sa nn')) (hf : ∀ q, q ≠ m → M' q = M q) (hs : nn'.1 + pg 0 + pg 1 + pg 2 + pg 3 = 6) (ht : nn'.2.1 < 2 ^ 30) : mem G M' m sa sh W pg os fr Q nn' := by
  obtain ⟨a1, a2, a3, a4, a5, a6⟩ := h
  have ob : ∀ {q ci : Nat} {fs : List Value}, M q = some (.inr (ci, fs)) → ¬ ci = 3 → M' q = M q := fun {q ci fs} hq hc => hf q (fun e => by
    rw [e, a1] at hq
    cases hq
    exact hc rfl)
  have ar : ∀ {q : Nat} {cA : ClassId} {x : vp_A}, M q = some (.inl (cA, x)) → M' q = M q := fun {q cA x} hq => hf q (fun e => by
    rw [e, a1] at hq
    cases hq)
  refine ⟨h1, (ar a2).trans a2, a3, fun i hi => ?_, hs, ht⟩
  obtain ⟨b1, b2, b3⟩ := a4 i hi
  refine ⟨b1.keep (ob b1.1 (by decide)) (fun k c hk => ob (b1.2.1 k c hk) (by decide)) (fun k c hk => ?_), b2, fun c hc => ?_⟩
  · obtain ⟨nw, hx⟩ := b1.2.2.1 k c hk
    exact ob hx (by decide)
  · obtain ⟨t1, t2, t3, t4⟩ := b3 c hc
    refine ⟨t1.keep (ob t1.1 (by decide)) ?_, t2, t3, t4⟩
    obtain ⟨-, -, -, -, f, t5, -⟩ := t1
    exact ar t5
theorem mem.len {G : sp_G} {M : sp_M} {m sa : Nat} {sh W pg : Nat → Nat} {os fr : Nat → List Nat} {Q : Nat → CR} {nn : NN} (h : mem G M m sa sh W pg os fr Q nn) : ∀ i, i < 4 → (os i).length + (fr i).length ≤ 48 ∧ pg i ≤ 6 := by
  obtain ⟨a1, a2, a3, a4, a5, a6⟩ := h
  have hp : ∀ i, i < 4 → pg i ≤ 6 := z4 (by omega) (by omega) (by omega) (by omega)
  intro i hi
  have h1 := (a4 i hi).2.1
  have h2 := Nat.mul_le_mul (zp_lt i hi) (hp i hi)
  exact ⟨by omega, hp i hi⟩
/-- what calls on the memory leave as it was -/
def oth (e : va_E) : Prop := match e with
  | .inr (ci, _) => ¬ ci = 1 ∧ ¬ ci = 2 ∧ ¬ ci = 3
  | _ => True
def mfr (M M' : sp_M) (W : Nat → Nat) : Prop := ∀ q e, M q = some e → oth e → W q < 10 → M' q = some e
theorem mfr.refl (M : sp_M) (W : Nat → Nat) : mfr M M W := fun _ _ h _ _ => h
theorem mfr.trans {M M1 M2 : sp_M} {W : Nat → Nat} (h1 : mfr M M1 W) (h2 : mfr M1 M2 W) : mfr M M2 W := fun q e h a b => h2 q e (h1 q e h a b) a b
theorem sfr.mfr {M M' : sp_M} {s cc cp pg it : Nat} {fo f b : Option Nat} {W : Nat → Nat} (h : sfr M M' s) (hs : M s = some (sg cc cp pg it fo f b)) : mfr M M' W := fun q e hq ho _ => by
  rw [← hq]
  match e, ho, hq with
  | .inr (ci, fs), ho, hq =>
    refine h.obj (fun e => ?_) hq ho.1
    rw [e, hs] at hq
    cases hq
    exact ho.2.1 rfl
  | .inl (cA, a), ho, hq => exact h.arr hs hq
theorem mfr_num {M M' : sp_M} {m sa : Nat} {nn : NN} {W : Nat → Nat} (h1 : M m = some (mg sa nn)) (hf : ∀ q, q ≠ m → M' q = M q) : mfr M M' W := fun q e hq ho _ => by
  rw [← hq]
  refine hf q (fun e2 => ?_)
  rw [e2, h1] at hq
  cases hq
  exact ho.2.2 rfl
-- the reading methods
def T_Memory_get (G : sp_G) (f : NN → Nat) : sp_T := fun av M Post => ∃ m sa nn, av = [.ref m] ∧ M m = some (mg sa nn) ∧ Post (some (.int (nI (f nn)))) M
set_option maxHeartbeats 4000000 in
set_option maxRecDepth 100000 in
theorem c_Memory_freePages (l : Launch) (G : sp_G) : sp_Met l G y_Memory_freePages b_Memory_freePages 1 (some .int) {} (T_Memory_get G (fun n => n.1)) := by
  refine sp_entry (by decide) (fun av M Post h => ?_) (fun z M av Post hz _ hT => ?_)
  · obtain ⟨m, sa, nn, rfl, -⟩ := h
    exact Nat.le_of_ble_eq_true rfl
  · obtain ⟨m, sa, nn, rfl, h1, hp⟩ := hT
    refine sp_run hz _ _ e_Memory_freePages_0 _ _ _ ?_
    simp only [k_Memory_freePages_0, E_nil, E_iconst, E_bipush, E_sipush, E_ldc, E_ldc2, E_lconst, E_null, E_iload_n, E_lload_n, E_aload_n, E_istore_n, E_lstore_n, E_astore_n, E_astoreN_n, E_iload, E_lload, E_aload, E_istore, E_lstore, E_astore, E_astoreN, E_ldi, E_ldl, E_lda, E_ldN, E_iinc, E_iadd, E_isub, E_imul, E_iand, E_ior, E_ixor, E_ishl, E_ishr, E_idiv, E_irem, E_ineg, E_ladd, E_lsub, E_land, E_lor, E_lcmp, E_lshl, E_lshr, E_lushr, E_i2l, E_l2i, E_i2c, E_dupI, E_popI, E_dup_x1II, E_dup2II, E_dup_x1IR, E_dup2IR, E_dup_x1IN, E_dup2IN, E_dupR, E_popR, E_dup_x1RI, E_dup2RI, E_dup_x1RR, E_dup2RR, E_dup_x1RN, E_dup2RN, E_dupN, E_popN, E_dup_x1NI, E_dup2NI, E_dup_x1NR, E_dup2NR, E_dup_x1NN, E_dup2NN, E_goto, E_if_eq, E_if_ne, E_if_lt, E_if_ge, E_if_gt, E_if_le, E_ic_eq, E_ic_ne, E_ic_lt, E_ic_ge, E_ic_gt, E_ic_le, E_ifnull, E_ifnullN, E_ifnonnull, E_ifnonnullN, E_get, E_gf, E_xv, E_n0, E_ns, E_putI, E_putR, E_putN, E_pf, E_st0, E_sts, E_iaload, E_caload, E_laload, E_aaload, E_alen, E_iast, E_cast, E_last, E_xI, E_xJ, E_xQ, E_xN, E_lk, E_lkn, E_s1, E_s1h, E_s1I, E_s1R, E_s1N, E_s1L, E_s2, E_s2h, E_s2L, E_s2I, E_s2R, E_s2N, E_a1, E_a0, E_aI, E_aR, E_aN, E_aL, Option.isSome_some, eq_self, true_and, and_true, true_or, or_true, ne_eq, not_false_eq_true, not_true_eq_false, reduceIte, reduceCtorEq, Nat.reduceAdd, Nat.reduceBEq, Nat.reduceEqDiff, Option.toList_some, Option.toList_none, List.cons_append, List.nil_append, h1, mg]
    exact sp_iret hz d_Memory_freePages_4 (Nat.le_refl _) (Nat.le_refl _) hp
set_option maxHeartbeats 4000000 in
set_option maxRecDepth 100000 in
theorem c_Memory_time (l : Launch) (G : sp_G) : sp_Met l G y_Memory_time b_Memory_time 1 (some .int) {} (T_Memory_get G (fun n => n.2.1)) := by
  refine sp_entry (by decide) (fun av M Post h => ?_) (fun z M av Post hz _ hT => ?_)
  · obtain ⟨m, sa, nn, rfl, -⟩ := h
    exact Nat.le_of_ble_eq_true rfl
  · obtain ⟨m, sa, nn, rfl, h1, hp⟩ := hT
    refine sp_run hz _ _ e_Memory_time_0 _ _ _ ?_
    simp only [k_Memory_time_0, E_nil, E_iconst, E_bipush, E_sipush, E_ldc, E_ldc2, E_lconst, E_null, E_iload_n, E_lload_n, E_aload_n, E_istore_n, E_lstore_n, E_astore_n, E_astoreN_n, E_iload, E_lload, E_aload, E_istore, E_lstore, E_astore, E_astoreN, E_ldi, E_ldl, E_lda, E_ldN, E_iinc, E_iadd, E_isub, E_imul, E_iand, E_ior, E_ixor, E_ishl, E_ishr, E_idiv, E_irem, E_ineg, E_ladd, E_lsub, E_land, E_lor, E_lcmp, E_lshl, E_lshr, E_lushr, E_i2l, E_l2i, E_i2c, E_dupI, E_popI, E_dup_x1II, E_dup2II, E_dup_x1IR, E_dup2IR, E_dup_x1IN, E_dup2IN, E_dupR, E_popR, E_dup_x1RI, E_dup2RI, E_dup_x1RR, E_dup2RR, E_dup_x1RN, E_dup2RN, E_dupN, E_popN, E_dup_x1NI, E_dup2NI, E_dup_x1NR, E_dup2NR, E_dup_x1NN, E_dup2NN, E_goto, E_if_eq, E_if_ne, E_if_lt, E_if_ge, E_if_gt, E_if_le, E_ic_eq, E_ic_ne, E_ic_lt, E_ic_ge, E_ic_gt, E_ic_le, E_ifnull, E_ifnullN, E_ifnonnull, E_ifnonnullN, E_get, E_gf, E_xv, E_n0, E_ns, E_putI, E_putR, E_putN, E_pf, E_st0, E_sts, E_iaload, E_caload, E_laload, E_aaload, E_alen, E_iast, E_cast, E_last, E_xI, E_xJ, E_xQ, E_xN, E_lk, E_lkn, E_s1, E_s1h, E_s1I, E_s1R, E_s1N, E_s1L, E_s2, E_s2h, E_s2L, E_s2I, E_s2R, E_s2N, E_a1, E_a0, E_aI, E_aR, E_aN, E_aL, Option.isSome_some, eq_self, true_and, and_true, true_or, or_true, ne_eq, not_false_eq_true, not_true_eq_false, reduceIte, reduceCtorEq, Nat.reduceAdd, Nat.reduceBEq, Nat.reduceEqDiff, Option.toList_some, Option.toList_none, List.cons_append, List.nil_append, h1, mg]
    exact sp_iret hz d_Memory_time_4 (Nat.le_refl _) (Nat.le_refl _) hp
set_option maxHeartbeats 4000000 in
set_option maxRecDepth 100000 in
theorem c_Memory_tokens (l : Launch) (G : sp_G) : sp_Met l G y_Memory_tokens b_Memory_tokens 1 (some .int) {} (T_Memory_get G (fun n => n.2.2.1)) := by
  refine sp_entry (by decide) (fun av M Post h => ?_) (fun z M av Post hz _ hT => ?_)
  · obtain ⟨m, sa, nn, rfl, -⟩ := h
    exact Nat.le_of_ble_eq_true rfl
  · obtain ⟨m, sa, nn, rfl, h1, hp⟩ := hT
    refine sp_run hz _ _ e_Memory_tokens_0 _ _ _ ?_
    simp only [k_Memory_tokens_0, E_nil, E_iconst, E_bipush, E_sipush, E_ldc, E_ldc2, E_lconst, E_null, E_iload_n, E_lload_n, E_aload_n, E_istore_n, E_lstore_n, E_astore_n, E_astoreN_n, E_iload, E_lload, E_aload, E_istore, E_lstore, E_astore, E_astoreN, E_ldi, E_ldl, E_lda, E_ldN, E_iinc, E_iadd, E_isub, E_imul, E_iand, E_ior, E_ixor, E_ishl, E_ishr, E_idiv, E_irem, E_ineg, E_ladd, E_lsub, E_land, E_lor, E_lcmp, E_lshl, E_lshr, E_lushr, E_i2l, E_l2i, E_i2c, E_dupI, E_popI, E_dup_x1II, E_dup2II, E_dup_x1IR, E_dup2IR, E_dup_x1IN, E_dup2IN, E_dupR, E_popR, E_dup_x1RI, E_dup2RI, E_dup_x1RR, E_dup2RR, E_dup_x1RN, E_dup2RN, E_dupN, E_popN, E_dup_x1NI, E_dup2NI, E_dup_x1NR, E_dup2NR, E_dup_x1NN, E_dup2NN, E_goto, E_if_eq, E_if_ne, E_if_lt, E_if_ge, E_if_gt, E_if_le, E_ic_eq, E_ic_ne, E_ic_lt, E_ic_ge, E_ic_gt, E_ic_le, E_ifnull, E_ifnullN, E_ifnonnull, E_ifnonnullN, E_get, E_gf, E_xv, E_n0, E_ns, E_putI, E_putR, E_putN, E_pf, E_st0, E_sts, E_iaload, E_caload, E_laload, E_aaload, E_alen, E_iast, E_cast, E_last, E_xI, E_xJ, E_xQ, E_xN, E_lk, E_lkn, E_s1, E_s1h, E_s1I, E_s1R, E_s1N, E_s1L, E_s2, E_s2h, E_s2L, E_s2I, E_s2R, E_s2N, E_a1, E_a0, E_aI, E_aR, E_aN, E_aL, Option.isSome_some, eq_self, true_and, and_true, true_or, or_true, ne_eq, not_false_eq_true, not_true_eq_false, reduceIte, reduceCtorEq, Nat.reduceAdd, Nat.reduceBEq, Nat.reduceEqDiff, Option.toList_some, Option.toList_none, List.cons_append, List.nil_append, h1, mg]
    exact sp_iret hz d_Memory_tokens_4 (Nat.le_refl _) (Nat.le_refl _) hp
set_option maxHeartbeats 4000000 in
set_option maxRecDepth 100000 in
theorem c_Memory_evicted (l : Launch) (G : sp_G) : sp_Met l G y_Memory_evicted b_Memory_evicted 1 (some .int) {} (T_Memory_get G (fun n => n.2.2.2.1)) := by
  refine sp_entry (by decide) (fun av M Post h => ?_) (fun z M av Post hz _ hT => ?_)
  · obtain ⟨m, sa, nn, rfl, -⟩ := h
    exact Nat.le_of_ble_eq_true rfl
  · obtain ⟨m, sa, nn, rfl, h1, hp⟩ := hT
    refine sp_run hz _ _ e_Memory_evicted_0 _ _ _ ?_
    simp only [k_Memory_evicted_0, E_nil, E_iconst, E_bipush, E_sipush, E_ldc, E_ldc2, E_lconst, E_null, E_iload_n, E_lload_n, E_aload_n, E_istore_n, E_lstore_n, E_astore_n, E_astoreN_n, E_iload, E_lload, E_aload, E_istore, E_lstore, E_astore, E_astoreN, E_ldi, E_ldl, E_lda, E_ldN, E_iinc, E_iadd, E_isub, E_imul, E_iand, E_ior, E_ixor, E_ishl, E_ishr, E_idiv, E_irem, E_ineg, E_ladd, E_lsub, E_land, E_lor, E_lcmp, E_lshl, E_lshr, E_lushr, E_i2l, E_l2i, E_i2c, E_dupI, E_popI, E_dup_x1II, E_dup2II, E_dup_x1IR, E_dup2IR, E_dup_x1IN, E_dup2IN, E_dupR, E_popR, E_dup_x1RI, E_dup2RI, E_dup_x1RR, E_dup2RR, E_dup_x1RN, E_dup2RN, E_dupN, E_popN, E_dup_x1NI, E_dup2NI, E_dup_x1NR, E_dup2NR, E_dup_x1NN, E_dup2NN, E_goto, E_if_eq, E_if_ne, E_if_lt, E_if_ge, E_if_gt, E_if_le, E_ic_eq, E_ic_ne, E_ic_lt, E_ic_ge, E_ic_gt, E_ic_le, E_ifnull, E_ifnullN, E_ifnonnull, E_ifnonnullN, E_get, E_gf, E_xv, E_n0, E_ns, E_putI, E_putR, E_putN, E_pf, E_st0, E_sts, E_iaload, E_caload, E_laload, E_aaload, E_alen, E_iast, E_cast, E_last, E_xI, E_xJ, E_xQ, E_xN, E_lk, E_lkn, E_s1, E_s1h, E_s1I, E_s1R, E_s1N, E_s1L, E_s2, E_s2h, E_s2L, E_s2I, E_s2R, E_s2N, E_a1, E_a0, E_aI, E_aR, E_aN, E_aL, Option.isSome_some, eq_self, true_and, and_true, true_or, or_true, ne_eq, not_false_eq_true, not_true_eq_false, reduceIte, reduceCtorEq, Nat.reduceAdd, Nat.reduceBEq, Nat.reduceEqDiff, Option.toList_some, Option.toList_none, List.cons_append, List.nil_append, h1, mg]
    exact sp_iret hz d_Memory_evicted_4 (Nat.le_refl _) (Nat.le_refl _) hp
set_option maxHeartbeats 4000000 in
set_option maxRecDepth 100000 in
theorem c_Memory_expired (l : Launch) (G : sp_G) : sp_Met l G y_Memory_expired b_Memory_expired 1 (some .int) {} (T_Memory_get G (fun n => n.2.2.2.2)) := by
  refine sp_entry (by decide) (fun av M Post h => ?_) (fun z M av Post hz _ hT => ?_)
  · obtain ⟨m, sa, nn, rfl, -⟩ := h
    exact Nat.le_of_ble_eq_true rfl
  · obtain ⟨m, sa, nn, rfl, h1, hp⟩ := hT
    refine sp_run hz _ _ e_Memory_expired_0 _ _ _ ?_
    simp only [k_Memory_expired_0, E_nil, E_iconst, E_bipush, E_sipush, E_ldc, E_ldc2, E_lconst, E_null, E_iload_n, E_lload_n, E_aload_n, E_istore_n, E_lstore_n, E_astore_n, E_astoreN_n, E_iload, E_lload, E_aload, E_istore, E_lstore, E_astore, E_astoreN, E_ldi, E_ldl, E_lda, E_ldN, E_iinc, E_iadd, E_isub, E_imul, E_iand, E_ior, E_ixor, E_ishl, E_ishr, E_idiv, E_irem, E_ineg, E_ladd, E_lsub, E_land, E_lor, E_lcmp, E_lshl, E_lshr, E_lushr, E_i2l, E_l2i, E_i2c, E_dupI, E_popI, E_dup_x1II, E_dup2II, E_dup_x1IR, E_dup2IR, E_dup_x1IN, E_dup2IN, E_dupR, E_popR, E_dup_x1RI, E_dup2RI, E_dup_x1RR, E_dup2RR, E_dup_x1RN, E_dup2RN, E_dupN, E_popN, E_dup_x1NI, E_dup2NI, E_dup_x1NR, E_dup2NR, E_dup_x1NN, E_dup2NN, E_goto, E_if_eq, E_if_ne, E_if_lt, E_if_ge, E_if_gt, E_if_le, E_ic_eq, E_ic_ne, E_ic_lt, E_ic_ge, E_ic_gt, E_ic_le, E_ifnull, E_ifnullN, E_ifnonnull, E_ifnonnullN, E_get, E_gf, E_xv, E_n0, E_ns, E_putI, E_putR, E_putN, E_pf, E_st0, E_sts, E_iaload, E_caload, E_laload, E_aaload, E_alen, E_iast, E_cast, E_last, E_xI, E_xJ, E_xQ, E_xN, E_lk, E_lkn, E_s1, E_s1h, E_s1I, E_s1R, E_s1N, E_s1L, E_s2, E_s2h, E_s2L, E_s2I, E_s2R, E_s2N, E_a1, E_a0, E_aI, E_aR, E_aN, E_aL, Option.isSome_some, eq_self, true_and, and_true, true_or, or_true, ne_eq, not_false_eq_true, not_true_eq_false, reduceIte, reduceCtorEq, Nat.reduceAdd, Nat.reduceBEq, Nat.reduceEqDiff, Option.toList_some, Option.toList_none, List.cons_append, List.nil_append, h1, mg]
    exact sp_iret hz d_Memory_expired_4 (Nat.le_refl _) (Nat.le_refl _) hp
def T_Memory_shelf (G : sp_G) : sp_T := fun av M Post => ∃ m sa sh W pg os fr Q nn i, av = [.ref m, .int (nI i)] ∧ mem G M m sa sh W pg os fr Q nn ∧ i < 4 ∧ Post (some (.ref (sh i))) M
set_option maxHeartbeats 4000000 in
set_option maxRecDepth 100000 in
theorem c_Memory_shelf (l : Launch) (G : sp_G) : sp_Met l G y_Memory_shelf b_Memory_shelf 2 (some (.object "SlabPantry$Shelf")) {} (T_Memory_shelf G) := by
  refine sp_entry (by decide) (fun av M Post h => ?_) (fun z M av Post hz _ hT => ?_)
  · obtain ⟨m, sa, sh, W, pg, os, fr, Q, nn, i, rfl, -⟩ := h
    exact Nat.le_of_ble_eq_true rfl
  · obtain ⟨m, sa, sh, W, pg, os, fr, Q, nn, i, rfl, ⟨a1, a2, -⟩, hi, hp⟩ := hT
    have hi31 : i < 2 ^ 31 := by omega
    refine sp_run hz _ _ e_Memory_shelf_0 _ _ _ ?_
    simp only [k_Memory_shelf_0, E_nil, E_iconst, E_bipush, E_sipush, E_ldc, E_ldc2, E_lconst, E_null, E_iload_n, E_lload_n, E_aload_n, E_istore_n, E_lstore_n, E_astore_n, E_astoreN_n, E_iload, E_lload, E_aload, E_istore, E_lstore, E_astore, E_astoreN, E_ldi, E_ldl, E_lda, E_ldN, E_iinc, E_iadd, E_isub, E_imul, E_iand, E_ior, E_ixor, E_ishl, E_ishr, E_idiv, E_irem, E_ineg, E_ladd, E_lsub, E_land, E_lor, E_lcmp, E_lshl, E_lshr, E_lushr, E_i2l, E_l2i, E_i2c, E_dupI, E_popI, E_dup_x1II, E_dup2II, E_dup_x1IR, E_dup2IR, E_dup_x1IN, E_dup2IN, E_dupR, E_popR, E_dup_x1RI, E_dup2RI, E_dup_x1RR, E_dup2RR, E_dup_x1RN, E_dup2RN, E_dupN, E_popN, E_dup_x1NI, E_dup2NI, E_dup_x1NR, E_dup2NR, E_dup_x1NN, E_dup2NN, E_goto, E_if_eq, E_if_ne, E_if_lt, E_if_ge, E_if_gt, E_if_le, E_ic_eq, E_ic_ne, E_ic_lt, E_ic_ge, E_ic_gt, E_ic_le, E_ifnull, E_ifnullN, E_ifnonnull, E_ifnonnullN, E_get, E_gf, E_xv, E_n0, E_ns, E_putI, E_putR, E_putN, E_pf, E_st0, E_sts, E_iaload, E_caload, E_laload, E_aaload, E_alen, E_iast, E_cast, E_last, E_xI, E_xJ, E_xQ, E_xN, E_lk, E_lkn, E_s1, E_s1h, E_s1I, E_s1R, E_s1N, E_s1L, E_s2, E_s2h, E_s2L, E_s2I, E_s2R, E_s2N, E_a1, E_a0, E_aI, E_aR, E_aN, E_aL, Option.isSome_some, eq_self, true_and, and_true, true_or, or_true, ne_eq, not_false_eq_true, not_true_eq_false, reduceIte, reduceCtorEq, Nat.reduceAdd, Nat.reduceBEq, Nat.reduceEqDiff, Option.toList_some, Option.toList_none, List.cons_append, List.nil_append, a1, a2, mg, nI_clamp hi31]
    exact ⟨nI_in hi (by decide), sp_aret (r := some (sh i)) hz d_Memory_shelf_6 (Nat.le_refl _) (Nat.le_refl _) hp⟩
def T_Memory_goneAfter (G : sp_G) : sp_T := fun av M Post => ∃ m sa nn x, av = [.ref m, .int x] ∧ M m = some (mg sa nn) ∧ (x = 0 → Post (some (.int (nI 2147483647))) M) ∧ (x < 0 → Post (some (.int (nI nn.2.1))) M) ∧ (∀ k, x = nI k → 0 < k → k < 2 ^ 31 → Post (some (.int (nI (nn.2.1 + k)))) M)
set_option maxHeartbeats 4000000 in
set_option maxRecDepth 100000 in
theorem c_Memory_goneAfter (l : Launch) (G : sp_G) : sp_Met l G y_Memory_goneAfter b_Memory_goneAfter 2 (some .int) {} (T_Memory_goneAfter G) := by
  refine sp_entry (by decide) (fun av M Post h => ?_) (fun z M av Post hz _ hT => ?_)
  · obtain ⟨m, sa, nn, x, rfl, -⟩ := h
    exact Nat.le_of_ble_eq_true rfl
  · obtain ⟨m, sa, nn, x, rfl, h1, p1, p2, p3⟩ := hT
    refine sp_run hz _ _ e_Memory_goneAfter_0 _ _ _ ?_
    simp only [k_Memory_goneAfter_0, E_nil, E_iconst, E_bipush, E_sipush, E_ldc, E_ldc2, E_lconst, E_null, E_iload_n, E_lload_n, E_aload_n, E_istore_n, E_lstore_n, E_astore_n, E_astoreN_n, E_iload, E_lload, E_aload, E_istore, E_lstore, E_astore, E_astoreN, E_ldi, E_ldl, E_lda, E_ldN, E_iinc, E_iadd, E_isub, E_imul, E_iand, E_ior, E_ixor, E_ishl, E_ishr, E_idiv, E_irem, E_ineg, E_ladd, E_lsub, E_land, E_lor, E_lcmp, E_lshl, E_lshr, E_lushr, E_i2l, E_l2i, E_i2c, E_dupI, E_popI, E_dup_x1II, E_dup2II, E_dup_x1IR, E_dup2IR, E_dup_x1IN, E_dup2IN, E_dupR, E_popR, E_dup_x1RI, E_dup2RI, E_dup_x1RR, E_dup2RR, E_dup_x1RN, E_dup2RN, E_dupN, E_popN, E_dup_x1NI, E_dup2NI, E_dup_x1NR, E_dup2NR, E_dup_x1NN, E_dup2NN, E_goto, E_if_eq, E_if_ne, E_if_lt, E_if_ge, E_if_gt, E_if_le, E_ic_eq, E_ic_ne, E_ic_lt, E_ic_ge, E_ic_gt, E_ic_le, E_ifnull, E_ifnullN, E_ifnonnull, E_ifnonnullN, E_get, E_gf, E_xv, E_n0, E_ns, E_putI, E_putR, E_putN, E_pf, E_st0, E_sts, E_iaload, E_caload, E_laload, E_aaload, E_alen, E_iast, E_cast, E_last, E_xI, E_xJ, E_xQ, E_xN, E_lk, E_lkn, E_s1, E_s1h, E_s1I, E_s1R, E_s1N, E_s1L, E_s2, E_s2h, E_s2L, E_s2I, E_s2R, E_s2N, E_a1, E_a0, E_aI, E_aR, E_aN, E_aL, Option.isSome_some, eq_self, true_and, and_true, true_or, or_true, ne_eq, not_false_eq_true, not_true_eq_false, reduceIte, reduceCtorEq, Nat.reduceAdd, Nat.reduceBEq, Nat.reduceEqDiff, Option.toList_some, Option.toList_none, List.cons_append, List.nil_append]
    refine ⟨fun h0 => ?_, fun h0 => ?_⟩
    · refine sp_run hz _ _ e_Memory_goneAfter_7 _ _ _ ?_
      simp only [k_Memory_goneAfter_7, E_nil, E_iconst, E_bipush, E_sipush, E_ldc, E_ldc2, E_lconst, E_null, E_iload_n, E_lload_n, E_aload_n, E_istore_n, E_lstore_n, E_astore_n, E_astoreN_n, E_iload, E_lload, E_aload, E_istore, E_lstore, E_astore, E_astoreN, E_ldi, E_ldl, E_lda, E_ldN, E_iinc, E_iadd, E_isub, E_imul, E_iand, E_ior, E_ixor, E_ishl, E_ishr, E_idiv, E_irem, E_ineg, E_ladd, E_lsub, E_land, E_lor, E_lcmp, E_lshl, E_lshr, E_lushr, E_i2l, E_l2i, E_i2c, E_dupI, E_popI, E_dup_x1II, E_dup2II, E_dup_x1IR, E_dup2IR, E_dup_x1IN, E_dup2IN, E_dupR, E_popR, E_dup_x1RI, E_dup2RI, E_dup_x1RR, E_dup2RR, E_dup_x1RN, E_dup2RN, E_dupN, E_popN, E_dup_x1NI, E_dup2NI, E_dup_x1NR, E_dup2NR, E_dup_x1NN, E_dup2NN, E_goto, E_if_eq, E_if_ne, E_if_lt, E_if_ge, E_if_gt, E_if_le, E_ic_eq, E_ic_ne, E_ic_lt, E_ic_ge, E_ic_gt, E_ic_le, E_ifnull, E_ifnullN, E_ifnonnull, E_ifnonnullN, E_get, E_gf, E_xv, E_n0, E_ns, E_putI, E_putR, E_putN, E_pf, E_st0, E_sts, E_iaload, E_caload, E_laload, E_aaload, E_alen, E_iast, E_cast, E_last, E_xI, E_xJ, E_xQ, E_xN, E_lk, E_lkn, E_s1, E_s1h, E_s1I, E_s1R, E_s1N, E_s1L, E_s2, E_s2h, E_s2L, E_s2I, E_s2R, E_s2N, E_a1, E_a0, E_aI, E_aR, E_aN, E_aL, Option.isSome_some, eq_self, true_and, and_true, true_or, or_true, ne_eq, not_false_eq_true, not_true_eq_false, reduceIte, reduceCtorEq, Nat.reduceAdd, Nat.reduceBEq, Nat.reduceEqDiff, Option.toList_some, Option.toList_none, List.cons_append, List.nil_append, h1, mg]
      refine ⟨fun h2 => ?_, fun h2 => ?_⟩
      · have h2' : ¬ x < 0 := fun q => Int32.lt_irrefl (Int32.lt_of_lt_of_le q h2)
        obtain ⟨k, hk, rfl⟩ := nI_of h2'
        refine sp_run hz _ _ e_Memory_goneAfter_18 _ _ _ ?_
        simp only [k_Memory_goneAfter_18, E_nil, E_iconst, E_bipush, E_sipush, E_ldc, E_ldc2, E_lconst, E_null, E_iload_n, E_lload_n, E_aload_n, E_istore_n, E_lstore_n, E_astore_n, E_astoreN_n, E_iload, E_lload, E_aload, E_istore, E_lstore, E_astore, E_astoreN, E_ldi, E_ldl, E_lda, E_ldN, E_iinc, E_iadd, E_isub, E_imul, E_iand, E_ior, E_ixor, E_ishl, E_ishr, E_idiv, E_irem, E_ineg, E_ladd, E_lsub, E_land, E_lor, E_lcmp, E_lshl, E_lshr, E_lushr, E_i2l, E_l2i, E_i2c, E_dupI, E_popI, E_dup_x1II, E_dup2II, E_dup_x1IR, E_dup2IR, E_dup_x1IN, E_dup2IN, E_dupR, E_popR, E_dup_x1RI, E_dup2RI, E_dup_x1RR, E_dup2RR, E_dup_x1RN, E_dup2RN, E_dupN, E_popN, E_dup_x1NI, E_dup2NI, E_dup_x1NR, E_dup2NR, E_dup_x1NN, E_dup2NN, E_goto, E_if_eq, E_if_ne, E_if_lt, E_if_ge, E_if_gt, E_if_le, E_ic_eq, E_ic_ne, E_ic_lt, E_ic_ge, E_ic_gt, E_ic_le, E_ifnull, E_ifnullN, E_ifnonnull, E_ifnonnullN, E_get, E_gf, E_xv, E_n0, E_ns, E_putI, E_putR, E_putN, E_pf, E_st0, E_sts, E_iaload, E_caload, E_laload, E_aaload, E_alen, E_iast, E_cast, E_last, E_xI, E_xJ, E_xQ, E_xN, E_lk, E_lkn, E_s1, E_s1h, E_s1I, E_s1R, E_s1N, E_s1L, E_s2, E_s2h, E_s2L, E_s2I, E_s2R, E_s2N, E_a1, E_a0, E_aI, E_aR, E_aN, E_aL, Option.isSome_some, eq_self, true_and, and_true, true_or, or_true, ne_eq, not_false_eq_true, not_true_eq_false, reduceIte, reduceCtorEq, Nat.reduceAdd, Nat.reduceBEq, Nat.reduceEqDiff, Option.toList_some, Option.toList_none, List.cons_append, List.nil_append, h1, mg, nI_add]
        exact sp_iret hz d_Memory_goneAfter_24 (Nat.le_refl _) (Nat.le_refl _) (p3 k rfl (Nat.pos_of_ne_zero fun e => h0 (by rw [e]; rfl)) hk)
      · exact sp_iret hz d_Memory_goneAfter_24 (Nat.le_refl _) (Nat.le_refl _) (p2 (Int32.not_le.mp h2))
    · exact sp_iret hz d_Memory_goneAfter_6 (Nat.le_refl _) (Nat.le_refl _) (p1 h0)
