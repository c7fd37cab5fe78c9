/-! Both worlds beside each other. -/
def kpc (M M' : sp_M) (W : Nat → Nat) : Prop := ∀ q e, M q = some e → ((∃ ci fs, e = .inr (ci, fs) ∧ ci < 8) ∨ 0 < W q) → M' q = some e
section KP
variable {G : sp_G} {M M' : sp_M} {W : Nat → Nat}
theorem kpc.ob (h : kpc M M' W) {q ci : Nat} {fs : List Value} (hq : M q = some (.inr (ci, fs))) (hc : ci < 8) : M' q = some (.inr (ci, fs)) := h q _ hq (Or.inl ⟨ci, fs, rfl, hc⟩)
theorem kpc.tx (h : kpc M M' W) {t ch cap : Nat} {s : List Nat} (ht : tx G M t ch cap s) (hw : 0 < W ch) : tx G M' t ch cap s := by
  obtain ⟨h1, h2, h3, h4, f, h5, h6⟩ := ht
  exact ⟨h.ob h1 (by decide), h2, h3, h4, f, h _ _ h5 (Or.inr hw), h6⟩
theorem kpc.ms (h : kpc M M' W) {i sh pg : Nat} {os fr : List Nat} {Q : Nat → CR} (hm : mS G M W i sh pg os fr Q) : mS G M' W i sh pg os fr Q := by
  obtain ⟨⟨h1, h2, h3, h4, h5, h6⟩, h7, h8⟩ := hm
  refine ⟨⟨h.ob h1 (by decide), fun i c hc => h.ob (h2 i c hc) (by decide), fun i c hc => ?_, h4, h5, h6⟩, h7, fun c hc => ?_⟩
  · obtain ⟨nw, hx⟩ := h3 i c hc
    exact ⟨nw, h.ob hx (by decide)⟩
  · obtain ⟨a1, a2, a3, a4⟩ := h8 c hc
    exact ⟨h.tx a1 (by omega), a2, a3, a4⟩
theorem kpc.cs (h : kpc M M' W) {A : Nat → Nat} {S : AS} (hc : cS G M A W S) : cS G M' A W S := by
  obtain ⟨sh, os, fr, Q, X, N, ws, hk, ha, e0, e2, n0, n1⟩ := hc
  refine ⟨sh, os, fr, Q, X, N, ws, ?_, ha, e0, e2, n0, n1⟩
  have hwA := hk.wA
  obtain ⟨k1, k2, k3, k4, k5, ⟨f, g, k6, k7, k8⟩, k9, k10, ⟨m1, m2, m3, m4, m5⟩, k11⟩ := hk
  have w5 : W (A 5) = 5 := hwA 5 (by decide) (by decide)
  have w7 : W (A 7) = 5 := hwA 7 (by decide) (by decide)
  have w8 : W (A 8) = 5 := hwA 8 (by decide) (by decide)
  refine ⟨fun t ht => h.tx (k1 t ht) ?_, h.ob k2 (by decide), h.ob k3 (by decide), h.ob k4 (by decide), h.ob k5 (by decide), ⟨f, g, h _ _ k6 (Or.inr (by omega)), h _ _ k7 (Or.inr (by omega)), k8⟩, k9, k10, ⟨h.ob m1 (by decide), h _ _ m2 (Or.inr (by omega)), m3, fun i hi => h.ms (m4 i hi), m5⟩, k11⟩
  obtain ⟨⟨q1, q2, q3⟩, q4, q5, q6, -⟩ := xt_w ht
  rw [hwA (t + 1) (by omega) q3, q4]
  exact q6
end KP
theorem rw0.keep {G : sp_G} {M M' : sp_M} {B V : Nat → Nat} {F : Nat → Nat → Int32} {K : Nat → Int64} (h : rw0 G M B V F K) (hk : ∀ j, rI j = true → M' (B j) = M (B j)) : rw0 G M' B V F K := ⟨(hk 0 rfl).trans h.1, (hk 6 rfl).trans h.2.1, fun j hj => (hk j (rJ_I hj)).trans (h.2.2.1 j hj), h.2.2.2⟩
theorem rA.keep {G : sp_G} {M M' : sp_M} {B : Nat → Nat} {s a fr : List Nat} {L : List It} {pg V : Nat → Nat} {ws : List (Nat × Nat)} (h : rA G M B s a L pg ws fr V) (hk : ∀ j, rI j = true → M' (B j) = M (B j)) : rA G M' B s a L pg ws fr V := by
  obtain ⟨R, ⟨F, K, h0, hr⟩, h2⟩ := h
  exact ⟨R, ⟨F, K, h0.keep hk, hr⟩, h2⟩
/-- the cells of the model, as the class sees them -/
theorem rA.cell {G : sp_G} {M : sp_M} {B : Nat → Nat} {s a fr : List Nat} {L : List It} {pg V : Nat → Nat} {ws : List (Nat × Nat)} (h : rA G M B s a L pg ws fr V) {j : Nat} (hj : rI j = true) : ∃ e, M (B j) = some e ∧ oth e ∧ ∀ ci fs, e = .inr (ci, fs) → ¬ ci < 8 := by
  obtain ⟨R, ⟨F, K, h0, hr⟩, h2⟩ := h
  by_cases e0 : j = 0
  · subst e0
    refine ⟨_, h0.o, ⟨by decide, by decide, by decide⟩, fun ci fs e => ?_⟩
    cases e
    decide
  · by_cases e6 : j = 6
    · subst e6
      exact ⟨_, h0.k, trivial, fun ci fs e => by cases e⟩
    · have hJ : rJ j = true := by
        unfold rI at hj
        rw [decide_eq_false (by omega), Bool.false_or] at hj
        exact hj
      exact ⟨_, h0.a j hJ, trivial, fun ci fs e => by cases e⟩
/-- the state of both after k calls -/
def jS (G : sp_G) (M : sp_M) (A W B : Nat → Nat) (o : Nat) (S : AS) (ws : List (Nat × Nat)) (fr : List Nat) (V : Nat → Nat) (k : Nat) : Prop := cS G M A W S ∧ rA G M B (sL S) (sA S) (sI S) (sP S) ws fr V ∧ vOK V S ∧ (∀ j, rI j = true → W (B j) = 0) ∧ oAt G M o ∧ W o = 0 ∧ (∀ j, rI j = true → o ≠ B j) ∧ (∀ x ∈ sI S, (sN S).2.1 < iG x) ∧ (sN S).2.1 ≤ k * 1000000 ∧ (sN S).2.2.1 ≤ k ∧ V 16 ≤ 3 * k
section JS
variable {G : sp_G} {M M' : sp_M} {A W W' B : Nat → Nat} {o k : Nat} {S S' : AS} {ws ws' : List (Nat × Nat)} {fr fr' : List Nat} {V V' : Nat → Nat}
theorem jS.c (h : jS G M A W B o S ws fr V k) : cS G M A W S := h.1
theorem jS.m (h : jS G M A W B o S ws fr V k) : rA G M B (sL S) (sA S) (sI S) (sP S) ws fr V := h.2.1
/-- behind a call on the class -/
theorem jS.ac (h : jS G M A W B o S ws fr V k) (hf : ffr M M' W W') : rA G M' B (sL S) (sA S) (sI S) (sP S) ws fr V ∧ (∀ j, rI j = true → W' (B j) = 0) ∧ oAt G M' o ∧ W' o = 0 := by
  obtain ⟨hc, hm, hv, hwB, ⟨f, ho⟩, hwo, hob, hr⟩ := h
  refine ⟨hm.keep fun j hj => ?_, fun j hj => ?_, ⟨f, (hf o _ ho trivial hwo).1⟩, (hf o _ ho trivial hwo).2⟩
  · obtain ⟨e, h1, h2, -⟩ := hm.cell hj
    rw [(hf _ _ h1 h2 (hwB j hj)).1, h1]
  · obtain ⟨e, h1, h2, -⟩ := hm.cell hj
    exact (hf _ _ h1 h2 (hwB j hj)).2
/-- behind a call on the model -/
theorem jS_am (hm : rA G M B (sL S) (sA S) (sI S) (sP S) ws fr V) (hwB : ∀ j, rI j = true → W (B j) = 0) (ho : oAt G M o) (hob : ∀ j, rI j = true → o ≠ B j) (hf : rfr B M M') : (∀ S', cS G M A W S' → cS G M' A W S') ∧ oAt G M' o := by
  refine ⟨fun S' hc => ?_, ?_⟩
  · refine kpc.cs (M := M) (fun q e hq hcl => ?_) hc
    have hne : ∀ j, rI j = true → q ≠ B j := fun j hj e2 => by
      subst e2
      obtain ⟨e3, h1, -, h3⟩ := hm.cell hj
      have e4 : e = e3 := Option.some.inj (hq.symm.trans h1)
      rcases hcl with ⟨ci, fs, he, hci⟩ | hw
      · exact h3 ci fs (e4.symm.trans he) hci
      · rw [hwB j hj] at hw
        exact absurd hw (by decide)
    rw [hf q hne]
    exact hq
  · obtain ⟨f, h1⟩ := ho
    exact ⟨f, by rw [hf o hob]; exact h1⟩
/-- behind a store into the row 'out' -/
theorem jS.ao (h : jS G M A W B o S ws fr V k) (f : Nat → Int64) : jS G (sp_u M o (.inl (G.2.1 2, 1, .inr (.inl f)))) A W B o S ws fr V k := by
  obtain ⟨hc, hm, hv, hwB, ⟨f0, ho⟩, hwo, hob, hr⟩ := h
  refine ⟨kpc.cs (M := M) (fun q e hq hcl => ?_) hc, hm.keep (fun j hj => sp_u_n _ _ (Ne.symm (hob j hj))), hv, hwB, ⟨f, sp_u_s _ _ _⟩, hwo, hob, hr⟩
  have hne : q ≠ o := fun e2 => by
    subst e2
    rw [ho] at hq
    cases hq
    rcases hcl with ⟨ci, fs, he, -⟩ | hw
    · cases he
    · omega
  rw [sp_u_n _ _ hne]
  exact hq
theorem cS.pg {S : AS} (h : cS G M A W S) : (sN S).1 + sP S 0 + sP S 1 + sP S 2 + sP S 3 = 6 ∧ (∀ c, c < 4 → (fi c (sI S)).length ≤ zp c * sP S c) ∧ (sN S).2.1 < 2 ^ 30 := by
  obtain ⟨sh, os, fr, Q, X, N, ws, hk, ha, e0, e2, n0, n1⟩ := h
  have hm := hk.mm
  refine ⟨hm.2.2.2.2.1, fun c hc => ?_, hm.2.2.2.2.2⟩
  have := (hm.2.2.2.1 c hc).2.1
  rw [← ha.len hc]
  omega
end JS
-- the numbers' lengths
theorem dcl_cut {n k : Nat} (h : n < 10 ^ (k + 1)) : ∀ m, pu_dcl (k + m) n = pu_dcl k n
  | 0 => rfl
  | m + 1 => by
    show (if 10 ^ (k + m + 1) ≤ n then _ else []) ++ pu_dcl (k + m) n = _
    have : 10 ^ (k + 1) ≤ 10 ^ (k + m + 1) := Nat.pow_le_pow_right (by decide) (by omega)
    rw [if_neg (by omega), dcl_cut h m]
    rfl
theorem dec_9 {n : Nat} (h : n < 1000000000) : (pu_dec n).length ≤ 9 := by
  have e : pu_dec n = pu_dcl 8 n := dcl_cut (k := 8) (by omega) 1
  rw [e]
  exact dcl_len 8 n
theorem dec_2 {n : Nat} (h : n < 100) : (pu_dec n).length ≤ 2 := by
  have e : pu_dec n = pu_dcl 1 n := dcl_cut (k := 1) (by omega) 8
  rw [e]
  exact dcl_len 1 n
theorem itW.ok {x : It} (h : itW x) : itOk x := by
  obtain ⟨h1, h2, h3, h4, h5, h6, h7, h8, h9⟩ := h
  refine ⟨h6, h7, ?_⟩
  have d1 := dec_9 h6
  have d2 := dec_2 (show (iD x).length < 100 by omega)
  have d3 := dec_9 h7
  have e5 : (sv 5).length = 6 := by decide
  unfold itx
  rw [if_pos rfl]
  simp only [List.length_append, List.length_cons, List.length_nil]
  omega
-- what a line leaves
theorem shw_mem (g : Bool) : ∀ (ks : List (List Nat)) (L : List It) (h m : Nat) (t : List Nat), ∀ x ∈ (shw g ks L h m t).1, x ∈ L
  | [], L, h, m, t, x, hx => hx
  | k :: ks, L, h, m, t, x, hx => by
    unfold shw at hx
    cases hf : fnd k L with
    | none =>
      rw [hf] at hx
      exact shw_mem g ks L h (m + 1) t x hx
    | some y =>
      rw [hf] at hx
      have := shw_mem g ks _ _ _ _ x hx
      rcases List.mem_cons.mp this with e | e
      · rw [e]; exact (fnd_mem hf).1
      · exact (rmv_mem e).1
theorem ptE_mem (c : Nat) (L : List It) (pg : Nat → Nat) (nn : NN) : ∀ x ∈ (ptE c L pg nn).2.1, x ∈ L := by
  intro x hx
  unfold ptE at hx
  split at hx
  · exact hx
  · split at hx
    · exact hx
    · exact (rmv_mem hx).1
def good3 (t tk : Nat) (L : List It) (nn : NN) : Prop := nn.2.1 = t ∧ nn.2.2.1 ≤ tk + 1 ∧ ∀ x ∈ L, t < iG x
theorem pta_good {x : It} {L : List It} {pg : Nat → Nat} {nn : NN} (h : ∀ x ∈ L, nn.2.1 < iG x) : good3 nn.2.1 nn.2.2.1 (pta x L pg nn).2.1 (pta x L pg nn).2.2 := by
  obtain ⟨e1, e2, e3⟩ := ptE_nn (icl x) (rmv (iK x) L) pg nn
  have hm : ∀ y ∈ (ptE (icl x) (rmv (iK x) L) pg nn).2.1, nn.2.1 < iG y := fun y hy => h y (rmv_mem (ptE_mem _ _ _ _ y hy)).1
  unfold pta
  show good3 _ _ (if nn.2.1 < iG x then _ else _ : (Nat → Nat) × List It × NN).2.1 (if nn.2.1 < iG x then _ else _ : (Nat → Nat) × List It × NN).2.2
  by_cases hg : nn.2.1 < iG x
  · rw [if_pos hg]
    refine ⟨e1, by show (ptE (icl x) (rmv (iK x) L) pg nn).2.2.2.2.1 + 1 ≤ _; rw [e2]; exact Nat.le_refl _, fun y hy => ?_⟩
    rcases List.mem_cons.mp hy with e | e
    · rw [e]; exact hg
    · exact hm y e
  · rw [if_neg hg]
    exact ⟨e1, by show (ptE (icl x) (rmv (iK x) L) pg nn).2.2.2.2.1 + 1 ≤ _; rw [e2]; exact Nat.le_refl _, hm⟩
theorem sto_good {v : Nat} {s : List Nat} {ws : List (Nat × Nat)} {ce : Nat} {L : List It} {pg : Nat → Nat} {nn : NN} (h : ∀ x ∈ L, nn.2.1 < iG x) : good3 nn.2.1 nn.2.2.1 (sto v s ws ce L pg nn).2.1 (sto v s ws ce L pg nn).2.2.1 := by
  have h0 : good3 nn.2.1 nn.2.2.1 L nn := ⟨rfl, Nat.le_succ _, h⟩
  unfold sto
  split
  · exact h0
  · dsimp only
    split
    · exact h0
    · exact pta_good h
theorem oby_good {v : Nat} {s : List Nat} {ws : List (Nat × Nat)} {ce : Nat} {L : List It} {pg : Nat → Nat} {nn : NN} {hh mm : Nat} (h : ∀ x ∈ L, nn.2.1 < iG x) : good3 nn.2.1 nn.2.2.1 (oby v s ws ce L pg nn hh mm).2.1 (oby v s ws ce L pg nn hh mm).2.2.1 := by
  unfold oby
  split
  · exact ⟨rfl, Nat.le_succ _, fun x hx => h x (shw_mem _ _ _ _ _ _ x hx)⟩
  · split
    · exact ⟨rfl, Nat.le_succ _, fun x hx => h x (rmv_mem hx).1⟩
    · split
      · show good3 _ _ (tch s ws nn L).1 (tch s ws nn L).2.1
        unfold tch
        split
        · exact ⟨rfl, Nat.le_succ _, h⟩
        · split
          · rename_i hg
            refine ⟨rfl, Nat.le_succ _, fun x hx => ?_⟩
            rcases List.mem_cons.mp hx with e | e
            · rw [e]; exact hg
            · exact h x (rmv_mem e).1
          · exact ⟨rfl, Nat.le_succ _, fun x hx => h x (rmv_mem hx).1⟩
      · split
        · exact ⟨rfl, Nat.le_succ _, fun x hx => by cases hx⟩
        · exact sto_good h
theorem snM_good {S : AS} (h : ∀ x ∈ sI S, (sN S).2.1 < iG x) : good3 (sN S).2.1 (sN S).2.2.1 (sI (snM S)) (sN (snM S)) := by
  have h0 : good3 (sN S).2.1 (sN S).2.2.1 (sI S) (sN S) := ⟨rfl, Nat.le_succ _, h⟩
  unfold snM
  split
  · exact h0
  · split
    · exact h0
    · split
      · exact h0
      · exact oby_good h
