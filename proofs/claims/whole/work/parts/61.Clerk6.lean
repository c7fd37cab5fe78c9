/-- the key of the last of a class -/
def lk (i : Nat) (L : List It) : List Nat := match (fi i L).getLast? with
  | some x => iK x
  | none => []
/-- room for one item more -/
def ptE (i : Nat) (L1 : List It) (pg : Nat → Nat) (nn : NN) : (Nat → Nat) × List It × NN := if (fi i L1).length < zp i * pg i then (pg, L1, nn) else if 0 < nn.1 then (up pg i (pg i + 1), L1, (nn.1 - 1, nn.2)) else (pg, rmv (lk i L1) L1, (nn.1, nn.2.1, nn.2.2.1, nn.2.2.2.1 + 1, nn.2.2.2.2))
/-- an item stored -/
def pta (x : It) (L : List It) (pg : Nat → Nat) (nn : NN) : (Nat → Nat) × List It × NN :=
  let r := ptE (icl x) (rmv (iK x) L) pg nn
  if nn.2.1 < iG x then (r.1, (iK x, iD x, iF x, r.2.2.2.2.1 + 1, iG x) :: r.2.1, (r.2.2.1, r.2.2.2.1, r.2.2.2.2.1 + 1, r.2.2.2.2.2.1, r.2.2.2.2.2.2)) else (r.1, r.2.1, (r.2.2.1, r.2.2.2.1, r.2.2.2.2.1 + 1, r.2.2.2.2.2.1, r.2.2.2.2.2.2 + 1))
/-- the item that a command stores -/
def nxi (v : Nat) (s : List Nat) (ws : List (Nat × Nat)) (ce ti : Nat) (o : Option It) : It := match o with
  | none => (wt s ws 1, lnD s ce, pu_val (wt s ws 2), 0, lfG s ws 3 ti)
  | some y => if (vb v).2.2.2 = 1 then (wt s ws 1, chg v s ws ce y, iF y, 0, iG y) else (wt s ws 1, lnD s ce, pu_val (wt s ws 2), 0, lfG s ws 3 ti)
def sto (v : Nat) (s : List Nat) (ws : List (Nat × Nat)) (ce : Nat) (L : List It) (pg : Nat → Nat) (nn : NN) : (Nat → Nat) × List It × NN × List Nat :=
  if obs v s ws (fnd (wt s ws 1) L) ≠ 11 then (pg, L, nn, sv (obs v s ws (fnd (wt s ws 1) L)))
  else
    let x := nxi v s ws ce nn.2.1 (fnd (wt s ws 1) L)
    if rfs ((iK x).length + (iD x).length) pg nn.1 ≠ 17 then (pg, L, nn, sv (rfs ((iK x).length + (iD x).length) pg nn.1))
    else ((pta x L pg nn).1, (pta x L pg nn).2.1, (pta x L pg nn).2.2, if (vb v).2.2.1 = 1 then sv 18 else iD x)
theorem obs_ok (v : Nat) (s : List Nat) (ws : List (Nat × Nat)) (o : Option It) : obs v s ws o < 38 ∧ (sv (obs v s ws o)).length ≤ 300 ∧ ((sv (obs v s ws o)).length = 0 ↔ obs v s ws o = 11) := by
  have h : ∀ k, k < 15 → 7 ≤ k → k < 38 ∧ (sv k).length ≤ 300 ∧ ((sv k).length = 0 ↔ k = 11) := by decide
  have hb : obs v s ws o < 15 ∧ 7 ≤ obs v s ws o := by
    unfold obs
    split
    · decide
    · split
      · split <;> decide
      · split
        · split <;> decide
        · split
          · split
            · decide
            · split <;> decide
          · split
            · decide
            · split <;> decide
  exact h _ hb.1 hb.2
theorem rfs_ok (n : Nat) (pg : Nat → Nat) (fp : Nat) : rfs n pg fp < 38 ∧ (sv (rfs n pg fp)).length ≤ 300 ∧ ((sv (rfs n pg fp)).length = 0 ↔ rfs n pg fp = 17) := by
  have h : ∀ k, k < 18 → 15 ≤ k → k < 38 ∧ (sv k).length ≤ 300 ∧ ((sv k).length = 0 ↔ k = 17) := by decide
  have hb : rfs n pg fp < 18 ∧ 15 ≤ rfs n pg fp := by
    unfold rfs
    split
    · decide
    · split <;> decide
  exact h _ hb.1 hb.2
theorem rfs_17 {n : Nat} {pg : Nat → Nat} {fp : Nat} (h : rfs n pg fp = 17) : ∃ i, zf n = some i ∧ (pg i ≠ 0 ∨ fp ≠ 0) := by
  unfold rfs at h
  split at h
  · cases h
  · rename_i i hi
    refine ⟨i, hi, ?_⟩
    split at h
    · cases h
    · rename_i hn
      by_cases e : pg i = 0
      · exact Or.inr (fun e2 => hn ⟨e, e2⟩)
      · exact Or.inl e
theorem wf_k {v : Nat} {s : List Nat} {ws : List (Nat × Nat)} (h : wfm v s ws = true) (hs : sev v = false) {i : Nat} (hi : i < (fm v).length) : okK s ws (i + 1) ((fm v).getD i 0) = true := by
  unfold wfm at h
  rw [hs, if_neg (by decide), Bool.and_eq_true] at h
  exact of_decide_eq_true h.2 i hi
theorem okK_n {s : List Nat} {ws : List (Nat × Nat)} {j : Nat} (h : okK s ws j 110 = true) : pu_isnum s (wS ws j) (wL ws j) = true := h
theorem okK_k {s : List Nat} {ws : List (Nat × Nat)} {j : Nat} (h : okK s ws j 107 = true) : wL ws j ≤ 8 := of_decide_eq_true h
/-- what a well-formed command that stores has -/
theorem st_pre {v : Nat} {s : List Nat} {ws : List (Nat × Nat)} {ce : Nat} (hv : v ≤ 5 ∨ v = 11 ∨ v = 12) (hw : wfm v s ws = true) (hf : fit v s ws ce = true) : wL ws 1 ≤ 8 ∧ pu_isnum s (wS ws 2) (wL ws 2) = true ∧ (v ≤ 5 → okK s ws 3 108 = true ∧ ce < s.length) ∧ (v = 5 → pu_isnum s (wS ws 5) (wL ws 5) = true) := by
  have hs : sev v = false := decide_eq_false (by omega)
  have h5 : ∀ v, v ≤ 5 → (fm v).getD 0 0 = 107 ∧ (fm v).getD 1 0 = 110 ∧ (fm v).getD 2 0 = 108 ∧ 4 ≤ (fm v).length ∧ (vb v).2.2.1 = 1 := by decide
  have h12 : ∀ v, v ≤ 12 → 11 ≤ v → (fm v).getD 0 0 = 107 ∧ (fm v).getD 1 0 = 110 ∧ (fm v).length = 2 := by decide
  by_cases hv5 : v ≤ 5
  · obtain ⟨a1, a2, a3, a4, a5⟩ := h5 v hv5
    have k0 := wf_k hw hs (i := 0) (by omega)
    have k1 := wf_k hw hs (i := 1) (by omega)
    have k2 := wf_k hw hs (i := 2) (by omega)
    rw [a1] at k0
    rw [a2] at k1
    rw [a3] at k2
    refine ⟨okK_k k0, okK_n k1, fun _ => ⟨k2, ?_⟩, fun e => ?_⟩
    · unfold fit at hf
      rw [if_pos a5] at hf
      exact (of_decide_eq_true hf).1
    · subst e
      have k4 := wf_k hw hs (i := 4) (by decide)
      exact okK_n k4
  · obtain ⟨a1, a2, a3⟩ := h12 v (by omega) (by omega)
    have k0 := wf_k hw hs (i := 0) (by omega)
    have k1 := wf_k hw hs (i := 1) (by omega)
    rw [a1] at k0
    rw [a2] at k1
    exact ⟨okK_k k0, okK_n k1, fun h => absurd h hv5, fun h => absurd h (by omega)⟩
/-- the items behind a put -/
theorem absR.put {os1 os2 os' : Nat → List Nat} {Q Q' : Nat → CR} {L1 : List It} {i : Nat} {pg pg' : Nat → Nat} {nn nn2 nn' : NN} {c fl gn : Nat} {key data : List Nat} (h : absR os1 Q L1) (hi : zf (key.length + data.length) = some i) (hk : ∀ x ∈ L1, iK x ≠ key) (hR : putR i os1 pg nn pg' os2 nn2) (hpos : pg i ≠ 0 ∨ nn.1 ≠ 0) (hQ : ∀ j, j < 4 → ∀ x ∈ os2 j, Q' x = Q x) (hc : ∃ a b, Q' c = (fl, nn2.2.2.1 + 1, gn, a, b, key, data))
    (hfin : (nn.2.1 < gn ∧ os' = up os2 i (c :: os2 i) ∧ nn' = (nn2.1, nn2.2.1, nn2.2.2.1 + 1, nn2.2.2.2.1, nn2.2.2.2.2)) ∨ (gn ≤ nn.2.1 ∧ os' = os2 ∧ nn' = (nn2.1, nn2.2.1, nn2.2.2.1 + 1, nn2.2.2.2.1, nn2.2.2.2.2 + 1))) :
    ptE i L1 pg nn = (pg', (ptE i L1 pg nn).2.1, nn2) ∧ absR os' Q' (if nn.2.1 < gn then (key, data, fl, nn2.2.2.1 + 1, gn) :: (ptE i L1 pg nn).2.1 else (ptE i L1 pg nn).2.1) := by
  have hi4 := zf_lt hi
  have hlen := h.len hi4
  have key2 : ptE i L1 pg nn = (pg', (ptE i L1 pg nn).2.1, nn2) ∧ absR os2 Q (ptE i L1 pg nn).2.1 ∧ ∀ x ∈ (ptE i L1 pg nn).2.1, iK x ≠ key := by
    unfold ptE
    rcases hR with ⟨r1, r2, r3, r4⟩ | ⟨r1, r2, r3, r4, r5⟩ | ⟨r1, r2, r3, r4, r5⟩
    · rw [if_pos (by omega), r2, r3, r4]
      exact ⟨rfl, h, hk⟩
    · rw [if_neg (by omega), if_pos r2, r3, r4, r5]
      exact ⟨rfl, h, hk⟩
    · have hne : 0 < (os1 i).length := by
        rw [r1]
        have := hpos.resolve_right (fun q => q r2)
        exact Nat.mul_pos (zp_pos i hi4) (Nat.pos_of_ne_zero this)
      obtain ⟨d, hd⟩ : ∃ d, (os1 i)[(os1 i).length - 1]? = some d := ⟨_, List.getElem?_eq_getElem (by omega)⟩
      have hat := h.at hi4 hd
      have hlk : lk i L1 = cK (Q d) := by
        unfold lk
        rw [List.getLast?_eq_getElem?, ← hlen, hat]
        rfl
      rw [if_neg (by omega), if_neg (by omega), r3, r4, r5, hlk]
      exact ⟨rfl, h.rm hi4 hd, fun x hx => hk x (rmv_mem hx).1⟩
  obtain ⟨k1, k2, k3⟩ := key2
  refine ⟨k1, ?_⟩
  have k4 : absR os2 Q' (ptE i L1 pg nn).2.1 := k2.congr (fun j hj x hx => by rw [hQ j hj x hx])
  rcases hfin with ⟨f1, f2, f3⟩ | ⟨f1, f2, f3⟩
  · rw [if_pos f1, f2]
    obtain ⟨a, b, hcc⟩ := hc
    have := k4.new (c := c) hi4 (by rw [hcc]; unfold icl cI; dsimp only [iK, iD]; rw [hi]; rfl) (by rw [hcc]; exact k3)
    rw [hcc] at this
    exact this
  · rw [if_neg (by omega), f2]
    exact k4
def T_Clerk_store (G : sp_G) : sp_T := fun av M Post => ∃ A sh W pg os fr Q nn X N ws L, av = [.ref (A 14)] ∧ kS G M A sh W pg os fr Q nn X N ws ∧ kOk X N ws ∧ absR os Q L ∧ X 2 = [] ∧ (N 6 ≤ 5 ∨ N 6 = 11 ∨ N 6 = 12) ∧ wfm (N 6) (X 0) ws = true ∧ fit (N 6) (X 0) ws (N 5) = true ∧ (∀ x ∈ L, iT x < 2 ^ 31) ∧
  ∀ M' W' pg' os' fr' Q' nn' X' N' L' a', sto (N 6) (X 0) ws (N 5) L pg nn = (pg', L', nn', a') → kS G M' A sh W' pg' os' fr' Q' nn' X' N' ws → X' 0 = X 0 → X' 2 = a' → N' 0 = N 0 → N' 1 = N 1 → N' 4 = N 4 → N' 5 = N 5 → N' 6 = N 6 → absR os' Q' L' → ffr M M' W W' → Post none M'
set_option maxHeartbeats 4000000 in
set_option maxRecDepth 100000 in
theorem c_Clerk_store (l : Launch) (G : sp_G) : sp_Met l G y_Clerk_store b_Clerk_store 4 none { frames := 5, cells := 24, slots := 144, locals := 107 } (T_Clerk_store G) := by
  refine sp_entry (by decide) (fun av M Post h => ?_) (fun z M av Post hz _ hT => ?_)
  · obtain ⟨A, sh, W, pg, os, fr, Q, nn, X, N, ws, L, rfl, -⟩ := h
    exact Nat.le_of_ble_eq_true rfl
  · obtain ⟨A, sh, W, pg, os, fr, Q, nn, X, N, ws, L, rfl, hk, hok, habs, hX2, hv, hwf, hfit, htk, hp⟩ := hT
    have h14 := hk.2.1
    have hv14 := hk.2.2.2.2.2.2.2.1
    have hti := hk.mm.2.2.2.2.2
    obtain ⟨hl8, hn2, hpre5, hn5⟩ := st_pre hv hwf hfit
    obtain ⟨f1, f2, f3, f4, f5, f6⟩ := fm_ok (N 6) hv14
    obtain ⟨a1, a2, a3, a4, a5, a6, a7⟩ := hz.E.2.1 (N 6) hv14
    -- behind the finding
    have main : ∀ (r : Option Nat) (o : Option It), fAt os Q r o → o = fnd (wt (X 0) ws 1) L → sp_W z G M (sp_Q z G M Post 24 144) 4 0 0 8 [(0, .ref (A 14)), (1, va_rf r)] [va_rf r, .ref (A 14)] M := by
      intro r o hat ho
      obtain ⟨ov1, ov2, ov3⟩ := obs_ok (N 6) (X 0) ws o
      refine sp_callV hz (c_Clerk_obstacle l G) (ci := 6) (As := [va_rf r]) (rest := []) rfl w_Clerk_181 (by decide) h14 rfl (Nat.le_of_ble_eq_true rfl) d_Clerk_store_8 ⟨A, sh, W, pg, os, fr, Q, nn, X, N, ws, r, o, rfl, hk, hok, hat, by omega, fun x hx => htk x (fnd_mem (ho.symm.trans hx)).1, hn5, ?_⟩ rfl
      have blk11 : sp_W z G M (sp_Q z G M Post 24 144) 4 0 0 13 [(2, .ref (G.2.2 (100 + obs (N 6) (X 0) ws o))), (0, .ref (A 14)), (1, va_rf r)] [.ref (G.2.2 (100 + obs (N 6) (X 0) ws o))] M := by
        refine sp_callE hz (c_String_isEmpty l G) (hz.E.2.2.2.1 _ ov1).2.1 (As := []) (rest := []) w_Clerk_56 (by decide) rfl (Nat.le_of_ble_eq_true rfl) d_Clerk_store_13 ⟨obs (N 6) (X 0) ws o, ov1, rfl, ?_⟩ rfl
        refine sp_run hz _ _ e_Clerk_store_16 _ _ _ ?_
        by_cases hob : obs (N 6) (X 0) ws o = 11
        · -- nothing keeps it from storing
          simp only [k_Clerk_store_16, E_nil, E_iconst, E_bipush, E_sipush, E_ldc, E_ldc2, E_lconst, E_null, E_iload_n, E_lload_n, E_aload_n, E_istore_n, E_lstore_n, E_astore_n, E_astoreN_n, E_iload, E_lload, E_aload, E_istore, E_lstore, E_astore, E_astoreN, E_ldi, E_ldl, E_lda, E_ldN, E_iinc, E_iadd, E_isub, E_imul, E_iand, E_ior, E_ixor, E_ishl, E_ishr, E_idiv, E_irem, E_ineg, E_ladd, E_lsub, E_land, E_lor, E_lcmp, E_lshl, E_lshr, E_lushr, E_i2l, E_l2i, E_i2c, E_dupI, E_popI, E_dup_x1II, E_dup2II, E_dup_x1IR, E_dup2IR, E_dup_x1IN, E_dup2IN, E_dupR, E_popR, E_dup_x1RI, E_dup2RI, E_dup_x1RR, E_dup2RR, E_dup_x1RN, E_dup2RN, E_dupN, E_popN, E_dup_x1NI, E_dup2NI, E_dup_x1NR, E_dup2NR, E_dup_x1NN, E_dup2NN, E_goto, E_if_eq, E_if_ne, E_if_lt, E_if_ge, E_if_gt, E_if_le, E_ic_eq, E_ic_ne, E_ic_lt, E_ic_ge, E_ic_gt, E_ic_le, E_ifnull, E_ifnullN, E_ifnonnull, E_ifnonnullN, E_get, E_gf, E_xv, E_n0, E_ns, E_putI, E_putR, E_putN, E_pf, E_st0, E_sts, E_iaload, E_caload, E_laload, E_aaload, E_alen, E_iast, E_cast, E_last, E_xI, E_xJ, E_xQ, E_xN, E_lk, E_lkn, E_s1, E_s1h, E_s1I, E_s1R, E_s1N, E_s1L, E_s2, E_s2h, E_s2L, E_s2I, E_s2R, E_s2N, E_a1, E_a0, E_aI, E_aR, E_aN, E_aL, Option.isSome_some, eq_self, true_and, and_true, true_or, or_true, ne_eq, not_false_eq_true, not_true_eq_false, reduceIte, reduceCtorEq, Nat.reduceAdd, Nat.reduceBEq, Nat.reduceEqDiff, Option.toList_some, Option.toList_none, List.cons_append, List.nil_append, decide_eq_true (ov3.mpr hob), b2i]
          refine ⟨fun _ => ?_, fun h => absurd h (by decide)⟩
          refine sp_Lm [(0, .ref (A 14)), (1, va_rf r)] (by simp) ?_
          -- behind the draft
          have rest : ∀ M1 X1 N1, kS G M1 A sh W pg os fr Q nn X1 N1 ws → ffr M M1 W W → X1 0 = X 0 → X1 2 = [] → N1 0 = N 0 → N1 1 = N 1 → N1 4 = N 4 → N1 5 = N 5 → N1 6 = N 6 → X1 10 = iK (nxi (N 6) (X 0) ws (N 5) nn.2.1 o) → X1 12 = iD (nxi (N 6) (X 0) ws (N 5) nn.2.1 o) → N1 2 = iF (nxi (N 6) (X 0) ws (N 5) nn.2.1 o) → N1 3 = iG (nxi (N 6) (X 0) ws (N 5) nn.2.1 o) → N1 3 < 2 ^ 31 → sp_W z G M (sp_Q z G M Post 24 144) 4 0 0 57 [(0, .ref (A 14)), (1, va_rf r)] [] M1 := by
            intro M1 X1 N1 hk1 hf1 e0 e2 n0 n1 n4 n5 n6 x10' x12' n2 n3 hg
            have g14 := hk1.2.1
            have hsz : (X1 10).length ≤ 8 ∧ (X1 12).length ≤ 204 := ⟨(hk1.T x10).2.1, (hk1.T x12).2.1⟩
            obtain ⟨sz, hsz2⟩ : ∃ sz, sz = (X1 10).length + (X1 12).length := ⟨_, rfl⟩
            obtain ⟨rv1, rv2, rv3⟩ := rfs_ok sz pg nn.1
            have hsto : sto (N 6) (X 0) ws (N 5) L pg nn = if rfs sz pg nn.1 ≠ 17 then (pg, L, nn, sv (rfs sz pg nn.1)) else ((pta (nxi (N 6) (X 0) ws (N 5) nn.2.1 o) L pg nn).1, (pta (nxi (N 6) (X 0) ws (N 5) nn.2.1 o) L pg nn).2.1, (pta (nxi (N 6) (X 0) ws (N 5) nn.2.1 o) L pg nn).2.2, if (vb (N 6)).2.2.1 = 1 then sv 18 else iD (nxi (N 6) (X 0) ws (N 5) nn.2.1 o)) := by
              unfold sto
              rw [← ho, if_neg (fun q => q hob), hsz2, x10', x12']
            refine sp_run hz _ _ e_Clerk_store_57 _ _ _ ?_
            have g9 := hk1.2.2.1
            have blk : sp_W z G M (sp_Q z G M Post 24 144) 4 0 0 65 [(0, .ref (A 14)), (1, va_rf r)] [.ref (A 9), .ref (A 4)] M1 := by
              refine sp_callV hz (c_Draft_size l G) (ci := 5) (As := []) (rest := [.ref (A 4)]) rfl w_Clerk_195 (by decide) g9 rfl (Nat.le_of_ble_eq_true rfl) d_Clerk_store_65 ⟨_, _, _, _, _, _, _, _, _, rfl, hk1.dr, ?_⟩ rfl
              rw [← hsz2]
              refine sp_callV hz (c_Memory_refusal l G) (ci := 3) (As := [.int (nI sz)]) (rest := []) rfl w_Clerk_198 (by decide) hk1.mm.1 rfl (Nat.le_of_ble_eq_true rfl) d_Clerk_store_68 ⟨A 4, A 5, sh, W, pg, os, fr, Q, nn, sz, rfl, hk1.mm, by omega, ?_⟩ rfl
              have b3 : sp_W z G M (sp_Q z G M Post 24 144) 4 0 0 73 [(3, .ref (G.2.2 (100 + rfs sz pg nn.1))), (0, .ref (A 14)), (1, va_rf r)] [.ref (G.2.2 (100 + rfs sz pg nn.1))] M1 := by
                refine sp_callE hz (c_String_isEmpty l G) (hz.E.2.2.2.1 _ rv1).2.1 (As := []) (rest := []) w_Clerk_56 (by decide) rfl (Nat.le_of_ble_eq_true rfl) d_Clerk_store_73 ⟨rfs sz pg nn.1, rv1, rfl, ?_⟩ rfl
                refine sp_run hz _ _ e_Clerk_store_76 _ _ _ ?_
                by_cases hrf : rfs sz pg nn.1 = 17
                · -- stored
                  rw [if_neg (fun q => q hrf)] at hsto
                  obtain ⟨i0, hz0, hpos⟩ := rfs_17 hrf
                  rw [hsz2] at hz0
                  simp only [k_Clerk_store_76, E_nil, E_iconst, E_bipush, E_sipush, E_ldc, E_ldc2, E_lconst, E_null, E_iload_n, E_lload_n, E_aload_n, E_istore_n, E_lstore_n, E_astore_n, E_astoreN_n, E_iload, E_lload, E_aload, E_istore, E_lstore, E_astore, E_astoreN, E_ldi, E_ldl, E_lda, E_ldN, E_iinc, E_iadd, E_isub, E_imul, E_iand, E_ior, E_ixor, E_ishl, E_ishr, E_idiv, E_irem, E_ineg, E_ladd, E_lsub, E_land, E_lor, E_lcmp, E_lshl, E_lshr, E_lushr, E_i2l, E_l2i, E_i2c, E_dupI, E_popI, E_dup_x1II, E_dup2II, E_dup_x1IR, E_dup2IR, E_dup_x1IN, E_dup2IN, E_dupR, E_popR, E_dup_x1RI, E_dup2RI, E_dup_x1RR, E_dup2RR, E_dup_x1RN, E_dup2RN, E_dupN, E_popN, E_dup_x1NI, E_dup2NI, E_dup_x1NR, E_dup2NR, E_dup_x1NN, E_dup2NN, E_goto, E_if_eq, E_if_ne, E_if_lt, E_if_ge, E_if_gt, E_if_le, E_ic_eq, E_ic_ne, E_ic_lt, E_ic_ge, E_ic_gt, E_ic_le, E_ifnull, E_ifnullN, E_ifnonnull, E_ifnonnullN, E_get, E_gf, E_xv, E_n0, E_ns, E_putI, E_putR, E_putN, E_pf, E_st0, E_sts, E_iaload, E_caload, E_laload, E_aaload, E_alen, E_iast, E_cast, E_last, E_xI, E_xJ, E_xQ, E_xN, E_lk, E_lkn, E_s1, E_s1h, E_s1I, E_s1R, E_s1N, E_s1L, E_s2, E_s2h, E_s2L, E_s2I, E_s2R, E_s2N, E_a1, E_a0, E_aI, E_aR, E_aN, E_aL, Option.isSome_some, eq_self, true_and, and_true, true_or, or_true, ne_eq, not_false_eq_true, not_true_eq_false, reduceIte, reduceCtorEq, Nat.reduceAdd, Nat.reduceBEq, Nat.reduceEqDiff, Option.toList_some, Option.toList_none, List.cons_append, List.nil_append, decide_eq_true (rv3.mpr hrf), b2i]
                  refine ⟨fun _ => ?_, fun h => absurd h (by decide)⟩
                  refine sp_Lm [(0, .ref (A 14)), (1, va_rf r)] (by simp) ?_
                  have hkey : X1 10 = wt (X 0) ws 1 := by
                    rw [x10']
                    unfold nxi
                    cases o with
                    | none => rfl
                    | some y =>
                      dsimp only
                      split <;> rfl
                  have fin : ∀ M2 W2 pg2 os2 fr2 Q2 nn2, kS G M2 A sh W2 pg2 os2 fr2 Q2 nn2 X1 N1 ws → ffr M M2 W W2 → (pta (nxi (N 6) (X 0) ws (N 5) nn.2.1 o) L pg nn).1 = pg2 → (pta (nxi (N 6) (X 0) ws (N 5) nn.2.1 o) L pg nn).2.2 = nn2 → absR os2 Q2 (pta (nxi (N 6) (X 0) ws (N 5) nn.2.1 o) L pg nn).2.1 → sp_W z G M (sp_Q z G M Post 24 144) 4 24 144 100 [(0, .ref (A 14)), (1, va_rf r)] [] M2 := by
                    intro M2 W2 pg2 os2 fr2 Q2 nn2 hk2 hf2 p1 p2 p3
                    rw [p1, p2] at hsto
                    have g14 := hk2.2.1
                    have g9 := hk2.2.2.1
                    have hok2 : kOk X1 N1 ws := by
                      obtain ⟨q1, q2, q3, q4⟩ := hok
                      exact ⟨n4.trans q1, q2, q3, by rw [n5, e0]; exact q4⟩
                    have hc2 := hk2.cm hok2
                    rw [n6] at hc2
                    have hk2' := hk2.st2 e2
                    refine sp_run hz _ _ e_Clerk_store_100 _ _ _ ?_
                    have b4 : sp_W z G M (sp_Q z G M Post 24 144) 4 24 144 104 [(0, .ref (A 14)), (1, va_rf r)] [.ref (A 6)] M2 := by
                      refine sp_callV hz (c_Command_verb l G) (ci := 4) (As := []) (rest := []) rfl w_Clerk_68 (by decide) hc2.1 rfl (Nat.le_of_ble_eq_true rfl) d_Clerk_store_104 ⟨_, _, _, _, _, _, ws, _, _, rfl, hc2, ?_⟩ rfl
                      refine sp_getO hz a6 l_Clerk_206 d_Clerk_store_107 ?_
                      refine sp_run hz _ _ e_Clerk_store_110 _ _ _ ?_
                      rcases f4 with h0 | h1
                      · simp only [k_Clerk_store_110, E_nil, E_iconst, E_bipush, E_sipush, E_ldc, E_ldc2, E_lconst, E_null, E_iload_n, E_lload_n, E_aload_n, E_istore_n, E_lstore_n, E_astore_n, E_astoreN_n, E_iload, E_lload, E_aload, E_istore, E_lstore, E_astore, E_astoreN, E_ldi, E_ldl, E_lda, E_ldN, E_iinc, E_iadd, E_isub, E_imul, E_iand, E_ior, E_ixor, E_ishl, E_ishr, E_idiv, E_irem, E_ineg, E_ladd, E_lsub, E_land, E_lor, E_lcmp, E_lshl, E_lshr, E_lushr, E_i2l, E_l2i, E_i2c, E_dupI, E_popI, E_dup_x1II, E_dup2II, E_dup_x1IR, E_dup2IR, E_dup_x1IN, E_dup2IN, E_dupR, E_popR, E_dup_x1RI, E_dup2RI, E_dup_x1RR, E_dup2RR, E_dup_x1RN, E_dup2RN, E_dupN, E_popN, E_dup_x1NI, E_dup2NI, E_dup_x1NR, E_dup2NR, E_dup_x1NN, E_dup2NN, E_goto, E_if_eq, E_if_ne, E_if_lt, E_if_ge, E_if_gt, E_if_le, E_ic_eq, E_ic_ne, E_ic_lt, E_ic_ge, E_ic_gt, E_ic_le, E_ifnull, E_ifnullN, E_ifnonnull, E_ifnonnullN, E_get, E_gf, E_xv, E_n0, E_ns, E_putI, E_putR, E_putN, E_pf, E_st0, E_sts, E_iaload, E_caload, E_laload, E_aaload, E_alen, E_iast, E_cast, E_last, E_xI, E_xJ, E_xQ, E_xN, E_lk, E_lkn, E_s1, E_s1h, E_s1I, E_s1R, E_s1N, E_s1L, E_s2, E_s2h, E_s2L, E_s2I, E_s2R, E_s2N, E_a1, E_a0, E_aI, E_aR, E_aN, E_aL, Option.isSome_some, eq_self, true_and, and_true, true_or, or_true, ne_eq, not_false_eq_true, not_true_eq_false, reduceIte, reduceCtorEq, Nat.reduceAdd, Nat.reduceBEq, Nat.reduceEqDiff, Option.toList_some, Option.toList_none, List.cons_append, List.nil_append, h0]
                        refine ⟨fun _ => ?_, fun h => h.elim⟩
                        refine sp_run hz _ _ e_Clerk_store_125 _ _ _ ?_
                        simp only [k_Clerk_store_125, E_nil, E_iconst, E_bipush, E_sipush, E_ldc, E_ldc2, E_lconst, E_null, E_iload_n, E_lload_n, E_aload_n, E_istore_n, E_lstore_n, E_astore_n, E_astoreN_n, E_iload, E_lload, E_aload, E_istore, E_lstore, E_astore, E_astoreN, E_ldi, E_ldl, E_lda, E_ldN, E_iinc, E_iadd, E_isub, E_imul, E_iand, E_ior, E_ixor, E_ishl, E_ishr, E_idiv, E_irem, E_ineg, E_ladd, E_lsub, E_land, E_lor, E_lcmp, E_lshl, E_lshr, E_lushr, E_i2l, E_l2i, E_i2c, E_dupI, E_popI, E_dup_x1II, E_dup2II, E_dup_x1IR, E_dup2IR, E_dup_x1IN, E_dup2IN, E_dupR, E_popR, E_dup_x1RI, E_dup2RI, E_dup_x1RR, E_dup2RR, E_dup_x1RN, E_dup2RN, E_dupN, E_popN, E_dup_x1NI, E_dup2NI, E_dup_x1NR, E_dup2NR, E_dup_x1NN, E_dup2NN, E_goto, E_if_eq, E_if_ne, E_if_lt, E_if_ge, E_if_gt, E_if_le, E_ic_eq, E_ic_ne, E_ic_lt, E_ic_ge, E_ic_gt, E_ic_le, E_ifnull, E_ifnullN, E_ifnonnull, E_ifnonnullN, E_get, E_gf, E_xv, E_n0, E_ns, E_putI, E_putR, E_putN, E_pf, E_st0, E_sts, E_iaload, E_caload, E_laload, E_aaload, E_alen, E_iast, E_cast, E_last, E_xI, E_xJ, E_xQ, E_xN, E_lk, E_lkn, E_s1, E_s1h, E_s1I, E_s1R, E_s1N, E_s1L, E_s2, E_s2h, E_s2L, E_s2I, E_s2R, E_s2N, E_a1, E_a0, E_aI, E_aR, E_aN, E_aL, Option.isSome_some, eq_self, true_and, and_true, true_or, or_true, ne_eq, not_false_eq_true, not_true_eq_false, reduceIte, reduceCtorEq, Nat.reduceAdd, Nat.reduceBEq, Nat.reduceEqDiff, Option.toList_some, Option.toList_none, List.cons_append, List.nil_append, g14, g9, kCk, kDr]
                        refine sp_callV hz (c_Text_length l G) (ci := 0) (As := []) (rest := [.int (nI 0), .ref (A 12), .ref (A 2)]) rfl w_Clerk_214 (by decide) (hk2.T x12).1 rfl (Nat.le_of_ble_eq_true rfl) d_Clerk_store_144 ⟨A 12, _, _, _, rfl, hk2.T x12, ?_⟩ rfl
                        refine sp_callV hz (c_Text_addPart l G) (ci := 0) (As := [.ref (A 12), .int (nI 0), .int (nI (X1 12).length)]) (rest := []) rfl w_Clerk_216 (by decide) hk2'.an.1 rfl (Nat.le_of_ble_eq_true rfl) d_Clerk_store_147 ⟨A 2, _, _, [], A 12, _, _, X1 12, 0, (X1 12).length, rfl, hk2'.an, hk2.T x12, hk2.nA (by decide) (by decide) (by decide) (by decide) (by decide), hk2.nA (i := 13) (j := 3) (by decide) (by decide) (by decide) (by decide) (by decide), by decide, by omega, fun M3 t3 o3 => ?_⟩ rfl
                        rw [pu_seg_all] at t3
                        obtain ⟨hk3, hf3⟩ := hk2'.add t3 o3 (by rw [List.length_nil]; omega)
                        refine sp_vret hz d_Clerk_store_150 (Nat.le_refl _) (Nat.le_refl _) (hp M3 W2 pg2 os2 fr2 Q2 nn2 _ N1 _ _ hsto hk3 (by rw [up_n _ _ (by decide)]; exact e0) ?_ n0 n1 n4 n5 n6 p3 (hf2.trans hf3))
                        rw [up_s, List.nil_append, x12', if_neg (by rw [h0]; decide)]
                      · simp only [k_Clerk_store_110, E_nil, E_iconst, E_bipush, E_sipush, E_ldc, E_ldc2, E_lconst, E_null, E_iload_n, E_lload_n, E_aload_n, E_istore_n, E_lstore_n, E_astore_n, E_astoreN_n, E_iload, E_lload, E_aload, E_istore, E_lstore, E_astore, E_astoreN, E_ldi, E_ldl, E_lda, E_ldN, E_iinc, E_iadd, E_isub, E_imul, E_iand, E_ior, E_ixor, E_ishl, E_ishr, E_idiv, E_irem, E_ineg, E_ladd, E_lsub, E_land, E_lor, E_lcmp, E_lshl, E_lshr, E_lushr, E_i2l, E_l2i, E_i2c, E_dupI, E_popI, E_dup_x1II, E_dup2II, E_dup_x1IR, E_dup2IR, E_dup_x1IN, E_dup2IN, E_dupR, E_popR, E_dup_x1RI, E_dup2RI, E_dup_x1RR, E_dup2RR, E_dup_x1RN, E_dup2RN, E_dupN, E_popN, E_dup_x1NI, E_dup2NI, E_dup_x1NR, E_dup2NR, E_dup_x1NN, E_dup2NN, E_goto, E_if_eq, E_if_ne, E_if_lt, E_if_ge, E_if_gt, E_if_le, E_ic_eq, E_ic_ne, E_ic_lt, E_ic_ge, E_ic_gt, E_ic_le, E_ifnull, E_ifnullN, E_ifnonnull, E_ifnonnullN, E_get, E_gf, E_xv, E_n0, E_ns, E_putI, E_putR, E_putN, E_pf, E_st0, E_sts, E_iaload, E_caload, E_laload, E_aaload, E_alen, E_iast, E_cast, E_last, E_xI, E_xJ, E_xQ, E_xN, E_lk, E_lkn, E_s1, E_s1h, E_s1I, E_s1R, E_s1N, E_s1L, E_s2, E_s2h, E_s2L, E_s2I, E_s2R, E_s2N, E_a1, E_a0, E_aI, E_aR, E_aN, E_aL, Option.isSome_some, eq_self, true_and, and_true, true_or, or_true, ne_eq, not_false_eq_true, not_true_eq_false, reduceIte, reduceCtorEq, Nat.reduceAdd, Nat.reduceBEq, Nat.reduceEqDiff, Option.toList_some, Option.toList_none, List.cons_append, List.nil_append, h1, g14, kCk]
                        refine ⟨fun h => absurd h (by decide), fun _ => ?_⟩
                        refine sp_ldcS hz 18 (by decide) rfl rfl d_Clerk_store_117 ?_
                        refine sp_callV hz (c_Text_addWritten l G) (ci := 0) (As := [.ref (G.2.2 (100 + 18))]) (rest := []) rfl w_Clerk_50 (by decide) hk2'.an.1 rfl (Nat.le_of_ble_eq_true rfl) d_Clerk_store_119 ⟨A 2, _, _, [], 18, rfl, hk2'.an, by decide, fun M3 t3 o3 => ?_⟩ rfl
                        obtain ⟨hk3, hf3⟩ := hk2'.add t3 o3 (by decide)
                        refine sp_run hz _ _ e_Clerk_store_122 _ _ _ ?_
                        simp only [k_Clerk_store_122, E_nil, E_iconst, E_bipush, E_sipush, E_ldc, E_ldc2, E_lconst, E_null, E_iload_n, E_lload_n, E_aload_n, E_istore_n, E_lstore_n, E_astore_n, E_astoreN_n, E_iload, E_lload, E_aload, E_istore, E_lstore, E_astore, E_astoreN, E_ldi, E_ldl, E_lda, E_ldN, E_iinc, E_iadd, E_isub, E_imul, E_iand, E_ior, E_ixor, E_ishl, E_ishr, E_idiv, E_irem, E_ineg, E_ladd, E_lsub, E_land, E_lor, E_lcmp, E_lshl, E_lshr, E_lushr, E_i2l, E_l2i, E_i2c, E_dupI, E_popI, E_dup_x1II, E_dup2II, E_dup_x1IR, E_dup2IR, E_dup_x1IN, E_dup2IN, E_dupR, E_popR, E_dup_x1RI, E_dup2RI, E_dup_x1RR, E_dup2RR, E_dup_x1RN, E_dup2RN, E_dupN, E_popN, E_dup_x1NI, E_dup2NI, E_dup_x1NR, E_dup2NR, E_dup_x1NN, E_dup2NN, E_goto, E_if_eq, E_if_ne, E_if_lt, E_if_ge, E_if_gt, E_if_le, E_ic_eq, E_ic_ne, E_ic_lt, E_ic_ge, E_ic_gt, E_ic_le, E_ifnull, E_ifnullN, E_ifnonnull, E_ifnonnullN, E_get, E_gf, E_xv, E_n0, E_ns, E_putI, E_putR, E_putN, E_pf, E_st0, E_sts, E_iaload, E_caload, E_laload, E_aaload, E_alen, E_iast, E_cast, E_last, E_xI, E_xJ, E_xQ, E_xN, E_lk, E_lkn, E_s1, E_s1h, E_s1I, E_s1R, E_s1N, E_s1L, E_s2, E_s2h, E_s2L, E_s2I, E_s2R, E_s2N, E_a1, E_a0, E_aI, E_aR, E_aN, E_aL, Option.isSome_some, eq_self, true_and, and_true, true_or, or_true, ne_eq, not_false_eq_true, not_true_eq_false, reduceIte, reduceCtorEq, Nat.reduceAdd, Nat.reduceBEq, Nat.reduceEqDiff, Option.toList_some, Option.toList_none, List.cons_append, List.nil_append]
                        refine sp_vret hz d_Clerk_store_150 (Nat.le_refl _) (Nat.le_refl _) (hp M3 W2 pg2 os2 fr2 Q2 nn2 _ N1 _ _ hsto hk3 (by rw [up_n _ _ (by decide)]; exact e0) ?_ n0 n1 n4 n5 n6 p3 (hf2.trans hf3))
                        rw [up_s, List.nil_append, if_pos h1]
                    cases r with
                    | none =>
                      simp only [k_Clerk_store_100, E_nil, E_iconst, E_bipush, E_sipush, E_ldc, E_ldc2, E_lconst, E_null, E_iload_n, E_lload_n, E_aload_n, E_istore_n, E_lstore_n, E_astore_n, E_astoreN_n, E_iload, E_lload, E_aload, E_istore, E_lstore, E_astore, E_astoreN, E_ldi, E_ldl, E_lda, E_ldN, E_iinc, E_iadd, E_isub, E_imul, E_iand, E_ior, E_ixor, E_ishl, E_ishr, E_idiv, E_irem, E_ineg, E_ladd, E_lsub, E_land, E_lor, E_lcmp, E_lshl, E_lshr, E_lushr, E_i2l, E_l2i, E_i2c, E_dupI, E_popI, E_dup_x1II, E_dup2II, E_dup_x1IR, E_dup2IR, E_dup_x1IN, E_dup2IN, E_dupR, E_popR, E_dup_x1RI, E_dup2RI, E_dup_x1RR, E_dup2RR, E_dup_x1RN, E_dup2RN, E_dupN, E_popN, E_dup_x1NI, E_dup2NI, E_dup_x1NR, E_dup2NR, E_dup_x1NN, E_dup2NN, E_goto, E_if_eq, E_if_ne, E_if_lt, E_if_ge, E_if_gt, E_if_le, E_ic_eq, E_ic_ne, E_ic_lt, E_ic_ge, E_ic_gt, E_ic_le, E_ifnull, E_ifnullN, E_ifnonnull, E_ifnonnullN, E_get, E_gf, E_xv, E_n0, E_ns, E_putI, E_putR, E_putN, E_pf, E_st0, E_sts, E_iaload, E_caload, E_laload, E_aaload, E_alen, E_iast, E_cast, E_last, E_xI, E_xJ, E_xQ, E_xN, E_lk, E_lkn, E_s1, E_s1h, E_s1I, E_s1R, E_s1N, E_s1L, E_s2, E_s2h, E_s2L, E_s2I, E_s2R, E_s2N, E_a1, E_a0, E_aI, E_aR, E_aN, E_aL, Option.isSome_some, eq_self, true_and, and_true, true_or, or_true, ne_eq, not_false_eq_true, not_true_eq_false, reduceIte, reduceCtorEq, Nat.reduceAdd, Nat.reduceBEq, Nat.reduceEqDiff, Option.toList_some, Option.toList_none, List.cons_append, List.nil_append, g14, kCk]
                      exact b4
                    | some c =>
                      simp only [k_Clerk_store_100, E_nil, E_iconst, E_bipush, E_sipush, E_ldc, E_ldc2, E_lconst, E_null, E_iload_n, E_lload_n, E_aload_n, E_istore_n, E_lstore_n, E_astore_n, E_astoreN_n, E_iload, E_lload, E_aload, E_istore, E_lstore, E_astore, E_astoreN, E_ldi, E_ldl, E_lda, E_ldN, E_iinc, E_iadd, E_isub, E_imul, E_iand, E_ior, E_ixor, E_ishl, E_ishr, E_idiv, E_irem, E_ineg, E_ladd, E_lsub, E_land, E_lor, E_lcmp, E_lshl, E_lshr, E_lushr, E_i2l, E_l2i, E_i2c, E_dupI, E_popI, E_dup_x1II, E_dup2II, E_dup_x1IR, E_dup2IR, E_dup_x1IN, E_dup2IN, E_dupR, E_popR, E_dup_x1RI, E_dup2RI, E_dup_x1RR, E_dup2RR, E_dup_x1RN, E_dup2RN, E_dupN, E_popN, E_dup_x1NI, E_dup2NI, E_dup_x1NR, E_dup2NR, E_dup_x1NN, E_dup2NN, E_goto, E_if_eq, E_if_ne, E_if_lt, E_if_ge, E_if_gt, E_if_le, E_ic_eq, E_ic_ne, E_ic_lt, E_ic_ge, E_ic_gt, E_ic_le, E_ifnull, E_ifnullN, E_ifnonnull, E_ifnonnullN, E_get, E_gf, E_xv, E_n0, E_ns, E_putI, E_putR, E_putN, E_pf, E_st0, E_sts, E_iaload, E_caload, E_laload, E_aaload, E_alen, E_iast, E_cast, E_last, E_xI, E_xJ, E_xQ, E_xN, E_lk, E_lkn, E_s1, E_s1h, E_s1I, E_s1R, E_s1N, E_s1L, E_s2, E_s2h, E_s2L, E_s2I, E_s2R, E_s2N, E_a1, E_a0, E_aI, E_aR, E_aN, E_aL, Option.isSome_some, eq_self, true_and, and_true, true_or, or_true, ne_eq, not_false_eq_true, not_true_eq_false, reduceIte, reduceCtorEq, Nat.reduceAdd, Nat.reduceBEq, Nat.reduceEqDiff, Option.toList_some, Option.toList_none, List.cons_append, List.nil_append, g14, kCk]
                      exact b4
                  -- the put itself
                  have hicl : icl (nxi (N 6) (X 0) ws (N 5) nn.2.1 o) = i0 := by
                    unfold icl
                    rw [← x10', ← x12', hz0]
                    rfl
                  have b5 : sp_W z G M (sp_Q z G M Post 24 144) 4 0 0 97 [(0, .ref (A 14)), (1, va_rf r)] [va_rf r, .ref (A 9), .ref (A 4)] M1 := by
                    obtain ⟨os1, hos1, habs1⟩ : ∃ os1, ((r = none ∧ os1 = os) ∨ ∃ (c i k : Nat), r = some c ∧ i < 4 ∧ (os i)[k]? = some c ∧ os1 = up os i ((os i).eraseIdx k)) ∧ absR os1 Q (rmv (wt (X 0) ws 1) L) := by
                      cases r with
                      | none =>
                        have ho2 : o = none := hat
                        refine ⟨os, Or.inl ⟨rfl, rfl⟩, ?_⟩
                        rw [rmv_none (fun x hx e => ?_)]
                        · exact habs
                        · have := fnd_some habs.2.2 hx e
                          rw [← ho, ho2] at this
                          cases this
                      | some c =>
                        obtain ⟨i, k, hi, hc, ho2⟩ := hat
                        refine ⟨_, Or.inr ⟨c, i, k, rfl, hi, hc, rfl⟩, ?_⟩
                        have hK : cK (Q c) = wt (X 0) ws 1 := by
                          have := (fnd_mem (ho.symm.trans ho2)).2
                          exact this
                        rw [← hK]
                        exact habs.rm hi hc
                    refine sp_callV hz (c_Memory_put l G) (ci := 3) (As := [.ref (A 9), va_rf r]) (rest := []) rfl w_Clerk_202 (by decide) hk1.mm.1 rfl (Nat.le_of_ble_eq_true rfl) d_Clerk_store_97 ⟨A 4, A 5, sh, W, pg, os, fr, Q, nn, r, A 9, A 10, A 11, A 12, A 13, X1 10, X1 12, N1 2, N1 3, i0, os1, rfl, hk1.mm, hk1.dr, hk1.dw, hg, hz0, hpos, hos1, fun M2 W2 pg2 os2 os' fr2 Q2 nn2 nn' c q1 q2 q3 q4 q5 q6 => ?_⟩ rfl
                    obtain ⟨r1, r2⟩ := habs1.put hz0 (fun x hx => by rw [hkey]; exact (rmv_mem hx).2) q1 hpos q2 q3 q4
                    have hkx : iK (nxi (N 6) (X 0) ws (N 5) nn.2.1 o) = wt (X 0) ws 1 := by rw [← x10', hkey]
                    refine fin M2 W2 pg2 os' fr2 Q2 nn' (hk1.mem' q6 q5) (hf1.trans q6.f) ?_ ?_ ?_
                    · unfold pta
                      rw [hicl, hkx, r1]
                      dsimp only
                      split <;> rfl
                    · unfold pta
                      rw [hicl, hkx, r1]
                      dsimp only
                      rw [← n3]
                      rcases q4 with ⟨h1, h2, h3⟩ | ⟨h1, h2, h3⟩
                      · rw [if_pos h1, h3]
                      · rw [if_neg (by omega), h3]
                    · rw [x10', x12', n2, n3] at r2
                      unfold pta
                      rw [hicl, hkx]
                      dsimp only
                      have e22 : (ptE i0 (rmv (wt (X 0) ws 1) L) pg nn).2.2 = nn2 := by rw [r1]
                      rw [e22]
                      rw [hkx] at r2
                      split
                      · rename_i h
                        rw [if_pos h] at r2
                        exact r2
                      · rename_i h
                        rw [if_neg h] at r2
                        exact r2
                  refine sp_run hz _ _ e_Clerk_store_88 _ _ _ ?_
                  cases r with
                  | none =>
                    simp only [k_Clerk_store_88, E_nil, E_iconst, E_bipush, E_sipush, E_ldc, E_ldc2, E_lconst, E_null, E_iload_n, E_lload_n, E_aload_n, E_istore_n, E_lstore_n, E_astore_n, E_astoreN_n, E_iload, E_lload, E_aload, E_istore, E_lstore, E_astore, E_astoreN, E_ldi, E_ldl, E_lda, E_ldN, E_iinc, E_iadd, E_isub, E_imul, E_iand, E_ior, E_ixor, E_ishl, E_ishr, E_idiv, E_irem, E_ineg, E_ladd, E_lsub, E_land, E_lor, E_lcmp, E_lshl, E_lshr, E_lushr, E_i2l, E_l2i, E_i2c, E_dupI, E_popI, E_dup_x1II, E_dup2II, E_dup_x1IR, E_dup2IR, E_dup_x1IN, E_dup2IN, E_dupR, E_popR, E_dup_x1RI, E_dup2RI, E_dup_x1RR, E_dup2RR, E_dup_x1RN, E_dup2RN, E_dupN, E_popN, E_dup_x1NI, E_dup2NI, E_dup_x1NR, E_dup2NR, E_dup_x1NN, E_dup2NN, E_goto, E_if_eq, E_if_ne, E_if_lt, E_if_ge, E_if_gt, E_if_le, E_ic_eq, E_ic_ne, E_ic_lt, E_ic_ge, E_ic_gt, E_ic_le, E_ifnull, E_ifnullN, E_ifnonnull, E_ifnonnullN, E_get, E_gf, E_xv, E_n0, E_ns, E_putI, E_putR, E_putN, E_pf, E_st0, E_sts, E_iaload, E_caload, E_laload, E_aaload, E_alen, E_iast, E_cast, E_last, E_xI, E_xJ, E_xQ, E_xN, E_lk, E_lkn, E_s1, E_s1h, E_s1I, E_s1R, E_s1N, E_s1L, E_s2, E_s2h, E_s2L, E_s2I, E_s2R, E_s2N, E_a1, E_a0, E_aI, E_aR, E_aN, E_aL, Option.isSome_some, eq_self, true_and, and_true, true_or, or_true, ne_eq, not_false_eq_true, not_true_eq_false, reduceIte, reduceCtorEq, Nat.reduceAdd, Nat.reduceBEq, Nat.reduceEqDiff, Option.toList_some, Option.toList_none, List.cons_append, List.nil_append, g14, kCk, rf_n]
                    exact b5
                  | some c =>
                    simp only [k_Clerk_store_88, E_nil, E_iconst, E_bipush, E_sipush, E_ldc, E_ldc2, E_lconst, E_null, E_iload_n, E_lload_n, E_aload_n, E_istore_n, E_lstore_n, E_astore_n, E_astoreN_n, E_iload, E_lload, E_aload, E_istore, E_lstore, E_astore, E_astoreN, E_ldi, E_ldl, E_lda, E_ldN, E_iinc, E_iadd, E_isub, E_imul, E_iand, E_ior, E_ixor, E_ishl, E_ishr, E_idiv, E_irem, E_ineg, E_ladd, E_lsub, E_land, E_lor, E_lcmp, E_lshl, E_lshr, E_lushr, E_i2l, E_l2i, E_i2c, E_dupI, E_popI, E_dup_x1II, E_dup2II, E_dup_x1IR, E_dup2IR, E_dup_x1IN, E_dup2IN, E_dupR, E_popR, E_dup_x1RI, E_dup2RI, E_dup_x1RR, E_dup2RR, E_dup_x1RN, E_dup2RN, E_dupN, E_popN, E_dup_x1NI, E_dup2NI, E_dup_x1NR, E_dup2NR, E_dup_x1NN, E_dup2NN, E_goto, E_if_eq, E_if_ne, E_if_lt, E_if_ge, E_if_gt, E_if_le, E_ic_eq, E_ic_ne, E_ic_lt, E_ic_ge, E_ic_gt, E_ic_le, E_ifnull, E_ifnullN, E_ifnonnull, E_ifnonnullN, E_get, E_gf, E_xv, E_n0, E_ns, E_putI, E_putR, E_putN, E_pf, E_st0, E_sts, E_iaload, E_caload, E_laload, E_aaload, E_alen, E_iast, E_cast, E_last, E_xI, E_xJ, E_xQ, E_xN, E_lk, E_lkn, E_s1, E_s1h, E_s1I, E_s1R, E_s1N, E_s1L, E_s2, E_s2h, E_s2L, E_s2I, E_s2R, E_s2N, E_a1, E_a0, E_aI, E_aR, E_aN, E_aL, Option.isSome_some, eq_self, true_and, and_true, true_or, or_true, ne_eq, not_false_eq_true, not_true_eq_false, reduceIte, reduceCtorEq, Nat.reduceAdd, Nat.reduceBEq, Nat.reduceEqDiff, Option.toList_some, Option.toList_none, List.cons_append, List.nil_append, g14, kCk, rf_s]
                    exact b5
                · -- refused
                  rw [if_pos hrf] at hsto
                  simp only [k_Clerk_store_76, E_nil, E_iconst, E_bipush, E_sipush, E_ldc, E_ldc2, E_lconst, E_null, E_iload_n, E_lload_n, E_aload_n, E_istore_n, E_lstore_n, E_astore_n, E_astoreN_n, E_iload, E_lload, E_aload, E_istore, E_lstore, E_astore, E_astoreN, E_ldi, E_ldl, E_lda, E_ldN, E_iinc, E_iadd, E_isub, E_imul, E_iand, E_ior, E_ixor, E_ishl, E_ishr, E_idiv, E_irem, E_ineg, E_ladd, E_lsub, E_land, E_lor, E_lcmp, E_lshl, E_lshr, E_lushr, E_i2l, E_l2i, E_i2c, E_dupI, E_popI, E_dup_x1II, E_dup2II, E_dup_x1IR, E_dup2IR, E_dup_x1IN, E_dup2IN, E_dupR, E_popR, E_dup_x1RI, E_dup2RI, E_dup_x1RR, E_dup2RR, E_dup_x1RN, E_dup2RN, E_dupN, E_popN, E_dup_x1NI, E_dup2NI, E_dup_x1NR, E_dup2NR, E_dup_x1NN, E_dup2NN, E_goto, E_if_eq, E_if_ne, E_if_lt, E_if_ge, E_if_gt, E_if_le, E_ic_eq, E_ic_ne, E_ic_lt, E_ic_ge, E_ic_gt, E_ic_le, E_ifnull, E_ifnullN, E_ifnonnull, E_ifnonnullN, E_get, E_gf, E_xv, E_n0, E_ns, E_putI, E_putR, E_putN, E_pf, E_st0, E_sts, E_iaload, E_caload, E_laload, E_aaload, E_alen, E_iast, E_cast, E_last, E_xI, E_xJ, E_xQ, E_xN, E_lk, E_lkn, E_s1, E_s1h, E_s1I, E_s1R, E_s1N, E_s1L, E_s2, E_s2h, E_s2L, E_s2I, E_s2R, E_s2N, E_a1, E_a0, E_aI, E_aR, E_aN, E_aL, Option.isSome_some, eq_self, true_and, and_true, true_or, or_true, ne_eq, not_false_eq_true, not_true_eq_false, reduceIte, reduceCtorEq, Nat.reduceAdd, Nat.reduceBEq, Nat.reduceEqDiff, Option.toList_some, Option.toList_none, List.cons_append, List.nil_append, decide_eq_false (fun q => hrf (rv3.mp q)), b2i, Bool.false_eq_true, g14, kCk]
                  refine ⟨fun h => h.elim, fun _ => ?_⟩
                  have hk1' := hk1.st2 e2
                  refine sp_callV hz (c_Text_addWritten l G) (ci := 0) (As := [.ref (G.2.2 (100 + rfs sz pg nn.1))]) (rest := []) rfl w_Clerk_50 (by decide) hk1'.an.1 rfl (Nat.le_of_ble_eq_true rfl) d_Clerk_store_84 ⟨A 2, _, _, [], rfs sz pg nn.1, rfl, hk1'.an, rv1, fun M3 t3 o3 => ?_⟩ rfl
                  obtain ⟨hk3, hf3⟩ := hk1'.add t3 o3 (by rw [List.length_nil]; omega)
                  refine sp_vret hz d_Clerk_store_87 (Nat.zero_le _) (Nat.zero_le _) (hp M3 W pg os fr Q nn _ N1 _ _ hsto hk3 (by rw [up_n _ _ (by decide)]; exact e0) ?_ n0 n1 n4 n5 n6 habs (hf1.trans hf3))
                  rw [up_s, List.nil_append]
              refine sp_run hz _ _ e_Clerk_store_71 _ _ _ ?_
              cases r with
              | none =>
                simp only [k_Clerk_store_71, E_nil, E_iconst, E_bipush, E_sipush, E_ldc, E_ldc2, E_lconst, E_null, E_iload_n, E_lload_n, E_aload_n, E_istore_n, E_lstore_n, E_astore_n, E_astoreN_n, E_iload, E_lload, E_aload, E_istore, E_lstore, E_astore, E_astoreN, E_ldi, E_ldl, E_lda, E_ldN, E_iinc, E_iadd, E_isub, E_imul, E_iand, E_ior, E_ixor, E_ishl, E_ishr, E_idiv, E_irem, E_ineg, E_ladd, E_lsub, E_land, E_lor, E_lcmp, E_lshl, E_lshr, E_lushr, E_i2l, E_l2i, E_i2c, E_dupI, E_popI, E_dup_x1II, E_dup2II, E_dup_x1IR, E_dup2IR, E_dup_x1IN, E_dup2IN, E_dupR, E_popR, E_dup_x1RI, E_dup2RI, E_dup_x1RR, E_dup2RR, E_dup_x1RN, E_dup2RN, E_dupN, E_popN, E_dup_x1NI, E_dup2NI, E_dup_x1NR, E_dup2NR, E_dup_x1NN, E_dup2NN, E_goto, E_if_eq, E_if_ne, E_if_lt, E_if_ge, E_if_gt, E_if_le, E_ic_eq, E_ic_ne, E_ic_lt, E_ic_ge, E_ic_gt, E_ic_le, E_ifnull, E_ifnullN, E_ifnonnull, E_ifnonnullN, E_get, E_gf, E_xv, E_n0, E_ns, E_putI, E_putR, E_putN, E_pf, E_st0, E_sts, E_iaload, E_caload, E_laload, E_aaload, E_alen, E_iast, E_cast, E_last, E_xI, E_xJ, E_xQ, E_xN, E_lk, E_lkn, E_s1, E_s1h, E_s1I, E_s1R, E_s1N, E_s1L, E_s2, E_s2h, E_s2L, E_s2I, E_s2R, E_s2N, E_a1, E_a0, E_aI, E_aR, E_aN, E_aL, Option.isSome_some, eq_self, true_and, and_true, true_or, or_true, ne_eq, not_false_eq_true, not_true_eq_false, reduceIte, reduceCtorEq, Nat.reduceAdd, Nat.reduceBEq, Nat.reduceEqDiff, Option.toList_some, Option.toList_none, List.cons_append, List.nil_append]
                exact b3
              | some c =>
                simp only [k_Clerk_store_71, E_nil, E_iconst, E_bipush, E_sipush, E_ldc, E_ldc2, E_lconst, E_null, E_iload_n, E_lload_n, E_aload_n, E_istore_n, E_lstore_n, E_astore_n, E_astoreN_n, E_iload, E_lload, E_aload, E_istore, E_lstore, E_astore, E_astoreN, E_ldi, E_ldl, E_lda, E_ldN, E_iinc, E_iadd, E_isub, E_imul, E_iand, E_ior, E_ixor, E_ishl, E_ishr, E_idiv, E_irem, E_ineg, E_ladd, E_lsub, E_land, E_lor, E_lcmp, E_lshl, E_lshr, E_lushr, E_i2l, E_l2i, E_i2c, E_dupI, E_popI, E_dup_x1II, E_dup2II, E_dup_x1IR, E_dup2IR, E_dup_x1IN, E_dup2IN, E_dupR, E_popR, E_dup_x1RI, E_dup2RI, E_dup_x1RR, E_dup2RR, E_dup_x1RN, E_dup2RN, E_dupN, E_popN, E_dup_x1NI, E_dup2NI, E_dup_x1NR, E_dup2NR, E_dup_x1NN, E_dup2NN, E_goto, E_if_eq, E_if_ne, E_if_lt, E_if_ge, E_if_gt, E_if_le, E_ic_eq, E_ic_ne, E_ic_lt, E_ic_ge, E_ic_gt, E_ic_le, E_ifnull, E_ifnullN, E_ifnonnull, E_ifnonnullN, E_get, E_gf, E_xv, E_n0, E_ns, E_putI, E_putR, E_putN, E_pf, E_st0, E_sts, E_iaload, E_caload, E_laload, E_aaload, E_alen, E_iast, E_cast, E_last, E_xI, E_xJ, E_xQ, E_xN, E_lk, E_lkn, E_s1, E_s1h, E_s1I, E_s1R, E_s1N, E_s1L, E_s2, E_s2h, E_s2L, E_s2I, E_s2R, E_s2N, E_a1, E_a0, E_aI, E_aR, E_aN, E_aL, Option.isSome_some, eq_self, true_and, and_true, true_or, or_true, ne_eq, not_false_eq_true, not_true_eq_false, reduceIte, reduceCtorEq, Nat.reduceAdd, Nat.reduceBEq, Nat.reduceEqDiff, Option.toList_some, Option.toList_none, List.cons_append, List.nil_append]
                exact b3
            cases r with
            | none =>
              simp only [k_Clerk_store_57, E_nil, E_iconst, E_bipush, E_sipush, E_ldc, E_ldc2, E_lconst, E_null, E_iload_n, E_lload_n, E_aload_n, E_istore_n, E_lstore_n, E_astore_n, E_astoreN_n, E_iload, E_lload, E_aload, E_istore, E_lstore, E_astore, E_astoreN, E_ldi, E_ldl, E_lda, E_ldN, E_iinc, E_iadd, E_isub, E_imul, E_iand, E_ior, E_ixor, E_ishl, E_ishr, E_idiv, E_irem, E_ineg, E_ladd, E_lsub, E_land, E_lor, E_lcmp, E_lshl, E_lshr, E_lushr, E_i2l, E_l2i, E_i2c, E_dupI, E_popI, E_dup_x1II, E_dup2II, E_dup_x1IR, E_dup2IR, E_dup_x1IN, E_dup2IN, E_dupR, E_popR, E_dup_x1RI, E_dup2RI, E_dup_x1RR, E_dup2RR, E_dup_x1RN, E_dup2RN, E_dupN, E_popN, E_dup_x1NI, E_dup2NI, E_dup_x1NR, E_dup2NR, E_dup_x1NN, E_dup2NN, E_goto, E_if_eq, E_if_ne, E_if_lt, E_if_ge, E_if_gt, E_if_le, E_ic_eq, E_ic_ne, E_ic_lt, E_ic_ge, E_ic_gt, E_ic_le, E_ifnull, E_ifnullN, E_ifnonnull, E_ifnonnullN, E_get, E_gf, E_xv, E_n0, E_ns, E_putI, E_putR, E_putN, E_pf, E_st0, E_sts, E_iaload, E_caload, E_laload, E_aaload, E_alen, E_iast, E_cast, E_last, E_xI, E_xJ, E_xQ, E_xN, E_lk, E_lkn, E_s1, E_s1h, E_s1I, E_s1R, E_s1N, E_s1L, E_s2, E_s2h, E_s2L, E_s2I, E_s2R, E_s2N, E_a1, E_a0, E_aI, E_aR, E_aN, E_aL, Option.isSome_some, eq_self, true_and, and_true, true_or, or_true, ne_eq, not_false_eq_true, not_true_eq_false, reduceIte, reduceCtorEq, Nat.reduceAdd, Nat.reduceBEq, Nat.reduceEqDiff, Option.toList_some, Option.toList_none, List.cons_append, List.nil_append, g14, kCk]
              exact blk
            | some c =>
              simp only [k_Clerk_store_57, E_nil, E_iconst, E_bipush, E_sipush, E_ldc, E_ldc2, E_lconst, E_null, E_iload_n, E_lload_n, E_aload_n, E_istore_n, E_lstore_n, E_astore_n, E_astoreN_n, E_iload, E_lload, E_aload, E_istore, E_lstore, E_astore, E_astoreN, E_ldi, E_ldl, E_lda, E_ldN, E_iinc, E_iadd, E_isub, E_imul, E_iand, E_ior, E_ixor, E_ishl, E_ishr, E_idiv, E_irem, E_ineg, E_ladd, E_lsub, E_land, E_lor, E_lcmp, E_lshl, E_lshr, E_lushr, E_i2l, E_l2i, E_i2c, E_dupI, E_popI, E_dup_x1II, E_dup2II, E_dup_x1IR, E_dup2IR, E_dup_x1IN, E_dup2IN, E_dupR, E_popR, E_dup_x1RI, E_dup2RI, E_dup_x1RR, E_dup2RR, E_dup_x1RN, E_dup2RN, E_dupN, E_popN, E_dup_x1NI, E_dup2NI, E_dup_x1NR, E_dup2NR, E_dup_x1NN, E_dup2NN, E_goto, E_if_eq, E_if_ne, E_if_lt, E_if_ge, E_if_gt, E_if_le, E_ic_eq, E_ic_ne, E_ic_lt, E_ic_ge, E_ic_gt, E_ic_le, E_ifnull, E_ifnullN, E_ifnonnull, E_ifnonnullN, E_get, E_gf, E_xv, E_n0, E_ns, E_putI, E_putR, E_putN, E_pf, E_st0, E_sts, E_iaload, E_caload, E_laload, E_aaload, E_alen, E_iast, E_cast, E_last, E_xI, E_xJ, E_xQ, E_xN, E_lk, E_lkn, E_s1, E_s1h, E_s1I, E_s1R, E_s1N, E_s1L, E_s2, E_s2h, E_s2L, E_s2I, E_s2R, E_s2N, E_a1, E_a0, E_aI, E_aR, E_aN, E_aL, Option.isSome_some, eq_self, true_and, and_true, true_or, or_true, ne_eq, not_false_eq_true, not_true_eq_false, reduceIte, reduceCtorEq, Nat.reduceAdd, Nat.reduceBEq, Nat.reduceEqDiff, Option.toList_some, Option.toList_none, List.cons_append, List.nil_append, g14, kCk]
              exact blk
          -- a new item
          have new : N 6 ≤ 5 → nxi (N 6) (X 0) ws (N 5) nn.2.1 o = (wt (X 0) ws 1, lnD (X 0) (N 5), pu_val (wt (X 0) ws 2), 0, lfG (X 0) ws 3 nn.2.1) → sp_W z G M (sp_Q z G M Post 24 144) 4 0 0 53 [(0, .ref (A 14)), (1, va_rf r)] [] M := by
            intro h5 hnx
            obtain ⟨p1, p2⟩ := hpre5 h5
            have b6 : sp_W z G M (sp_Q z G M Post 24 144) 4 0 0 54 [(0, .ref (A 14)), (1, va_rf r)] [.ref (A 14)] M := by
              refine sp_callV hz (c_Clerk_prepareNew l G) (ci := 6) (As := []) (rest := []) rfl w_Clerk_192 (by decide) h14 rfl (Nat.le_of_ble_eq_true rfl) d_Clerk_store_54 ⟨A, sh, W, pg, os, fr, Q, nn, X, N, ws, rfl, hk, hok, hl8, hn2, p1, p2, fun M1 hk1 hf1 => ?_⟩ rfl
              refine rest M1 _ _ hk1 hf1 rfl ?_ rfl rfl rfl rfl rfl ?_ ?_ ?_ ?_ ?_
              · exact hX2
              · rw [hnx]; rfl
              · rw [hnx, up_s]
              · rw [hnx]; rfl
              · rw [hnx, up_s]
              · rw [up_s]; exact lfG_lt p1 hti
            refine sp_run hz _ _ e_Clerk_store_53 _ _ _ ?_
            cases r with
            | none =>
              simp only [k_Clerk_store_53, E_nil, E_iconst, E_bipush, E_sipush, E_ldc, E_ldc2, E_lconst, E_null, E_iload_n, E_lload_n, E_aload_n, E_istore_n, E_lstore_n, E_astore_n, E_astoreN_n, E_iload, E_lload, E_aload, E_istore, E_lstore, E_astore, E_astoreN, E_ldi, E_ldl, E_lda, E_ldN, E_iinc, E_iadd, E_isub, E_imul, E_iand, E_ior, E_ixor, E_ishl, E_ishr, E_idiv, E_irem, E_ineg, E_ladd, E_lsub, E_land, E_lor, E_lcmp, E_lshl, E_lshr, E_lushr, E_i2l, E_l2i, E_i2c, E_dupI, E_popI, E_dup_x1II, E_dup2II, E_dup_x1IR, E_dup2IR, E_dup_x1IN, E_dup2IN, E_dupR, E_popR, E_dup_x1RI, E_dup2RI, E_dup_x1RR, E_dup2RR, E_dup_x1RN, E_dup2RN, E_dupN, E_popN, E_dup_x1NI, E_dup2NI, E_dup_x1NR, E_dup2NR, E_dup_x1NN, E_dup2NN, E_goto, E_if_eq, E_if_ne, E_if_lt, E_if_ge, E_if_gt, E_if_le, E_ic_eq, E_ic_ne, E_ic_lt, E_ic_ge, E_ic_gt, E_ic_le, E_ifnull, E_ifnullN, E_ifnonnull, E_ifnonnullN, E_get, E_gf, E_xv, E_n0, E_ns, E_putI, E_putR, E_putN, E_pf, E_st0, E_sts, E_iaload, E_caload, E_laload, E_aaload, E_alen, E_iast, E_cast, E_last, E_xI, E_xJ, E_xQ, E_xN, E_lk, E_lkn, E_s1, E_s1h, E_s1I, E_s1R, E_s1N, E_s1L, E_s2, E_s2h, E_s2L, E_s2I, E_s2R, E_s2N, E_a1, E_a0, E_aI, E_aR, E_aN, E_aL, Option.isSome_some, eq_self, true_and, and_true, true_or, or_true, ne_eq, not_false_eq_true, not_true_eq_false, reduceIte, reduceCtorEq, Nat.reduceAdd, Nat.reduceBEq, Nat.reduceEqDiff, Option.toList_some, Option.toList_none, List.cons_append, List.nil_append]
              exact b6
            | some c =>
              simp only [k_Clerk_store_53, E_nil, E_iconst, E_bipush, E_sipush, E_ldc, E_ldc2, E_lconst, E_null, E_iload_n, E_lload_n, E_aload_n, E_istore_n, E_lstore_n, E_astore_n, E_astoreN_n, E_iload, E_lload, E_aload, E_istore, E_lstore, E_astore, E_astoreN, E_ldi, E_ldl, E_lda, E_ldN, E_iinc, E_iadd, E_isub, E_imul, E_iand, E_ior, E_ixor, E_ishl, E_ishr, E_idiv, E_irem, E_ineg, E_ladd, E_lsub, E_land, E_lor, E_lcmp, E_lshl, E_lshr, E_lushr, E_i2l, E_l2i, E_i2c, E_dupI, E_popI, E_dup_x1II, E_dup2II, E_dup_x1IR, E_dup2IR, E_dup_x1IN, E_dup2IN, E_dupR, E_popR, E_dup_x1RI, E_dup2RI, E_dup_x1RR, E_dup2RR, E_dup_x1RN, E_dup2RN, E_dupN, E_popN, E_dup_x1NI, E_dup2NI, E_dup_x1NR, E_dup2NR, E_dup_x1NN, E_dup2NN, E_goto, E_if_eq, E_if_ne, E_if_lt, E_if_ge, E_if_gt, E_if_le, E_ic_eq, E_ic_ne, E_ic_lt, E_ic_ge, E_ic_gt, E_ic_le, E_ifnull, E_ifnullN, E_ifnonnull, E_ifnonnullN, E_get, E_gf, E_xv, E_n0, E_ns, E_putI, E_putR, E_putN, E_pf, E_st0, E_sts, E_iaload, E_caload, E_laload, E_aaload, E_alen, E_iast, E_cast, E_last, E_xI, E_xJ, E_xQ, E_xN, E_lk, E_lkn, E_s1, E_s1h, E_s1I, E_s1R, E_s1N, E_s1L, E_s2, E_s2h, E_s2L, E_s2I, E_s2R, E_s2N, E_a1, E_a0, E_aI, E_aR, E_aN, E_aL, Option.isSome_some, eq_self, true_and, and_true, true_or, or_true, ne_eq, not_false_eq_true, not_true_eq_false, reduceIte, reduceCtorEq, Nat.reduceAdd, Nat.reduceBEq, Nat.reduceEqDiff, Option.toList_some, Option.toList_none, List.cons_append, List.nil_append]
              exact b6
          refine sp_run hz _ _ e_Clerk_store_28 _ _ _ ?_
          cases r with
          | none =>
            have ho2 : o = none := hat
            have h5 : N 6 ≤ 5 := by
              rcases hv with h | h | h
              · exact h
              · exfalso
                rw [ho2] at hob
                unfold obs at hob
                rw [h] at hob
                cases hob
              · exfalso
                rw [ho2] at hob
                unfold obs at hob
                rw [h] at hob
                cases hob
            simp only [k_Clerk_store_28, E_nil, E_iconst, E_bipush, E_sipush, E_ldc, E_ldc2, E_lconst, E_null, E_iload_n, E_lload_n, E_aload_n, E_istore_n, E_lstore_n, E_astore_n, E_astoreN_n, E_iload, E_lload, E_aload, E_istore, E_lstore, E_astore, E_astoreN, E_ldi, E_ldl, E_lda, E_ldN, E_iinc, E_iadd, E_isub, E_imul, E_iand, E_ior, E_ixor, E_ishl, E_ishr, E_idiv, E_irem, E_ineg, E_ladd, E_lsub, E_land, E_lor, E_lcmp, E_lshl, E_lshr, E_lushr, E_i2l, E_l2i, E_i2c, E_dupI, E_popI, E_dup_x1II, E_dup2II, E_dup_x1IR, E_dup2IR, E_dup_x1IN, E_dup2IN, E_dupR, E_popR, E_dup_x1RI, E_dup2RI, E_dup_x1RR, E_dup2RR, E_dup_x1RN, E_dup2RN, E_dupN, E_popN, E_dup_x1NI, E_dup2NI, E_dup_x1NR, E_dup2NR, E_dup_x1NN, E_dup2NN, E_goto, E_if_eq, E_if_ne, E_if_lt, E_if_ge, E_if_gt, E_if_le, E_ic_eq, E_ic_ne, E_ic_lt, E_ic_ge, E_ic_gt, E_ic_le, E_ifnull, E_ifnullN, E_ifnonnull, E_ifnonnullN, E_get, E_gf, E_xv, E_n0, E_ns, E_putI, E_putR, E_putN, E_pf, E_st0, E_sts, E_iaload, E_caload, E_laload, E_aaload, E_alen, E_iast, E_cast, E_last, E_xI, E_xJ, E_xQ, E_xN, E_lk, E_lkn, E_s1, E_s1h, E_s1I, E_s1R, E_s1N, E_s1L, E_s2, E_s2h, E_s2L, E_s2I, E_s2R, E_s2N, E_a1, E_a0, E_aI, E_aR, E_aN, E_aL, Option.isSome_some, eq_self, true_and, and_true, true_or, or_true, ne_eq, not_false_eq_true, not_true_eq_false, reduceIte, reduceCtorEq, Nat.reduceAdd, Nat.reduceBEq, Nat.reduceEqDiff, Option.toList_some, Option.toList_none, List.cons_append, List.nil_append, rf_n]
            have := new h5 (by rw [ho2]; rfl)
            rw [rf_n] at this
            exact this
          | some c =>
            obtain ⟨i, k, hi, hc, ho2⟩ := hat
            have hc0 := hk.cm hok
            simp only [k_Clerk_store_28, E_nil, E_iconst, E_bipush, E_sipush, E_ldc, E_ldc2, E_lconst, E_null, E_iload_n, E_lload_n, E_aload_n, E_istore_n, E_lstore_n, E_astore_n, E_astoreN_n, E_iload, E_lload, E_aload, E_istore, E_lstore, E_astore, E_astoreN, E_ldi, E_ldl, E_lda, E_ldN, E_iinc, E_iadd, E_isub, E_imul, E_iand, E_ior, E_ixor, E_ishl, E_ishr, E_idiv, E_irem, E_ineg, E_ladd, E_lsub, E_land, E_lor, E_lcmp, E_lshl, E_lshr, E_lushr, E_i2l, E_l2i, E_i2c, E_dupI, E_popI, E_dup_x1II, E_dup2II, E_dup_x1IR, E_dup2IR, E_dup_x1IN, E_dup2IN, E_dupR, E_popR, E_dup_x1RI, E_dup2RI, E_dup_x1RR, E_dup2RR, E_dup_x1RN, E_dup2RN, E_dupN, E_popN, E_dup_x1NI, E_dup2NI, E_dup_x1NR, E_dup2NR, E_dup_x1NN, E_dup2NN, E_goto, E_if_eq, E_if_ne, E_if_lt, E_if_ge, E_if_gt, E_if_le, E_ic_eq, E_ic_ne, E_ic_lt, E_ic_ge, E_ic_gt, E_ic_le, E_ifnull, E_ifnullN, E_ifnonnull, E_ifnonnullN, E_get, E_gf, E_xv, E_n0, E_ns, E_putI, E_putR, E_putN, E_pf, E_st0, E_sts, E_iaload, E_caload, E_laload, E_aaload, E_alen, E_iast, E_cast, E_last, E_xI, E_xJ, E_xQ, E_xN, E_lk, E_lkn, E_s1, E_s1h, E_s1I, E_s1R, E_s1N, E_s1L, E_s2, E_s2h, E_s2L, E_s2I, E_s2R, E_s2N, E_a1, E_a0, E_aI, E_aR, E_aN, E_aL, Option.isSome_some, eq_self, true_and, and_true, true_or, or_true, ne_eq, not_false_eq_true, not_true_eq_false, reduceIte, reduceCtorEq, Nat.reduceAdd, Nat.reduceBEq, Nat.reduceEqDiff, Option.toList_some, Option.toList_none, List.cons_append, List.nil_append, rf_s, h14, kCk]
            refine sp_callV hz (c_Command_verb l G) (ci := 4) (As := []) (rest := []) rfl w_Clerk_68 (by decide) hc0.1 rfl (Nat.le_of_ble_eq_true rfl) d_Clerk_store_36 ⟨_, _, _, _, _, _, ws, _, _, rfl, hc0, ?_⟩ rfl
            refine sp_getO hz a7 l_Clerk_185 d_Clerk_store_39 ?_
            refine sp_run hz _ _ e_Clerk_store_42 _ _ _ ?_
            rcases f5 with h0 | h1
            · simp only [k_Clerk_store_42, E_nil, E_iconst, E_bipush, E_sipush, E_ldc, E_ldc2, E_lconst, E_null, E_iload_n, E_lload_n, E_aload_n, E_istore_n, E_lstore_n, E_astore_n, E_astoreN_n, E_iload, E_lload, E_aload, E_istore, E_lstore, E_astore, E_astoreN, E_ldi, E_ldl, E_lda, E_ldN, E_iinc, E_iadd, E_isub, E_imul, E_iand, E_ior, E_ixor, E_ishl, E_ishr, E_idiv, E_irem, E_ineg, E_ladd, E_lsub, E_land, E_lor, E_lcmp, E_lshl, E_lshr, E_lushr, E_i2l, E_l2i, E_i2c, E_dupI, E_popI, E_dup_x1II, E_dup2II, E_dup_x1IR, E_dup2IR, E_dup_x1IN, E_dup2IN, E_dupR, E_popR, E_dup_x1RI, E_dup2RI, E_dup_x1RR, E_dup2RR, E_dup_x1RN, E_dup2RN, E_dupN, E_popN, E_dup_x1NI, E_dup2NI, E_dup_x1NR, E_dup2NR, E_dup_x1NN, E_dup2NN, E_goto, E_if_eq, E_if_ne, E_if_lt, E_if_ge, E_if_gt, E_if_le, E_ic_eq, E_ic_ne, E_ic_lt, E_ic_ge, E_ic_gt, E_ic_le, E_ifnull, E_ifnullN, E_ifnonnull, E_ifnonnullN, E_get, E_gf, E_xv, E_n0, E_ns, E_putI, E_putR, E_putN, E_pf, E_st0, E_sts, E_iaload, E_caload, E_laload, E_aaload, E_alen, E_iast, E_cast, E_last, E_xI, E_xJ, E_xQ, E_xN, E_lk, E_lkn, E_s1, E_s1h, E_s1I, E_s1R, E_s1N, E_s1L, E_s2, E_s2h, E_s2L, E_s2I, E_s2R, E_s2N, E_a1, E_a0, E_aI, E_aR, E_aN, E_aL, Option.isSome_some, eq_self, true_and, and_true, true_or, or_true, ne_eq, not_false_eq_true, not_true_eq_false, reduceIte, reduceCtorEq, Nat.reduceAdd, Nat.reduceBEq, Nat.reduceEqDiff, Option.toList_some, Option.toList_none, List.cons_append, List.nil_append, h0]
              refine ⟨fun _ => ?_, fun h => h.elim⟩
              have h5 : N 6 ≤ 5 := by
                rcases hv with h | h | h
                · exact h
                · rw [h] at h0; exact absurd h0 (by decide)
                · rw [h] at h0; exact absurd h0 (by decide)
              have := new h5 (by rw [ho2]; unfold nxi; dsimp only; rw [if_neg (by rw [h0]; decide)])
              rw [rf_s] at this
              exact this
            · simp only [k_Clerk_store_42, E_nil, E_iconst, E_bipush, E_sipush, E_ldc, E_ldc2, E_lconst, E_null, E_iload_n, E_lload_n, E_aload_n, E_istore_n, E_lstore_n, E_astore_n, E_astoreN_n, E_iload, E_lload, E_aload, E_istore, E_lstore, E_astore, E_astoreN, E_ldi, E_ldl, E_lda, E_ldN, E_iinc, E_iadd, E_isub, E_imul, E_iand, E_ior, E_ixor, E_ishl, E_ishr, E_idiv, E_irem, E_ineg, E_ladd, E_lsub, E_land, E_lor, E_lcmp, E_lshl, E_lshr, E_lushr, E_i2l, E_l2i, E_i2c, E_dupI, E_popI, E_dup_x1II, E_dup2II, E_dup_x1IR, E_dup2IR, E_dup_x1IN, E_dup2IN, E_dupR, E_popR, E_dup_x1RI, E_dup2RI, E_dup_x1RR, E_dup2RR, E_dup_x1RN, E_dup2RN, E_dupN, E_popN, E_dup_x1NI, E_dup2NI, E_dup_x1NR, E_dup2NR, E_dup_x1NN, E_dup2NN, E_goto, E_if_eq, E_if_ne, E_if_lt, E_if_ge, E_if_gt, E_if_le, E_ic_eq, E_ic_ne, E_ic_lt, E_ic_ge, E_ic_gt, E_ic_le, E_ifnull, E_ifnullN, E_ifnonnull, E_ifnonnullN, E_get, E_gf, E_xv, E_n0, E_ns, E_putI, E_putR, E_putN, E_pf, E_st0, E_sts, E_iaload, E_caload, E_laload, E_aaload, E_alen, E_iast, E_cast, E_last, E_xI, E_xJ, E_xQ, E_xN, E_lk, E_lkn, E_s1, E_s1h, E_s1I, E_s1R, E_s1N, E_s1L, E_s2, E_s2h, E_s2L, E_s2I, E_s2R, E_s2N, E_a1, E_a0, E_aI, E_aR, E_aN, E_aL, Option.isSome_some, eq_self, true_and, and_true, true_or, or_true, ne_eq, not_false_eq_true, not_true_eq_false, reduceIte, reduceCtorEq, Nat.reduceAdd, Nat.reduceBEq, Nat.reduceEqDiff, Option.toList_some, Option.toList_none, List.cons_append, List.nil_append, h1]
              refine ⟨fun h => absurd h (by decide), fun _ => ?_⟩
              have hvc : N 6 = 3 ∨ N 6 = 4 ∨ N 6 = 11 ∨ N 6 = 12 := by
                have : ∀ v, v < 14 → (vb v).2.2.2 = 1 → v = 3 ∨ v = 4 ∨ v = 11 ∨ v = 12 := by decide
                exact this _ hv14 h1
              have hnx : nxi (N 6) (X 0) ws (N 5) nn.2.1 o = (wt (X 0) ws 1, chg (N 6) (X 0) ws (N 5) (cI (Q c)), cFl (Q c), 0, cGn (Q c)) := by
                rw [ho2]
                unfold nxi
                dsimp only
                rw [if_pos h1]
                rfl
              refine sp_callV hz (c_Clerk_prepareChange l G) (ci := 6) (As := [.ref c]) (rest := []) rfl w_Clerk_189 (by decide) h14 rfl (Nat.le_of_ble_eq_true rfl) d_Clerk_store_47 ⟨A, sh, W, pg, os, fr, Q, nn, X, N, ws, i, k, c, rfl, hk, hok, hi, hc, hl8, hvc, fun h => (hpre5 (by omega)).2, fun h => ⟨?_, hn2⟩, fun M1 hk1 hf1 => ?_⟩ rfl
              · rw [ho2] at hob
                unfold obs at hob
                rw [if_neg (by omega), if_neg (by omega), if_neg (by omega), if_neg (by omega)] at hob
                dsimp only at hob
                by_cases hq : pu_isnum (iD (cI (Q c))) 0 (iD (cI (Q c))).length = true
                · exact hq
                · rw [if_neg hq] at hob
                  cases hob
              · refine sp_run hz _ _ e_Clerk_store_50 _ _ _ ?_
                simp only [k_Clerk_store_50, E_nil, E_iconst, E_bipush, E_sipush, E_ldc, E_ldc2, E_lconst, E_null, E_iload_n, E_lload_n, E_aload_n, E_istore_n, E_lstore_n, E_astore_n, E_astoreN_n, E_iload, E_lload, E_aload, E_istore, E_lstore, E_astore, E_astoreN, E_ldi, E_ldl, E_lda, E_ldN, E_iinc, E_iadd, E_isub, E_imul, E_iand, E_ior, E_ixor, E_ishl, E_ishr, E_idiv, E_irem, E_ineg, E_ladd, E_lsub, E_land, E_lor, E_lcmp, E_lshl, E_lshr, E_lushr, E_i2l, E_l2i, E_i2c, E_dupI, E_popI, E_dup_x1II, E_dup2II, E_dup_x1IR, E_dup2IR, E_dup_x1IN, E_dup2IN, E_dupR, E_popR, E_dup_x1RI, E_dup2RI, E_dup_x1RR, E_dup2RR, E_dup_x1RN, E_dup2RN, E_dupN, E_popN, E_dup_x1NI, E_dup2NI, E_dup_x1NR, E_dup2NR, E_dup_x1NN, E_dup2NN, E_goto, E_if_eq, E_if_ne, E_if_lt, E_if_ge, E_if_gt, E_if_le, E_ic_eq, E_ic_ne, E_ic_lt, E_ic_ge, E_ic_gt, E_ic_le, E_ifnull, E_ifnullN, E_ifnonnull, E_ifnonnullN, E_get, E_gf, E_xv, E_n0, E_ns, E_putI, E_putR, E_putN, E_pf, E_st0, E_sts, E_iaload, E_caload, E_laload, E_aaload, E_alen, E_iast, E_cast, E_last, E_xI, E_xJ, E_xQ, E_xN, E_lk, E_lkn, E_s1, E_s1h, E_s1I, E_s1R, E_s1N, E_s1L, E_s2, E_s2h, E_s2L, E_s2I, E_s2R, E_s2N, E_a1, E_a0, E_aI, E_aR, E_aN, E_aL, Option.isSome_some, eq_self, true_and, and_true, true_or, or_true, ne_eq, not_false_eq_true, not_true_eq_false, reduceIte, reduceCtorEq, Nat.reduceAdd, Nat.reduceBEq, Nat.reduceEqDiff, Option.toList_some, Option.toList_none, List.cons_append, List.nil_append]
                have hg : cGn (Q c) < 2 ^ 31 := ((hk.mm.2.2.2.1 i hi).2.2 c (Or.inl (List.mem_of_getElem? hc))).2.2.2
                have := rest M1 _ _ hk1 hf1 rfl hX2 rfl rfl rfl rfl rfl (by rw [hnx]; rfl) (by rw [hnx, up_s]) (by rw [hnx]; rfl) (by rw [hnx, up_s]) (by rw [up_s]; exact hg)
                rw [rf_s] at this
                exact this
        · -- something keeps it from storing
          have hsto : sto (N 6) (X 0) ws (N 5) L pg nn = (pg, L, nn, sv (obs (N 6) (X 0) ws o)) := by
            unfold sto
            rw [← ho, if_pos hob]
          simp only [k_Clerk_store_16, E_nil, E_iconst, E_bipush, E_sipush, E_ldc, E_ldc2, E_lconst, E_null, E_iload_n, E_lload_n, E_aload_n, E_istore_n, E_lstore_n, E_astore_n, E_astoreN_n, E_iload, E_lload, E_aload, E_istore, E_lstore, E_astore, E_astoreN, E_ldi, E_ldl, E_lda, E_ldN, E_iinc, E_iadd, E_isub, E_imul, E_iand, E_ior, E_ixor, E_ishl, E_ishr, E_idiv, E_irem, E_ineg, E_ladd, E_lsub, E_land, E_lor, E_lcmp, E_lshl, E_lshr, E_lushr, E_i2l, E_l2i, E_i2c, E_dupI, E_popI, E_dup_x1II, E_dup2II, E_dup_x1IR, E_dup2IR, E_dup_x1IN, E_dup2IN, E_dupR, E_popR, E_dup_x1RI, E_dup2RI, E_dup_x1RR, E_dup2RR, E_dup_x1RN, E_dup2RN, E_dupN, E_popN, E_dup_x1NI, E_dup2NI, E_dup_x1NR, E_dup2NR, E_dup_x1NN, E_dup2NN, E_goto, E_if_eq, E_if_ne, E_if_lt, E_if_ge, E_if_gt, E_if_le, E_ic_eq, E_ic_ne, E_ic_lt, E_ic_ge, E_ic_gt, E_ic_le, E_ifnull, E_ifnullN, E_ifnonnull, E_ifnonnullN, E_get, E_gf, E_xv, E_n0, E_ns, E_putI, E_putR, E_putN, E_pf, E_st0, E_sts, E_iaload, E_caload, E_laload, E_aaload, E_alen, E_iast, E_cast, E_last, E_xI, E_xJ, E_xQ, E_xN, E_lk, E_lkn, E_s1, E_s1h, E_s1I, E_s1R, E_s1N, E_s1L, E_s2, E_s2h, E_s2L, E_s2I, E_s2R, E_s2N, E_a1, E_a0, E_aI, E_aR, E_aN, E_aL, Option.isSome_some, eq_self, true_and, and_true, true_or, or_true, ne_eq, not_false_eq_true, not_true_eq_false, reduceIte, reduceCtorEq, Nat.reduceAdd, Nat.reduceBEq, Nat.reduceEqDiff, Option.toList_some, Option.toList_none, List.cons_append, List.nil_append, decide_eq_false (fun q => hob (ov3.mp q)), b2i, Bool.false_eq_true, h14, kCk]
          refine ⟨fun h => h.elim, fun _ => ?_⟩
          have hk' := hk.st2 hX2
          refine sp_callV hz (c_Text_addWritten l G) (ci := 0) (As := [.ref (G.2.2 (100 + obs (N 6) (X 0) ws o))]) (rest := []) rfl w_Clerk_50 (by decide) hk'.an.1 rfl (Nat.le_of_ble_eq_true rfl) d_Clerk_store_24 ⟨A 2, _, _, [], obs (N 6) (X 0) ws o, rfl, hk'.an, ov1, fun M3 t3 o3 => ?_⟩ rfl
          obtain ⟨hk3, hf3⟩ := hk'.add t3 o3 (by rw [List.length_nil]; omega)
          refine sp_vret hz d_Clerk_store_27 (Nat.zero_le _) (Nat.zero_le _) (hp M3 W pg os fr Q nn _ N _ _ hsto hk3 (by rw [up_n _ _ (by decide)]) ?_ rfl rfl rfl rfl rfl habs hf3)
          rw [up_s, List.nil_append]
      refine sp_run hz _ _ e_Clerk_store_11 _ _ _ ?_
      cases r with
      | none =>
        simp only [k_Clerk_store_11, E_nil, E_iconst, E_bipush, E_sipush, E_ldc, E_ldc2, E_lconst, E_null, E_iload_n, E_lload_n, E_aload_n, E_istore_n, E_lstore_n, E_astore_n, E_astoreN_n, E_iload, E_lload, E_aload, E_istore, E_lstore, E_astore, E_astoreN, E_ldi, E_ldl, E_lda, E_ldN, E_iinc, E_iadd, E_isub, E_imul, E_iand, E_ior, E_ixor, E_ishl, E_ishr, E_idiv, E_irem, E_ineg, E_ladd, E_lsub, E_land, E_lor, E_lcmp, E_lshl, E_lshr, E_lushr, E_i2l, E_l2i, E_i2c, E_dupI, E_popI, E_dup_x1II, E_dup2II, E_dup_x1IR, E_dup2IR, E_dup_x1IN, E_dup2IN, E_dupR, E_popR, E_dup_x1RI, E_dup2RI, E_dup_x1RR, E_dup2RR, E_dup_x1RN, E_dup2RN, E_dupN, E_popN, E_dup_x1NI, E_dup2NI, E_dup_x1NR, E_dup2NR, E_dup_x1NN, E_dup2NN, E_goto, E_if_eq, E_if_ne, E_if_lt, E_if_ge, E_if_gt, E_if_le, E_ic_eq, E_ic_ne, E_ic_lt, E_ic_ge, E_ic_gt, E_ic_le, E_ifnull, E_ifnullN, E_ifnonnull, E_ifnonnullN, E_get, E_gf, E_xv, E_n0, E_ns, E_putI, E_putR, E_putN, E_pf, E_st0, E_sts, E_iaload, E_caload, E_laload, E_aaload, E_alen, E_iast, E_cast, E_last, E_xI, E_xJ, E_xQ, E_xN, E_lk, E_lkn, E_s1, E_s1h, E_s1I, E_s1R, E_s1N, E_s1L, E_s2, E_s2h, E_s2L, E_s2I, E_s2R, E_s2N, E_a1, E_a0, E_aI, E_aR, E_aN, E_aL, Option.isSome_some, eq_self, true_and, and_true, true_or, or_true, ne_eq, not_false_eq_true, not_true_eq_false, reduceIte, reduceCtorEq, Nat.reduceAdd, Nat.reduceBEq, Nat.reduceEqDiff, Option.toList_some, Option.toList_none, List.cons_append, List.nil_append]
        exact blk11
      | some c =>
        simp only [k_Clerk_store_11, E_nil, E_iconst, E_bipush, E_sipush, E_ldc, E_ldc2, E_lconst, E_null, E_iload_n, E_lload_n, E_aload_n, E_istore_n, E_lstore_n, E_astore_n, E_astoreN_n, E_iload, E_lload, E_aload, E_istore, E_lstore, E_astore, E_astoreN, E_ldi, E_ldl, E_lda, E_ldN, E_iinc, E_iadd, E_isub, E_imul, E_iand, E_ior, E_ixor, E_ishl, E_ishr, E_idiv, E_irem, E_ineg, E_ladd, E_lsub, E_land, E_lor, E_lcmp, E_lshl, E_lshr, E_lushr, E_i2l, E_l2i, E_i2c, E_dupI, E_popI, E_dup_x1II, E_dup2II, E_dup_x1IR, E_dup2IR, E_dup_x1IN, E_dup2IN, E_dupR, E_popR, E_dup_x1RI, E_dup2RI, E_dup_x1RR, E_dup2RR, E_dup_x1RN, E_dup2RN, E_dupN, E_popN, E_dup_x1NI, E_dup2NI, E_dup_x1NR, E_dup2NR, E_dup_x1NN, E_dup2NN, E_goto, E_if_eq, E_if_ne, E_if_lt, E_if_ge, E_if_gt, E_if_le, E_ic_eq, E_ic_ne, E_ic_lt, E_ic_ge, E_ic_gt, E_ic_le, E_ifnull, E_ifnullN, E_ifnonnull, E_ifnonnullN, E_get, E_gf, E_xv, E_n0, E_ns, E_putI, E_putR, E_putN, E_pf, E_st0, E_sts, E_iaload, E_caload, E_laload, E_aaload, E_alen, E_iast, E_cast, E_last, E_xI, E_xJ, E_xQ, E_xN, E_lk, E_lkn, E_s1, E_s1h, E_s1I, E_s1R, E_s1N, E_s1L, E_s2, E_s2h, E_s2L, E_s2I, E_s2R, E_s2N, E_a1, E_a0, E_aI, E_aR, E_aN, E_aL, Option.isSome_some, eq_self, true_and, and_true, true_or, or_true, ne_eq, not_false_eq_true, not_true_eq_false, reduceIte, reduceCtorEq, Nat.reduceAdd, Nat.reduceBEq, Nat.reduceEqDiff, Option.toList_some, Option.toList_none, List.cons_append, List.nil_append]
        exact blk11
    refine sp_run hz _ _ e_Clerk_store_0 _ _ _ ?_
    simp only [k_Clerk_store_0, E_nil, E_iconst, E_bipush, E_sipush, E_ldc, E_ldc2, E_lconst, E_null, E_iload_n, E_lload_n, E_aload_n, E_istore_n, E_lstore_n, E_astore_n, E_astoreN_n, E_iload, E_lload, E_aload, E_istore, E_lstore, E_astore, E_astoreN, E_ldi, E_ldl, E_lda, E_ldN, E_iinc, E_iadd, E_isub, E_imul, E_iand, E_ior, E_ixor, E_ishl, E_ishr, E_idiv, E_irem, E_ineg, E_ladd, E_lsub, E_land, E_lor, E_lcmp, E_lshl, E_lshr, E_lushr, E_i2l, E_l2i, E_i2c, E_dupI, E_popI, E_dup_x1II, E_dup2II, E_dup_x1IR, E_dup2IR, E_dup_x1IN, E_dup2IN, E_dupR, E_popR, E_dup_x1RI, E_dup2RI, E_dup_x1RR, E_dup2RR, E_dup_x1RN, E_dup2RN, E_dupN, E_popN, E_dup_x1NI, E_dup2NI, E_dup_x1NR, E_dup2NR, E_dup_x1NN, E_dup2NN, E_goto, E_if_eq, E_if_ne, E_if_lt, E_if_ge, E_if_gt, E_if_le, E_ic_eq, E_ic_ne, E_ic_lt, E_ic_ge, E_ic_gt, E_ic_le, E_ifnull, E_ifnullN, E_ifnonnull, E_ifnonnullN, E_get, E_gf, E_xv, E_n0, E_ns, E_putI, E_putR, E_putN, E_pf, E_st0, E_sts, E_iaload, E_caload, E_laload, E_aaload, E_alen, E_iast, E_cast, E_last, E_xI, E_xJ, E_xQ, E_xN, E_lk, E_lkn, E_s1, E_s1h, E_s1I, E_s1R, E_s1N, E_s1L, E_s2, E_s2h, E_s2L, E_s2I, E_s2R, E_s2N, E_a1, E_a0, E_aI, E_aR, E_aN, E_aL, Option.isSome_some, eq_self, true_and, and_true, true_or, or_true, ne_eq, not_false_eq_true, not_true_eq_false, reduceIte, reduceCtorEq, Nat.reduceAdd, Nat.reduceBEq, Nat.reduceEqDiff, Option.toList_some, Option.toList_none, List.cons_append, List.nil_append]
    refine sp_callV hz (c_Clerk_find l G) (ci := 6) (As := [.int (nI 1)]) (rest := []) rfl w_Clerk_117 (by decide) h14 rfl (Nat.le_of_ble_eq_true rfl) d_Clerk_store_2 ⟨A, sh, W, pg, os, fr, Q, nn, X, N, ws, 1, rfl, hk, hok, by decide, fun hno => ?_, fun i k c hi hc he => ?_⟩ rfl
    · have hn : fnd (wt (X 0) ws 1) L = none := fnd_none (habs.none hno)
      have := main none none rfl hn.symm
      refine sp_run hz _ _ e_Clerk_store_5 _ _ _ ?_
      simp only [k_Clerk_store_5, E_nil, E_iconst, E_bipush, E_sipush, E_ldc, E_ldc2, E_lconst, E_null, E_iload_n, E_lload_n, E_aload_n, E_istore_n, E_lstore_n, E_astore_n, E_astoreN_n, E_iload, E_lload, E_aload, E_istore, E_lstore, E_astore, E_astoreN, E_ldi, E_ldl, E_lda, E_ldN, E_iinc, E_iadd, E_isub, E_imul, E_iand, E_ior, E_ixor, E_ishl, E_ishr, E_idiv, E_irem, E_ineg, E_ladd, E_lsub, E_land, E_lor, E_lcmp, E_lshl, E_lshr, E_lushr, E_i2l, E_l2i, E_i2c, E_dupI, E_popI, E_dup_x1II, E_dup2II, E_dup_x1IR, E_dup2IR, E_dup_x1IN, E_dup2IN, E_dupR, E_popR, E_dup_x1RI, E_dup2RI, E_dup_x1RR, E_dup2RR, E_dup_x1RN, E_dup2RN, E_dupN, E_popN, E_dup_x1NI, E_dup2NI, E_dup_x1NR, E_dup2NR, E_dup_x1NN, E_dup2NN, E_goto, E_if_eq, E_if_ne, E_if_lt, E_if_ge, E_if_gt, E_if_le, E_ic_eq, E_ic_ne, E_ic_lt, E_ic_ge, E_ic_gt, E_ic_le, E_ifnull, E_ifnullN, E_ifnonnull, E_ifnonnullN, E_get, E_gf, E_xv, E_n0, E_ns, E_putI, E_putR, E_putN, E_pf, E_st0, E_sts, E_iaload, E_caload, E_laload, E_aaload, E_alen, E_iast, E_cast, E_last, E_xI, E_xJ, E_xQ, E_xN, E_lk, E_lkn, E_s1, E_s1h, E_s1I, E_s1R, E_s1N, E_s1L, E_s2, E_s2h, E_s2L, E_s2I, E_s2R, E_s2N, E_a1, E_a0, E_aI, E_aR, E_aN, E_aL, Option.isSome_some, eq_self, true_and, and_true, true_or, or_true, ne_eq, not_false_eq_true, not_true_eq_false, reduceIte, reduceCtorEq, Nat.reduceAdd, Nat.reduceBEq, Nat.reduceEqDiff, Option.toList_some, Option.toList_none, List.cons_append, List.nil_append]
      rw [rf_n] at this
      exact sp_Lm _ (by simp) this
    · obtain ⟨hmem, hcl⟩ := habs.mem hi hc
      have hx : fnd (wt (X 0) ws 1) L = some (cI (Q c)) := fnd_some habs.2.2 hmem he
      have := main (some c) (some (cI (Q c))) ⟨i, k, hi, hc, rfl⟩ hx.symm
      refine sp_run hz _ _ e_Clerk_store_5 _ _ _ ?_
      simp only [k_Clerk_store_5, E_nil, E_iconst, E_bipush, E_sipush, E_ldc, E_ldc2, E_lconst, E_null, E_iload_n, E_lload_n, E_aload_n, E_istore_n, E_lstore_n, E_astore_n, E_astoreN_n, E_iload, E_lload, E_aload, E_istore, E_lstore, E_astore, E_astoreN, E_ldi, E_ldl, E_lda, E_ldN, E_iinc, E_iadd, E_isub, E_imul, E_iand, E_ior, E_ixor, E_ishl, E_ishr, E_idiv, E_irem, E_ineg, E_ladd, E_lsub, E_land, E_lor, E_lcmp, E_lshl, E_lshr, E_lushr, E_i2l, E_l2i, E_i2c, E_dupI, E_popI, E_dup_x1II, E_dup2II, E_dup_x1IR, E_dup2IR, E_dup_x1IN, E_dup2IN, E_dupR, E_popR, E_dup_x1RI, E_dup2RI, E_dup_x1RR, E_dup2RR, E_dup_x1RN, E_dup2RN, E_dupN, E_popN, E_dup_x1NI, E_dup2NI, E_dup_x1NR, E_dup2NR, E_dup_x1NN, E_dup2NN, E_goto, E_if_eq, E_if_ne, E_if_lt, E_if_ge, E_if_gt, E_if_le, E_ic_eq, E_ic_ne, E_ic_lt, E_ic_ge, E_ic_gt, E_ic_le, E_ifnull, E_ifnullN, E_ifnonnull, E_ifnonnullN, E_get, E_gf, E_xv, E_n0, E_ns, E_putI, E_putR, E_putN, E_pf, E_st0, E_sts, E_iaload, E_caload, E_laload, E_aaload, E_alen, E_iast, E_cast, E_last, E_xI, E_xJ, E_xQ, E_xN, E_lk, E_lkn, E_s1, E_s1h, E_s1I, E_s1R, E_s1N, E_s1L, E_s2, E_s2h, E_s2L, E_s2I, E_s2R, E_s2N, E_a1, E_a0, E_aI, E_aR, E_aN, E_aL, Option.isSome_some, eq_self, true_and, and_true, true_or, or_true, ne_eq, not_false_eq_true, not_true_eq_false, reduceIte, reduceCtorEq, Nat.reduceAdd, Nat.reduceBEq, Nat.reduceEqDiff, Option.toList_some, Option.toList_none, List.cons_append, List.nil_append]
      rw [rf_s] at this
      exact sp_Lm _ (by simp) this
