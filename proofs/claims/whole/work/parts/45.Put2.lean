def putR (i : Nat) (os1 : Nat → List Nat) (pg : Nat → Nat) (nn : NN) (pg' : Nat → Nat) (os2 : Nat → List Nat) (nn2 : NN) : Prop :=
  ((os1 i).length < zp i * pg i ∧ pg' = pg ∧ os2 = os1 ∧ nn2 = nn) ∨ ((os1 i).length = zp i * pg i ∧ 0 < nn.1 ∧ pg' = up pg i (pg i + 1) ∧ os2 = os1 ∧ nn2 = (nn.1 - 1, nn.2)) ∨
  ((os1 i).length = zp i * pg i ∧ nn.1 = 0 ∧ pg' = pg ∧ os2 = up os1 i ((os1 i).eraseIdx ((os1 i).length - 1)) ∧ nn2 = (nn.1, nn.2.1, nn.2.2.1, nn.2.2.2.1 + 1, nn.2.2.2.2))
def mfw (M M' : sp_M) (W W' : Nat → Nat) : Prop := ∀ q e, M q = some e → oth e → W q < 10 → M' q = some e ∧ W' q = W q
theorem mfr.w {M M' : sp_M} {W : Nat → Nat} (h : mfr M M' W) : mfw M M' W W := fun q e a b c => ⟨h q e a b c, rfl⟩
theorem mfw.trans {M M1 M2 : sp_M} {W W1 W2 : Nat → Nat} (h1 : mfw M M1 W W1) (h2 : mfw M1 M2 W1 W2) : mfw M M2 W W2 := fun q e a b c => by
  obtain ⟨x1, x2⟩ := h1 q e a b c
  obtain ⟨y1, y2⟩ := h2 q e x1 b (by rw [x2]; exact c)
  exact ⟨y1, y2.trans x2⟩
theorem mfw.txk {G : sp_G} {M M' : sp_M} {W W' : Nat → Nat} {t ch cap : Nat} {s : List Nat} (h : mfw M M' W W') (ht : tx G M t ch cap s) (h1 : W t < 10) (h2 : W ch < 10) : tx G M' t ch cap s := by
  have t0 := ht
  obtain ⟨u1, -, -, -, f, u5, -⟩ := ht
  exact t0.keep ((h t _ u1 ⟨by decide, by decide, by decide⟩ h1).1.trans u1.symm) ((h ch _ u5 trivial h2).1.trans u5.symm)
theorem mfw.Wt {G : sp_G} {M M' : sp_M} {W W' : Nat → Nat} {t ch cap : Nat} {s : List Nat} (h : mfw M M' W W') (ht : tx G M t ch cap s) (h1 : W t < 10) (h2 : W ch < 10) : W' t = W t ∧ W' ch = W ch := by
  obtain ⟨u1, -, -, -, f, u5, -⟩ := ht
  exact ⟨(h t _ u1 ⟨by decide, by decide, by decide⟩ h1).2, (h ch _ u5 trivial h2).2⟩
def dW (W : Nat → Nat) (d kt kch dt dch : Nat) : Prop := W d < 10 ∧ W kt < 10 ∧ W kch < 10 ∧ W dt < 10 ∧ W dch < 10
theorem mfw.dr {G : sp_G} {M M' : sp_M} {W W' : Nat → Nat} {d kt kch dt dch fl gn : Nat} {key data : List Nat} (h : mfw M M' W W') (hd : dr G M d kt kch dt dch key data fl gn) (hw : dW W d kt kch dt dch) : dr G M' d kt kch dt dch key data fl gn ∧ dW W' d kt kch dt dch := by
  obtain ⟨h1, h2, h3⟩ := hd
  obtain ⟨w1, w2, w3, w4, w5⟩ := hw
  obtain ⟨x1, x2⟩ := h d _ h1 ⟨by decide, by decide, by decide⟩ w1
  obtain ⟨y1, y2⟩ := h.Wt h2 w2 w3
  obtain ⟨z1, z2⟩ := h.Wt h3 w4 w5
  refine ⟨⟨x1, h.txk h2 w2 w3, h.txk h3 w4 w5⟩, ?_⟩
  unfold dW
  rw [x2, y1, y2, z1, z2]
  exact ⟨w1, w2, w3, w4, w5⟩
def T_Memory_put (G : sp_G) : sp_T := fun av M Post => ∃ m sa sh W pg os fr Q nn r d kt kch dt dch key data fl gn i0 os1, av = [.ref m, .ref d, va_rf r] ∧ mem G M m sa sh W pg os fr Q nn ∧ dr G M d kt kch dt dch key data fl gn ∧ dW W d kt kch dt dch ∧ gn < 2 ^ 31 ∧ zf (key.length + data.length) = some i0 ∧ (pg i0 ≠ 0 ∨ nn.1 ≠ 0) ∧
  ((r = none ∧ os1 = os) ∨ ∃ c i k, r = some c ∧ i < 4 ∧ (os i)[k]? = some c ∧ os1 = up os i ((os i).eraseIdx k)) ∧
  ∀ M' W' pg' os2 os' fr' Q' nn2 nn' c, putR i0 os1 pg nn pg' os2 nn2 → (∀ j, j < 4 → ∀ x ∈ os2 j, Q' x = Q x) → (∃ a b, Q' c = (fl, nn2.2.2.1 + 1, gn, a, b, key, data)) →
    ((nn.2.1 < gn ∧ os' = up os2 i0 (c :: os2 i0) ∧ nn' = (nn2.1, nn2.2.1, nn2.2.2.1 + 1, nn2.2.2.2.1, nn2.2.2.2.2)) ∨ (gn ≤ nn.2.1 ∧ os' = os2 ∧ nn' = (nn2.1, nn2.2.1, nn2.2.2.1 + 1, nn2.2.2.2.1, nn2.2.2.2.2 + 1))) →
    mem G M' m sa sh W' pg' os' fr' Q' nn' → mfw M M' W W' → Post none M'
theorem zslots : ∀ i, i < 4 → 3 * zp i ≤ 24 ∧ (10 + zc i) * zp i ≤ 144 := z4 (by decide) (by decide) (by decide) (by decide)
set_option maxHeartbeats 4000000 in
set_option maxRecDepth 100000 in
theorem c_Memory_put (l : Launch) (G : sp_G) : sp_Met l G y_Memory_put b_Memory_put 5 none { frames := 4, cells := 24, slots := 144, locals := 78 } (T_Memory_put G) := by
  refine sp_entry (by decide) (fun av M Post h => ?_) (fun z M av Post hz _ hT => ?_)
  · obtain ⟨m, sa, sh, W, pg, os, fr, Q, nn, r, d, kt, kch, dt, dch, key, data, fl, gn, i0, os1, rfl, -⟩ := h
    cases r <;> exact Nat.le_of_ble_eq_true rfl
  · obtain ⟨m, sa, sh, W, pg, os, fr, Q, nn, r, d, kt, kch, dt, dch, key, data, fl, gn, i0, os1, rfl, hm, hd, hdw, hgn, hzf, href, hos1, hp⟩ := hT
    have hi0 := zf_lt hzf
    have hfit : key.length + data.length ≤ zc i0 := (zf_c _ i0 hi0).mpr ⟨i0, hzf, Nat.le_refl _⟩
    obtain ⟨v2, hv2⟩ : ∃ v, v = va_rf r := ⟨_, rfl⟩
    rw [← hv2]
    -- from the taking on
    have tail : ∀ M1 W1 pg1 os2 fr1 Q1 nn2 (L : sp_L), (∀ q ∈ [(0, .ref m), (1, .ref d), (3, .ref (sh i0))], q ∈ L) → putR i0 os1 pg nn pg1 os2 nn2 → (∀ j, j < 4 → ∀ x ∈ os2 j, Q1 x = Q x) → nn2.2.1 = nn.2.1 → mem G M1 m sa sh W1 pg1 os2 fr1 Q1 nn2 → mfw M M1 W W1 → fr1 i0 ≠ [] → sp_W z G M (sp_Q z G M Post 24 144) 5 24 144 79 L [] M1 := by
      intro M1 W1 pg1 os2 fr1 Q1 nn2 L hL hR hQ1 hti hm1 hf1 hne
      refine sp_Lm _ hL ?_
      have hlen := hm1.len i0 hi0
      have hS := hm1.2.2.2.1 i0 hi0
      refine sp_run hz _ _ e_Memory_put_79 _ _ _ ?_
      simp only [k_Memory_put_79, E_nil, E_iconst, E_bipush, E_sipush, E_ldc, E_ldc2, E_lconst, E_null, E_iload_n, E_lload_n, E_aload_n, E_istore_n, E_lstore_n, E_astore_n, E_astoreN_n, E_iload, E_lload, E_aload, E_istore, E_lstore, E_astore, E_astoreN, E_ldi, E_ldl, E_lda, E_ldN, E_iinc, E_iadd, E_isub, E_imul, E_iand, E_ior, E_ixor, E_ishl, E_ishr, E_idiv, E_irem, E_ineg, E_ladd, E_lsub, E_land, E_lor, E_lcmp, E_lshl, E_lshr, E_lushr, E_i2l, E_l2i, E_i2c, E_dupI, E_popI, E_dup_x1II, E_dup2II, E_dup_x1IR, E_dup2IR, E_dup_x1IN, E_dup2IN, E_dupR, E_popR, E_dup_x1RI, E_dup2RI, E_dup_x1RR, E_dup2RR, E_dup_x1RN, E_dup2RN, E_dupN, E_popN, E_dup_x1NI, E_dup2NI, E_dup_x1NR, E_dup2NR, E_dup_x1NN, E_dup2NN, E_goto, E_if_eq, E_if_ne, E_if_lt, E_if_ge, E_if_gt, E_if_le, E_ic_eq, E_ic_ne, E_ic_lt, E_ic_ge, E_ic_gt, E_ic_le, E_ifnull, E_ifnullN, E_ifnonnull, E_ifnonnullN, E_get, E_gf, E_xv, E_n0, E_ns, E_putI, E_putR, E_putN, E_pf, E_st0, E_sts, E_iaload, E_caload, E_laload, E_aaload, E_alen, E_iast, E_cast, E_last, E_xI, E_xJ, E_xQ, E_xN, E_lk, E_lkn, E_s1, E_s1h, E_s1I, E_s1R, E_s1N, E_s1L, E_s2, E_s2h, E_s2L, E_s2I, E_s2R, E_s2N, E_a1, E_a0, E_aI, E_aR, E_aN, E_aL, Option.isSome_some, eq_self, true_and, and_true, true_or, or_true, ne_eq, not_false_eq_true, not_true_eq_false, reduceIte, reduceCtorEq, Nat.reduceAdd, Nat.reduceBEq, Nat.reduceEqDiff, Option.toList_some, Option.toList_none, List.cons_append, List.nil_append]
      refine sp_callV hz (c_Shelf_take l G) (ci := 2) (As := []) (rest := []) rfl w_Memory_89 (by decide) hS.1.1 rfl (Nat.le_of_ble_eq_true rfl) d_Memory_put_80 ⟨sh i0, _, _, _, _, os2 i0, fr1 i0, rfl, hS.1, by omega, fun h => absurd h hne, fun c rr hcr M2 s2 f2 => ?_⟩ rfl
      have hcf : c ∈ fr1 i0 := by rw [hcr]; exact List.mem_cons_self
      obtain ⟨nw, ol, hcc⟩ := hS.cell (Or.inr hcf)
      have hs2 : sfr M1 M2 (sh i0) := fun q h1 h2 => f2 q h1 (fun e => h2 (cD (Q1 c)) nw ol (by rw [e]; exact hcc)) (fun k hk => h2 _ _ _ (hS.1.2.1 k q hk))
      have hm2 := hm1.set hi0 (M' := M2) (o' := c :: os2 i0) (f' := rr) ⟨s2, by
        have := hS.2.1
        rw [hcr, List.length_cons] at this
        rw [List.length_cons]
        omega, fun x hx => by
        have hx' : x ∈ os2 i0 ∨ x ∈ fr1 i0 := by
          rw [hcr]
          rcases hx with hx | hx
          · rcases List.mem_cons.mp hx with e | hx
            · rw [e]
              exact Or.inr List.mem_cons_self
            · exact Or.inl hx
          · exact Or.inr (List.mem_cons_of_mem _ hx)
        obtain ⟨t1, t2, t3, t4⟩ := hS.2.2 x hx'
        exact ⟨hs2.tx hS.1.1 t1, t2, t3, t4⟩⟩ hs2
      have hf2 := hs2.mfr (W := W1) hS.1.1
      have hm2m := hm2.1
      -- the token
      have hm3 := hm2.num (M' := sp_u M2 m (mg sa (nn2.1, nn2.2.1, nn2.2.2.1 + 1, nn2.2.2.2.1, nn2.2.2.2.2))) (nn' := (nn2.1, nn2.2.1, nn2.2.2.1 + 1, nn2.2.2.2.1, nn2.2.2.2.2)) (sp_u_s _ _ _) (fun q hq => sp_u_n _ _ hq) hm2.2.2.2.2.1 hm2.2.2.2.2.2
      have hf3 := mfr_num (W := W1) hm2.1 (M' := sp_u M2 m (mg sa (nn2.1, nn2.2.1, nn2.2.2.1 + 1, nn2.2.2.2.1, nn2.2.2.2.2))) (fun q hq => sp_u_n _ _ hq)
      have hf13 := (hf1.trans hf2.w).trans hf3.w
      obtain ⟨hd3, hdw3⟩ := hf13.dr hd hdw
      have hc0 : (up os2 i0 (c :: os2 i0) i0)[0]? = some c := by rw [up_s]; rfl
      have hS3 := hm3.2.2.2.1 i0 hi0
      have hc3 := hS3.1.2.1 0 c hc0
      obtain ⟨t1, t2, t3, t4⟩ := hS3.2.2 c (Or.inl (List.mem_of_getElem? hc0))
      have aprt : ∀ q, W1 q < 10 → q ≠ cRm (Q1 c) ∧ q ≠ cRc (Q1 c) := fun q hq => ⟨fun e => by rw [e, t2] at hq; omega, fun e => by rw [e, t3] at hq; omega⟩
      obtain ⟨ww1, ww2, ww3, ww4, ww5⟩ := hdw3
      refine sp_run hz _ _ e_Memory_put_83 _ _ _ ?_
      simp only [k_Memory_put_83, E_nil, E_iconst, E_bipush, E_sipush, E_ldc, E_ldc2, E_lconst, E_null, E_iload_n, E_lload_n, E_aload_n, E_istore_n, E_lstore_n, E_astore_n, E_astoreN_n, E_iload, E_lload, E_aload, E_istore, E_lstore, E_astore, E_astoreN, E_ldi, E_ldl, E_lda, E_ldN, E_iinc, E_iadd, E_isub, E_imul, E_iand, E_ior, E_ixor, E_ishl, E_ishr, E_idiv, E_irem, E_ineg, E_ladd, E_lsub, E_land, E_lor, E_lcmp, E_lshl, E_lshr, E_lushr, E_i2l, E_l2i, E_i2c, E_dupI, E_popI, E_dup_x1II, E_dup2II, E_dup_x1IR, E_dup2IR, E_dup_x1IN, E_dup2IN, E_dupR, E_popR, E_dup_x1RI, E_dup2RI, E_dup_x1RR, E_dup2RR, E_dup_x1RN, E_dup2RN, E_dupN, E_popN, E_dup_x1NI, E_dup2NI, E_dup_x1NR, E_dup2NR, E_dup_x1NN, E_dup2NN, E_goto, E_if_eq, E_if_ne, E_if_lt, E_if_ge, E_if_gt, E_if_le, E_ic_eq, E_ic_ne, E_ic_lt, E_ic_ge, E_ic_gt, E_ic_le, E_ifnull, E_ifnullN, E_ifnonnull, E_ifnonnullN, E_get, E_gf, E_xv, E_n0, E_ns, E_putI, E_putR, E_putN, E_pf, E_st0, E_sts, E_iaload, E_caload, E_laload, E_aaload, E_alen, E_iast, E_cast, E_last, E_xI, E_xJ, E_xQ, E_xN, E_lk, E_lkn, E_s1, E_s1h, E_s1I, E_s1R, E_s1N, E_s1L, E_s2, E_s2h, E_s2L, E_s2I, E_s2R, E_s2N, E_a1, E_a0, E_aI, E_aR, E_aN, E_aL, Option.isSome_some, eq_self, true_and, and_true, true_or, or_true, ne_eq, not_false_eq_true, not_true_eq_false, reduceIte, reduceCtorEq, Nat.reduceAdd, Nat.reduceBEq, Nat.reduceEqDiff, Option.toList_some, Option.toList_none, List.cons_append, List.nil_append, hm2m, mg, sp_u_s, nI_1]
      refine sp_callV hz (c_Chunk_fill l G) (ci := 1) (As := [.ref d, .int (nI (nn2.2.2.1 + 1))]) (rest := []) rfl w_Memory_92 (by decide) hc3 rfl (Nat.le_of_ble_eq_true rfl) d_Memory_put_107 ⟨c, d, nn2.2.2.1 + 1, sh i0, _, _, _, _, _, cRm (Q1 c), _, cRc (Q1 c), zc i0, _, kt, kch, dt, dch, key, data, fl, gn, rfl, hc3, t1, hd3, (aprt _ ww2).1, (aprt _ ww3).2, (aprt _ ww4).1, (aprt _ ww5).2, hfit, fun M4 e4 x4 o4 => ?_⟩ rfl
      obtain ⟨hm4, hf4⟩ := hm3.fill hi0 hc0 hgn e4 x4 o4
      have hf14 := hf13.trans hf4.w
      have cno : ∀ j, j < 4 → ∀ x ∈ os2 j, x ≠ c := fun j hj x hx e => by
        obtain ⟨k, hk⟩ := mem_get hx
        have hxx := (hm1.2.2.2.1 j hj).1.2.1 k x hk
        rw [e, hcc] at hxx
        have hij : i0 = j := hm1.2.2.1 i0 j hi0 hj (ce_sh (Option.some.inj hxx))
        subst hij
        rw [e] at hk
        obtain ⟨k2, hk2⟩ := mem_get hcf
        exact hS.1.2.2.2.2.2 k c hk k2 hk2
      have hQ4 : ∀ j, j < 4 → ∀ x ∈ os2 j, up Q1 c (fl, nn2.2.2.1 + 1, gn, cRm (Q1 c), cRc (Q1 c), key, data) x = Q x := fun j hj x hx => by
        rw [up_n _ _ (cno j hj x hx)]
        exact hQ1 j hj x hx
      refine sp_run hz _ _ e_Memory_put_110 _ _ _ ?_
      simp only [k_Memory_put_110, E_nil, E_iconst, E_bipush, E_sipush, E_ldc, E_ldc2, E_lconst, E_null, E_iload_n, E_lload_n, E_aload_n, E_istore_n, E_lstore_n, E_astore_n, E_astoreN_n, E_iload, E_lload, E_aload, E_istore, E_lstore, E_astore, E_astoreN, E_ldi, E_ldl, E_lda, E_ldN, E_iinc, E_iadd, E_isub, E_imul, E_iand, E_ior, E_ixor, E_ishl, E_ishr, E_idiv, E_irem, E_ineg, E_ladd, E_lsub, E_land, E_lor, E_lcmp, E_lshl, E_lshr, E_lushr, E_i2l, E_l2i, E_i2c, E_dupI, E_popI, E_dup_x1II, E_dup2II, E_dup_x1IR, E_dup2IR, E_dup_x1IN, E_dup2IN, E_dupR, E_popR, E_dup_x1RI, E_dup2RI, E_dup_x1RR, E_dup2RR, E_dup_x1RN, E_dup2RN, E_dupN, E_popN, E_dup_x1NI, E_dup2NI, E_dup_x1NR, E_dup2NR, E_dup_x1NN, E_dup2NN, E_goto, E_if_eq, E_if_ne, E_if_lt, E_if_ge, E_if_gt, E_if_le, E_ic_eq, E_ic_ne, E_ic_lt, E_ic_ge, E_ic_gt, E_ic_le, E_ifnull, E_ifnullN, E_ifnonnull, E_ifnonnullN, E_get, E_gf, E_xv, E_n0, E_ns, E_putI, E_putR, E_putN, E_pf, E_st0, E_sts, E_iaload, E_caload, E_laload, E_aaload, E_alen, E_iast, E_cast, E_last, E_xI, E_xJ, E_xQ, E_xN, E_lk, E_lkn, E_s1, E_s1h, E_s1I, E_s1R, E_s1N, E_s1L, E_s2, E_s2h, E_s2L, E_s2I, E_s2R, E_s2N, E_a1, E_a0, E_aI, E_aR, E_aN, E_aL, Option.isSome_some, eq_self, true_and, and_true, true_or, or_true, ne_eq, not_false_eq_true, not_true_eq_false, reduceIte, reduceCtorEq, Nat.reduceAdd, Nat.reduceBEq, Nat.reduceEqDiff, Option.toList_some, Option.toList_none, List.cons_append, List.nil_append]
      refine sp_callV hz (c_Memory_takeAwayIfGone l G) (ci := 3) (As := [.ref c]) (rest := []) rfl w_Memory_96 (by decide) hm4.1 rfl (Nat.le_of_ble_eq_true rfl) d_Memory_put_113 ⟨m, sa, sh, W1, pg1, _, _, _, _, i0, 0, c, rfl, hm4, hi0, hc0, fun hlt => ?_, fun hle M5 hm5 hf5 => ?_⟩ rfl
      · rw [up_s] at hlt
        refine sp_vret hz d_Memory_put_116 (Nat.le_refl _) (Nat.le_refl _) (hp M4 W1 pg1 os2 _ _ _ nn2 _ c hR hQ4 ⟨_, _, up_s _ _ _⟩ (Or.inl ⟨?_, rfl, rfl⟩) hm4 hf14)
        rw [← hti]
        exact hlt
      · rw [up_s] at hle
        rw [up_s, up_up] at hm5
        have e : up os2 i0 ((c :: os2 i0).eraseIdx 0) = os2 := up_same os2 i0
        rw [e] at hm5
        refine sp_vret hz d_Memory_put_116 (Nat.le_refl _) (Nat.le_refl _) (hp M5 W1 pg1 os2 os2 _ _ nn2 _ c hR hQ4 ⟨_, _, up_s _ _ _⟩ (Or.inr ⟨?_, rfl, rfl⟩) hm5 (hf14.trans hf5.w))
        rw [← hti]
        exact hle
    -- from the second look at the free chunks on
    have mid : ∀ M1 fr1, mem G M1 m sa sh W pg os1 fr1 Q nn → mfr M M1 W → sp_W z G M (sp_Q z G M Post 24 144) 5 0 0 19 [(3, .ref (sh i0)), (0, .ref m), (1, .ref d), (2, v2)] [] M1 := by
      intro M1 fr1 hm1 hf1
      have hlen := hm1.len i0 hi0
      have hS := hm1.2.2.2.1 i0 hi0
      have hsum := hm1.2.2.2.2.1
      have hle : (os1 i0).length ≤ pg i0 * zp i0 := by
        have := hS.2.1
        rw [Nat.mul_comm]
        omega
      have hmul : pg i0 * zp i0 = zp i0 * pg i0 := Nat.mul_comm _ _
      have hbig : pg i0 * zp i0 ≤ 48 := Nat.mul_le_mul (hlen.2) (zp_lt i0 hi0)
      -- the look itself
      have look : ∀ (L : sp_L) (cs sl : Nat), (∀ q ∈ [(0, .ref m), (1, .ref d), (3, .ref (sh i0))], q ∈ L) → cs ≤ 24 → sl ≤ 144 → ¬ ((os1 i0).length = zp i0 * pg i0 ∧ 0 < nn.1) → sp_W z G M (sp_Q z G M Post 24 144) 5 cs sl 47 L [] M1 := by
        intro L cs sl hL hcs hsl hno
        refine sp_widen hcs hsl (sp_Lm _ hL ?_)
        refine sp_run hz _ _ e_Memory_put_47 _ _ _ ?_
        simp only [k_Memory_put_47, E_nil, E_iconst, E_bipush, E_sipush, E_ldc, E_ldc2, E_lconst, E_null, E_iload_n, E_lload_n, E_aload_n, E_istore_n, E_lstore_n, E_astore_n, E_astoreN_n, E_iload, E_lload, E_aload, E_istore, E_lstore, E_astore, E_astoreN, E_ldi, E_ldl, E_lda, E_ldN, E_iinc, E_iadd, E_isub, E_imul, E_iand, E_ior, E_ixor, E_ishl, E_ishr, E_idiv, E_irem, E_ineg, E_ladd, E_lsub, E_land, E_lor, E_lcmp, E_lshl, E_lshr, E_lushr, E_i2l, E_l2i, E_i2c, E_dupI, E_popI, E_dup_x1II, E_dup2II, E_dup_x1IR, E_dup2IR, E_dup_x1IN, E_dup2IN, E_dupR, E_popR, E_dup_x1RI, E_dup2RI, E_dup_x1RR, E_dup2RR, E_dup_x1RN, E_dup2RN, E_dupN, E_popN, E_dup_x1NI, E_dup2NI, E_dup_x1NR, E_dup2NR, E_dup_x1NN, E_dup2NN, E_goto, E_if_eq, E_if_ne, E_if_lt, E_if_ge, E_if_gt, E_if_le, E_ic_eq, E_ic_ne, E_ic_lt, E_ic_ge, E_ic_gt, E_ic_le, E_ifnull, E_ifnullN, E_ifnonnull, E_ifnonnullN, E_get, E_gf, E_xv, E_n0, E_ns, E_putI, E_putR, E_putN, E_pf, E_st0, E_sts, E_iaload, E_caload, E_laload, E_aaload, E_alen, E_iast, E_cast, E_last, E_xI, E_xJ, E_xQ, E_xN, E_lk, E_lkn, E_s1, E_s1h, E_s1I, E_s1R, E_s1N, E_s1L, E_s2, E_s2h, E_s2L, E_s2I, E_s2R, E_s2N, E_a1, E_a0, E_aI, E_aR, E_aN, E_aL, Option.isSome_some, eq_self, true_and, and_true, true_or, or_true, ne_eq, not_false_eq_true, not_true_eq_false, reduceIte, reduceCtorEq, Nat.reduceAdd, Nat.reduceBEq, Nat.reduceEqDiff, Option.toList_some, Option.toList_none, List.cons_append, List.nil_append]
        refine sp_callV hz (c_Shelf_freeChunks l G) (ci := 2) (As := []) (rest := []) rfl w_Memory_77 (by decide) hS.1.1 rfl (Nat.le_of_ble_eq_true rfl) d_Memory_put_48 ⟨sh i0, _, _, _, _, _, _, _, rfl, hS.1.1, hle, ?_⟩ rfl
        refine sp_run hz _ _ e_Memory_put_51 _ _ _ ?_
        simp only [k_Memory_put_51, E_nil, E_iconst, E_bipush, E_sipush, E_ldc, E_ldc2, E_lconst, E_null, E_iload_n, E_lload_n, E_aload_n, E_istore_n, E_lstore_n, E_astore_n, E_astoreN_n, E_iload, E_lload, E_aload, E_istore, E_lstore, E_astore, E_astoreN, E_ldi, E_ldl, E_lda, E_ldN, E_iinc, E_iadd, E_isub, E_imul, E_iand, E_ior, E_ixor, E_ishl, E_ishr, E_idiv, E_irem, E_ineg, E_ladd, E_lsub, E_land, E_lor, E_lcmp, E_lshl, E_lshr, E_lushr, E_i2l, E_l2i, E_i2c, E_dupI, E_popI, E_dup_x1II, E_dup2II, E_dup_x1IR, E_dup2IR, E_dup_x1IN, E_dup2IN, E_dupR, E_popR, E_dup_x1RI, E_dup2RI, E_dup_x1RR, E_dup2RR, E_dup_x1RN, E_dup2RN, E_dupN, E_popN, E_dup_x1NI, E_dup2NI, E_dup_x1NR, E_dup2NR, E_dup_x1NN, E_dup2NN, E_goto, E_if_eq, E_if_ne, E_if_lt, E_if_ge, E_if_gt, E_if_le, E_ic_eq, E_ic_ne, E_ic_lt, E_ic_ge, E_ic_gt, E_ic_le, E_ifnull, E_ifnullN, E_ifnonnull, E_ifnonnullN, E_get, E_gf, E_xv, E_n0, E_ns, E_putI, E_putR, E_putN, E_pf, E_st0, E_sts, E_iaload, E_caload, E_laload, E_aaload, E_alen, E_iast, E_cast, E_last, E_xI, E_xJ, E_xQ, E_xN, E_lk, E_lkn, E_s1, E_s1h, E_s1I, E_s1R, E_s1N, E_s1L, E_s2, E_s2h, E_s2L, E_s2I, E_s2R, E_s2N, E_a1, E_a0, E_aI, E_aR, E_aN, E_aL, Option.isSome_some, eq_self, true_and, and_true, true_or, or_true, ne_eq, not_false_eq_true, not_true_eq_false, reduceIte, reduceCtorEq, Nat.reduceAdd, Nat.reduceBEq, Nat.reduceEqDiff, Option.toList_some, Option.toList_none, List.cons_append, List.nil_append]
        by_cases hfull : (os1 i0).length = zp i0 * pg i0
        · have hfp : nn.1 = 0 := by
            by_cases e : nn.1 = 0
            · exact e
            · exact absurd ⟨hfull, by omega⟩ hno
          have hpg : pg i0 ≠ 0 := href.resolve_right (fun h => h hfp)
          have hpos : 0 < (os1 i0).length := by
            rw [hfull]
            exact Nat.mul_pos (zp_pos i0 hi0) (Nat.pos_of_ne_zero hpg)
          obtain ⟨kk, hkk⟩ : ∃ kk, (os1 i0).length = kk + 1 := ⟨_, (Nat.succ_pred_eq_of_pos hpos).symm⟩
          obtain ⟨c, hc⟩ : ∃ c, (os1 i0)[kk]? = some c := ⟨_, List.getElem?_eq_getElem (by omega)⟩
          have hS1 := hS.1.1
          rw [er_last hkk, hc] at hS1
          rw [show pg i0 * zp i0 - (os1 i0).length = 0 by omega]
          refine ⟨fun h => absurd rfl h, fun _ => ?_⟩
          refine sp_callV hz (c_Shelf_back l G) (ci := 2) (As := []) (rest := []) rfl w_Memory_83 (by decide) hS1 rfl (Nat.le_of_ble_eq_true rfl) d_Memory_put_55 ⟨sh i0, _, _, _, _, _, _, _, rfl, hS1, ?_⟩ rfl
          refine sp_run hz _ _ e_Memory_put_58 _ _ _ ?_
          simp only [k_Memory_put_58, E_nil, E_iconst, E_bipush, E_sipush, E_ldc, E_ldc2, E_lconst, E_null, E_iload_n, E_lload_n, E_aload_n, E_istore_n, E_lstore_n, E_astore_n, E_astoreN_n, E_iload, E_lload, E_aload, E_istore, E_lstore, E_astore, E_astoreN, E_ldi, E_ldl, E_lda, E_ldN, E_iinc, E_iadd, E_isub, E_imul, E_iand, E_ior, E_ixor, E_ishl, E_ishr, E_idiv, E_irem, E_ineg, E_ladd, E_lsub, E_land, E_lor, E_lcmp, E_lshl, E_lshr, E_lushr, E_i2l, E_l2i, E_i2c, E_dupI, E_popI, E_dup_x1II, E_dup2II, E_dup_x1IR, E_dup2IR, E_dup_x1IN, E_dup2IN, E_dupR, E_popR, E_dup_x1RI, E_dup2RI, E_dup_x1RR, E_dup2RR, E_dup_x1RN, E_dup2RN, E_dupN, E_popN, E_dup_x1NI, E_dup2NI, E_dup_x1NR, E_dup2NR, E_dup_x1NN, E_dup2NN, E_goto, E_if_eq, E_if_ne, E_if_lt, E_if_ge, E_if_gt, E_if_le, E_ic_eq, E_ic_ne, E_ic_lt, E_ic_ge, E_ic_gt, E_ic_le, E_ifnull, E_ifnullN, E_ifnonnull, E_ifnonnullN, E_get, E_gf, E_xv, E_n0, E_ns, E_putI, E_putR, E_putN, E_pf, E_st0, E_sts, E_iaload, E_caload, E_laload, E_aaload, E_alen, E_iast, E_cast, E_last, E_xI, E_xJ, E_xQ, E_xN, E_lk, E_lkn, E_s1, E_s1h, E_s1I, E_s1R, E_s1N, E_s1L, E_s2, E_s2h, E_s2L, E_s2I, E_s2R, E_s2N, E_a1, E_a0, E_aI, E_aR, E_aN, E_aL, Option.isSome_some, eq_self, true_and, and_true, true_or, or_true, ne_eq, not_false_eq_true, not_true_eq_false, reduceIte, reduceCtorEq, Nat.reduceAdd, Nat.reduceBEq, Nat.reduceEqDiff, Option.toList_some, Option.toList_none, List.cons_append, List.nil_append, rf_s]
          refine sp_callV hz (c_Shelf_back l G) (ci := 2) (As := []) (rest := [.ref (sh i0)]) rfl w_Memory_83 (by decide) hS1 rfl (Nat.le_of_ble_eq_true rfl) d_Memory_put_63 ⟨sh i0, _, _, _, _, _, _, _, rfl, hS1, ?_⟩ rfl
          refine sp_callV hz (c_Shelf_giveBack l G) (ci := 2) (As := [.ref c]) (rest := []) rfl w_Memory_86 (by decide) hS.1.1 rfl (Nat.le_of_ble_eq_true rfl) d_Memory_put_66 ⟨sh i0, c, _, _, _, _, os1 i0, fr1 i0, kk, rfl, hS.1, hc, by omega, fun M2 g1 g2 => ?_⟩ rfl
          obtain ⟨hm2, hf2⟩ := hm1.give hi0 hc g1 g2
          have hm2m := hm2.1
          refine sp_run hz _ _ e_Memory_put_69 _ _ _ ?_
          simp only [k_Memory_put_69, E_nil, E_iconst, E_bipush, E_sipush, E_ldc, E_ldc2, E_lconst, E_null, E_iload_n, E_lload_n, E_aload_n, E_istore_n, E_lstore_n, E_astore_n, E_astoreN_n, E_iload, E_lload, E_aload, E_istore, E_lstore, E_astore, E_astoreN, E_ldi, E_ldl, E_lda, E_ldN, E_iinc, E_iadd, E_isub, E_imul, E_iand, E_ior, E_ixor, E_ishl, E_ishr, E_idiv, E_irem, E_ineg, E_ladd, E_lsub, E_land, E_lor, E_lcmp, E_lshl, E_lshr, E_lushr, E_i2l, E_l2i, E_i2c, E_dupI, E_popI, E_dup_x1II, E_dup2II, E_dup_x1IR, E_dup2IR, E_dup_x1IN, E_dup2IN, E_dupR, E_popR, E_dup_x1RI, E_dup2RI, E_dup_x1RR, E_dup2RR, E_dup_x1RN, E_dup2RN, E_dupN, E_popN, E_dup_x1NI, E_dup2NI, E_dup_x1NR, E_dup2NR, E_dup_x1NN, E_dup2NN, E_goto, E_if_eq, E_if_ne, E_if_lt, E_if_ge, E_if_gt, E_if_le, E_ic_eq, E_ic_ne, E_ic_lt, E_ic_ge, E_ic_gt, E_ic_le, E_ifnull, E_ifnullN, E_ifnonnull, E_ifnonnullN, E_get, E_gf, E_xv, E_n0, E_ns, E_putI, E_putR, E_putN, E_pf, E_st0, E_sts, E_iaload, E_caload, E_laload, E_aaload, E_alen, E_iast, E_cast, E_last, E_xI, E_xJ, E_xQ, E_xN, E_lk, E_lkn, E_s1, E_s1h, E_s1I, E_s1R, E_s1N, E_s1L, E_s2, E_s2h, E_s2L, E_s2I, E_s2R, E_s2N, E_a1, E_a0, E_aI, E_aR, E_aN, E_aL, Option.isSome_some, eq_self, true_and, and_true, true_or, or_true, ne_eq, not_false_eq_true, not_true_eq_false, reduceIte, reduceCtorEq, Nat.reduceAdd, Nat.reduceBEq, Nat.reduceEqDiff, Option.toList_some, Option.toList_none, List.cons_append, List.nil_append, hm2m, mg, nI_1]
          have hm3 := hm2.num (M' := sp_u M2 m (mg sa (nn.1, nn.2.1, nn.2.2.1, nn.2.2.2.1 + 1, nn.2.2.2.2))) (nn' := (nn.1, nn.2.1, nn.2.2.1, nn.2.2.2.1 + 1, nn.2.2.2.2)) (sp_u_s _ _ _) (fun q hq => sp_u_n _ _ hq) hm2.2.2.2.2.1 hm2.2.2.2.2.2
          have hf3 := mfr_num (W := W) hm2.1 (M' := sp_u M2 m (mg sa (nn.1, nn.2.1, nn.2.2.1, nn.2.2.2.1 + 1, nn.2.2.2.2))) (fun q hq => sp_u_n _ _ hq)
          refine tail _ W pg _ _ Q _ _ (by simp) (Or.inr (Or.inr ⟨hfull, hfp, rfl, ?_, rfl⟩)) (fun _ _ _ _ => rfl) rfl hm3 ((hf1.trans hf2).trans hf3).w ?_
          · rw [hkk]
            rfl
          · rw [up_s]
            exact List.cons_ne_nil _ _
        · refine ⟨fun _ => ?_, fun h => ?_⟩
          · refine tail _ W pg os1 fr1 Q nn _ (by simp) (Or.inl ⟨by omega, rfl, rfl, rfl⟩) (fun _ _ _ _ => rfl) rfl hm1 hf1.w (fun e => ?_)
            have := hS.2.1
            rw [e, List.length_nil] at this
            omega
          · exfalso
            have := (nI_eq (a := pg i0 * zp i0 - (os1 i0).length) (b := 0) (by omega) (by decide)).mp (h.trans nI_0.symm)
            omega
      have hm1m := hm1.1
      refine sp_run hz _ _ e_Memory_put_19 _ _ _ ?_
      simp only [k_Memory_put_19, E_nil, E_iconst, E_bipush, E_sipush, E_ldc, E_ldc2, E_lconst, E_null, E_iload_n, E_lload_n, E_aload_n, E_istore_n, E_lstore_n, E_astore_n, E_astoreN_n, E_iload, E_lload, E_aload, E_istore, E_lstore, E_astore, E_astoreN, E_ldi, E_ldl, E_lda, E_ldN, E_iinc, E_iadd, E_isub, E_imul, E_iand, E_ior, E_ixor, E_ishl, E_ishr, E_idiv, E_irem, E_ineg, E_ladd, E_lsub, E_land, E_lor, E_lcmp, E_lshl, E_lshr, E_lushr, E_i2l, E_l2i, E_i2c, E_dupI, E_popI, E_dup_x1II, E_dup2II, E_dup_x1IR, E_dup2IR, E_dup_x1IN, E_dup2IN, E_dupR, E_popR, E_dup_x1RI, E_dup2RI, E_dup_x1RR, E_dup2RR, E_dup_x1RN, E_dup2RN, E_dupN, E_popN, E_dup_x1NI, E_dup2NI, E_dup_x1NR, E_dup2NR, E_dup_x1NN, E_dup2NN, E_goto, E_if_eq, E_if_ne, E_if_lt, E_if_ge, E_if_gt, E_if_le, E_ic_eq, E_ic_ne, E_ic_lt, E_ic_ge, E_ic_gt, E_ic_le, E_ifnull, E_ifnullN, E_ifnonnull, E_ifnonnullN, E_get, E_gf, E_xv, E_n0, E_ns, E_putI, E_putR, E_putN, E_pf, E_st0, E_sts, E_iaload, E_caload, E_laload, E_aaload, E_alen, E_iast, E_cast, E_last, E_xI, E_xJ, E_xQ, E_xN, E_lk, E_lkn, E_s1, E_s1h, E_s1I, E_s1R, E_s1N, E_s1L, E_s2, E_s2h, E_s2L, E_s2I, E_s2R, E_s2N, E_a1, E_a0, E_aI, E_aR, E_aN, E_aL, Option.isSome_some, eq_self, true_and, and_true, true_or, or_true, ne_eq, not_false_eq_true, not_true_eq_false, reduceIte, reduceCtorEq, Nat.reduceAdd, Nat.reduceBEq, Nat.reduceEqDiff, Option.toList_some, Option.toList_none, List.cons_append, List.nil_append]
      refine sp_callV hz (c_Shelf_freeChunks l G) (ci := 2) (As := []) (rest := []) rfl w_Memory_77 (by decide) hS.1.1 rfl (Nat.le_of_ble_eq_true rfl) d_Memory_put_20 ⟨sh i0, _, _, _, _, _, _, _, rfl, hS.1.1, hle, ?_⟩ rfl
      refine sp_run hz _ _ e_Memory_put_23 _ _ _ ?_
      simp only [k_Memory_put_23, E_nil, E_iconst, E_bipush, E_sipush, E_ldc, E_ldc2, E_lconst, E_null, E_iload_n, E_lload_n, E_aload_n, E_istore_n, E_lstore_n, E_astore_n, E_astoreN_n, E_iload, E_lload, E_aload, E_istore, E_lstore, E_astore, E_astoreN, E_ldi, E_ldl, E_lda, E_ldN, E_iinc, E_iadd, E_isub, E_imul, E_iand, E_ior, E_ixor, E_ishl, E_ishr, E_idiv, E_irem, E_ineg, E_ladd, E_lsub, E_land, E_lor, E_lcmp, E_lshl, E_lshr, E_lushr, E_i2l, E_l2i, E_i2c, E_dupI, E_popI, E_dup_x1II, E_dup2II, E_dup_x1IR, E_dup2IR, E_dup_x1IN, E_dup2IN, E_dupR, E_popR, E_dup_x1RI, E_dup2RI, E_dup_x1RR, E_dup2RR, E_dup_x1RN, E_dup2RN, E_dupN, E_popN, E_dup_x1NI, E_dup2NI, E_dup_x1NR, E_dup2NR, E_dup_x1NN, E_dup2NN, E_goto, E_if_eq, E_if_ne, E_if_lt, E_if_ge, E_if_gt, E_if_le, E_ic_eq, E_ic_ne, E_ic_lt, E_ic_ge, E_ic_gt, E_ic_le, E_ifnull, E_ifnullN, E_ifnonnull, E_ifnonnullN, E_get, E_gf, E_xv, E_n0, E_ns, E_putI, E_putR, E_putN, E_pf, E_st0, E_sts, E_iaload, E_caload, E_laload, E_aaload, E_alen, E_iast, E_cast, E_last, E_xI, E_xJ, E_xQ, E_xN, E_lk, E_lkn, E_s1, E_s1h, E_s1I, E_s1R, E_s1N, E_s1L, E_s2, E_s2h, E_s2L, E_s2I, E_s2R, E_s2N, E_a1, E_a0, E_aI, E_aR, E_aN, E_aL, Option.isSome_some, eq_self, true_and, and_true, true_or, or_true, ne_eq, not_false_eq_true, not_true_eq_false, reduceIte, reduceCtorEq, Nat.reduceAdd, Nat.reduceBEq, Nat.reduceEqDiff, Option.toList_some, Option.toList_none, List.cons_append, List.nil_append, hm1m, mg]
      refine ⟨fun h => look _ _ _ (by simp) (by omega) (by omega) (fun q => h ?_), fun h => ⟨fun h2 => look _ _ _ (by simp) (by omega) (by omega) (fun q => absurd h2 (nI_nle q.2 (by omega))), fun h2 => ?_⟩⟩
      · rw [show pg i0 * zp i0 - (os1 i0).length = 0 by omega]
        rfl
      · have hfull : (os1 i0).length = zp i0 * pg i0 := by
          have := (nI_eq (a := pg i0 * zp i0 - (os1 i0).length) (b := 0) (by omega) (by decide)).mp (h.trans nI_0.symm)
          omega
        have hfp : 0 < nn.1 := Nat.pos_of_ne_zero fun e => h2 (by rw [e]; exact Int32.le_refl _)
        obtain ⟨f, hf⟩ : ∃ f, nn.1 = f + 1 := ⟨_, (Nat.succ_pred_eq_of_pos hfp).symm⟩
        have e1 : nI nn.1 - 1 = nI (nn.1 - 1) := by rw [hf, nI_pred]; rfl
        rw [e1]
        have hsm : sh i0 ≠ m := fun e => by
          have := hS.1.1
          rw [e, hm1m] at this
          cases this
        have hS2 : shf (sp_u M1 m (mg sa (nn.1 - 1, nn.2))) (sh i0) (zc i0) (zp i0) (pg i0) (fun c => cD (Q c)) (os1 i0) (fr1 i0) := hS.1.keep (sp_u_n _ _ hsm) (fun k x hk => sp_u_n _ _ (fun e => by
          have := hS.1.2.1 k x hk
          rw [e, hm1m] at this
          cases this)) (fun k x hk => sp_u_n _ _ (fun e => by
          obtain ⟨nw, this⟩ := hS.1.2.2.1 k x hk
          rw [e, hm1m] at this
          cases this))
        have zl := zslots i0 hi0
        refine sp_callV hz (c_Shelf_addPage l G (zc i0) (zp i0)) (ci := 2) (As := []) (rest := []) rfl w_Memory_80 (sp_rmI (Nat.le_of_ble_eq_true rfl) (Nat.le_of_ble_eq_true rfl) (by show 0 + 3 * zp i0 ≤ 24; omega) (by show 0 + (10 + zc i0) * zp i0 ≤ 144; omega)) (show sp_u M1 m (mg sa (nn.1 - 1, nn.2)) (sh i0) = _ from hS2.1) rfl (Nat.le_of_ble_eq_true rfl) d_Memory_put_44 ⟨sh i0, pg i0, _, fun c => cRc (Q c), os1 i0, fr1 i0, rfl, hS2, Nat.lt_of_le_of_lt (zc_lt i0 hi0) (by decide), Nat.lt_of_le_of_lt (zp_lt i0 hi0) (by decide), fun M2 D2 R2 ns g0 g1 g2 g3 g4 => ?_⟩ rfl
        obtain ⟨hm2, hf2, hw2⟩ := hm1.page (nn' := (nn.1 - 1, nn.2)) hi0 (sp_u_s _ _ _) (fun q hq => sp_u_n _ _ hq) (by show nn.1 - 1 + 1 = nn.1; omega) hm1.2.2.2.2.2 g0 g1 g2 g3 g4
        have hfw : mfw M M2 W (pgW D2 R2 ns W) := fun q e a b c => by
          have x1 := hf1 q e a b c
          exact ⟨hf2 q e x1 b c, (hw2 q (by rw [x1]; exact fun h => by cases h)).1⟩
        have hQ2 : ∀ j, j < 4 → ∀ x ∈ os1 j, pgQ (sp_u M1 m (mg sa (nn.1 - 1, nn.2))) D2 R2 Q x = Q x := fun j hj x hx => by
          obtain ⟨nw, ol, hc⟩ := (hm1.2.2.2.1 j hj).cell (Or.inl hx)
          exact (hw2 x (by rw [hc]; exact fun h => by cases h)).2
        have hlen2 := hm2.len i0 hi0
        have hS2' := hm2.2.2.2.1 i0 hi0
        rw [up_s, up_s] at hS2'
        rw [up_s, up_s] at hlen2
        have hnl : 0 < ns.length := by
          rw [g0]
          exact zp_pos i0 hi0
        -- free chunks now
        have hle2 : (os1 i0).length ≤ (pg i0 + 1) * zp i0 := Nat.le_trans hle (Nat.mul_le_mul_right _ (Nat.le_succ _))
        refine sp_widen (k := 24) (n := 144) (by show 0 + 3 * zp i0 ≤ 24; omega) (by show 0 + (10 + zc i0) * zp i0 ≤ 144; omega) ?_
        refine sp_run hz _ _ e_Memory_put_47 _ _ _ ?_
        simp only [k_Memory_put_47, E_nil, E_iconst, E_bipush, E_sipush, E_ldc, E_ldc2, E_lconst, E_null, E_iload_n, E_lload_n, E_aload_n, E_istore_n, E_lstore_n, E_astore_n, E_astoreN_n, E_iload, E_lload, E_aload, E_istore, E_lstore, E_astore, E_astoreN, E_ldi, E_ldl, E_lda, E_ldN, E_iinc, E_iadd, E_isub, E_imul, E_iand, E_ior, E_ixor, E_ishl, E_ishr, E_idiv, E_irem, E_ineg, E_ladd, E_lsub, E_land, E_lor, E_lcmp, E_lshl, E_lshr, E_lushr, E_i2l, E_l2i, E_i2c, E_dupI, E_popI, E_dup_x1II, E_dup2II, E_dup_x1IR, E_dup2IR, E_dup_x1IN, E_dup2IN, E_dupR, E_popR, E_dup_x1RI, E_dup2RI, E_dup_x1RR, E_dup2RR, E_dup_x1RN, E_dup2RN, E_dupN, E_popN, E_dup_x1NI, E_dup2NI, E_dup_x1NR, E_dup2NR, E_dup_x1NN, E_dup2NN, E_goto, E_if_eq, E_if_ne, E_if_lt, E_if_ge, E_if_gt, E_if_le, E_ic_eq, E_ic_ne, E_ic_lt, E_ic_ge, E_ic_gt, E_ic_le, E_ifnull, E_ifnullN, E_ifnonnull, E_ifnonnullN, E_get, E_gf, E_xv, E_n0, E_ns, E_putI, E_putR, E_putN, E_pf, E_st0, E_sts, E_iaload, E_caload, E_laload, E_aaload, E_alen, E_iast, E_cast, E_last, E_xI, E_xJ, E_xQ, E_xN, E_lk, E_lkn, E_s1, E_s1h, E_s1I, E_s1R, E_s1N, E_s1L, E_s2, E_s2h, E_s2L, E_s2I, E_s2R, E_s2N, E_a1, E_a0, E_aI, E_aR, E_aN, E_aL, Option.isSome_some, eq_self, true_and, and_true, true_or, or_true, ne_eq, not_false_eq_true, not_true_eq_false, reduceIte, reduceCtorEq, Nat.reduceAdd, Nat.reduceBEq, Nat.reduceEqDiff, Option.toList_some, Option.toList_none, List.cons_append, List.nil_append]
        refine sp_callV hz (c_Shelf_freeChunks l G) (ci := 2) (As := []) (rest := []) rfl w_Memory_77 (by decide) hS2'.1.1 rfl (Nat.le_of_ble_eq_true rfl) d_Memory_put_48 ⟨sh i0, _, _, _, _, _, _, _, rfl, hS2'.1.1, hle2, ?_⟩ rfl
        refine sp_run hz _ _ e_Memory_put_51 _ _ _ ?_
        simp only [k_Memory_put_51, E_nil, E_iconst, E_bipush, E_sipush, E_ldc, E_ldc2, E_lconst, E_null, E_iload_n, E_lload_n, E_aload_n, E_istore_n, E_lstore_n, E_astore_n, E_astoreN_n, E_iload, E_lload, E_aload, E_istore, E_lstore, E_astore, E_astoreN, E_ldi, E_ldl, E_lda, E_ldN, E_iinc, E_iadd, E_isub, E_imul, E_iand, E_ior, E_ixor, E_ishl, E_ishr, E_idiv, E_irem, E_ineg, E_ladd, E_lsub, E_land, E_lor, E_lcmp, E_lshl, E_lshr, E_lushr, E_i2l, E_l2i, E_i2c, E_dupI, E_popI, E_dup_x1II, E_dup2II, E_dup_x1IR, E_dup2IR, E_dup_x1IN, E_dup2IN, E_dupR, E_popR, E_dup_x1RI, E_dup2RI, E_dup_x1RR, E_dup2RR, E_dup_x1RN, E_dup2RN, E_dupN, E_popN, E_dup_x1NI, E_dup2NI, E_dup_x1NR, E_dup2NR, E_dup_x1NN, E_dup2NN, E_goto, E_if_eq, E_if_ne, E_if_lt, E_if_ge, E_if_gt, E_if_le, E_ic_eq, E_ic_ne, E_ic_lt, E_ic_ge, E_ic_gt, E_ic_le, E_ifnull, E_ifnullN, E_ifnonnull, E_ifnonnullN, E_get, E_gf, E_xv, E_n0, E_ns, E_putI, E_putR, E_putN, E_pf, E_st0, E_sts, E_iaload, E_caload, E_laload, E_aaload, E_alen, E_iast, E_cast, E_last, E_xI, E_xJ, E_xQ, E_xN, E_lk, E_lkn, E_s1, E_s1h, E_s1I, E_s1R, E_s1N, E_s1L, E_s2, E_s2h, E_s2L, E_s2I, E_s2R, E_s2N, E_a1, E_a0, E_aI, E_aR, E_aN, E_aL, Option.isSome_some, eq_self, true_and, and_true, true_or, or_true, ne_eq, not_false_eq_true, not_true_eq_false, reduceIte, reduceCtorEq, Nat.reduceAdd, Nat.reduceBEq, Nat.reduceEqDiff, Option.toList_some, Option.toList_none, List.cons_append, List.nil_append]
        have hgt : 0 < (pg i0 + 1) * zp i0 - (os1 i0).length := by
          have h3 : (pg i0 + 1) * zp i0 = pg i0 * zp i0 + zp i0 := Nat.succ_mul _ _
          have := zp_pos i0 hi0
          omega
        have hlt48 : (pg i0 + 1) * zp i0 ≤ 48 := Nat.mul_le_mul hlen2.2 (zp_lt i0 hi0)
        refine ⟨fun _ => ?_, fun h => absurd h (nI_ne0 hgt (by omega))⟩
        refine tail M2 _ _ os1 _ _ (nn.1 - 1, nn.2) _ (by simp) (Or.inr (Or.inl ⟨hfull, hfp, rfl, rfl, rfl⟩)) hQ2 rfl hm2 hfw ?_
        rw [up_s]
        intro e
        have := congrArg List.length e
        rw [List.length_append, List.length_nil] at this
        omega
    have hm1 := hm.1
    refine sp_run hz _ _ e_Memory_put_0 _ _ _ ?_
    simp only [k_Memory_put_0, E_nil, E_iconst, E_bipush, E_sipush, E_ldc, E_ldc2, E_lconst, E_null, E_iload_n, E_lload_n, E_aload_n, E_istore_n, E_lstore_n, E_astore_n, E_astoreN_n, E_iload, E_lload, E_aload, E_istore, E_lstore, E_astore, E_astoreN, E_ldi, E_ldl, E_lda, E_ldN, E_iinc, E_iadd, E_isub, E_imul, E_iand, E_ior, E_ixor, E_ishl, E_ishr, E_idiv, E_irem, E_ineg, E_ladd, E_lsub, E_land, E_lor, E_lcmp, E_lshl, E_lshr, E_lushr, E_i2l, E_l2i, E_i2c, E_dupI, E_popI, E_dup_x1II, E_dup2II, E_dup_x1IR, E_dup2IR, E_dup_x1IN, E_dup2IN, E_dupR, E_popR, E_dup_x1RI, E_dup2RI, E_dup_x1RR, E_dup2RR, E_dup_x1RN, E_dup2RN, E_dupN, E_popN, E_dup_x1NI, E_dup2NI, E_dup_x1NR, E_dup2NR, E_dup_x1NN, E_dup2NN, E_goto, E_if_eq, E_if_ne, E_if_lt, E_if_ge, E_if_gt, E_if_le, E_ic_eq, E_ic_ne, E_ic_lt, E_ic_ge, E_ic_gt, E_ic_le, E_ifnull, E_ifnullN, E_ifnonnull, E_ifnonnullN, E_get, E_gf, E_xv, E_n0, E_ns, E_putI, E_putR, E_putN, E_pf, E_st0, E_sts, E_iaload, E_caload, E_laload, E_aaload, E_alen, E_iast, E_cast, E_last, E_xI, E_xJ, E_xQ, E_xN, E_lk, E_lkn, E_s1, E_s1h, E_s1I, E_s1R, E_s1N, E_s1L, E_s2, E_s2h, E_s2L, E_s2I, E_s2R, E_s2N, E_a1, E_a0, E_aI, E_aR, E_aN, E_aL, Option.isSome_some, eq_self, true_and, and_true, true_or, or_true, ne_eq, not_false_eq_true, not_true_eq_false, reduceIte, reduceCtorEq, Nat.reduceAdd, Nat.reduceBEq, Nat.reduceEqDiff, Option.toList_some, Option.toList_none, List.cons_append, List.nil_append]
    refine sp_callV hz (c_Draft_size l G) (ci := 5) (As := []) (rest := [.ref m]) rfl w_Memory_68 (by decide) hd.1 rfl (Nat.le_of_ble_eq_true rfl) d_Memory_put_2 ⟨d, kt, kch, dt, dch, key, data, fl, gn, rfl, hd, ?_⟩ rfl
    refine sp_callV hz (c_Memory_shelfFor l G) (ci := 3) (As := [.int (nI (key.length + data.length))]) (rest := []) rfl w_Memory_55 (by decide) hm.1 rfl (Nat.le_of_ble_eq_true rfl) d_Memory_put_5 ⟨m, sa, sh, W, pg, os, fr, Q, nn, _, rfl, hm, by have := zc_lt i0 hi0; omega, ?_⟩ rfl
    rw [hzf]
    refine sp_run hz _ _ e_Memory_put_8 _ _ _ ?_
    simp only [k_Memory_put_8, E_nil, E_iconst, E_bipush, E_sipush, E_ldc, E_ldc2, E_lconst, E_null, E_iload_n, E_lload_n, E_aload_n, E_istore_n, E_lstore_n, E_astore_n, E_astoreN_n, E_iload, E_lload, E_aload, E_istore, E_lstore, E_astore, E_astoreN, E_ldi, E_ldl, E_lda, E_ldN, E_iinc, E_iadd, E_isub, E_imul, E_iand, E_ior, E_ixor, E_ishl, E_ishr, E_idiv, E_irem, E_ineg, E_ladd, E_lsub, E_land, E_lor, E_lcmp, E_lshl, E_lshr, E_lushr, E_i2l, E_l2i, E_i2c, E_dupI, E_popI, E_dup_x1II, E_dup2II, E_dup_x1IR, E_dup2IR, E_dup_x1IN, E_dup2IN, E_dupR, E_popR, E_dup_x1RI, E_dup2RI, E_dup_x1RR, E_dup2RR, E_dup_x1RN, E_dup2RN, E_dupN, E_popN, E_dup_x1NI, E_dup2NI, E_dup_x1NR, E_dup2NR, E_dup_x1NN, E_dup2NN, E_goto, E_if_eq, E_if_ne, E_if_lt, E_if_ge, E_if_gt, E_if_le, E_ic_eq, E_ic_ne, E_ic_lt, E_ic_ge, E_ic_gt, E_ic_le, E_ifnull, E_ifnullN, E_ifnonnull, E_ifnonnullN, E_get, E_gf, E_xv, E_n0, E_ns, E_putI, E_putR, E_putN, E_pf, E_st0, E_sts, E_iaload, E_caload, E_laload, E_aaload, E_alen, E_iast, E_cast, E_last, E_xI, E_xJ, E_xQ, E_xN, E_lk, E_lkn, E_s1, E_s1h, E_s1I, E_s1R, E_s1N, E_s1L, E_s2, E_s2h, E_s2L, E_s2I, E_s2R, E_s2N, E_a1, E_a0, E_aI, E_aR, E_aN, E_aL, Option.isSome_some, eq_self, true_and, and_true, true_or, or_true, ne_eq, not_false_eq_true, not_true_eq_false, reduceIte, reduceCtorEq, Nat.reduceAdd, Nat.reduceBEq, Nat.reduceEqDiff, Option.toList_some, Option.toList_none, List.cons_append, List.nil_append, Option.map_some, rf_s]
    have go : sp_W z G M (sp_Q z G M Post 24 144) 5 0 0 16 [(3, .ref (sh i0)), (0, .ref m), (1, .ref d), (2, v2)] [v2, .ref m] M := by
      refine sp_callV hz (c_Memory_takeAway l G) (ci := 3) (As := [v2]) (rest := []) rfl w_Memory_73 (by decide) hm.1 rfl (Nat.le_of_ble_eq_true rfl) d_Memory_put_16 ⟨m, sa, sh, W, pg, os, fr, Q, nn, r, by rw [hv2], hm, fun h => ?_, fun c h => ?_⟩ rfl
      · rcases hos1 with ⟨-, e⟩ | ⟨c, i, k, e, -⟩
        · rw [← e] at hm
          exact mid M fr hm (mfr.refl _ _)
        · rw [h] at e
          cases e
      · rcases hos1 with ⟨e, -⟩ | ⟨c', i, k, e, hi, hk, e2⟩
        · rw [h] at e
          cases e
        · rw [h] at e
          cases e
          refine ⟨i, k, hi, hk, fun M1 hm1 hf1 => ?_⟩
          rw [← e2] at hm1
          exact mid M1 _ hm1 hf1
    refine sp_run hz _ _ e_Memory_put_14 _ _ _ ?_
    cases r with
    | none =>
      rw [rf_n] at hv2
      subst hv2
      simp only [k_Memory_put_14, E_nil, E_iconst, E_bipush, E_sipush, E_ldc, E_ldc2, E_lconst, E_null, E_iload_n, E_lload_n, E_aload_n, E_istore_n, E_lstore_n, E_astore_n, E_astoreN_n, E_iload, E_lload, E_aload, E_istore, E_lstore, E_astore, E_astoreN, E_ldi, E_ldl, E_lda, E_ldN, E_iinc, E_iadd, E_isub, E_imul, E_iand, E_ior, E_ixor, E_ishl, E_ishr, E_idiv, E_irem, E_ineg, E_ladd, E_lsub, E_land, E_lor, E_lcmp, E_lshl, E_lshr, E_lushr, E_i2l, E_l2i, E_i2c, E_dupI, E_popI, E_dup_x1II, E_dup2II, E_dup_x1IR, E_dup2IR, E_dup_x1IN, E_dup2IN, E_dupR, E_popR, E_dup_x1RI, E_dup2RI, E_dup_x1RR, E_dup2RR, E_dup_x1RN, E_dup2RN, E_dupN, E_popN, E_dup_x1NI, E_dup2NI, E_dup_x1NR, E_dup2NR, E_dup_x1NN, E_dup2NN, E_goto, E_if_eq, E_if_ne, E_if_lt, E_if_ge, E_if_gt, E_if_le, E_ic_eq, E_ic_ne, E_ic_lt, E_ic_ge, E_ic_gt, E_ic_le, E_ifnull, E_ifnullN, E_ifnonnull, E_ifnonnullN, E_get, E_gf, E_xv, E_n0, E_ns, E_putI, E_putR, E_putN, E_pf, E_st0, E_sts, E_iaload, E_caload, E_laload, E_aaload, E_alen, E_iast, E_cast, E_last, E_xI, E_xJ, E_xQ, E_xN, E_lk, E_lkn, E_s1, E_s1h, E_s1I, E_s1R, E_s1N, E_s1L, E_s2, E_s2h, E_s2L, E_s2I, E_s2R, E_s2N, E_a1, E_a0, E_aI, E_aR, E_aN, E_aL, Option.isSome_some, eq_self, true_and, and_true, true_or, or_true, ne_eq, not_false_eq_true, not_true_eq_false, reduceIte, reduceCtorEq, Nat.reduceAdd, Nat.reduceBEq, Nat.reduceEqDiff, Option.toList_some, Option.toList_none, List.cons_append, List.nil_append]
      exact go
    | some c =>
      rw [rf_s] at hv2
      subst hv2
      simp only [k_Memory_put_14, E_nil, E_iconst, E_bipush, E_sipush, E_ldc, E_ldc2, E_lconst, E_null, E_iload_n, E_lload_n, E_aload_n, E_istore_n, E_lstore_n, E_astore_n, E_astoreN_n, E_iload, E_lload, E_aload, E_istore, E_lstore, E_astore, E_astoreN, E_ldi, E_ldl, E_lda, E_ldN, E_iinc, E_iadd, E_isub, E_imul, E_iand, E_ior, E_ixor, E_ishl, E_ishr, E_idiv, E_irem, E_ineg, E_ladd, E_lsub, E_land, E_lor, E_lcmp, E_lshl, E_lshr, E_lushr, E_i2l, E_l2i, E_i2c, E_dupI, E_popI, E_dup_x1II, E_dup2II, E_dup_x1IR, E_dup2IR, E_dup_x1IN, E_dup2IN, E_dupR, E_popR, E_dup_x1RI, E_dup2RI, E_dup_x1RR, E_dup2RR, E_dup_x1RN, E_dup2RN, E_dupN, E_popN, E_dup_x1NI, E_dup2NI, E_dup_x1NR, E_dup2NR, E_dup_x1NN, E_dup2NN, E_goto, E_if_eq, E_if_ne, E_if_lt, E_if_ge, E_if_gt, E_if_le, E_ic_eq, E_ic_ne, E_ic_lt, E_ic_ge, E_ic_gt, E_ic_le, E_ifnull, E_ifnullN, E_ifnonnull, E_ifnonnullN, E_get, E_gf, E_xv, E_n0, E_ns, E_putI, E_putR, E_putN, E_pf, E_st0, E_sts, E_iaload, E_caload, E_laload, E_aaload, E_alen, E_iast, E_cast, E_last, E_xI, E_xJ, E_xQ, E_xN, E_lk, E_lkn, E_s1, E_s1h, E_s1I, E_s1R, E_s1N, E_s1L, E_s2, E_s2h, E_s2L, E_s2I, E_s2R, E_s2N, E_a1, E_a0, E_aI, E_aR, E_aN, E_aL, Option.isSome_some, eq_self, true_and, and_true, true_or, or_true, ne_eq, not_false_eq_true, not_true_eq_false, reduceIte, reduceCtorEq, Nat.reduceAdd, Nat.reduceBEq, Nat.reduceEqDiff, Option.toList_some, Option.toList_none, List.cons_append, List.nil_append]
      exact go
