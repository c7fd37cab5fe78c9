/-! The model's store. -/
theorem space {L : List It} {pg : Nat → Nat} {fp c : Nat} (h4 : ∀ x ∈ L, icl x < 4) (hle : ∀ c, c < 4 → (fi c L).length ≤ zp c * pg c) (hc : c < 4) (hlt : (fi c L).length < zp c * pg c) (hp : fp + pg 0 + pg 1 + pg 2 + pg 3 = 6) : L.length < 48 := by
  have ht := fi_tot L h4
  have a0 : (fi 0 L).length ≤ 8 * pg 0 := hle 0 (by decide)
  have a1 : (fi 1 L).length ≤ 4 * pg 1 := hle 1 (by decide)
  have a2 : (fi 2 L).length ≤ 2 * pg 2 := hle 2 (by decide)
  have a3 : (fi 3 L).length ≤ 1 * pg 3 := hle 3 (by decide)
  match c, hc, hlt with
  | 0, _, h => have h : (fi 0 L).length < 8 * pg 0 := h; omega
  | 1, _, h => have h : (fi 1 L).length < 4 * pg 1 := h; omega
  | 2, _, h => have h : (fi 2 L).length < 2 * pg 2 := h; omega
  | 3, _, h => have h : (fi 3 L).length < 1 * pg 3 := h; omega
theorem fi_rm_le (c : Nat) (k : List Nat) (L : List It) : (fi c (rmv k L)).length ≤ (fi c L).length := by
  rw [fi_rmv]
  exact List.length_filter_le _ _
theorem rfs_zf {n : Nat} (h : n ≤ 64) (pg : Nat → Nat) (fp : Nat) : rfs n pg fp = if pg (clo n) = 0 ∧ fp = 0 then 16 else 17 := by
  unfold rfs zf clo
  repeat' split
  all_goals first | rfl | (simp_all; done) | (exfalso; omega)
theorem rfs_big {n : Nat} (h : 64 < n) (pg : Nat → Nat) (fp : Nat) : rfs n pg fp = 15 := by
  unfold rfs zf
  rw [if_neg (by omega), if_neg (by omega), if_neg (by omega), if_neg (by omega)]
/-- the newest item stands behind the others -/
def rAl (G : sp_G) (M : sp_M) (B : Nat → Nat) (s a : List Nat) (x : It) (L : List It) (pg : Nat → Nat) (ws : List (Nat × Nat)) (fr : List Nat) (V : Nat → Nat) : Prop := ∃ R2, rS G M B s a (R2 ++ [(x, V 16)]) pg ws fr V ∧ sR (R2 ++ [(x, V 16)]) (x :: L) (V 16) ∧ kd (x :: L)
def T_Mod_store (G : sp_G) : sp_T := fun av M Post => ∃ B s a L pg ws fr V k f g fp, av = [.ref (B 0), .long (lN (pkl k)), .int (nI f), .int (nI (gz g))] ∧ rA G M B s a L pg ws fr V ∧ kOK k ∧ 1 ≤ k.length ∧ chOk fr ∧ f < 1000000000 ∧ 0 < g ∧ g < 2 ^ 31 ∧ fp + pg 0 + pg 1 + pg 2 + pg 3 = 6 ∧ (∀ c, c < 4 → (fi c L).length ≤ zp c * pg c) ∧ V 15 + 1 < 1000000000 ∧ V 16 + 1 < 2 ^ 31 ∧ a.length + 100 ≤ 600 ∧
  (rfs (k.length + fr.length) pg fp ≠ 17 → ∀ M', rA G M' B s (a ++ sv (rfs (k.length + fr.length) pg fp)) L pg ws fr (up V 3 (a ++ sv (rfs (k.length + fr.length) pg fp)).length) → rfr B M M' → Post (some (.int 0)) M') ∧
  (rfs (k.length + fr.length) pg fp = 17 → k.length + fr.length ≤ 64 → ∀ M' V', rAl G M' B s a (k, fr, f, V 15 + 1, g) (ptE (clo (k.length + fr.length)) (rmv k L) pg (fp, V 14, V 15, V 17, V 18)).2.1 (ptE (clo (k.length + fr.length)) (rmv k L) pg (fp, V 14, V 15, V 17, V 18)).1 ws fr V' → V' 15 = V 15 + 1 → V' 16 = V 16 + 1 → V' 17 = (ptE (clo (k.length + fr.length)) (rmv k L) pg (fp, V 14, V 15, V 17, V 18)).2.2.2.2.2.1 → vsm V V' [5, 15, 16, 17] → rfr B M M' → Post (some (.int 1)) M')
set_option maxHeartbeats 4000000 in
set_option maxRecDepth 100000 in
theorem c_Mod_store (l : Launch) (G : sp_G) : sp_Met l G y_Mod_store b_Mod_store 9 (some .boolean) { frames := 4, locals := 95 } (T_Mod_store G) := by
  refine sp_entry (by decide) (fun av M Post h => ?_) (fun z M av Post hz _ hT => ?_)
  · obtain ⟨B, s, a, L, pg, ws, fr, V, k, f, g, fp, rfl, -⟩ := h
    exact Nat.le_of_ble_eq_true rfl
  · obtain ⟨B, s, a, L, pg, ws, fr, V, k, f, g, fp, rfl, ⟨R, hS, hsr, hkd⟩, hk, hk1, hcf, hff, hg0, hg31, hfp, hle, hv15, hv16, ha, p0, p1⟩ := hT
    have hbl := hS.bl
    have l25 : V 25 = fr.length := hbl.1.2.2.2.2
    have b5 : fr.length ≤ 300 := hbl.2.2.2.2.2
    have h8 := hk.1
    generalize hN : k.length + fr.length = N at p0 p1
    have hc4 := clo_lt N
    have hL4 : ∀ x ∈ L, icl x < 4 := fun x hx => by
      obtain ⟨u, hu⟩ := hsr.mem.mp hx
      exact (hS.cl4.1 _ hu).1.cl4
    have e0 : nI k.length + nI fr.length = nI N := by rw [← hN]; exact (Int32.ofNat_add _ _).symm
    -- behind the making of room
    have k117 : N ≤ 64 → rfs N pg fp = 17 → ∀ R2 (pg2 V2 : Nat → Nat) M2 (L0 : sp_L), (∀ q ∈ [(0, .ref (B 0)), (1, .long (lN (pkl k))), (3, .int (nI f)), (4, .int (nI (gz g)))], q ∈ L0) → rS G M2 B s a R2 pg2 ws fr V2 → sR R2 (ptE (clo N) (rmv k L) pg (fp, V 14, V 15, V 17, V 18)).2.1 (V 16) → pg2 = (ptE (clo N) (rmv k L) pg (fp, V 14, V 15, V 17, V 18)).1 → V2 17 = (ptE (clo N) (rmv k L) pg (fp, V 14, V 15, V 17, V 18)).2.2.2.2.2.1 → vsm V V2 [5, 17] → rfr B M M2 → R2.length < 48 → kd (ptE (clo N) (rmv k L) pg (fp, V 14, V 15, V 17, V 18)).2.1 → (∀ x ∈ (ptE (clo N) (rmv k L) pg (fp, V 14, V 15, V 17, V 18)).2.1, iK x ≠ k) → sp_W z G M (sp_Q z G M Post 0 0) 9 0 0 117 L0 [] M2 := by
      intro hN64 hr17 R2 pg2 V2 M2 L0 hL0 hS2 hsr2 epg e17 hvs hf hlen hkd2 hkn
      have v15 : V2 15 = V 15 := hvs 15 (by decide)
      have v16 : V2 16 = V 16 := hvs 16 (by decide)
      refine store117 hz (by decide) B s a R2 pg2 ws fr V2 k f g M2 L0 hL0 hS2 hlen hk hk1 (by omega) hcf hff hg0 hg31 (by rw [v15]; exact hv15) (by rw [v16]; exact hv16) (fun M3 V3 hS3 w15 w16 wvs hf3 => ?_)
      rw [v15] at w15 hS3
      rw [v16] at w16 hS3
      refine p1 hr17 hN64 M3 V3 ⟨R2, by rw [← epg, w16]; exact hS3, by rw [w16]; exact hsr2.new _, ?_⟩ w15 w16 ((wvs 17 (by decide)).trans e17) (fun j hj => ?_) (hf.trans hf3)
      · unfold kd
        rw [List.map_cons, List.nodup_cons]
        refine ⟨fun q => ?_, hkd2⟩
        obtain ⟨y, hy, e⟩ := List.mem_map.mp q
        exact hkn y hy e
      · simp only [List.mem_cons, List.not_mem_nil, or_false, not_or] at hj
        rw [wvs j (by simp; exact ⟨hj.1, hj.2.1, hj.2.2.1⟩), hvs j (by simp; exact ⟨hj.1, hj.2.2.2⟩)]
    -- behind the old one's taking away
    have k72 : N ≤ 64 → rfs N pg fp = 17 → ∀ R1 (V1 : Nat → Nat) M1 (L0 : sp_L), (∀ q ∈ [(0, .ref (B 0)), (1, .long (lN (pkl k))), (3, .int (nI f)), (4, .int (nI (gz g))), (6, .int (nI (clo N)))], q ∈ L0) → rS G M1 B s a R1 pg ws fr V1 → sR R1 (rmv k L) (V 16) → vsm V V1 [5] → rfr B M M1 → sp_W z G M (sp_Q z G M Post 0 0) 9 0 0 72 L0 [] M1 := by
      intro hN64 hr17 R1 V1 M1 L0 hL0 hS1 hsr1 hvs hf
      refine sp_Lm _ hL0 ?_
      have hkd1 : kd (rmv k L) := kd_rmv hkd k
      have hkn1 : ∀ x ∈ rmv k L, iK x ≠ k := fun x hx => (rmv_mem hx).2
      have hL41 : ∀ x ∈ rmv k L, icl x < 4 := fun x hx => hL4 x (rmv_mem hx).1
      have hle1 : ∀ c, c < 4 → (fi c (rmv k L)).length ≤ zp c * pg c := fun c hc => Nat.le_trans (fi_rm_le c k L) (hle c hc)
      have hcn : cn (clo N) R1 ≤ zp (clo N) * pg (clo N) := by rw [hsr1.cnt]; exact hle1 _ hc4
      have hcb : zp (clo N) * pg (clo N) ≤ 48 := by
        have h1 := zp_lt _ hc4
        have h2 := hS1.cl4.2 _ hc4
        calc zp (clo N) * pg (clo N) ≤ 8 * 6 := Nat.mul_le_mul h1 h2
          _ = 48 := rfl
      have v17 : V1 17 = V 17 := hvs 17 (by decide)
      have h117 := k117 hN64 hr17
      -- there is a free chunk
      have free : (fi (clo N) (rmv k L)).length < zp (clo N) * pg (clo N) → ∀ (L0 : sp_L), (∀ q ∈ [(0, .ref (B 0)), (1, .long (lN (pkl k))), (3, .int (nI f)), (4, .int (nI (gz g)))], q ∈ L0) → sp_W z G M (sp_Q z G M Post 0 0) 9 0 0 117 L0 [] M1 := by
        intro hlt L0 hL0
        have ep : ptE (clo N) (rmv k L) pg (fp, V 14, V 15, V 17, V 18) = (pg, rmv k L, (fp, V 14, V 15, V 17, V 18)) := by
          unfold ptE
          rw [if_pos hlt]
        rw [ep] at h117
        exact h117 R1 pg V1 M1 L0 hL0 hS1 hsr1 rfl v17 (fun j hj => hvs j (fun q => hj (by simp at q; subst q; simp))) hf (by rw [hsr1.len]; exact space hL41 hle1 hc4 hlt hfp) hkd1 hkn1
      have k102 : (fp = 0 ∨ (fi (clo N) (rmv k L)).length < zp (clo N) * pg (clo N)) → ∀ (L0 : sp_L), (∀ q ∈ [(0, .ref (B 0)), (1, .long (lN (pkl k))), (3, .int (nI f)), (4, .int (nI (gz g))), (6, .int (nI (clo N)))], q ∈ L0) → sp_W z G M (sp_Q z G M Post 0 0) 9 0 0 102 L0 [] M1 := by
        intro hor L0 hL0
        refine sp_Lm _ hL0 ?_
        refine sp_run hz _ _ e_Mod_store_102 _ _ _ ?_
        simp only [k_Mod_store_102, E_nil, E_iconst, E_bipush, E_sipush, E_ldc, E_ldc2, E_lconst, E_null, E_iload_n, E_lload_n, E_aload_n, E_istore_n, E_lstore_n, E_astore_n, E_astoreN_n, E_iload, E_lload, E_aload, E_istore, E_lstore, E_astore, E_astoreN, E_ldi, E_ldl, E_lda, E_ldN, E_iinc, E_iadd, E_isub, E_imul, E_iand, E_ior, E_ixor, E_ishl, E_ishr, E_idiv, E_irem, E_ineg, E_ladd, E_lsub, E_land, E_lor, E_lcmp, E_lshl, E_lshr, E_lushr, E_i2l, E_l2i, E_i2c, E_dupI, E_popI, E_dup_x1II, E_dup2II, E_dup_x1IR, E_dup2IR, E_dup_x1IN, E_dup2IN, E_dupR, E_popR, E_dup_x1RI, E_dup2RI, E_dup_x1RR, E_dup2RR, E_dup_x1RN, E_dup2RN, E_dupN, E_popN, E_dup_x1NI, E_dup2NI, E_dup_x1NR, E_dup2NR, E_dup_x1NN, E_dup2NN, E_goto, E_if_eq, E_if_ne, E_if_lt, E_if_ge, E_if_gt, E_if_le, E_ic_eq, E_ic_ne, E_ic_lt, E_ic_ge, E_ic_gt, E_ic_le, E_ifnull, E_ifnullN, E_ifnonnull, E_ifnonnullN, E_get, E_gf, E_xv, E_n0, E_ns, E_putI, E_putR, E_putN, E_pf, E_st0, E_sts, E_iaload, E_caload, E_laload, E_aaload, E_alen, E_iast, E_cast, E_last, E_xI, E_xJ, E_xQ, E_xN, E_lk, E_lkn, E_s1, E_s1h, E_s1I, E_s1R, E_s1N, E_s1L, E_s2, E_s2h, E_s2L, E_s2I, E_s2R, E_s2N, E_a1, E_a0, E_aI, E_aR, E_aN, E_aL, Option.isSome_some, eq_self, true_and, and_true, true_or, or_true, ne_eq, not_false_eq_true, not_true_eq_false, reduceIte, reduceCtorEq, Nat.reduceAdd, Nat.reduceBEq, Nat.reduceEqDiff, Option.toList_some, Option.toList_none, List.cons_append, List.nil_append]
        refine sp_callV hz (c_Mod_freeChunks l G) (ci := 8) (As := [.int (nI (clo N))]) (rest := []) rfl w_Mod_238 (by decide) hS1.o rfl (Nat.le_of_ble_eq_true rfl) d_Mod_store_105 ⟨B, s, a, R1, pg, ws, fr, V1, _, rfl, hS1, hc4, hcn, ?_⟩ rfl
        refine sp_run hz _ _ e_Mod_store_108 _ _ _ ?_
        simp only [k_Mod_store_108, E_nil, E_iconst, E_bipush, E_sipush, E_ldc, E_ldc2, E_lconst, E_null, E_iload_n, E_lload_n, E_aload_n, E_istore_n, E_lstore_n, E_astore_n, E_astoreN_n, E_iload, E_lload, E_aload, E_istore, E_lstore, E_astore, E_astoreN, E_ldi, E_ldl, E_lda, E_ldN, E_iinc, E_iadd, E_isub, E_imul, E_iand, E_ior, E_ixor, E_ishl, E_ishr, E_idiv, E_irem, E_ineg, E_ladd, E_lsub, E_land, E_lor, E_lcmp, E_lshl, E_lshr, E_lushr, E_i2l, E_l2i, E_i2c, E_dupI, E_popI, E_dup_x1II, E_dup2II, E_dup_x1IR, E_dup2IR, E_dup_x1IN, E_dup2IN, E_dupR, E_popR, E_dup_x1RI, E_dup2RI, E_dup_x1RR, E_dup2RR, E_dup_x1RN, E_dup2RN, E_dupN, E_popN, E_dup_x1NI, E_dup2NI, E_dup_x1NR, E_dup2NR, E_dup_x1NN, E_dup2NN, E_goto, E_if_eq, E_if_ne, E_if_lt, E_if_ge, E_if_gt, E_if_le, E_ic_eq, E_ic_ne, E_ic_lt, E_ic_ge, E_ic_gt, E_ic_le, E_ifnull, E_ifnullN, E_ifnonnull, E_ifnonnullN, E_get, E_gf, E_xv, E_n0, E_ns, E_putI, E_putR, E_putN, E_pf, E_st0, E_sts, E_iaload, E_caload, E_laload, E_aaload, E_alen, E_iast, E_cast, E_last, E_xI, E_xJ, E_xQ, E_xN, E_lk, E_lkn, E_s1, E_s1h, E_s1I, E_s1R, E_s1N, E_s1L, E_s2, E_s2h, E_s2L, E_s2I, E_s2R, E_s2N, E_a1, E_a0, E_aI, E_aR, E_aN, E_aL, Option.isSome_some, eq_self, true_and, and_true, true_or, or_true, ne_eq, not_false_eq_true, not_true_eq_false, reduceIte, reduceCtorEq, Nat.reduceAdd, Nat.reduceBEq, Nat.reduceEqDiff, Option.toList_some, Option.toList_none, List.cons_append, List.nil_append]
        refine ⟨fun h => free ?_ _ (by simp), fun h => ?_⟩
        · have : zp (clo N) * pg (clo N) - cn (clo N) R1 ≠ 0 := fun q => h (by rw [q]; rfl)
          rw [hsr1.cnt] at this
          omega
        · have h0 : zp (clo N) * pg (clo N) - cn (clo N) R1 = 0 := (nI_eq (b := 0) (by omega) (by decide)).mp h
          have hnlt : ¬ (fi (clo N) (rmv k L)).length < zp (clo N) * pg (clo N) := by rw [← hsr1.cnt]; omega
          have hfp0 : fp = 0 := hor.resolve_right hnlt
          have hpg0 : pg (clo N) ≠ 0 := fun q => by
            rw [rfs_zf hN64, if_pos ⟨q, hfp0⟩] at hr17
            exact absurd hr17 (by decide)
          have hpos : 0 < zp (clo N) * pg (clo N) := Nat.mul_pos (zp_pos _ hc4) (by omega)
          have hex : ∃ x ∈ R1, icl x.1 = clo N := by
            have hc0 : 0 < cn (clo N) R1 := by omega
            unfold cn at hc0
            obtain ⟨x, hx⟩ := List.exists_mem_of_length_pos hc0
            exact ⟨x, (List.mem_filter.mp hx).1, of_decide_eq_true (List.mem_filter.mp hx).2⟩
          refine sp_callV hz (c_Mod_evict l G) (ci := 8) (As := [.int (nI (clo N))]) (rest := []) rfl w_Mod_241 (by decide) hS1.o rfl (Nat.le_of_ble_eq_true rfl) d_Mod_store_114 ⟨B, s, a, R1, pg, ws, fr, V1, _, rfl, hS1, hc4, fun x hx => by have := hsr1.bd x hx; omega, hex, fun i x M2 hlst hS2 hf2 => ?_⟩ rfl
          have hlk := hsr1.last hlst
          have ep : ptE (clo N) (rmv k L) pg (fp, V 14, V 15, V 17, V 18) = (pg, rmv (lk (clo N) (rmv k L)) (rmv k L), (fp, V 14, V 15, V 17 + 1, V 18)) := by
            unfold ptE
            rw [if_neg hnlt, if_neg (by omega)]
          rw [ep, hlk] at h117
          have hx := hlst.1
          have hsr2 := hsr1.rm hkd1 hx
          have hlen : (rmx i R1).length < 48 := by
            rw [rmx_len]
            have := hS1.bl.2.2.2.1
            have := (List.getElem?_eq_some_iff.mp hx).1
            omega
          refine h117 _ pg _ M2 _ (by simp) hS2 hsr2 rfl (by show V1 17 + 1 = _; rw [v17]) (fun j hj => ?_) (hf.trans hf2) hlen (kd_rmv hkd1 _) (fun y hy => hkn1 y (rmv_mem hy).1)
          simp only [List.mem_cons, List.not_mem_nil, or_false, not_or] at hj
          rw [up_n _ _ hj.2, up_n _ _ hj.1]
          exact hvs j (by simp; exact hj.1)
      refine sp_run hz _ _ e_Mod_store_72 _ _ _ ?_
      simp only [k_Mod_store_72, E_nil, E_iconst, E_bipush, E_sipush, E_ldc, E_ldc2, E_lconst, E_null, E_iload_n, E_lload_n, E_aload_n, E_istore_n, E_lstore_n, E_astore_n, E_astoreN_n, E_iload, E_lload, E_aload, E_istore, E_lstore, E_astore, E_astoreN, E_ldi, E_ldl, E_lda, E_ldN, E_iinc, E_iadd, E_isub, E_imul, E_iand, E_ior, E_ixor, E_ishl, E_ishr, E_idiv, E_irem, E_ineg, E_ladd, E_lsub, E_land, E_lor, E_lcmp, E_lshl, E_lshr, E_lushr, E_i2l, E_l2i, E_i2c, E_dupI, E_popI, E_dup_x1II, E_dup2II, E_dup_x1IR, E_dup2IR, E_dup_x1IN, E_dup2IN, E_dupR, E_popR, E_dup_x1RI, E_dup2RI, E_dup_x1RR, E_dup2RR, E_dup_x1RN, E_dup2RN, E_dupN, E_popN, E_dup_x1NI, E_dup2NI, E_dup_x1NR, E_dup2NR, E_dup_x1NN, E_dup2NN, E_goto, E_if_eq, E_if_ne, E_if_lt, E_if_ge, E_if_gt, E_if_le, E_ic_eq, E_ic_ne, E_ic_lt, E_ic_ge, E_ic_gt, E_ic_le, E_ifnull, E_ifnullN, E_ifnonnull, E_ifnonnullN, E_get, E_gf, E_xv, E_n0, E_ns, E_putI, E_putR, E_putN, E_pf, E_st0, E_sts, E_iaload, E_caload, E_laload, E_aaload, E_alen, E_iast, E_cast, E_last, E_xI, E_xJ, E_xQ, E_xN, E_lk, E_lkn, E_s1, E_s1h, E_s1I, E_s1R, E_s1N, E_s1L, E_s2, E_s2h, E_s2L, E_s2I, E_s2R, E_s2N, E_a1, E_a0, E_aI, E_aR, E_aN, E_aL, Option.isSome_some, eq_self, true_and, and_true, true_or, or_true, ne_eq, not_false_eq_true, not_true_eq_false, reduceIte, reduceCtorEq, Nat.reduceAdd, Nat.reduceBEq, Nat.reduceEqDiff, Option.toList_some, Option.toList_none, List.cons_append, List.nil_append]
      refine sp_callV hz (c_Mod_freeChunks l G) (ci := 8) (As := [.int (nI (clo N))]) (rest := []) rfl w_Mod_238 (by decide) hS1.o rfl (Nat.le_of_ble_eq_true rfl) d_Mod_store_75 ⟨B, s, a, R1, pg, ws, fr, V1, _, rfl, hS1, hc4, hcn, ?_⟩ rfl
      refine sp_run hz _ _ e_Mod_store_78 _ _ _ ?_
      simp only [k_Mod_store_78, E_nil, E_iconst, E_bipush, E_sipush, E_ldc, E_ldc2, E_lconst, E_null, E_iload_n, E_lload_n, E_aload_n, E_istore_n, E_lstore_n, E_astore_n, E_astoreN_n, E_iload, E_lload, E_aload, E_istore, E_lstore, E_astore, E_astoreN, E_ldi, E_ldl, E_lda, E_ldN, E_iinc, E_iadd, E_isub, E_imul, E_iand, E_ior, E_ixor, E_ishl, E_ishr, E_idiv, E_irem, E_ineg, E_ladd, E_lsub, E_land, E_lor, E_lcmp, E_lshl, E_lshr, E_lushr, E_i2l, E_l2i, E_i2c, E_dupI, E_popI, E_dup_x1II, E_dup2II, E_dup_x1IR, E_dup2IR, E_dup_x1IN, E_dup2IN, E_dupR, E_popR, E_dup_x1RI, E_dup2RI, E_dup_x1RR, E_dup2RR, E_dup_x1RN, E_dup2RN, E_dupN, E_popN, E_dup_x1NI, E_dup2NI, E_dup_x1NR, E_dup2NR, E_dup_x1NN, E_dup2NN, E_goto, E_if_eq, E_if_ne, E_if_lt, E_if_ge, E_if_gt, E_if_le, E_ic_eq, E_ic_ne, E_ic_lt, E_ic_ge, E_ic_gt, E_ic_le, E_ifnull, E_ifnullN, E_ifnonnull, E_ifnonnullN, E_get, E_gf, E_xv, E_n0, E_ns, E_putI, E_putR, E_putN, E_pf, E_st0, E_sts, E_iaload, E_caload, E_laload, E_aaload, E_alen, E_iast, E_cast, E_last, E_xI, E_xJ, E_xQ, E_xN, E_lk, E_lkn, E_s1, E_s1h, E_s1I, E_s1R, E_s1N, E_s1L, E_s2, E_s2h, E_s2L, E_s2I, E_s2R, E_s2N, E_a1, E_a0, E_aI, E_aR, E_aN, E_aL, Option.isSome_some, eq_self, true_and, and_true, true_or, or_true, ne_eq, not_false_eq_true, not_true_eq_false, reduceIte, reduceCtorEq, Nat.reduceAdd, Nat.reduceBEq, Nat.reduceEqDiff, Option.toList_some, Option.toList_none, List.cons_append, List.nil_append]
      refine ⟨fun h => k102 (Or.inr ?_) _ (by simp), fun h => ?_⟩
      · have : zp (clo N) * pg (clo N) - cn (clo N) R1 ≠ 0 := fun q => h (by rw [q]; rfl)
        rw [hsr1.cnt] at this
        omega
      · have h0 : zp (clo N) * pg (clo N) - cn (clo N) R1 = 0 := (nI_eq (b := 0) (by omega) (by decide)).mp h
        have hnlt : ¬ (fi (clo N) (rmv k L)).length < zp (clo N) * pg (clo N) := by rw [← hsr1.cnt]; omega
        refine sp_callV hz (c_Mod_freePages l G) (ci := 8) (As := []) (rest := []) rfl w_Mod_228 (by decide) hS1.o rfl (Nat.le_of_ble_eq_true rfl) d_Mod_store_82 ⟨B, s, a, R1, pg, ws, fr, V1, fp, rfl, hS1, hfp, ?_⟩ rfl
        have hS1' := hS1
        obtain ⟨F, K, h0', ⟨m1, m3, m5, m21, m25⟩, ⟨t2, t4, t26, tw, ti, tp⟩, ⟨c1, c2, c3, c4, c5⟩, hch, hit, hpg6⟩ := hS1'
        have h13 : M1 (B 13) = some (.inl (G.2.1 1, 4, .inl (F 13))) := h0'.a 13 rfl
        have hin : vp_in (nI (clo N)) 4 := nI_in hc4 (by decide)
        refine sp_run hz _ _ e_Mod_store_85 _ _ _ ?_
        simp only [k_Mod_store_85, E_nil, E_iconst, E_bipush, E_sipush, E_ldc, E_ldc2, E_lconst, E_null, E_iload_n, E_lload_n, E_aload_n, E_istore_n, E_lstore_n, E_astore_n, E_astoreN_n, E_iload, E_lload, E_aload, E_istore, E_lstore, E_astore, E_astoreN, E_ldi, E_ldl, E_lda, E_ldN, E_iinc, E_iadd, E_isub, E_imul, E_iand, E_ior, E_ixor, E_ishl, E_ishr, E_idiv, E_irem, E_ineg, E_ladd, E_lsub, E_land, E_lor, E_lcmp, E_lshl, E_lshr, E_lushr, E_i2l, E_l2i, E_i2c, E_dupI, E_popI, E_dup_x1II, E_dup2II, E_dup_x1IR, E_dup2IR, E_dup_x1IN, E_dup2IN, E_dupR, E_popR, E_dup_x1RI, E_dup2RI, E_dup_x1RR, E_dup2RR, E_dup_x1RN, E_dup2RN, E_dupN, E_popN, E_dup_x1NI, E_dup2NI, E_dup_x1NR, E_dup2NR, E_dup_x1NN, E_dup2NN, E_goto, E_if_eq, E_if_ne, E_if_lt, E_if_ge, E_if_gt, E_if_le, E_ic_eq, E_ic_ne, E_ic_lt, E_ic_ge, E_ic_gt, E_ic_le, E_ifnull, E_ifnullN, E_ifnonnull, E_ifnonnullN, E_get, E_gf, E_xv, E_n0, E_ns, E_putI, E_putR, E_putN, E_pf, E_st0, E_sts, E_iaload, E_caload, E_laload, E_aaload, E_alen, E_iast, E_cast, E_last, E_xI, E_xJ, E_xQ, E_xN, E_lk, E_lkn, E_s1, E_s1h, E_s1I, E_s1R, E_s1N, E_s1L, E_s2, E_s2h, E_s2L, E_s2I, E_s2R, E_s2N, E_a1, E_a0, E_aI, E_aR, E_aN, E_aL, Option.isSome_some, eq_self, true_and, and_true, true_or, or_true, ne_eq, not_false_eq_true, not_true_eq_false, reduceIte, reduceCtorEq, Nat.reduceAdd, Nat.reduceBEq, Nat.reduceEqDiff, Option.toList_some, Option.toList_none, List.cons_append, List.nil_append, h0'.o, h13, rn_13, hin, nI_clamp (show clo N < 2 ^ 31 by omega), tp _ hc4, nI_1]
        refine ⟨fun h => k102 (Or.inl ?_) _ (by simp), fun h => ?_⟩
        · have := (nI_leI (b := 0) (by omega) (by decide)).mp h
          omega
        · have hfp0 : 0 < fp := Nat.not_le.mp fun q => h ((nI_leI (b := 0) (by omega) (by decide)).mpr q)
          have ep : ptE (clo N) (rmv k L) pg (fp, V 14, V 15, V 17, V 18) = (up pg (clo N) (pg (clo N) + 1), rmv k L, (fp - 1, V 14, V 15, V 17, V 18)) := by
            unfold ptE
            rw [if_neg hnlt, if_pos hfp0]
          rw [ep] at h117
          have hpgs : ∀ c, c < 4 → up pg (clo N) (pg (clo N) + 1) c ≤ 6 := fun c hc => by
            by_cases e : c = clo N
            · subst e
              rw [up_s]
              have := hc4
              have h3 : clo N = 0 ∨ clo N = 1 ∨ clo N = 2 ∨ clo N = 3 := by omega
              rcases h3 with h3 | h3 | h3 | h3 <;> rw [h3] <;> omega
            · rw [up_n _ _ e]
              exact hpg6 c hc
          have hfp' : (fp - 1) + up pg (clo N) (pg (clo N) + 1) 0 + up pg (clo N) (pg (clo N) + 1) 1 + up pg (clo N) (pg (clo N) + 1) 2 + up pg (clo N) (pg (clo N) + 1) 3 = 6 := by
            have h3 : clo N = 0 ∨ clo N = 1 ∨ clo N = 2 ∨ clo N = 3 := by omega
            unfold up
            rcases h3 with h3 | h3 | h3 | h3 <;> rw [h3] <;> simp <;> omega
          have hle2 : ∀ c, c < 4 → (fi c (rmv k L)).length ≤ zp c * up pg (clo N) (pg (clo N) + 1) c := fun c hc => by
            refine Nat.le_trans (hle1 c hc) (Nat.mul_le_mul_left _ ?_)
            by_cases e : c = clo N
            · subst e
              rw [up_s]
              omega
            · rw [up_n _ _ e]
              exact Nat.le_refl _
          have hlt2 : (fi (clo N) (rmv k L)).length < zp (clo N) * up pg (clo N) (pg (clo N) + 1) (clo N) := by
            rw [up_s, Nat.mul_add, Nat.mul_one]
            have := hle1 _ hc4
            have := zp_pos _ hc4
            omega
          refine h117 R1 _ V1 _ _ (by simp) ⟨_, K, h0'.arr (j := 13) rfl (upd (F 13) (clo N) (nI (pg (clo N) + 1))), ⟨m1, m3, m5, m21, m25⟩, ⟨t2, t4, t26, tw, ti, fun c hc => ?_⟩, ⟨c1, c2, c3, c4, c5⟩, hch, hit, hpgs⟩ hsr1 rfl v17 (fun j hj => hvs j (fun q => hj (by simp at q; subst q; simp))) (hf.u (j := 13) rfl) (by rw [hsr1.len]; exact space hL41 hle2 hc4 hlt2 hfp') hkd1 hkn1
          show upd (F 13) (clo N) (nI (pg (clo N) + 1)) c = _
          by_cases e : c = clo N
          · subst e
            rw [pk_us, up_s]
          · rw [pk_un e, up_n _ _ e]
            exact tp c hc
    -- the search of the old one
    have k54 : N ≤ 64 → rfs N pg fp = 17 → ∀ (L0 : sp_L), (∀ q ∈ [(0, .ref (B 0)), (1, .long (lN (pkl k))), (3, .int (nI f)), (4, .int (nI (gz g))), (6, .int (nI (clo N)))], q ∈ L0) → sp_W z G M (sp_Q z G M Post 0 0) 9 0 0 54 L0 [] M := by
      intro hN64 hr17 L0 hL0
      refine sp_Lm _ hL0 ?_
      refine sp_run hz _ _ e_Mod_store_54 _ _ _ ?_
      simp only [k_Mod_store_54, E_nil, E_iconst, E_bipush, E_sipush, E_ldc, E_ldc2, E_lconst, E_null, E_iload_n, E_lload_n, E_aload_n, E_istore_n, E_lstore_n, E_astore_n, E_astoreN_n, E_iload, E_lload, E_aload, E_istore, E_lstore, E_astore, E_astoreN, E_ldi, E_ldl, E_lda, E_ldN, E_iinc, E_iadd, E_isub, E_imul, E_iand, E_ior, E_ixor, E_ishl, E_ishr, E_idiv, E_irem, E_ineg, E_ladd, E_lsub, E_land, E_lor, E_lcmp, E_lshl, E_lshr, E_lushr, E_i2l, E_l2i, E_i2c, E_dupI, E_popI, E_dup_x1II, E_dup2II, E_dup_x1IR, E_dup2IR, E_dup_x1IN, E_dup2IN, E_dupR, E_popR, E_dup_x1RI, E_dup2RI, E_dup_x1RR, E_dup2RR, E_dup_x1RN, E_dup2RN, E_dupN, E_popN, E_dup_x1NI, E_dup2NI, E_dup_x1NR, E_dup2NR, E_dup_x1NN, E_dup2NN, E_goto, E_if_eq, E_if_ne, E_if_lt, E_if_ge, E_if_gt, E_if_le, E_ic_eq, E_ic_ne, E_ic_lt, E_ic_ge, E_ic_gt, E_ic_le, E_ifnull, E_ifnullN, E_ifnonnull, E_ifnonnullN, E_get, E_gf, E_xv, E_n0, E_ns, E_putI, E_putR, E_putN, E_pf, E_st0, E_sts, E_iaload, E_caload, E_laload, E_aaload, E_alen, E_iast, E_cast, E_last, E_xI, E_xJ, E_xQ, E_xN, E_lk, E_lkn, E_s1, E_s1h, E_s1I, E_s1R, E_s1N, E_s1L, E_s2, E_s2h, E_s2L, E_s2I, E_s2R, E_s2N, E_a1, E_a0, E_aI, E_aR, E_aN, E_aL, Option.isSome_some, eq_self, true_and, and_true, true_or, or_true, ne_eq, not_false_eq_true, not_true_eq_false, reduceIte, reduceCtorEq, Nat.reduceAdd, Nat.reduceBEq, Nat.reduceEqDiff, Option.toList_some, Option.toList_none, List.cons_append, List.nil_append]
      refine sp_callV hz (c_Mod_find l G) (ci := 8) (As := [.long (lN (pkl k))]) (rest := []) rfl w_Mod_235 (by decide) hS.o rfl (Nat.le_of_ble_eq_true rfl) d_Mod_store_56 ⟨B, s, a, R, pg, ws, fr, V, k, rfl, hS, hk, fun hno => ?_, fun i x hx hxk => ?_⟩ rfl
      · refine sp_run hz _ _ e_Mod_store_59 _ _ _ ?_
        simp only [k_Mod_store_59, E_nil, E_iconst, E_bipush, E_sipush, E_ldc, E_ldc2, E_lconst, E_null, E_iload_n, E_lload_n, E_aload_n, E_istore_n, E_lstore_n, E_astore_n, E_astoreN_n, E_iload, E_lload, E_aload, E_istore, E_lstore, E_astore, E_astoreN, E_ldi, E_ldl, E_lda, E_ldN, E_iinc, E_iadd, E_isub, E_imul, E_iand, E_ior, E_ixor, E_ishl, E_ishr, E_idiv, E_irem, E_ineg, E_ladd, E_lsub, E_land, E_lor, E_lcmp, E_lshl, E_lshr, E_lushr, E_i2l, E_l2i, E_i2c, E_dupI, E_popI, E_dup_x1II, E_dup2II, E_dup_x1IR, E_dup2IR, E_dup_x1IN, E_dup2IN, E_dupR, E_popR, E_dup_x1RI, E_dup2RI, E_dup_x1RR, E_dup2RR, E_dup_x1RN, E_dup2RN, E_dupN, E_popN, E_dup_x1NI, E_dup2NI, E_dup_x1NR, E_dup2NR, E_dup_x1NN, E_dup2NN, E_goto, E_if_eq, E_if_ne, E_if_lt, E_if_ge, E_if_gt, E_if_le, E_ic_eq, E_ic_ne, E_ic_lt, E_ic_ge, E_ic_gt, E_ic_le, E_ifnull, E_ifnullN, E_ifnonnull, E_ifnonnullN, E_get, E_gf, E_xv, E_n0, E_ns, E_putI, E_putR, E_putN, E_pf, E_st0, E_sts, E_iaload, E_caload, E_laload, E_aaload, E_alen, E_iast, E_cast, E_last, E_xI, E_xJ, E_xQ, E_xN, E_lk, E_lkn, E_s1, E_s1h, E_s1I, E_s1R, E_s1N, E_s1L, E_s2, E_s2h, E_s2L, E_s2I, E_s2R, E_s2N, E_a1, E_a0, E_aI, E_aR, E_aN, E_aL, Option.isSome_some, eq_self, true_and, and_true, true_or, or_true, ne_eq, not_false_eq_true, not_true_eq_false, reduceIte, reduceCtorEq, Nat.reduceAdd, Nat.reduceBEq, Nat.reduceEqDiff, Option.toList_some, Option.toList_none, List.cons_append, List.nil_append]
        refine ⟨fun _ => ?_, fun h => absurd (by decide) h⟩
        have e : rmv k L = L := rmv_none fun x hx => by
          obtain ⟨u, hu⟩ := hsr.mem.mp hx
          exact hno _ hu
        exact k72 hN64 hr17 R V M _ (by simp) hS (by rw [e]; exact hsr) (fun _ _ => rfl) (rfr.refl B M)
      · have hlt := (List.getElem?_eq_some_iff.mp hx).1
        have b3 := hbl.2.2.2.1
        refine sp_run hz _ _ e_Mod_store_59 _ _ _ ?_
        simp only [k_Mod_store_59, E_nil, E_iconst, E_bipush, E_sipush, E_ldc, E_ldc2, E_lconst, E_null, E_iload_n, E_lload_n, E_aload_n, E_istore_n, E_lstore_n, E_astore_n, E_astoreN_n, E_iload, E_lload, E_aload, E_istore, E_lstore, E_astore, E_astoreN, E_ldi, E_ldl, E_lda, E_ldN, E_iinc, E_iadd, E_isub, E_imul, E_iand, E_ior, E_ixor, E_ishl, E_ishr, E_idiv, E_irem, E_ineg, E_ladd, E_lsub, E_land, E_lor, E_lcmp, E_lshl, E_lshr, E_lushr, E_i2l, E_l2i, E_i2c, E_dupI, E_popI, E_dup_x1II, E_dup2II, E_dup_x1IR, E_dup2IR, E_dup_x1IN, E_dup2IN, E_dupR, E_popR, E_dup_x1RI, E_dup2RI, E_dup_x1RR, E_dup2RR, E_dup_x1RN, E_dup2RN, E_dupN, E_popN, E_dup_x1NI, E_dup2NI, E_dup_x1NR, E_dup2NR, E_dup_x1NN, E_dup2NN, E_goto, E_if_eq, E_if_ne, E_if_lt, E_if_ge, E_if_gt, E_if_le, E_ic_eq, E_ic_ne, E_ic_lt, E_ic_ge, E_ic_gt, E_ic_le, E_ifnull, E_ifnullN, E_ifnonnull, E_ifnonnullN, E_get, E_gf, E_xv, E_n0, E_ns, E_putI, E_putR, E_putN, E_pf, E_st0, E_sts, E_iaload, E_caload, E_laload, E_aaload, E_alen, E_iast, E_cast, E_last, E_xI, E_xJ, E_xQ, E_xN, E_lk, E_lkn, E_s1, E_s1h, E_s1I, E_s1R, E_s1N, E_s1L, E_s2, E_s2h, E_s2L, E_s2I, E_s2R, E_s2N, E_a1, E_a0, E_aI, E_aR, E_aN, E_aL, Option.isSome_some, eq_self, true_and, and_true, true_or, or_true, ne_eq, not_false_eq_true, not_true_eq_false, reduceIte, reduceCtorEq, Nat.reduceAdd, Nat.reduceBEq, Nat.reduceEqDiff, Option.toList_some, Option.toList_none, List.cons_append, List.nil_append]
        refine ⟨fun h => absurd h (nI_pos (by omega)), fun _ => ?_⟩
        refine sp_callV hz (c_Mod_takeAway l G) (ci := 8) (As := [.int (nI i)]) (rest := []) rfl w_Mod_215 (by decide) hS.o rfl (Nat.le_of_ble_eq_true rfl) d_Mod_store_69 ⟨B, s, a, R, pg, ws, fr, V, i, rfl, hS, hlt, fun M1 hS1 hf1 => ?_⟩ rfl
        have hsr1 := hsr.rm hkd hx
        rw [hxk] at hsr1
        exact k72 hN64 hr17 _ _ M1 _ (by simp) hS1 hsr1 (fun j hj => up_n _ _ (fun q => hj (by rw [q]; simp))) hf1
    refine sp_run hz _ _ e_Mod_store_0 _ _ _ ?_
    simp only [k_Mod_store_0, E_nil, E_iconst, E_bipush, E_sipush, E_ldc, E_ldc2, E_lconst, E_null, E_iload_n, E_lload_n, E_aload_n, E_istore_n, E_lstore_n, E_astore_n, E_astoreN_n, E_iload, E_lload, E_aload, E_istore, E_lstore, E_astore, E_astoreN, E_ldi, E_ldl, E_lda, E_ldN, E_iinc, E_iadd, E_isub, E_imul, E_iand, E_ior, E_ixor, E_ishl, E_ishr, E_idiv, E_irem, E_ineg, E_ladd, E_lsub, E_land, E_lor, E_lcmp, E_lshl, E_lshr, E_lushr, E_i2l, E_l2i, E_i2c, E_dupI, E_popI, E_dup_x1II, E_dup2II, E_dup_x1IR, E_dup2IR, E_dup_x1IN, E_dup2IN, E_dupR, E_popR, E_dup_x1RI, E_dup2RI, E_dup_x1RR, E_dup2RR, E_dup_x1RN, E_dup2RN, E_dupN, E_popN, E_dup_x1NI, E_dup2NI, E_dup_x1NR, E_dup2NR, E_dup_x1NN, E_dup2NN, E_goto, E_if_eq, E_if_ne, E_if_lt, E_if_ge, E_if_gt, E_if_le, E_ic_eq, E_ic_ne, E_ic_lt, E_ic_ge, E_ic_gt, E_ic_le, E_ifnull, E_ifnullN, E_ifnonnull, E_ifnonnullN, E_get, E_gf, E_xv, E_n0, E_ns, E_putI, E_putR, E_putN, E_pf, E_st0, E_sts, E_iaload, E_caload, E_laload, E_aaload, E_alen, E_iast, E_cast, E_last, E_xI, E_xJ, E_xQ, E_xN, E_lk, E_lkn, E_s1, E_s1h, E_s1I, E_s1R, E_s1N, E_s1L, E_s2, E_s2h, E_s2L, E_s2I, E_s2R, E_s2N, E_a1, E_a0, E_aI, E_aR, E_aN, E_aL, Option.isSome_some, eq_self, true_and, and_true, true_or, or_true, ne_eq, not_false_eq_true, not_true_eq_false, reduceIte, reduceCtorEq, Nat.reduceAdd, Nat.reduceBEq, Nat.reduceEqDiff, Option.toList_some, Option.toList_none, List.cons_append, List.nil_append]
    refine sp_callS hz (c_Mod_lengthOf l G) (As := [.long (lN (pkl k))]) (rest := []) w_Mod_199 (by decide) rfl (Nat.le_of_ble_eq_true rfl) d_Mod_store_1 ⟨k, rfl, hk, ?_⟩ rfl
    refine sp_run hz _ _ e_Mod_store_4 _ _ _ ?_
    simp only [k_Mod_store_4, E_nil, E_iconst, E_bipush, E_sipush, E_ldc, E_ldc2, E_lconst, E_null, E_iload_n, E_lload_n, E_aload_n, E_istore_n, E_lstore_n, E_astore_n, E_astoreN_n, E_iload, E_lload, E_aload, E_istore, E_lstore, E_astore, E_astoreN, E_ldi, E_ldl, E_lda, E_ldN, E_iinc, E_iadd, E_isub, E_imul, E_iand, E_ior, E_ixor, E_ishl, E_ishr, E_idiv, E_irem, E_ineg, E_ladd, E_lsub, E_land, E_lor, E_lcmp, E_lshl, E_lshr, E_lushr, E_i2l, E_l2i, E_i2c, E_dupI, E_popI, E_dup_x1II, E_dup2II, E_dup_x1IR, E_dup2IR, E_dup_x1IN, E_dup2IN, E_dupR, E_popR, E_dup_x1RI, E_dup2RI, E_dup_x1RR, E_dup2RR, E_dup_x1RN, E_dup2RN, E_dupN, E_popN, E_dup_x1NI, E_dup2NI, E_dup_x1NR, E_dup2NR, E_dup_x1NN, E_dup2NN, E_goto, E_if_eq, E_if_ne, E_if_lt, E_if_ge, E_if_gt, E_if_le, E_ic_eq, E_ic_ne, E_ic_lt, E_ic_ge, E_ic_gt, E_ic_le, E_ifnull, E_ifnullN, E_ifnonnull, E_ifnonnullN, E_get, E_gf, E_xv, E_n0, E_ns, E_putI, E_putR, E_putN, E_pf, E_st0, E_sts, E_iaload, E_caload, E_laload, E_aaload, E_alen, E_iast, E_cast, E_last, E_xI, E_xJ, E_xQ, E_xN, E_lk, E_lkn, E_s1, E_s1h, E_s1I, E_s1R, E_s1N, E_s1L, E_s2, E_s2h, E_s2L, E_s2I, E_s2R, E_s2N, E_a1, E_a0, E_aI, E_aR, E_aN, E_aL, Option.isSome_some, eq_self, true_and, and_true, true_or, or_true, ne_eq, not_false_eq_true, not_true_eq_false, reduceIte, reduceCtorEq, Nat.reduceAdd, Nat.reduceBEq, Nat.reduceEqDiff, Option.toList_some, Option.toList_none, List.cons_append, List.nil_append, hS.o, rn_25, l25, e0]
    refine sp_callS hz (c_Mod_classOf l G) (As := [.int (nI N)]) (rest := []) w_Mod_203 (by decide) rfl (Nat.le_of_ble_eq_true rfl) d_Mod_store_13 ⟨N, rfl, by omega, ?_⟩ rfl
    refine sp_run hz _ _ e_Mod_store_16 _ _ _ ?_
    simp only [k_Mod_store_16, E_nil, E_iconst, E_bipush, E_sipush, E_ldc, E_ldc2, E_lconst, E_null, E_iload_n, E_lload_n, E_aload_n, E_istore_n, E_lstore_n, E_astore_n, E_astoreN_n, E_iload, E_lload, E_aload, E_istore, E_lstore, E_astore, E_astoreN, E_ldi, E_ldl, E_lda, E_ldN, E_iinc, E_iadd, E_isub, E_imul, E_iand, E_ior, E_ixor, E_ishl, E_ishr, E_idiv, E_irem, E_ineg, E_ladd, E_lsub, E_land, E_lor, E_lcmp, E_lshl, E_lshr, E_lushr, E_i2l, E_l2i, E_i2c, E_dupI, E_popI, E_dup_x1II, E_dup2II, E_dup_x1IR, E_dup2IR, E_dup_x1IN, E_dup2IN, E_dupR, E_popR, E_dup_x1RI, E_dup2RI, E_dup_x1RR, E_dup2RR, E_dup_x1RN, E_dup2RN, E_dupN, E_popN, E_dup_x1NI, E_dup2NI, E_dup_x1NR, E_dup2NR, E_dup_x1NN, E_dup2NN, E_goto, E_if_eq, E_if_ne, E_if_lt, E_if_ge, E_if_gt, E_if_le, E_ic_eq, E_ic_ne, E_ic_lt, E_ic_ge, E_ic_gt, E_ic_le, E_ifnull, E_ifnullN, E_ifnonnull, E_ifnonnullN, E_get, E_gf, E_xv, E_n0, E_ns, E_putI, E_putR, E_putN, E_pf, E_st0, E_sts, E_iaload, E_caload, E_laload, E_aaload, E_alen, E_iast, E_cast, E_last, E_xI, E_xJ, E_xQ, E_xN, E_lk, E_lkn, E_s1, E_s1h, E_s1I, E_s1R, E_s1N, E_s1L, E_s2, E_s2h, E_s2L, E_s2I, E_s2R, E_s2N, E_a1, E_a0, E_aI, E_aR, E_aN, E_aL, Option.isSome_some, eq_self, true_and, and_true, true_or, or_true, ne_eq, not_false_eq_true, not_true_eq_false, reduceIte, reduceCtorEq, Nat.reduceAdd, Nat.reduceBEq, Nat.reduceEqDiff, Option.toList_some, Option.toList_none, List.cons_append, List.nil_append]
    refine ⟨fun h => ?_, fun h => ?_⟩
    · have hN64 : N ≤ 64 := (nI_leI (b := 64) (by omega) (by decide)).mp h
      have hrz := rfs_zf hN64 pg fp
      have hS' := hS
      obtain ⟨F, K, h0', -, ⟨t2, t4, t26, tw, ti, tp⟩, -⟩ := hS'
      have h13 : M (B 13) = some (.inl (G.2.1 1, 4, .inl (F 13))) := h0'.a 13 rfl
      have hin : vp_in (nI (clo N)) 4 := nI_in hc4 (by decide)
      have hpg6 := hS.cl4.2 _ hc4
      refine sp_run hz _ _ e_Mod_store_31 _ _ _ ?_
      simp only [k_Mod_store_31, E_nil, E_iconst, E_bipush, E_sipush, E_ldc, E_ldc2, E_lconst, E_null, E_iload_n, E_lload_n, E_aload_n, E_istore_n, E_lstore_n, E_astore_n, E_astoreN_n, E_iload, E_lload, E_aload, E_istore, E_lstore, E_astore, E_astoreN, E_ldi, E_ldl, E_lda, E_ldN, E_iinc, E_iadd, E_isub, E_imul, E_iand, E_ior, E_ixor, E_ishl, E_ishr, E_idiv, E_irem, E_ineg, E_ladd, E_lsub, E_land, E_lor, E_lcmp, E_lshl, E_lshr, E_lushr, E_i2l, E_l2i, E_i2c, E_dupI, E_popI, E_dup_x1II, E_dup2II, E_dup_x1IR, E_dup2IR, E_dup_x1IN, E_dup2IN, E_dupR, E_popR, E_dup_x1RI, E_dup2RI, E_dup_x1RR, E_dup2RR, E_dup_x1RN, E_dup2RN, E_dupN, E_popN, E_dup_x1NI, E_dup2NI, E_dup_x1NR, E_dup2NR, E_dup_x1NN, E_dup2NN, E_goto, E_if_eq, E_if_ne, E_if_lt, E_if_ge, E_if_gt, E_if_le, E_ic_eq, E_ic_ne, E_ic_lt, E_ic_ge, E_ic_gt, E_ic_le, E_ifnull, E_ifnullN, E_ifnonnull, E_ifnonnullN, E_get, E_gf, E_xv, E_n0, E_ns, E_putI, E_putR, E_putN, E_pf, E_st0, E_sts, E_iaload, E_caload, E_laload, E_aaload, E_alen, E_iast, E_cast, E_last, E_xI, E_xJ, E_xQ, E_xN, E_lk, E_lkn, E_s1, E_s1h, E_s1I, E_s1R, E_s1N, E_s1L, E_s2, E_s2h, E_s2L, E_s2I, E_s2R, E_s2N, E_a1, E_a0, E_aI, E_aR, E_aN, E_aL, Option.isSome_some, eq_self, true_and, and_true, true_or, or_true, ne_eq, not_false_eq_true, not_true_eq_false, reduceIte, reduceCtorEq, Nat.reduceAdd, Nat.reduceBEq, Nat.reduceEqDiff, Option.toList_some, Option.toList_none, List.cons_append, List.nil_append, h0'.o, h13, rn_13, hin, nI_clamp (show clo N < 2 ^ 31 by omega), tp _ hc4]
      refine ⟨fun h => k54 hN64 (by rw [hrz, if_neg (fun q => h (by rw [q.1]; rfl))]) _ (by simp), fun h => ?_⟩
      have hpg0 : pg (clo N) = 0 := (nI_eq (b := 0) (by omega) (by decide)).mp h
      refine sp_callV hz (c_Mod_freePages l G) (ci := 8) (As := []) (rest := []) rfl w_Mod_228 (by decide) hS.o rfl (Nat.le_of_ble_eq_true rfl) d_Mod_store_42 ⟨B, s, a, R, pg, ws, fr, V, fp, rfl, hS, hfp, ?_⟩ rfl
      refine sp_run hz _ _ e_Mod_store_45 _ _ _ ?_
      simp only [k_Mod_store_45, E_nil, E_iconst, E_bipush, E_sipush, E_ldc, E_ldc2, E_lconst, E_null, E_iload_n, E_lload_n, E_aload_n, E_istore_n, E_lstore_n, E_astore_n, E_astoreN_n, E_iload, E_lload, E_aload, E_istore, E_lstore, E_astore, E_astoreN, E_ldi, E_ldl, E_lda, E_ldN, E_iinc, E_iadd, E_isub, E_imul, E_iand, E_ior, E_ixor, E_ishl, E_ishr, E_idiv, E_irem, E_ineg, E_ladd, E_lsub, E_land, E_lor, E_lcmp, E_lshl, E_lshr, E_lushr, E_i2l, E_l2i, E_i2c, E_dupI, E_popI, E_dup_x1II, E_dup2II, E_dup_x1IR, E_dup2IR, E_dup_x1IN, E_dup2IN, E_dupR, E_popR, E_dup_x1RI, E_dup2RI, E_dup_x1RR, E_dup2RR, E_dup_x1RN, E_dup2RN, E_dupN, E_popN, E_dup_x1NI, E_dup2NI, E_dup_x1NR, E_dup2NR, E_dup_x1NN, E_dup2NN, E_goto, E_if_eq, E_if_ne, E_if_lt, E_if_ge, E_if_gt, E_if_le, E_ic_eq, E_ic_ne, E_ic_lt, E_ic_ge, E_ic_gt, E_ic_le, E_ifnull, E_ifnullN, E_ifnonnull, E_ifnonnullN, E_get, E_gf, E_xv, E_n0, E_ns, E_putI, E_putR, E_putN, E_pf, E_st0, E_sts, E_iaload, E_caload, E_laload, E_aaload, E_alen, E_iast, E_cast, E_last, E_xI, E_xJ, E_xQ, E_xN, E_lk, E_lkn, E_s1, E_s1h, E_s1I, E_s1R, E_s1N, E_s1L, E_s2, E_s2h, E_s2L, E_s2I, E_s2R, E_s2N, E_a1, E_a0, E_aI, E_aR, E_aN, E_aL, Option.isSome_some, eq_self, true_and, and_true, true_or, or_true, ne_eq, not_false_eq_true, not_true_eq_false, reduceIte, reduceCtorEq, Nat.reduceAdd, Nat.reduceBEq, Nat.reduceEqDiff, Option.toList_some, Option.toList_none, List.cons_append, List.nil_append]
      refine ⟨fun h => k54 hN64 (by rw [hrz, if_neg (fun q => h (by rw [q.2]; rfl))]) _ (by simp), fun h => ?_⟩
      have hfp0 : fp = 0 := (nI_eq (b := 0) (by omega) (by decide)).mp h
      rw [hrz, if_pos ⟨hpg0, hfp0⟩] at p0
      refine sp_callV hz (c_Mod_outOfMemory l G) (ci := 8) (As := []) (rest := []) rfl w_Mod_232 (by decide) hS.o rfl (Nat.le_of_ble_eq_true rfl) d_Mod_store_49 ⟨B, s, a, R, pg, ws, fr, V, rfl, hS, ha, fun M1 hS1 hf1 => ?_⟩ rfl
      refine sp_run hz _ _ e_Mod_store_52 _ _ _ ?_
      simp only [k_Mod_store_52, E_nil, E_iconst, E_bipush, E_sipush, E_ldc, E_ldc2, E_lconst, E_null, E_iload_n, E_lload_n, E_aload_n, E_istore_n, E_lstore_n, E_astore_n, E_astoreN_n, E_iload, E_lload, E_aload, E_istore, E_lstore, E_astore, E_astoreN, E_ldi, E_ldl, E_lda, E_ldN, E_iinc, E_iadd, E_isub, E_imul, E_iand, E_ior, E_ixor, E_ishl, E_ishr, E_idiv, E_irem, E_ineg, E_ladd, E_lsub, E_land, E_lor, E_lcmp, E_lshl, E_lshr, E_lushr, E_i2l, E_l2i, E_i2c, E_dupI, E_popI, E_dup_x1II, E_dup2II, E_dup_x1IR, E_dup2IR, E_dup_x1IN, E_dup2IN, E_dupR, E_popR, E_dup_x1RI, E_dup2RI, E_dup_x1RR, E_dup2RR, E_dup_x1RN, E_dup2RN, E_dupN, E_popN, E_dup_x1NI, E_dup2NI, E_dup_x1NR, E_dup2NR, E_dup_x1NN, E_dup2NN, E_goto, E_if_eq, E_if_ne, E_if_lt, E_if_ge, E_if_gt, E_if_le, E_ic_eq, E_ic_ne, E_ic_lt, E_ic_ge, E_ic_gt, E_ic_le, E_ifnull, E_ifnullN, E_ifnonnull, E_ifnonnullN, E_get, E_gf, E_xv, E_n0, E_ns, E_putI, E_putR, E_putN, E_pf, E_st0, E_sts, E_iaload, E_caload, E_laload, E_aaload, E_alen, E_iast, E_cast, E_last, E_xI, E_xJ, E_xQ, E_xN, E_lk, E_lkn, E_s1, E_s1h, E_s1I, E_s1R, E_s1N, E_s1L, E_s2, E_s2h, E_s2L, E_s2I, E_s2R, E_s2N, E_a1, E_a0, E_aI, E_aR, E_aN, E_aL, Option.isSome_some, eq_self, true_and, and_true, true_or, or_true, ne_eq, not_false_eq_true, not_true_eq_false, reduceIte, reduceCtorEq, Nat.reduceAdd, Nat.reduceBEq, Nat.reduceEqDiff, Option.toList_some, Option.toList_none, List.cons_append, List.nil_append]
      exact sp_zret hz d_Mod_store_53 rfl (Nat.le_refl _) (Nat.le_refl _) (p0 (by decide) M1 ⟨R, hS1, hsr, hkd⟩ hf1)
    · have hN64 : 64 < N := Nat.not_le.mp fun q => h ((nI_leI (b := 64) (by omega) (by decide)).mpr q)
      rw [rfs_big hN64] at p0
      refine sp_callV hz (c_Mod_tooLarge l G) (ci := 8) (As := []) (rest := []) rfl w_Mod_225 (by decide) hS.o rfl (Nat.le_of_ble_eq_true rfl) d_Mod_store_26 ⟨B, s, a, R, pg, ws, fr, V, rfl, hS, ha, fun M1 hS1 hf1 => ?_⟩ rfl
      refine sp_run hz _ _ e_Mod_store_29 _ _ _ ?_
      simp only [k_Mod_store_29, E_nil, E_iconst, E_bipush, E_sipush, E_ldc, E_ldc2, E_lconst, E_null, E_iload_n, E_lload_n, E_aload_n, E_istore_n, E_lstore_n, E_astore_n, E_astoreN_n, E_iload, E_lload, E_aload, E_istore, E_lstore, E_astore, E_astoreN, E_ldi, E_ldl, E_lda, E_ldN, E_iinc, E_iadd, E_isub, E_imul, E_iand, E_ior, E_ixor, E_ishl, E_ishr, E_idiv, E_irem, E_ineg, E_ladd, E_lsub, E_land, E_lor, E_lcmp, E_lshl, E_lshr, E_lushr, E_i2l, E_l2i, E_i2c, E_dupI, E_popI, E_dup_x1II, E_dup2II, E_dup_x1IR, E_dup2IR, E_dup_x1IN, E_dup2IN, E_dupR, E_popR, E_dup_x1RI, E_dup2RI, E_dup_x1RR, E_dup2RR, E_dup_x1RN, E_dup2RN, E_dupN, E_popN, E_dup_x1NI, E_dup2NI, E_dup_x1NR, E_dup2NR, E_dup_x1NN, E_dup2NN, E_goto, E_if_eq, E_if_ne, E_if_lt, E_if_ge, E_if_gt, E_if_le, E_ic_eq, E_ic_ne, E_ic_lt, E_ic_ge, E_ic_gt, E_ic_le, E_ifnull, E_ifnullN, E_ifnonnull, E_ifnonnullN, E_get, E_gf, E_xv, E_n0, E_ns, E_putI, E_putR, E_putN, E_pf, E_st0, E_sts, E_iaload, E_caload, E_laload, E_aaload, E_alen, E_iast, E_cast, E_last, E_xI, E_xJ, E_xQ, E_xN, E_lk, E_lkn, E_s1, E_s1h, E_s1I, E_s1R, E_s1N, E_s1L, E_s2, E_s2h, E_s2L, E_s2I, E_s2R, E_s2N, E_a1, E_a0, E_aI, E_aR, E_aN, E_aL, Option.isSome_some, eq_self, true_and, and_true, true_or, or_true, ne_eq, not_false_eq_true, not_true_eq_false, reduceIte, reduceCtorEq, Nat.reduceAdd, Nat.reduceBEq, Nat.reduceEqDiff, Option.toList_some, Option.toList_none, List.cons_append, List.nil_append]
      exact sp_zret hz d_Mod_store_30 rfl (Nat.le_refl _) (Nat.le_refl _) (p0 (by decide) M1 ⟨R, hS1, hsr, hkd⟩ hf1)
