/-- a block's run -/
def sp_ex (z : sp_Z) (G : sp_G) (M0 : sp_M) (Q : State → Prop) (nL cs sl : Nat) : List sp_I → Nat → sp_L → List Value → sp_M → Prop
  | [], pc, L, st, M => sp_W z G M0 Q nL cs sl pc L st M
  | (i, n, t, u, v, w) :: r, pc, L, st, M => sp_1 G (sp_W z G M0 Q nL cs sl pc L st M) (fun L' st' => sp_W z G M0 Q nL cs sl t L' st' M) i t u v w L st M (fun L' st' M' => sp_ex z G M0 Q nL cs sl r (pc + n) L' st' M')
section SPR
variable {z : sp_Z} {G : sp_G} {M0 M : sp_M} {Q : State → Prop} {own : String} {cc : ByteArray} {nL cs sl pc : Nat} {L : sp_L} {st rest : List Value}
set_option maxHeartbeats 4000000 in
theorem sp_run1 (hx : (sp_zp z).tables.exec = Jvm.exec) (hb : (sp_zc z).code = cc) (hts : ∀ w ∈ sp_TB, w.before (sp_za z) (sp_zs z) = true) (hown : (sp_zs z).vm.findClass own = some (sp_zm z).cls) (hE : sp_E G (sp_A M0 (sp_zs z).heap.size) (sp_zs z) (sp_zs z).heap)
    {i : Instr} {n t u : Nat} {v : Int32} {w : Int64} (hd : decode cc pc = .ok (i, n)) (hc : sp_ck own nL pc i n t u v w = true) {k : sp_L → List Value → sp_M → Prop} (hk : ∀ L' st' M', k L' st' M' → sp_W z G M0 Q nL cs sl (pc + n) L' st' M')
    (h : sp_1 G (sp_W z G M0 Q nL cs sl pc L st M) (fun L' st' => sp_W z G M0 Q nL cs sl t L' st' M) i t u v w L st M k) : sp_W z G M0 Q nL cs sl pc L st M := by
  cases i with
  | iconst a =>
    simp only [sp_ck, Bool.and_eq_true, Bool.or_eq_true, bne_iff_ne, ne_eq, beq_iff_eq, decide_eq_true_eq] at hc
    obtain ⟨rfl, hv⟩ := hc
    exact fun H locs ls hl hP hA hS => lv_iconst hx hb hd hv (hk _ _ _ h H locs ls hl hP hA hS)
  | bipush a =>
    simp only [sp_ck, Bool.and_eq_true, Bool.or_eq_true, bne_iff_ne, ne_eq, beq_iff_eq, decide_eq_true_eq] at hc
    obtain ⟨rfl, hv⟩ := hc
    exact fun H locs ls hl hP hA hS => lv_bipush hx hb hd hv (hk _ _ _ h H locs ls hl hP hA hS)
  | sipush a =>
    simp only [sp_ck, Bool.and_eq_true, Bool.or_eq_true, bne_iff_ne, ne_eq, beq_iff_eq, decide_eq_true_eq] at hc
    obtain ⟨rfl, hv⟩ := hc
    exact fun H locs ls hl hP hA hS => lv_sipush hx hb hd hv (hk _ _ _ h H locs ls hl hP hA hS)
  | ldc a =>
    simp only [sp_ck, Bool.and_eq_true, Bool.or_eq_true, bne_iff_ne, ne_eq, beq_iff_eq, decide_eq_true_eq] at hc
    obtain ⟨rfl, hv⟩ := hc
    simp only [sp_1] at h
    by_cases hu : u = 1
    · rw [if_pos hu] at h
      exact fun H locs ls hl hP hA hS => lv_ldc hx hb hown (hts _ (sp_in_e (hv.resolve_left (fun q => q hu)))) hd (hk _ _ _ h H locs ls hl hP hA hS)
    · rw [if_neg hu] at h
      exact h
  | ldc2_w a =>
    simp only [sp_ck, Bool.and_eq_true, Bool.or_eq_true, bne_iff_ne, ne_eq, beq_iff_eq, decide_eq_true_eq] at hc
    obtain ⟨rfl, hv⟩ := hc
    simp only [sp_1] at h
    by_cases hu : u = 1
    · rw [if_pos hu] at h
      exact fun H locs ls hl hP hA hS => lv_ldc2 hx hb hown (hts _ (sp_in_e (hv.resolve_left (fun q => q hu)))) hd (hk _ _ _ h H locs ls hl hP hA hS)
    · rw [if_neg hu] at h
      exact h
  | lconst a =>
    simp only [sp_ck, Bool.and_eq_true, Bool.or_eq_true, bne_iff_ne, ne_eq, beq_iff_eq, decide_eq_true_eq] at hc
    obtain ⟨rfl, hv⟩ := hc
    exact fun H locs ls hl hP hA hS => lv_lconst hx hb hd hv (hk _ _ _ h H locs ls hl hP hA hS)
  | aconst_null =>
    simp only [sp_ck, Bool.and_eq_true, Bool.or_eq_true, bne_iff_ne, ne_eq, beq_iff_eq, decide_eq_true_eq] at hc
    subst hc
    exact fun H locs ls hl hP hA hS => lv_null hx hb hd (hk _ _ _ h H locs ls hl hP hA hS)
  | iload_n a =>
    simp only [sp_ck, Bool.and_eq_true, Bool.or_eq_true, bne_iff_ne, ne_eq, beq_iff_eq, decide_eq_true_eq] at hc
    obtain ⟨rfl, hv⟩ := hc
    rcases sp_xv_e h with h | ⟨x, hx1, h⟩
    · exact h
    · rcases sp_xi_e h with h | ⟨y, r, e, h⟩
      · exact h
      · cases e
        exact fun H locs ls hl hP hA hS => lv_iload_n hx hb hd hv (sp_lk_at hl hx1) (hk _ _ _ h H locs ls hl hP hA hS)
  | iload a =>
    simp only [sp_ck, Bool.and_eq_true, Bool.or_eq_true, bne_iff_ne, ne_eq, beq_iff_eq, decide_eq_true_eq] at hc
    obtain ⟨rfl, hv⟩ := hc
    subst hv
    rcases sp_xv_e h with h | ⟨x, hx1, h⟩
    · exact h
    · rcases sp_xi_e h with h | ⟨y, r, e, h⟩
      · exact h
      · cases e
        exact fun H locs ls hl hP hA hS => lv_iload hx hb hd (sp_lk_at hl hx1) (hk _ _ _ h H locs ls hl hP hA hS)
  | lload_n a =>
    simp only [sp_ck, Bool.and_eq_true, Bool.or_eq_true, bne_iff_ne, ne_eq, beq_iff_eq, decide_eq_true_eq] at hc
    obtain ⟨rfl, hv⟩ := hc
    rcases sp_xv_e h with h | ⟨x, hx1, h⟩
    · exact h
    · rcases sp_xl_e h with h | ⟨y, r, e, h⟩
      · exact h
      · cases e
        exact fun H locs ls hl hP hA hS => lv_lload_n hx hb hd hv (sp_lk_at hl hx1) (hk _ _ _ h H locs ls hl hP hA hS)
  | lload a =>
    simp only [sp_ck, Bool.and_eq_true, Bool.or_eq_true, bne_iff_ne, ne_eq, beq_iff_eq, decide_eq_true_eq] at hc
    obtain ⟨rfl, hv⟩ := hc
    subst hv
    rcases sp_xv_e h with h | ⟨x, hx1, h⟩
    · exact h
    · rcases sp_xl_e h with h | ⟨y, r, e, h⟩
      · exact h
      · cases e
        exact fun H locs ls hl hP hA hS => lv_lload hx hb hd (sp_lk_at hl hx1) (hk _ _ _ h H locs ls hl hP hA hS)
  | aload_n a =>
    simp only [sp_ck, Bool.and_eq_true, Bool.or_eq_true, bne_iff_ne, ne_eq, beq_iff_eq, decide_eq_true_eq] at hc
    obtain ⟨rfl, hv⟩ := hc
    rcases sp_xv_e h with h | ⟨x, hx1, h⟩
    · exact h
    · rcases sp_xa_e h with h | ⟨y, r, e, h⟩ | ⟨r, e, h⟩
      · exact h
      · cases e
        exact fun H locs ls hl hP hA hS => lv_aload_n hx hb hd hv (sp_lk_at hl hx1) (hk _ _ _ h H locs ls hl hP hA hS)
      · cases e
        exact fun H locs ls hl hP hA hS => lv_aload_nN hx hb hd hv (sp_lk_at hl hx1) (hk _ _ _ h H locs ls hl hP hA hS)
  | aload a =>
    simp only [sp_ck, Bool.and_eq_true, Bool.or_eq_true, bne_iff_ne, ne_eq, beq_iff_eq, decide_eq_true_eq] at hc
    obtain ⟨rfl, hv⟩ := hc
    subst hv
    rcases sp_xv_e h with h | ⟨x, hx1, h⟩
    · exact h
    · rcases sp_xa_e h with h | ⟨y, r, e, h⟩ | ⟨r, e, h⟩
      · exact h
      · cases e
        exact fun H locs ls hl hP hA hS => lv_aload hx hb hd (sp_lk_at hl hx1) (hk _ _ _ h H locs ls hl hP hA hS)
      · cases e
        exact fun H locs ls hl hP hA hS => lv_aloadN hx hb hd (sp_lk_at hl hx1) (hk _ _ _ h H locs ls hl hP hA hS)
  | istore_n a =>
    simp only [sp_ck, Bool.and_eq_true, Bool.or_eq_true, bne_iff_ne, ne_eq, beq_iff_eq, decide_eq_true_eq] at hc
    obtain ⟨⟨rfl, hv⟩, hn⟩ := hc
    rcases sp_xi_e h with h | ⟨x, r, rfl, h⟩
    · exact h
    · exact fun H locs ls hl hP hA hS => lv_istore_n hx hb hd hv hl hn rfl (fun ls' hl' => hk _ _ _ h H locs ls' (sp_has1 hl') hP hA hS)
  | lstore_n a =>
    simp only [sp_ck, Bool.and_eq_true, Bool.or_eq_true, bne_iff_ne, ne_eq, beq_iff_eq, decide_eq_true_eq] at hc
    obtain ⟨⟨rfl, hv⟩, hn⟩ := hc
    rcases sp_xl_e h with h | ⟨x, r, rfl, h⟩
    · exact h
    · exact fun H locs ls hl hP hA hS => lv_lstore_n hx hb hd hv hl hn rfl (fun ls' hl' => hk _ _ _ h H locs ls' (sp_has2 hl') hP hA hS)
  | astore_n a =>
    simp only [sp_ck, Bool.and_eq_true, Bool.or_eq_true, bne_iff_ne, ne_eq, beq_iff_eq, decide_eq_true_eq] at hc
    obtain ⟨⟨rfl, hv⟩, hn⟩ := hc
    rcases sp_xa_e h with h | ⟨x, r, rfl, h⟩ | ⟨r, rfl, h⟩
    · exact h
    · exact fun H locs ls hl hP hA hS => lv_astore_n hx hb hd hv hl hn rfl (fun ls' hl' => hk _ _ _ h H locs ls' (sp_has1 hl') hP hA hS)
    · exact fun H locs ls hl hP hA hS => lv_astore_nN hx hb hd hv hl hn rfl (fun ls' hl' => hk _ _ _ h H locs ls' (sp_has1 hl') hP hA hS)
  | istore a =>
    simp only [sp_ck, Bool.and_eq_true, Bool.or_eq_true, bne_iff_ne, ne_eq, beq_iff_eq, decide_eq_true_eq] at hc
    obtain ⟨⟨rfl, hv⟩, hn⟩ := hc
    subst hv
    rcases sp_xi_e h with h | ⟨x, r, rfl, h⟩
    · exact h
    · exact fun H locs ls hl hP hA hS => lv_istore hx hb hd hl hn rfl (fun ls' hl' => hk _ _ _ h H locs ls' (sp_has1 hl') hP hA hS)
  | lstore a =>
    simp only [sp_ck, Bool.and_eq_true, Bool.or_eq_true, bne_iff_ne, ne_eq, beq_iff_eq, decide_eq_true_eq] at hc
    obtain ⟨⟨rfl, hv⟩, hn⟩ := hc
    subst hv
    rcases sp_xl_e h with h | ⟨x, r, rfl, h⟩
    · exact h
    · exact fun H locs ls hl hP hA hS => lv_lstore hx hb hd hl hn rfl (fun ls' hl' => hk _ _ _ h H locs ls' (sp_has2 hl') hP hA hS)
  | astore a =>
    simp only [sp_ck, Bool.and_eq_true, Bool.or_eq_true, bne_iff_ne, ne_eq, beq_iff_eq, decide_eq_true_eq] at hc
    obtain ⟨⟨rfl, hv⟩, hn⟩ := hc
    subst hv
    rcases sp_xa_e h with h | ⟨x, r, rfl, h⟩ | ⟨r, rfl, h⟩
    · exact h
    · exact fun H locs ls hl hP hA hS => lv_astore hx hb hd hl hn rfl (fun ls' hl' => hk _ _ _ h H locs ls' (sp_has1 hl') hP hA hS)
    · exact fun H locs ls hl hP hA hS => lv_astoreN hx hb hd hl hn rfl (fun ls' hl' => hk _ _ _ h H locs ls' (sp_has1 hl') hP hA hS)
  | iinc a b =>
    simp only [sp_ck, Bool.and_eq_true, Bool.or_eq_true, bne_iff_ne, ne_eq, beq_iff_eq, decide_eq_true_eq] at hc
    obtain ⟨⟨⟨rfl, hv⟩, hw⟩, hn⟩ := hc
    subst hv
    rcases sp_xv_e h with h | ⟨x, hx1, h⟩
    · exact h
    · rcases sp_xi_e h with h | ⟨y, r, e, h⟩
      · exact h
      · cases e
        obtain ⟨j, hj⟩ := List.getElem?_of_mem (sp_lk_mem _ _ _ hx1)
        exact fun H locs ls hl hP hA hS => lv_iinc (v := y + v) hx hb hd hl hj (by rw [hw]) hn rfl (fun ls' hl' => hk _ _ _ h H locs ls' (sp_has1 hl') hP hA hS)
  | iadd =>
    simp only [sp_ck, Bool.and_eq_true, Bool.or_eq_true, bne_iff_ne, ne_eq, beq_iff_eq, decide_eq_true_eq] at hc
    subst hc
    rcases sp_xi_e h with h | ⟨y, r, rfl, h⟩
    · exact h
    · rcases sp_xi_e h with h | ⟨x, r, rfl, h⟩
      · exact h
      · exact fun H locs ls hl hP hA hS => lv_iadd hx hb hd (hk _ _ _ h H locs ls hl hP hA hS)
  | isub =>
    simp only [sp_ck, Bool.and_eq_true, Bool.or_eq_true, bne_iff_ne, ne_eq, beq_iff_eq, decide_eq_true_eq] at hc
    subst hc
    rcases sp_xi_e h with h | ⟨y, r, rfl, h⟩
    · exact h
    · rcases sp_xi_e h with h | ⟨x, r, rfl, h⟩
      · exact h
      · exact fun H locs ls hl hP hA hS => lv_isub hx hb hd (hk _ _ _ h H locs ls hl hP hA hS)
  | imul =>
    simp only [sp_ck, Bool.and_eq_true, Bool.or_eq_true, bne_iff_ne, ne_eq, beq_iff_eq, decide_eq_true_eq] at hc
    subst hc
    rcases sp_xi_e h with h | ⟨y, r, rfl, h⟩
    · exact h
    · rcases sp_xi_e h with h | ⟨x, r, rfl, h⟩
      · exact h
      · exact fun H locs ls hl hP hA hS => lv_imul hx hb hd (hk _ _ _ h H locs ls hl hP hA hS)
  | iand =>
    simp only [sp_ck, Bool.and_eq_true, Bool.or_eq_true, bne_iff_ne, ne_eq, beq_iff_eq, decide_eq_true_eq] at hc
    subst hc
    rcases sp_xi_e h with h | ⟨y, r, rfl, h⟩
    · exact h
    · rcases sp_xi_e h with h | ⟨x, r, rfl, h⟩
      · exact h
      · exact fun H locs ls hl hP hA hS => lv_iand hx hb hd (hk _ _ _ h H locs ls hl hP hA hS)
  | ior =>
    simp only [sp_ck, Bool.and_eq_true, Bool.or_eq_true, bne_iff_ne, ne_eq, beq_iff_eq, decide_eq_true_eq] at hc
    subst hc
    rcases sp_xi_e h with h | ⟨y, r, rfl, h⟩
    · exact h
    · rcases sp_xi_e h with h | ⟨x, r, rfl, h⟩
      · exact h
      · exact fun H locs ls hl hP hA hS => lv_ior hx hb hd (hk _ _ _ h H locs ls hl hP hA hS)
  | ixor =>
    simp only [sp_ck, Bool.and_eq_true, Bool.or_eq_true, bne_iff_ne, ne_eq, beq_iff_eq, decide_eq_true_eq] at hc
    subst hc
    rcases sp_xi_e h with h | ⟨y, r, rfl, h⟩
    · exact h
    · rcases sp_xi_e h with h | ⟨x, r, rfl, h⟩
      · exact h
      · exact fun H locs ls hl hP hA hS => lv_ixor hx hb hd (hk _ _ _ h H locs ls hl hP hA hS)
  | ishl =>
    simp only [sp_ck, Bool.and_eq_true, Bool.or_eq_true, bne_iff_ne, ne_eq, beq_iff_eq, decide_eq_true_eq] at hc
    subst hc
    rcases sp_xi_e h with h | ⟨y, r, rfl, h⟩
    · exact h
    · rcases sp_xi_e h with h | ⟨x, r, rfl, h⟩
      · exact h
      · exact fun H locs ls hl hP hA hS => lv_ishl hx hb hd (hk _ _ _ h H locs ls hl hP hA hS)
  | ishr =>
    simp only [sp_ck, Bool.and_eq_true, Bool.or_eq_true, bne_iff_ne, ne_eq, beq_iff_eq, decide_eq_true_eq] at hc
    subst hc
    rcases sp_xi_e h with h | ⟨y, r, rfl, h⟩
    · exact h
    · rcases sp_xi_e h with h | ⟨x, r, rfl, h⟩
      · exact h
      · exact fun H locs ls hl hP hA hS => lv_ishr hx hb hd (hk _ _ _ h H locs ls hl hP hA hS)
  | idiv =>
    simp only [sp_ck, Bool.and_eq_true, Bool.or_eq_true, bne_iff_ne, ne_eq, beq_iff_eq, decide_eq_true_eq] at hc
    subst hc
    rcases sp_xi_e h with h | ⟨y, r, rfl, h⟩
    · exact h
    · rcases sp_xi_e h with h | ⟨x, r, rfl, h0, h⟩
      · exact h
      · exact fun H locs ls hl hP hA hS => lv_idiv hx hb hd h0 (hk _ _ _ h H locs ls hl hP hA hS)
  | irem =>
    simp only [sp_ck, Bool.and_eq_true, Bool.or_eq_true, bne_iff_ne, ne_eq, beq_iff_eq, decide_eq_true_eq] at hc
    subst hc
    rcases sp_xi_e h with h | ⟨y, r, rfl, h⟩
    · exact h
    · rcases sp_xi_e h with h | ⟨x, r, rfl, h0, h⟩
      · exact h
      · exact fun H locs ls hl hP hA hS => lv_irem hx hb hd h0 (hk _ _ _ h H locs ls hl hP hA hS)
  | ineg =>
    simp only [sp_ck, Bool.and_eq_true, Bool.or_eq_true, bne_iff_ne, ne_eq, beq_iff_eq, decide_eq_true_eq] at hc
    subst hc
    rcases sp_xi_e h with h | ⟨x, r, rfl, h⟩
    · exact h
    · exact fun H locs ls hl hP hA hS => lv_ineg hx hb hd (hk _ _ _ h H locs ls hl hP hA hS)
  | ladd =>
    simp only [sp_ck, Bool.and_eq_true, Bool.or_eq_true, bne_iff_ne, ne_eq, beq_iff_eq, decide_eq_true_eq] at hc
    subst hc
    rcases sp_xl_e h with h | ⟨y, r, rfl, h⟩
    · exact h
    · rcases sp_xl_e h with h | ⟨x, r, rfl, h⟩
      · exact h
      · exact fun H locs ls hl hP hA hS => lv_ladd hx hb hd (hk _ _ _ h H locs ls hl hP hA hS)
  | lsub =>
    simp only [sp_ck, Bool.and_eq_true, Bool.or_eq_true, bne_iff_ne, ne_eq, beq_iff_eq, decide_eq_true_eq] at hc
    subst hc
    rcases sp_xl_e h with h | ⟨y, r, rfl, h⟩
    · exact h
    · rcases sp_xl_e h with h | ⟨x, r, rfl, h⟩
      · exact h
      · exact fun H locs ls hl hP hA hS => lv_lsub hx hb hd (hk _ _ _ h H locs ls hl hP hA hS)
  | land =>
    simp only [sp_ck, Bool.and_eq_true, Bool.or_eq_true, bne_iff_ne, ne_eq, beq_iff_eq, decide_eq_true_eq] at hc
    subst hc
    rcases sp_xl_e h with h | ⟨y, r, rfl, h⟩
    · exact h
    · rcases sp_xl_e h with h | ⟨x, r, rfl, h⟩
      · exact h
      · exact fun H locs ls hl hP hA hS => lv_land hx hb hd (hk _ _ _ h H locs ls hl hP hA hS)
  | lor =>
    simp only [sp_ck, Bool.and_eq_true, Bool.or_eq_true, bne_iff_ne, ne_eq, beq_iff_eq, decide_eq_true_eq] at hc
    subst hc
    rcases sp_xl_e h with h | ⟨y, r, rfl, h⟩
    · exact h
    · rcases sp_xl_e h with h | ⟨x, r, rfl, h⟩
      · exact h
      · exact fun H locs ls hl hP hA hS => lv_lor hx hb hd (hk _ _ _ h H locs ls hl hP hA hS)
  | lcmp =>
    simp only [sp_ck, Bool.and_eq_true, Bool.or_eq_true, bne_iff_ne, ne_eq, beq_iff_eq, decide_eq_true_eq] at hc
    subst hc
    rcases sp_xl_e h with h | ⟨y, r, rfl, h⟩
    · exact h
    · rcases sp_xl_e h with h | ⟨x, r, rfl, h⟩
      · exact h
      · exact fun H locs ls hl hP hA hS => W.lcmp hx hb hd (hk _ _ _ h H locs ls hl hP hA hS)
  | lshl =>
    simp only [sp_ck, Bool.and_eq_true, Bool.or_eq_true, bne_iff_ne, ne_eq, beq_iff_eq, decide_eq_true_eq] at hc
    subst hc
    rcases sp_xi_e h with h | ⟨y, r, rfl, h⟩
    · exact h
    · rcases sp_xl_e h with h | ⟨x, r, rfl, h⟩
      · exact h
      · exact fun H locs ls hl hP hA hS => lv_lshl hx hb hd rfl (hk _ _ _ h H locs ls hl hP hA hS)
  | lshr =>
    simp only [sp_ck, Bool.and_eq_true, Bool.or_eq_true, bne_iff_ne, ne_eq, beq_iff_eq, decide_eq_true_eq] at hc
    subst hc
    rcases sp_xi_e h with h | ⟨y, r, rfl, h⟩
    · exact h
    · rcases sp_xl_e h with h | ⟨x, r, rfl, h⟩
      · exact h
      · exact fun H locs ls hl hP hA hS => lv_lshr hx hb hd rfl (hk _ _ _ h H locs ls hl hP hA hS)
  | lushr =>
    simp only [sp_ck, Bool.and_eq_true, Bool.or_eq_true, bne_iff_ne, ne_eq, beq_iff_eq, decide_eq_true_eq] at hc
    subst hc
    rcases sp_xi_e h with h | ⟨y, r, rfl, h⟩
    · exact h
    · rcases sp_xl_e h with h | ⟨x, r, rfl, h⟩
      · exact h
      · exact fun H locs ls hl hP hA hS => lv_lushr hx hb hd rfl (hk _ _ _ h H locs ls hl hP hA hS)
  | i2l =>
    simp only [sp_ck, Bool.and_eq_true, Bool.or_eq_true, bne_iff_ne, ne_eq, beq_iff_eq, decide_eq_true_eq] at hc
    subst hc
    rcases sp_xi_e h with h | ⟨x, r, rfl, h⟩
    · exact h
    · exact fun H locs ls hl hP hA hS => lv_i2l hx hb hd rfl (hk _ _ _ h H locs ls hl hP hA hS)
  | l2i =>
    simp only [sp_ck, Bool.and_eq_true, Bool.or_eq_true, bne_iff_ne, ne_eq, beq_iff_eq, decide_eq_true_eq] at hc
    subst hc
    rcases sp_xl_e h with h | ⟨x, r, rfl, h⟩
    · exact h
    · exact fun H locs ls hl hP hA hS => lv_l2i hx hb hd rfl (hk _ _ _ h H locs ls hl hP hA hS)
  | i2c =>
    simp only [sp_ck, Bool.and_eq_true, Bool.or_eq_true, bne_iff_ne, ne_eq, beq_iff_eq, decide_eq_true_eq] at hc
    subst hc
    rcases sp_xi_e h with h | ⟨x, r, rfl, h⟩
    · exact h
    · exact fun H locs ls hl hP hA hS => lv_i2c hx hb hd rfl (hk _ _ _ h H locs ls hl hP hA hS)
  | dup =>
    simp only [sp_ck, Bool.and_eq_true, Bool.or_eq_true, bne_iff_ne, ne_eq, beq_iff_eq, decide_eq_true_eq] at hc
    subst hc
    rcases sp_x1_e h with h | ⟨x, r, rfl, h1, h⟩
    · exact h
    · exact fun H locs ls hl hP hA hS => lv_dup hx hb hd h1 (hk _ _ _ h H locs ls hl hP hA hS)
  | pop =>
    simp only [sp_ck, Bool.and_eq_true, Bool.or_eq_true, bne_iff_ne, ne_eq, beq_iff_eq, decide_eq_true_eq] at hc
    subst hc
    rcases sp_x1_e h with h | ⟨x, r, rfl, h1, h⟩
    · exact h
    · exact fun H locs ls hl hP hA hS => lv_pop hx hb hd h1 (hk _ _ _ h H locs ls hl hP hA hS)
  | dup_x1 =>
    simp only [sp_ck, Bool.and_eq_true, Bool.or_eq_true, bne_iff_ne, ne_eq, beq_iff_eq, decide_eq_true_eq] at hc
    subst hc
    rcases sp_x1_e h with h | ⟨x, r, rfl, h1, h⟩
    · exact h
    · rcases sp_x1_e h with h | ⟨y, r, rfl, h2, h⟩
      · exact h
      · exact fun H locs ls hl hP hA hS => lv_dup_x1 hx hb hd h1 h2 (hk _ _ _ h H locs ls hl hP hA hS)
  | dup2 =>
    simp only [sp_ck, Bool.and_eq_true, Bool.or_eq_true, bne_iff_ne, ne_eq, beq_iff_eq, decide_eq_true_eq] at hc
    subst hc
    rcases sp_x1_e h with h | ⟨x, r, rfl, h1, h⟩
    · exact h
    · rcases sp_x1_e h with h | ⟨y, r, rfl, h2, h⟩
      · exact h
      · exact fun H locs ls hl hP hA hS => lv_dup2_11 hx hb hd h1 h2 (hk _ _ _ h H locs ls hl hP hA hS)
  | dup_x2 =>
    simp only [sp_ck, Bool.and_eq_true, Bool.or_eq_true, bne_iff_ne, ne_eq, beq_iff_eq, decide_eq_true_eq] at hc
    subst hc
    rcases sp_x1_e h with h | ⟨x, r, rfl, h1, h⟩
    · exact h
    · rcases sp_x1_e h with h | ⟨y, r, rfl, h2, h⟩
      · exact h
      · rcases sp_x1_e h with h | ⟨y2, r, rfl, h3, h⟩
        · exact h
        · exact fun H locs ls hl hP hA hS => lv_dup_x2 hx hb hd h1 h2 h3 (hk _ _ _ h H locs ls hl hP hA hS)
  | goto a =>
    simp only [sp_ck, Bool.and_eq_true, Bool.or_eq_true, bne_iff_ne, ne_eq, beq_iff_eq, decide_eq_true_eq] at hc
    obtain ⟨rfl, hv⟩ := hc
    exact fun H locs ls hl hP hA hS => lv_goto hx hb hd hv (h H locs ls hl hP hA hS)
  | ifCond a b =>
    simp only [sp_ck, Bool.and_eq_true, Bool.or_eq_true, bne_iff_ne, ne_eq, beq_iff_eq, decide_eq_true_eq] at hc
    obtain ⟨rfl, hv⟩ := hc
    rcases sp_xi_e h with h | ⟨x, r, rfl, h⟩
    · exact h
    · cases a with
      | eq => exact fun H locs ls hl hP hA hS => lv_if_eq hx hb hd hv (fun q => h.1 q H locs ls hl hP hA hS) (fun q => hk _ _ _ (h.2 q) H locs ls hl hP hA hS)
      | ne => exact fun H locs ls hl hP hA hS => lv_if_ne hx hb hd hv (fun q => h.1 q H locs ls hl hP hA hS) (fun q => hk _ _ _ (h.2 q) H locs ls hl hP hA hS)
      | lt => exact fun H locs ls hl hP hA hS => lv_if_lt hx hb hd hv (fun q => h.1 q H locs ls hl hP hA hS) (fun q => hk _ _ _ (h.2 q) H locs ls hl hP hA hS)
      | ge => exact fun H locs ls hl hP hA hS => lv_if_ge hx hb hd hv (fun q => h.1 q H locs ls hl hP hA hS) (fun q => hk _ _ _ (h.2 q) H locs ls hl hP hA hS)
      | gt => exact fun H locs ls hl hP hA hS => lv_if_gt hx hb hd hv (fun q => h.1 q H locs ls hl hP hA hS) (fun q => hk _ _ _ (h.2 q) H locs ls hl hP hA hS)
      | le => exact fun H locs ls hl hP hA hS => lv_if_le hx hb hd hv (fun q => h.1 q H locs ls hl hP hA hS) (fun q => hk _ _ _ (h.2 q) H locs ls hl hP hA hS)
  | if_icmp a b =>
    simp only [sp_ck, Bool.and_eq_true, Bool.or_eq_true, bne_iff_ne, ne_eq, beq_iff_eq, decide_eq_true_eq] at hc
    obtain ⟨rfl, hv⟩ := hc
    rcases sp_xi_e h with h | ⟨y, r, rfl, h⟩
    · exact h
    · rcases sp_xi_e h with h | ⟨x, r, rfl, h⟩
      · exact h
      · cases a with
        | eq => exact fun H locs ls hl hP hA hS => lv_icmp_eq hx hb hd hv (fun q => h.1 q H locs ls hl hP hA hS) (fun q => hk _ _ _ (h.2 q) H locs ls hl hP hA hS)
        | ne => exact fun H locs ls hl hP hA hS => lv_icmp_ne hx hb hd hv (fun q => h.1 q H locs ls hl hP hA hS) (fun q => hk _ _ _ (h.2 q) H locs ls hl hP hA hS)
        | lt => exact fun H locs ls hl hP hA hS => lv_icmp_lt hx hb hd hv (fun q => h.1 q H locs ls hl hP hA hS) (fun q => hk _ _ _ (h.2 q) H locs ls hl hP hA hS)
        | ge => exact fun H locs ls hl hP hA hS => lv_icmp_ge hx hb hd hv (fun q => h.1 q H locs ls hl hP hA hS) (fun q => hk _ _ _ (h.2 q) H locs ls hl hP hA hS)
        | gt => exact fun H locs ls hl hP hA hS => lv_icmp_gt hx hb hd hv (fun q => h.1 q H locs ls hl hP hA hS) (fun q => hk _ _ _ (h.2 q) H locs ls hl hP hA hS)
        | le => exact fun H locs ls hl hP hA hS => lv_icmp_le hx hb hd hv (fun q => h.1 q H locs ls hl hP hA hS) (fun q => hk _ _ _ (h.2 q) H locs ls hl hP hA hS)
  | ifnull a =>
    simp only [sp_ck, Bool.and_eq_true, Bool.or_eq_true, bne_iff_ne, ne_eq, beq_iff_eq, decide_eq_true_eq] at hc
    obtain ⟨rfl, hv⟩ := hc
    rcases sp_xa_e h with h | ⟨x, r, rfl, h⟩ | ⟨r, rfl, h⟩
    · exact h
    · exact fun H locs ls hl hP hA hS => lv_ifnull hx hb hd (hk _ _ _ h H locs ls hl hP hA hS)
    · exact fun H locs ls hl hP hA hS => lv_ifnullN hx hb hd hv (h H locs ls hl hP hA hS)
  | ifnonnull a =>
    simp only [sp_ck, Bool.and_eq_true, Bool.or_eq_true, bne_iff_ne, ne_eq, beq_iff_eq, decide_eq_true_eq] at hc
    obtain ⟨rfl, hv⟩ := hc
    rcases sp_xa_e h with h | ⟨x, r, rfl, h⟩ | ⟨r, rfl, h⟩
    · exact h
    · exact fun H locs ls hl hP hA hS => lv_ifnonnull hx hb hd hv (h H locs ls hl hP hA hS)
    · exact fun H locs ls hl hP hA hS => lv_ifnonnullN hx hb hd (hk _ _ _ h H locs ls hl hP hA hS)
  | getfield a =>
    simp only [sp_ck, Bool.and_eq_true, Bool.or_eq_true, bne_iff_ne, ne_eq, beq_iff_eq, decide_eq_true_eq] at hc
    obtain ⟨rfl, hv⟩ := hc
    rcases sp_xa_e h with h | ⟨x, r, rfl, h⟩ | ⟨r, rfl, h⟩
    · exact h
    · rcases sp_xo_e h with h | ⟨ci, fs, hM, h⟩
      · exact h
      · by_cases hci : ci = t
        · subst hci
          rw [if_pos rfl] at h
          rcases sp_xv_e h with h | ⟨y, hy, h⟩
          · exact h
          · exact sp_get hx hb hts hown hE hv hM ((sp_nth_eq _ _).symm.trans hy) hd (hk _ _ _ h)
        · rw [if_neg hci] at h
          exact h
    · exact h
  | putfield a =>
    simp only [sp_ck, Bool.and_eq_true, Bool.or_eq_true, bne_iff_ne, ne_eq, beq_iff_eq, decide_eq_true_eq] at hc
    obtain ⟨rfl, hv, hw⟩ := hc
    obtain ⟨C, T, N, hc1, hk1, hl1⟩ := sp_fl_e hv
    unfold sp_ft at hw
    rw [hc1] at hw
    simp only [Bool.and_eq_true, beq_iff_eq] at hw
    obtain ⟨hfin, hw⟩ := hw
    simp only [sp_1] at h
    by_cases hv0 : v = 0
    · subst hv0
      rw [if_pos rfl] at h
      rcases sp_xi_e h with h | ⟨y, r, rfl, h⟩
      · exact h
      · rcases sp_xa_e h with h | ⟨x, r, rfl, h⟩ | ⟨r, rfl, h⟩
        · exact h
        · rcases sp_xo_e h with h | ⟨ci, fs, hM, h⟩
          · exact h
          · by_cases hci : ci = t
            · subst hci
              rw [if_pos rfl] at h
              split at hw
              · rename_i hty
                exact sp_put hx hb hts hown hE hc1 hk1 hl1 hfin hty rfl rfl hM (sp_nth_lt h.1) hd (hk _ _ _ h.2)
              · cases hw
              · cases hw
              · cases hw
            · rw [if_neg hci] at h
              exact h
        · exact h
    · rw [if_neg hv0] at h
      split at hw
      · exact absurd (of_decide_eq_true hw) hv0
      · rename_i hty
        rcases sp_xa_e h with h | ⟨y, r, rfl, h⟩ | ⟨r, rfl, h⟩
        · exact h
        · rcases sp_xa_e h with h | ⟨x, r, rfl, h⟩ | ⟨r, rfl, h⟩
          · exact h
          · rcases sp_xo_e h with h | ⟨ci, fs, hM, h⟩
            · exact h
            · by_cases hci : ci = t
              · subst hci
                rw [if_pos rfl] at h
                exact sp_put hx hb hts hown hE hc1 hk1 hl1 hfin hty rfl rfl hM (sp_nth_lt h.1) hd (hk _ _ _ h.2)
              · rw [if_neg hci] at h
                exact h
          · exact h
        · rcases sp_xa_e h with h | ⟨x, r, rfl, h⟩ | ⟨r, rfl, h⟩
          · exact h
          · rcases sp_xo_e h with h | ⟨ci, fs, hM, h⟩
            · exact h
            · by_cases hci : ci = t
              · subst hci
                rw [if_pos rfl] at h
                exact sp_put hx hb hts hown hE hc1 hk1 hl1 hfin hty rfl rfl hM (sp_nth_lt h.1) hd (hk _ _ _ h.2)
              · rw [if_neg hci] at h
                exact h
          · exact h
      · rename_i hty
        rcases sp_xa_e h with h | ⟨y, r, rfl, h⟩ | ⟨r, rfl, h⟩
        · exact h
        · rcases sp_xa_e h with h | ⟨x, r, rfl, h⟩ | ⟨r, rfl, h⟩
          · exact h
          · rcases sp_xo_e h with h | ⟨ci, fs, hM, h⟩
            · exact h
            · by_cases hci : ci = t
              · subst hci
                rw [if_pos rfl] at h
                exact sp_put hx hb hts hown hE hc1 hk1 hl1 hfin hty rfl rfl hM (sp_nth_lt h.1) hd (hk _ _ _ h.2)
              · rw [if_neg hci] at h
                exact h
          · exact h
        · rcases sp_xa_e h with h | ⟨x, r, rfl, h⟩ | ⟨r, rfl, h⟩
          · exact h
          · rcases sp_xo_e h with h | ⟨ci, fs, hM, h⟩
            · exact h
            · by_cases hci : ci = t
              · subst hci
                rw [if_pos rfl] at h
                exact sp_put hx hb hts hown hE hc1 hk1 hl1 hfin hty rfl rfl hM (sp_nth_lt h.1) hd (hk _ _ _ h.2)
              · rw [if_neg hci] at h
                exact h
          · exact h
      · cases hw
  | iaload =>
    simp only [sp_ck, Bool.and_eq_true, Bool.or_eq_true, bne_iff_ne, ne_eq, beq_iff_eq, decide_eq_true_eq] at hc
    subst hc
    rcases sp_xi_e h with h | ⟨j, r, rfl, h⟩
    · exact h
    · rcases sp_xa_e h with h | ⟨x, r, rfl, h⟩ | ⟨r, rfl, h⟩
      · exact h
      · rcases sp_xI_e h with h | ⟨cA, n, f, hM, rfl, hin, h⟩
        · exact h
        · exact fun H locs ls hl hP hA hS => va_iald hx hb hE.K (hP.one hM) 0 1 rfl rfl hin hd (hk _ _ _ h H locs ls hl hP hA hS)
      · exact h
  | caload =>
    simp only [sp_ck, Bool.and_eq_true, Bool.or_eq_true, bne_iff_ne, ne_eq, beq_iff_eq, decide_eq_true_eq] at hc
    subst hc
    rcases sp_xi_e h with h | ⟨j, r, rfl, h⟩
    · exact h
    · rcases sp_xa_e h with h | ⟨x, r, rfl, h⟩ | ⟨r, rfl, h⟩
      · exact h
      · rcases sp_xI_e h with h | ⟨cA, n, f, hM, rfl, hin, h⟩
        · exact h
        · exact fun H locs ls hl hP hA hS => va_cald hx hb hE.K (hP.one hM) 0 0 rfl rfl hin hd (hk _ _ _ h H locs ls hl hP hA hS)
      · exact h
  | laload =>
    simp only [sp_ck, Bool.and_eq_true, Bool.or_eq_true, bne_iff_ne, ne_eq, beq_iff_eq, decide_eq_true_eq] at hc
    subst hc
    rcases sp_xi_e h with h | ⟨j, r, rfl, h⟩
    · exact h
    · rcases sp_xa_e h with h | ⟨x, r, rfl, h⟩ | ⟨r, rfl, h⟩
      · exact h
      · rcases sp_xJ_e h with h | ⟨cA, n, f, hM, rfl, hin, h⟩
        · exact h
        · exact fun H locs ls hl hP hA hS => va_lald hx hb hE.K (hP.one hM) 0 2 rfl rfl hin hd (hk _ _ _ h H locs ls hl hP hA hS)
      · exact h
  | aaload =>
    simp only [sp_ck, Bool.and_eq_true, Bool.or_eq_true, bne_iff_ne, ne_eq, beq_iff_eq, decide_eq_true_eq] at hc
    subst hc
    rcases sp_xi_e h with h | ⟨j, r, rfl, h⟩
    · exact h
    · rcases sp_xa_e h with h | ⟨x, r, rfl, h⟩ | ⟨r, rfl, h⟩
      · exact h
      · rcases sp_xQ_e h with h | ⟨cA, n, f, hM, rfl, hin, h⟩
        · exact h
        · exact fun H locs ls hl hP hA hS => va_aldq hx hb hE.K (hP.one hM) 0 3 rfl rfl hin hd (hk _ _ _ h H locs ls hl hP hA hS)
      · exact h
  | iastore =>
    simp only [sp_ck, Bool.and_eq_true, Bool.or_eq_true, bne_iff_ne, ne_eq, beq_iff_eq, decide_eq_true_eq] at hc
    subst hc
    rcases sp_xi_e h with h | ⟨y, r, rfl, h⟩
    · exact h
    · rcases sp_xi_e h with h | ⟨j, r, rfl, h⟩
      · exact h
      · rcases sp_xa_e h with h | ⟨x, r, rfl, h⟩ | ⟨r, rfl, h⟩
        · exact h
        · rcases sp_xI_e h with h | ⟨cA, n, f, hM, hcA, hin, h⟩
          · exact h
          · exact sp_iast hx hb hE hM hcA hin hd (hk _ _ _ h)
        · exact h
  | castore =>
    simp only [sp_ck, Bool.and_eq_true, Bool.or_eq_true, bne_iff_ne, ne_eq, beq_iff_eq, decide_eq_true_eq] at hc
    subst hc
    rcases sp_xi_e h with h | ⟨y, r, rfl, h⟩
    · exact h
    · rcases sp_xi_e h with h | ⟨j, r, rfl, h⟩
      · exact h
      · rcases sp_xa_e h with h | ⟨x, r, rfl, h⟩ | ⟨r, rfl, h⟩
        · exact h
        · rcases sp_xI_e h with h | ⟨cA, n, f, hM, hcA, hin, h⟩
          · exact h
          · exact sp_cast hx hb hE hM hcA hin hd (hk _ _ _ h)
        · exact h
  | lastore =>
    simp only [sp_ck, Bool.and_eq_true, Bool.or_eq_true, bne_iff_ne, ne_eq, beq_iff_eq, decide_eq_true_eq] at hc
    subst hc
    rcases sp_xl_e h with h | ⟨y, r, rfl, h⟩
    · exact h
    · rcases sp_xi_e h with h | ⟨j, r, rfl, h⟩
      · exact h
      · rcases sp_xa_e h with h | ⟨x, r, rfl, h⟩ | ⟨r, rfl, h⟩
        · exact h
        · rcases sp_xJ_e h with h | ⟨cA, n, f, hM, hcA, hin, h⟩
          · exact h
          · exact sp_last hx hb hE hM hcA hin hd (hk _ _ _ h)
        · exact h
  | arraylength =>
    simp only [sp_ck, Bool.and_eq_true, Bool.or_eq_true, bne_iff_ne, ne_eq, beq_iff_eq, decide_eq_true_eq] at hc
    subst hc
    rcases sp_xa_e h with h | ⟨x, r, rfl, h⟩ | ⟨r, rfl, h⟩
    · exact h
    · rcases sp_xN_e h with h | ⟨cA, n, y, hM, hcA, h⟩
      · exact h
      · rcases hcA with rfl | rfl | rfl | rfl
        · exact fun H locs ls hl hP hA hS => va_alen hx hb hE.K (hP.one hM) 0 0 rfl rfl rfl hd (hk _ _ _ h H locs ls hl hP hA hS)
        · exact fun H locs ls hl hP hA hS => va_alen hx hb hE.K (hP.one hM) 0 1 rfl rfl rfl hd (hk _ _ _ h H locs ls hl hP hA hS)
        · exact fun H locs ls hl hP hA hS => va_alen hx hb hE.K (hP.one hM) 0 2 rfl rfl rfl hd (hk _ _ _ h H locs ls hl hP hA hS)
        · exact fun H locs ls hl hP hA hS => va_alen hx hb hE.K (hP.one hM) 0 3 rfl rfl rfl hd (hk _ _ _ h H locs ls hl hP hA hS)
    · exact h
  | _ => exact h
theorem sp_run {l : Launch} {R0 : Room} {ret : Option FieldType} (hz : sp_C z l R0 G M0 own cc nL ret) : ∀ (k : List sp_I) (pc : Nat), sp_ok own cc nL k pc = true → ∀ (L : sp_L) (st : List Value) (M : sp_M), sp_ex z G M0 Q nL cs sl k pc L st M → sp_W z G M0 Q nL cs sl pc L st M
  | [], _, _, _, _, _, h => h
  | (i, n, t, u, v, w) :: r, pc, hok, L, st, M, h => by
    unfold sp_ok at hok
    simp only [Bool.and_eq_true, decide_eq_true_eq] at hok
    obtain ⟨hd, hc, hr⟩ := hok
    have hz' := hz
    obtain ⟨hx, hb, -, hown, hts, -, -, hE, -⟩ := hz'
    exact sp_run1 hx hb hts hown hE hd hc (fun L' st' M' h' => sp_run hz r (pc + n) hr L' st' M' h') h
end SPR
