/-! The model: its cells. -/
def rL (B V : Nat → Nat) : List Value := [.int (nI (V 0)), .int (nI (V 1)), .ref (B 2), .int (nI (V 3)), .ref (B 4), .int (nI (V 5)), .ref (B 6), .ref (B 7), .ref (B 8), .ref (B 9), .ref (B 10), .ref (B 11), .ref (B 12), .ref (B 13), .int (nI (V 14)), .int (nI (V 15)), .int (nI (V 16)), .int (nI (V 17)), .int (nI (V 18)), .int (nI (V 19)), .int (nI (V 20)), .int (nI (V 21)), .ref (B 22), .ref (B 23), .int (nI (V 24)), .int (nI (V 25)), .ref (B 26)]
def rN (j : Nat) : Nat := if j = 2 ∨ j = 4 ∨ j = 9 ∨ j = 26 then 0 else 1
def rZ (j : Nat) : Nat := if j = 2 then 140 else if j = 4 then 600 else if j = 9 then 3072 else if j = 26 then 300 else if j = 13 then 4 else if j = 22 ∨ j = 23 then 72 else 48
def rJ (j : Nat) : Bool := decide (j ∈ [2, 4, 7, 8, 9, 10, 11, 12, 13, 22, 23, 26])
def rI (j : Nat) : Bool := decide (j = 0 ∨ j = 6) || rJ j
def rc (G : sp_G) (j : Nat) (f : Nat → Int32) : va_E := .inl (G.2.1 (rN j), rZ j, .inl f)
def rw0 (G : sp_G) (M : sp_M) (B V : Nat → Nat) (F : Nat → Nat → Int32) (K : Nat → Int64) : Prop :=
  M (B 0) = some (.inr (8, rL B V)) ∧ M (B 6) = some (.inl (G.2.1 2, 48, .inr (.inl K))) ∧ (∀ j, rJ j = true → M (B j) = some (rc G j (F j))) ∧ ∀ i j, rI i = true → rI j = true → i ≠ j → B i ≠ B j
def rfr (B : Nat → Nat) (M M' : sp_M) : Prop := ∀ q, (∀ j, rI j = true → q ≠ B j) → M' q = M q
theorem rfr.refl (B : Nat → Nat) (M : sp_M) : rfr B M M := fun _ _ => rfl
theorem rfr.trans {B : Nat → Nat} {M M1 M2 : sp_M} (h1 : rfr B M M1) (h2 : rfr B M1 M2) : rfr B M M2 := fun q h => (h2 q h).trans (h1 q h)
theorem rfr.u {B : Nat → Nat} {M M1 : sp_M} {j : Nat} {e : va_E} (h : rfr B M M1) (hj : rI j = true) : rfr B M (sp_u M1 (B j) e) := fun q hq => by rw [sp_u_n _ _ (hq j hj)]; exact h q hq
section RW
variable {G : sp_G} {M : sp_M} {B V : Nat → Nat} {F : Nat → Nat → Int32} {K : Nat → Int64}
theorem rw0.o (h : rw0 G M B V F K) : M (B 0) = some (.inr (8, rL B V)) := h.1
theorem rw0.k (h : rw0 G M B V F K) : M (B 6) = some (.inl (G.2.1 2, 48, .inr (.inl K))) := h.2.1
theorem rw0.a (h : rw0 G M B V F K) (j : Nat) (hj : rJ j = true) : M (B j) = some (rc G j (F j)) := h.2.2.1 j hj
theorem rw0.ne (h : rw0 G M B V F K) (i j : Nat) (hi : rI i = true) (hj : rI j = true) (hij : i ≠ j) : B i ≠ B j := h.2.2.2 i j hi hj hij
theorem rJ_I {j : Nat} (h : rJ j = true) : rI j = true := by unfold rI; rw [h]; exact Bool.or_true _
theorem rJ_0 {j : Nat} (h : rJ j = true) : j ≠ 0 ∧ j ≠ 6 := by
  unfold rJ at h
  rw [decide_eq_true_eq] at h
  refine ⟨?_, ?_⟩ <;> rintro rfl <;> revert h <;> decide
theorem rw0.fld (h : rw0 G M B V F K) (V' : Nat → Nat) : rw0 G (sp_u M (B 0) (.inr (8, rL B V'))) B V' F K := by
  refine ⟨sp_u_s _ _ _, ?_, fun j hj => ?_, h.2.2.2⟩
  · rw [sp_u_n _ _ (h.ne 6 0 rfl rfl (by decide))]; exact h.k
  · rw [sp_u_n _ _ (h.ne j 0 (rJ_I hj) rfl (rJ_0 hj).1)]; exact h.a j hj
theorem rw0.key (h : rw0 G M B V F K) (K' : Nat → Int64) : rw0 G (sp_u M (B 6) (.inl (G.2.1 2, 48, .inr (.inl K')))) B V F K' := by
  refine ⟨?_, sp_u_s _ _ _, fun j hj => ?_, h.2.2.2⟩
  · rw [sp_u_n _ _ (h.ne 0 6 rfl rfl (by decide))]; exact h.o
  · rw [sp_u_n _ _ (h.ne j 6 (rJ_I hj) rfl (rJ_0 hj).2)]; exact h.a j hj
theorem rw0.arr (h : rw0 G M B V F K) {j : Nat} (hj : rJ j = true) (f : Nat → Int32) : rw0 G (sp_u M (B j) (rc G j f)) B V (fun i => if i = j then f else F i) K := by
  refine ⟨?_, ?_, fun i hi => ?_, h.2.2.2⟩
  · rw [sp_u_n _ _ (h.ne 0 j rfl (rJ_I hj) (rJ_0 hj).1.symm)]; exact h.o
  · rw [sp_u_n _ _ (h.ne 6 j rfl (rJ_I hj) (rJ_0 hj).2.symm)]; exact h.k
  · by_cases e : i = j
    · subst e
      show _ = some (rc G i (if i = i then f else F i))
      rw [sp_u_s, if_pos rfl]
    · show _ = some (rc G i (if i = j then f else F i))
      rw [sp_u_n _ _ (h.ne i j (rJ_I hi) (rJ_I hj) e), if_neg e]; exact h.a i hi
end RW
theorem rn_0 (B V : Nat → Nat) : sp_nth (rL B V) 0 = some (.int (nI (V 0))) := rfl
theorem rn_1 (B V : Nat → Nat) : sp_nth (rL B V) 1 = some (.int (nI (V 1))) := rfl
theorem rn_2 (B V : Nat → Nat) : sp_nth (rL B V) 2 = some (.ref (B 2)) := rfl
theorem rn_3 (B V : Nat → Nat) : sp_nth (rL B V) 3 = some (.int (nI (V 3))) := rfl
theorem rn_4 (B V : Nat → Nat) : sp_nth (rL B V) 4 = some (.ref (B 4)) := rfl
theorem rn_5 (B V : Nat → Nat) : sp_nth (rL B V) 5 = some (.int (nI (V 5))) := rfl
theorem rn_6 (B V : Nat → Nat) : sp_nth (rL B V) 6 = some (.ref (B 6)) := rfl
theorem rn_7 (B V : Nat → Nat) : sp_nth (rL B V) 7 = some (.ref (B 7)) := rfl
theorem rn_8 (B V : Nat → Nat) : sp_nth (rL B V) 8 = some (.ref (B 8)) := rfl
theorem rn_9 (B V : Nat → Nat) : sp_nth (rL B V) 9 = some (.ref (B 9)) := rfl
theorem rn_10 (B V : Nat → Nat) : sp_nth (rL B V) 10 = some (.ref (B 10)) := rfl
theorem rn_11 (B V : Nat → Nat) : sp_nth (rL B V) 11 = some (.ref (B 11)) := rfl
theorem rn_12 (B V : Nat → Nat) : sp_nth (rL B V) 12 = some (.ref (B 12)) := rfl
theorem rn_13 (B V : Nat → Nat) : sp_nth (rL B V) 13 = some (.ref (B 13)) := rfl
theorem rn_22 (B V : Nat → Nat) : sp_nth (rL B V) 22 = some (.ref (B 22)) := rfl
theorem rn_23 (B V : Nat → Nat) : sp_nth (rL B V) 23 = some (.ref (B 23)) := rfl
theorem rn_26 (B V : Nat → Nat) : sp_nth (rL B V) 26 = some (.ref (B 26)) := rfl
theorem rn_14 (B V : Nat → Nat) : sp_nth (rL B V) 14 = some (.int (nI (V 14))) := rfl
theorem rn_15 (B V : Nat → Nat) : sp_nth (rL B V) 15 = some (.int (nI (V 15))) := rfl
theorem rn_16 (B V : Nat → Nat) : sp_nth (rL B V) 16 = some (.int (nI (V 16))) := rfl
theorem rn_17 (B V : Nat → Nat) : sp_nth (rL B V) 17 = some (.int (nI (V 17))) := rfl
theorem rn_18 (B V : Nat → Nat) : sp_nth (rL B V) 18 = some (.int (nI (V 18))) := rfl
theorem rn_19 (B V : Nat → Nat) : sp_nth (rL B V) 19 = some (.int (nI (V 19))) := rfl
theorem rn_20 (B V : Nat → Nat) : sp_nth (rL B V) 20 = some (.int (nI (V 20))) := rfl
theorem rn_21 (B V : Nat → Nat) : sp_nth (rL B V) 21 = some (.int (nI (V 21))) := rfl
theorem rn_24 (B V : Nat → Nat) : sp_nth (rL B V) 24 = some (.int (nI (V 24))) := rfl
theorem rn_25 (B V : Nat → Nat) : sp_nth (rL B V) 25 = some (.int (nI (V 25))) := rfl
theorem rs_0 (B V : Nat → Nat) (x : Nat) : (rL B V).set 0 (.int (nI x)) = rL B (up V 0 x) := rfl
theorem rs_1 (B V : Nat → Nat) (x : Nat) : (rL B V).set 1 (.int (nI x)) = rL B (up V 1 x) := rfl
theorem rs_3 (B V : Nat → Nat) (x : Nat) : (rL B V).set 3 (.int (nI x)) = rL B (up V 3 x) := rfl
theorem rs_5 (B V : Nat → Nat) (x : Nat) : (rL B V).set 5 (.int (nI x)) = rL B (up V 5 x) := rfl
theorem rs_14 (B V : Nat → Nat) (x : Nat) : (rL B V).set 14 (.int (nI x)) = rL B (up V 14 x) := rfl
theorem rs_15 (B V : Nat → Nat) (x : Nat) : (rL B V).set 15 (.int (nI x)) = rL B (up V 15 x) := rfl
theorem rs_16 (B V : Nat → Nat) (x : Nat) : (rL B V).set 16 (.int (nI x)) = rL B (up V 16 x) := rfl
theorem rs_17 (B V : Nat → Nat) (x : Nat) : (rL B V).set 17 (.int (nI x)) = rL B (up V 17 x) := rfl
theorem rs_18 (B V : Nat → Nat) (x : Nat) : (rL B V).set 18 (.int (nI x)) = rL B (up V 18 x) := rfl
theorem rs_19 (B V : Nat → Nat) (x : Nat) : (rL B V).set 19 (.int (nI x)) = rL B (up V 19 x) := rfl
theorem rs_20 (B V : Nat → Nat) (x : Nat) : (rL B V).set 20 (.int (nI x)) = rL B (up V 20 x) := rfl
theorem rs_21 (B V : Nat → Nat) (x : Nat) : (rL B V).set 21 (.int (nI x)) = rL B (up V 21 x) := rfl
theorem rs_24 (B V : Nat → Nat) (x : Nat) : (rL B V).set 24 (.int (nI x)) = rL B (up V 24 x) := rfl
theorem rs_25 (B V : Nat → Nat) (x : Nat) : (rL B V).set 25 (.int (nI x)) = rL B (up V 25 x) := rfl
theorem rc_2 (G : sp_G) (f : Nat → Int32) : rc G 2 f = .inl (G.2.1 (rN 2), rZ 2, .inl f) := rfl
theorem rc_4 (G : sp_G) (f : Nat → Int32) : rc G 4 f = .inl (G.2.1 (rN 4), rZ 4, .inl f) := rfl
theorem rc_7 (G : sp_G) (f : Nat → Int32) : rc G 7 f = .inl (G.2.1 (rN 7), rZ 7, .inl f) := rfl
theorem rc_8 (G : sp_G) (f : Nat → Int32) : rc G 8 f = .inl (G.2.1 (rN 8), rZ 8, .inl f) := rfl
theorem rc_9 (G : sp_G) (f : Nat → Int32) : rc G 9 f = .inl (G.2.1 (rN 9), rZ 9, .inl f) := rfl
theorem rc_10 (G : sp_G) (f : Nat → Int32) : rc G 10 f = .inl (G.2.1 (rN 10), rZ 10, .inl f) := rfl
theorem rc_11 (G : sp_G) (f : Nat → Int32) : rc G 11 f = .inl (G.2.1 (rN 11), rZ 11, .inl f) := rfl
theorem rc_12 (G : sp_G) (f : Nat → Int32) : rc G 12 f = .inl (G.2.1 (rN 12), rZ 12, .inl f) := rfl
theorem rc_13 (G : sp_G) (f : Nat → Int32) : rc G 13 f = .inl (G.2.1 (rN 13), rZ 13, .inl f) := rfl
theorem rc_22 (G : sp_G) (f : Nat → Int32) : rc G 22 f = .inl (G.2.1 (rN 22), rZ 22, .inl f) := rfl
theorem rc_23 (G : sp_G) (f : Nat → Int32) : rc G 23 f = .inl (G.2.1 (rN 23), rZ 23, .inl f) := rfl
theorem rc_26 (G : sp_G) (f : Nat → Int32) : rc G 26 f = .inl (G.2.1 (rN 26), rZ 26, .inl f) := rfl
/-! what the model's cells say: line, answer, items with their stamps (by their places), pages, words, the text that is got ready -/
def rT (f : Nat → Int32) (s : List Nat) : Prop := ∀ i, i < s.length → f i = nI (s.getD i 0)
def gz (g : Nat) : Nat := if g = 2147483647 then 0 else g
def pkl (l : List Nat) : Nat := l.foldl (fun v c => v * 256 + c) 0
def rIt (F : Nat → Nat → Int32) (K : Nat → Int64) (i : Nat) (x : It × Nat) : Prop := K i = lN (pkl (iK x.1)) ∧ F 7 i = nI (iF x.1) ∧ F 8 i = nI (iD x.1).length ∧ F 10 i = nI (iT x.1) ∧ F 11 i = nI (gz (iG x.1)) ∧ F 12 i = nI x.2 ∧ ∀ k, k < (iD x.1).length → F 9 (64 * i + k) = nI ((iD x.1).getD k 0)
def rWs (F : Nat → Nat → Int32) (ws : List (Nat × Nat)) : Prop := ∀ (i : Nat) (p : Nat × Nat), ws[i]? = some p → F 22 i = nI p.1 ∧ F 23 i = nI (p.1 + p.2)
def chOk (s : List Nat) : Prop := ∀ c ∈ s, pu_ischar c = true
def itW (x : It) : Prop := 1 ≤ (iK x).length ∧ (iK x).length ≤ 8 ∧ (iK x).length + (iD x).length ≤ 64 ∧ (∀ c ∈ iK x, 0 < c ∧ c < 127) ∧ chOk (iD x) ∧ iF x < 1000000000 ∧ iT x < 1000000000 ∧ iG x < 2 ^ 31 ∧ 0 < iG x
def rS (G : sp_G) (M : sp_M) (B : Nat → Nat) (s a : List Nat) (R : List (It × Nat)) (pg : Nat → Nat) (ws : List (Nat × Nat)) (fr : List Nat) (V : Nat → Nat) : Prop := ∃ F K, rw0 G M B V F K ∧ (V 1 = s.length ∧ V 3 = a.length ∧ V 5 = R.length ∧ V 21 = ws.length ∧ V 25 = fr.length) ∧ (rT (F 2) s ∧ rT (F 4) a ∧ rT (F 26) fr ∧ rWs F ws ∧ (∀ (i : Nat) (x : It × Nat), R[i]? = some x → rIt F K i x) ∧ ∀ c, c < 4 → F 13 c = nI (pg c)) ∧
  (s.length ≤ 140 ∧ a.length ≤ 600 ∧ R.length ≤ 48 ∧ ws.length ≤ 72 ∧ fr.length ≤ 300) ∧ chOk s ∧ (∀ x ∈ R, itW x.1 ∧ x.2 < 2 ^ 32) ∧ (∀ c, c < 4 → pg c ≤ 6)
section RSS
variable {G : sp_G} {M : sp_M} {B : Nat → Nat} {s a fr : List Nat} {R : List (It × Nat)} {pg V : Nat → Nat} {ws : List (Nat × Nat)}
theorem rS.o (h : rS G M B s a R pg ws fr V) : M (B 0) = some (.inr (8, rL B V)) := by
  obtain ⟨F, K, h0, -⟩ := h
  exact h0.o
theorem rS.v (h : rS G M B s a R pg ws fr V) (V' : Nat → Nat) (e1 : V' 1 = V 1) (e3 : V' 3 = V 3) (e5 : V' 5 = V 5) (e21 : V' 21 = V 21) (e25 : V' 25 = V 25) : rS G (sp_u M (B 0) (.inr (8, rL B V'))) B s a R pg ws fr V' := by
  obtain ⟨F, K, h0, ⟨l1, l3, l5, l21, l25⟩, hr⟩ := h
  exact ⟨F, K, h0.fld V', ⟨e1.trans l1, e3.trans l3, e5.trans l5, e21.trans l21, e25.trans l25⟩, hr⟩
theorem rS.bl (h : rS G M B s a R pg ws fr V) : (V 1 = s.length ∧ V 3 = a.length ∧ V 5 = R.length ∧ V 21 = ws.length ∧ V 25 = fr.length) ∧ (s.length ≤ 140 ∧ a.length ≤ 600 ∧ R.length ≤ 48 ∧ ws.length ≤ 72 ∧ fr.length ≤ 300) := by
  obtain ⟨F, K, h0, hl, hr, hb, -⟩ := h
  exact ⟨hl, hb⟩
end RSS
theorem sb_byt (n : Nat) {i : Nat} (hi : i < 8) : ((lN n >>> ((nI (8 * i)).toInt64 &&& 63)) &&& 255) = lN (byt n i) := by
  rw [wb_c _ (show 8 * i < 64 by omega)]
  apply wb_inj
  show (BitVec.ofNat 64 n).sshiftRight' ((BitVec.ofNat 64 (8 * i)).smod 64) &&& 255#64 = BitVec.ofNat 64 (byt n i)
  rw [wb_sm _ (show 8 * i < 64 by omega)]
  apply BitVec.eq_of_getLsbD_eq
  intro j hj
  have h255 : ∀ j, j < 64 → (255#64).getLsbD j = decide (j < 8) := by decide
  rw [BitVec.getLsbD_and, h255 j hj, BitVec.sshiftRight', BitVec.getLsbD_sshiftRight, BitVec.getLsbD_ofNat, BitVec.toNat_ofNat, Nat.mod_eq_of_lt (show 8 * i < 2 ^ 64 by omega)]
  unfold byt
  rw [BitVec.getLsbD_ofNat, show (256 : Nat) = 2 ^ 8 from rfl, Nat.testBit_mod_two_pow, Nat.testBit_div_two_pow]
  by_cases h8 : j < 8
  · have h1 : 8 * i + j < 64 := by omega
    have h2 : ¬ 64 ≤ j := by omega
    simp only [h8, h1, h2, decide_true, decide_false, Bool.and_true, Bool.true_and, Bool.not_false, if_true, BitVec.getLsbD_ofNat, hj]
    rw [Nat.add_comm]
  · simp only [h8, decide_false, Bool.and_false, Bool.false_and]
theorem pk8 (i : Nat) : (8 : Int32) * nI i = nI (8 * i) := pk_mul 8 i
theorem pkl_a (l : List Nat) (c : Nat) : pkl (l ++ [c]) = pkl l * 256 + c := by
  unfold pkl
  rw [List.foldl_append]
  rfl
theorem pkl_lt : ∀ (n : Nat) (l : List Nat), l.length = n → (∀ c ∈ l, c < 256) → pkl l < 256 ^ n
  | 0, l, h, _ => by
    rw [List.length_eq_zero_iff] at h
    subst h
    decide
  | n + 1, l, h, hc => by
    have hne : l ≠ [] := fun e => by rw [e] at h; cases h
    obtain ⟨l', c, rfl⟩ : ∃ l' c, l = l' ++ [c] := ⟨l.dropLast, l.getLast hne, (List.dropLast_concat_getLast hne).symm⟩
    have h1 := pkl_lt n l' (by rw [List.length_append] at h; simpa using h) (fun x hx => hc x (List.mem_append_left _ hx))
    have h2 := hc c (List.mem_append_right _ (List.mem_singleton.mpr rfl))
    rw [pkl_a, Nat.pow_succ]
    omega
theorem pkl_inj : ∀ (n : Nat) (l l' : List Nat), l.length = n → (∀ c ∈ l, 0 < c ∧ c < 256) → (∀ c ∈ l', 0 < c ∧ c < 256) → pkl l = pkl l' → l = l'
  | 0, l, l', h, _, h2, he => by
    rw [List.length_eq_zero_iff] at h
    subst h
    by_cases hne : l' = []
    · exact hne.symm
    · obtain ⟨q, c, rfl⟩ : ∃ q c, l' = q ++ [c] := ⟨l'.dropLast, l'.getLast hne, (List.dropLast_concat_getLast hne).symm⟩
      have := h2 c (List.mem_append_right _ (List.mem_singleton.mpr rfl))
      rw [pkl_a] at he
      have h0 : pkl [] = 0 := rfl
      omega
  | n + 1, l, l', h, h1, h2, he => by
    have hne : l ≠ [] := fun e => by rw [e] at h; cases h
    obtain ⟨p, b, rfl⟩ : ∃ q c, l = q ++ [c] := ⟨l.dropLast, l.getLast hne, (List.dropLast_concat_getLast hne).symm⟩
    have hb := h1 b (List.mem_append_right _ (List.mem_singleton.mpr rfl))
    by_cases hne' : l' = []
    · subst hne'
      rw [pkl_a] at he
      have h0 : pkl [] = 0 := rfl
      omega
    · obtain ⟨q, c, rfl⟩ : ∃ q c, l' = q ++ [c] := ⟨l'.dropLast, l'.getLast hne', (List.dropLast_concat_getLast hne').symm⟩
      have hc := h2 c (List.mem_append_right _ (List.mem_singleton.mpr rfl))
      rw [pkl_a, pkl_a] at he
      have e1 : pkl p = pkl q := by omega
      have e2 : b = c := by omega
      rw [e2, pkl_inj n p q (by rw [List.length_append] at h; simpa using h) (fun x hx => h1 x (List.mem_append_left _ hx)) (fun x hx => h2 x (List.mem_append_left _ hx)) e1]
theorem pkl_byt (l : List Nat) (c : Nat) (hc : c < 256) (k : Nat) : byt (pkl (l ++ [c])) (k + 1) = byt (pkl l) k ∧ byt (pkl (l ++ [c])) 0 = c := by
  rw [pkl_a]
  refine ⟨?_, ?_⟩
  · unfold byt
    rw [show 8 * (k + 1) = 8 + 8 * k from by omega, Nat.pow_add, ← Nat.div_div_eq_div_mul, show (2 : Nat) ^ 8 = 256 from rfl, Nat.mul_comm, Nat.mul_add_div (by decide), Nat.div_eq_of_lt hc, Nat.add_zero]
  · unfold byt
    rw [Nat.mul_zero, Nat.pow_zero, Nat.div_one, Nat.mul_comm, Nat.mul_add_mod, Nat.mod_eq_of_lt hc]
/-- the bytes k - 1 .. 0 that aren't 0, the highest first -/
def txb (n : Nat) : Nat → List Nat
  | 0 => []
  | k + 1 => (if byt n k = 0 then [] else [byt n k]) ++ txb n k
theorem txb_pkl : ∀ (k : Nat) (l : List Nat), l.length ≤ k → (∀ c ∈ l, 0 < c ∧ c < 256) → txb (pkl l) k = l
  | 0, l, h, _ => by
    rw [List.length_eq_zero_iff.mp (Nat.le_zero.mp h)]
    rfl
  | k + 1, l, h, hc => by
    have key : ∀ (k : Nat) (l : List Nat) (c : Nat), 0 < c ∧ c < 256 → txb (pkl (l ++ [c])) (k + 1) = txb (pkl l) k ++ [c] := by
      intro k
      induction k with
      | zero =>
        intro l c h
        show (if byt _ 0 = 0 then [] else [byt _ 0]) ++ txb _ 0 = _
        rw [(pkl_byt l c h.2 0).2, if_neg (by omega)]
        rfl
      | succ k ih =>
        intro l c h
        have e : ∀ n k, txb n (k + 1) = (if byt n k = 0 then [] else [byt n k]) ++ txb n k := fun _ _ => rfl
        rw [e _ (k + 1), ih l c h, (pkl_byt l c h.2 k).1, e _ k, List.append_assoc]
    by_cases hne : l = []
    · subst hne
      have : ∀ k, txb (pkl []) k = [] := by
        intro k
        induction k with
        | zero => rfl
        | succ k ih =>
          show (if byt 0 k = 0 then [] else [byt 0 k]) ++ txb (pkl []) k = []
          rw [ih, if_pos (by unfold byt; rw [Nat.zero_div])]
          rfl
      exact this _
    · obtain ⟨q, c, rfl⟩ : ∃ q c, l = q ++ [c] := ⟨l.dropLast, l.getLast hne, (List.dropLast_concat_getLast hne).symm⟩
      rw [key k q c (hc c (List.mem_append_right _ (List.mem_singleton.mpr rfl))), txb_pkl k q (by rw [List.length_append, List.length_singleton] at h; omega) (fun x hx => hc x (List.mem_append_left _ hx))]
theorem sp_ldcw {z : sp_Z} {G : sp_G} {M0 M : sp_M} {Q : State → Prop} {own : String} {cc : ByteArray} {nL cs sl pc index : Nat} {L : sp_L} {st : List Value} {l : Launch} {R0 : Room} {ret : Option FieldType} {v : Int32} (hz : sp_C z l R0 G M0 own cc nL ret) {j : Nat} (hw : sp_in j (Cond.constant own index v) = true) (hdg : decode cc pc = .ok (.ldc_w index, 3)) (kk : sp_W z G M0 Q nL cs sl (pc + 3) L (.int v :: st) M) : sp_W z G M0 Q nL cs sl pc L st M := by
  obtain ⟨hx, hbc, hml, hown, hts, -, -, hE, hzl, hzr⟩ := hz
  intro H locs ls hl hP hA hS
  exact lv_ldcw hx hbc hown (hts _ (sp_in_e hw)) hdg (kk H locs ls hl hP hA hS)
