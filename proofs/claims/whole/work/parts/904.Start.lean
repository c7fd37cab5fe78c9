/-! The environment at the law's entry, out of the start's words. -/
def nw : List Cond := flatC (Jvm.Cond.and given_1 narrow_1)
def en_b : List Nat := [68, 77, 87, 98, 110, 123, 34, 41, 137, 152, 168, 185, 203, 4]
def en_l : List Nat := [1201, 1202, 1203, 1204, 1205, 1206, 329, 331, 1207, 1208, 1209, 1210, 1211, 112]
def en_s : List Nat := [244, 253, 264, 304, 308, 339, 349, 356, 369, 380, 391, 397, 402, 416, 426, 490, 533, 578, 584, 594, 601, 608, 613, 621, 628, 636, 643, 654, 664, 675, 682, 691, 701, 710, 716, 729, 737, 743]
def en_r : List Nat := [319, 341, 355, 377, 378, 447, 473, 486, 487, 510, 524, 533, 534, 536, 542, 590, 595, 596, 664, 1200, 1212, 1213, 1214, 1215, 1216, 1217, 1218, 1219, 1220, 1221, 1222, 1223, 1224, 1225, 1226, 1227, 1228, 1229]
def en_q : List (Nat × Nat × Nat) := [(13, 6, 40), (13, 7, 47), (6, 7, 48), (13, 0, 74), (6, 0, 75), (7, 0, 76), (13, 1, 83), (6, 1, 84), (7, 1, 85), (0, 1, 86), (13, 2, 93), (6, 2, 94), (7, 2, 95), (0, 2, 96), (1, 2, 97), (13, 3, 104), (6, 3, 105), (7, 3, 106), (0, 3, 107), (1, 3, 108), (2, 3, 109), (13, 4, 116), (6, 4, 117), (7, 4, 118), (0, 4, 119), (1, 4, 120), (2, 4, 121), (3, 4, 122), (13, 5, 129), (6, 5, 130), (7, 5, 131), (0, 5, 132), (1, 5, 133), (2, 5, 134), (3, 5, 135), (4, 5, 136), (13, 8, 143), (6, 8, 144), (7, 8, 145), (0, 8, 146), (1, 8, 147), (2, 8, 148), (3, 8, 149), (4, 8, 150), (5, 8, 151), (13, 9, 158), (6, 9, 159), (7, 9, 160), (0, 9, 161), (1, 9, 162), (2, 9, 163), (3, 9, 164), (4, 9, 165), (5, 9, 166), (8, 9, 167), (13, 10, 174), (6, 10, 175), (7, 10, 176), (0, 10, 177), (1, 10, 178), (2, 10, 179), (3, 10, 180), (4, 10, 181), (5, 10, 182), (8, 10, 183), (9, 10, 184), (13, 11, 191), (6, 11, 192), (7, 11, 193), (0, 11, 194), (1, 11, 195), (2, 11, 196), (3, 11, 197), (4, 11, 198), (5, 11, 199), (8, 11, 200), (9, 11, 201), (10, 11, 202), (13, 12, 209), (6, 12, 210), (7, 12, 211), (0, 12, 212), (1, 12, 213), (2, 12, 214), (3, 12, 215), (4, 12, 216), (5, 12, 217), (8, 12, 218), (9, 12, 219), (10, 12, 220), (11, 12, 221)]
def en_c : List Nat := [32, 611, 53, 46, 106, 134, 100, 24, 831]
def en_n : List Nat := [2, 8, 7, 6, 6, 4, 7, 4, 27]
def en_vT (i : Nat) : Term := .static "SlabPantry$Verb" (vb_nm.getD i "") "LSlabPantry$Verb;"
def en_sT (j : Nat) : Term := .string (sv_tab.getD j ("", 0, "", [])).1 (sv_tab.getD j ("", 0, "", [])).2.1
def en_sV (j : Nat) : Term := .field (en_sT j) "java/lang/String" "value" "[B"
def en_vq (i : Nat) : List Cond := [.exactly (en_vT i) "SlabPantry$Verb", .eq (.field (en_vT i) "java/lang/Enum" "ordinal" "I") (.int (nI i)), .eq (.field (en_vT i) "SlabPantry$Verb" "word" "Ljava/lang/String;") (en_sT (vb i).1), .eq (.field (en_vT i) "SlabPantry$Verb" "form" "Ljava/lang/String;") (en_sT (vb i).2.1), .eq (.field (en_vT i) "SlabPantry$Verb" "hasData" "Z") (.int (vb i).2.2.1), .eq (.field (en_vT i) "SlabPantry$Verb" "changesItem" "Z") (.int (vb i).2.2.2)]
def en_sq (j : Nat) : List Cond := [.exactly (en_sT j) "java/lang/String", .eq (.field (en_sT j) "java/lang/String" "coder" "B") (.int 0), .arrayOf (en_sV j) .byte, .eq (.length (en_sV j)) (.int (Int32.ofNat (sv j).length))] ++ (List.range (sv j).length).map (fun k => .eq (.elem (en_sV j) (.int (Int32.ofNat k))) (.int (nI ((sv j).getD k 0))))
theorem en_part {L P : List Cond} {b n : Nat} (h : (L.drop b).take n = P) {w : Cond} (hw : w ∈ P) : w ∈ L := by
  subst h
  exact List.mem_of_mem_drop (List.mem_of_mem_take hw)
set_option maxRecDepth 100000 in
theorem en_v0 : (List.range 14).all (fun i => decide ((nw.drop (en_b.getD i 0)).take 6 = en_vq i)) = true := by decide +kernel
set_option maxRecDepth 100000 in
theorem en_s0 : (List.range 38).all (fun j => decide ((nw.drop (en_s.getD j 0)).take (4 + (sv j).length) = en_sq j)) = true := by decide +kernel
set_option maxRecDepth 100000 in
theorem en_q0 : (List.range 14).all (fun i => (List.range 14).all (fun j => i == j || en_q.any (fun q => ((q.1 == i && q.2.1 == j) || (q.1 == j && q.2.1 == i)) && decide (nw[q.2.2]? = some (.not (.eq (en_vT q.1) (en_vT q.2.1))))))) = true := by decide +kernel
set_option maxRecDepth 100000 in
theorem en_l0 : (List.range 14).all (fun i => decide (tables_1[en_l.getD i 0]? = some (.laysStatic "SlabPantry$Verb" (vb_nm.getD i "") "LSlabPantry$Verb;"))) = true := by decide +kernel
set_option maxRecDepth 100000 in
theorem en_r0 : (List.range 38).all (fun j => decide (tables_1[en_r.getD j 0]? = some (.stringRef (sv_tab.getD j ("", 0, "", [])).1 (sv_tab.getD j ("", 0, "", [])).2.1 (sv_tab.getD j ("", 0, "", [])).2.2.1))) = true := by decide +kernel
set_option maxRecDepth 100000 in
theorem en_c0 : (List.range 9).all (fun c => decide (tables_1[en_c.getD c 0]? = some (.instantiable (classes.getD c ("", F_Text, 0)).1 (en_n.getD c 0)))) = true := by decide +kernel
theorem en_v1 (i : Nat) (hi : i < 14) : ∀ w ∈ en_vq i, w ∈ nw := fun _ hw => en_part (of_decide_eq_true (List.all_eq_true.mp en_v0 i (List.mem_range.mpr hi))) hw
theorem en_s1 (j : Nat) (hj : j < 38) : ∀ w ∈ en_sq j, w ∈ nw := fun _ hw => en_part (of_decide_eq_true (List.all_eq_true.mp en_s0 j (List.mem_range.mpr hj))) hw
theorem en_l1 (i : Nat) (hi : i < 14) : Cond.laysStatic "SlabPantry$Verb" (vb_nm.getD i "") "LSlabPantry$Verb;" ∈ tables_1 := List.mem_of_getElem? (of_decide_eq_true (List.all_eq_true.mp en_l0 i (List.mem_range.mpr hi)))
theorem en_r1 (j : Nat) (hj : j < 38) : Cond.stringRef (sv_tab.getD j ("", 0, "", [])).1 (sv_tab.getD j ("", 0, "", [])).2.1 (sv_tab.getD j ("", 0, "", [])).2.2.1 ∈ tables_1 := List.mem_of_getElem? (of_decide_eq_true (List.all_eq_true.mp en_r0 j (List.mem_range.mpr hj)))
theorem en_c1 (c : Nat) (hc : c < 9) : Cond.instantiable (classes.getD c ("", F_Text, 0)).1 (en_n.getD c 0) ∈ tables_1 := List.mem_of_getElem? (of_decide_eq_true (List.all_eq_true.mp en_c0 c (List.mem_range.mpr hc)))
theorem en_q1 (i j : Nat) (hi : i < 14) (hj : j < 14) (hij : i ≠ j) : Cond.not (.eq (en_vT i) (en_vT j)) ∈ nw ∨ Cond.not (.eq (en_vT j) (en_vT i)) ∈ nw := by
  have h := List.all_eq_true.mp (List.all_eq_true.mp en_q0 i (List.mem_range.mpr hi)) j (List.mem_range.mpr hj)
  rw [Bool.or_eq_true] at h
  rcases h with h | h
  · exact absurd (beq_iff_eq.mp h) hij
  · obtain ⟨q, -, hq⟩ := List.any_eq_true.mp h
    rw [Bool.and_eq_true, Bool.or_eq_true, Bool.and_eq_true, Bool.and_eq_true] at hq
    obtain ⟨h1, h2⟩ := hq
    have h3 := List.mem_of_getElem? (of_decide_eq_true h2)
    rcases h1 with ⟨a, b⟩ | ⟨a, b⟩
    · rw [beq_iff_eq.mp a, beq_iff_eq.mp b] at h3
      exact Or.inl h3
    · rw [beq_iff_eq.mp a, beq_iff_eq.mp b] at h3
      exact Or.inr h3
/-- the address that a term says at the start -/
def en_ad (b : Nat) (s : State) (t : Term) : Nat := match t.eval #[Value.ref b] s none [] s with
  | some (.ref a) => a
  | _ => 0
theorem en_ad_of {b : Nat} {s : State} {t : Term} {a : Nat} (h : t.eval #[Value.ref b] s none [] s = some (.ref a)) : t.eval #[Value.ref b] s none [] s = some (.ref (en_ad b s t)) := by
  unfold en_ad
  rw [h]
theorem en_eqR {args : Array Value} {s : State} {t u : Term} {a : Nat} (h : (Cond.eq t u).before args s = true) (hu : u.eval args s none [] s = some (.ref a)) : t.eval args s none [] s = some (.ref a) := by
  cases hv : t.eval args s none [] s with
  | none => simp [Cond.before, Cond.holds, Cond.value, hv] at h
  | some w =>
    simp only [Cond.before, Cond.holds, Cond.value, hv, hu] at h
    cases w <;> simp_all
def en_sw : Term := .static "SlabPantry$1" "$SwitchMap$SlabPantry$Verb" "[I"
def en_vs : Term := .static "SlabPantry$Command" "VERBS" "[LSlabPantry$Verb;"
def en_g (b : Nat) (s : State) (n : Nat) : Nat := if n < 14 then en_ad b s (en_vT n) else if n = 50 then en_ad b s en_vs else if n = 51 then en_ad b s en_sw else if n < 200 then en_ad b s (en_sT (n - 100)) else en_ad b s (en_sV (n - 200))
theorem en_g0 (b : Nat) (s : State) (i : Nat) (h : i < 14) : en_g b s i = en_ad b s (en_vT i) := by
  unfold en_g
  rw [if_pos h]
theorem en_g1 (b : Nat) (s : State) (j : Nat) (h : j < 38) : en_g b s (100 + j) = en_ad b s (en_sT j) := by
  unfold en_g
  rw [if_neg (by omega), if_neg (by omega), if_neg (by omega), if_pos (by omega), Nat.add_sub_cancel_left]
theorem en_g2 (b : Nat) (s : State) (j : Nat) (_h : j < 38) : en_g b s (200 + j) = en_ad b s (en_sV j) := by
  unfold en_g
  rw [if_neg (by omega), if_neg (by omega), if_neg (by omega), if_neg (by omega), Nat.add_sub_cancel_left]
section EN
variable {b : Nat} {s : State} {A : Nat → Prop}
theorem en_str (hn : ∀ w ∈ nw, w.before #[Value.ref b] s = true) (ht : ∀ w ∈ tables_1, w.before #[Value.ref b] s = true) (hA : ∀ a : Nat, a < s.heap.size → ¬ A a) (G : sp_G) (hG : G.2.2 = en_g b s) (j : Nat) (hj : j < 38) : (en_sT j).eval #[Value.ref b] s none [] s = some (.ref (G.2.2 (100 + j))) ∧ ev_str G A s s.heap j := by
  have M := en_s1 j hj
  have m0 : Cond.exactly (en_sT j) "java/lang/String" ∈ nw := M _ (by unfold en_sq; simp)
  have m1 : Cond.eq (.field (en_sT j) "java/lang/String" "coder" "B") (.int 0) ∈ nw := M _ (by unfold en_sq; simp)
  have m2 : Cond.arrayOf (en_sV j) .byte ∈ nw := M _ (by unfold en_sq; simp)
  have m3 : Cond.eq (.length (en_sV j)) (.int (Int32.ofNat (sv j).length)) ∈ nw := M _ (by unfold en_sq; simp)
  have m4 : ∀ k : Nat, k < (sv j).length → Cond.eq (.elem (en_sV j) (.int (Int32.ofNat k))) (.int (nI ((sv j).getD k 0))) ∈ nw := fun k hk => M _ (List.mem_append_right _ (List.mem_map.mpr ⟨k, List.mem_range.mpr hk, rfl⟩))
  obtain ⟨a, c, cA, kA, q1, -⟩ := Cond.exactly_spec (args := #[Value.ref b]) (first := s) (o := none) (s := s) (idx := []) (t := en_sT j) (cls := "java/lang/String") (hn _ m0)
  have e1 := en_ad_of q1
  have hL : (sv j).length < 2 ^ 31 := Nat.lt_of_le_of_lt (of_decide_eq_true (List.all_eq_true.mp (show (List.range 38).all (fun j => decide ((sv j).length ≤ 100)) = true by decide +kernel) j (List.mem_range.mpr hj))) (by decide)
  obtain ⟨t, h1, h2⟩ := va_Tof (args := #[Value.ref b]) (s := s) (tm := en_sV j) (ty := .byte) (N := (sv j).length) (f := fun k => .int (nI ((sv j).getD k 0))) (A := A) hL (hn _ m2) (va_eqt (hn _ m3)) (fun k hk => va_eqt (hn _ (m4 k hk))) hA
  have e2 := en_ad_of h1
  have e3 : t = en_ad b s (en_sV j) := by
    have h := h1.symm.trans e2
    injection h with h
    injection h
  subst e3
  unfold ev_str
  rw [hG, en_g1 b s j hj, en_g2 b s j hj]
  exact ⟨e1, vk_R.of (ht _ (en_r1 j hj)) e1, va_Oof (hn _ m0) e1 hA, vk_OFof e1 (va_eqt (hn _ m1)) hA, vk_OFof e1 e2 hA, h2⟩
theorem en_verb (hn : ∀ w ∈ nw, w.before #[Value.ref b] s = true) (ht : ∀ w ∈ tables_1, w.before #[Value.ref b] s = true) (hA : ∀ a : Nat, a < s.heap.size → ¬ A a) (G : sp_G) (hG : G.2.2 = en_g b s) (i : Nat) (hi : i < 14) : (en_vT i).eval #[Value.ref b] s none [] s = some (.ref (G.2.2 i)) ∧ ev_verb G A s s.heap i := by
  have M := en_v1 i hi
  have m0 : Cond.exactly (en_vT i) "SlabPantry$Verb" ∈ nw := M _ (by unfold en_vq; simp)
  have m1 := M (.eq (.field (en_vT i) "java/lang/Enum" "ordinal" "I") (.int (nI i))) (by unfold en_vq; simp)
  have m2 := M (.eq (.field (en_vT i) "SlabPantry$Verb" "word" "Ljava/lang/String;") (en_sT (vb i).1)) (by unfold en_vq; simp)
  have m3 := M (.eq (.field (en_vT i) "SlabPantry$Verb" "form" "Ljava/lang/String;") (en_sT (vb i).2.1)) (by unfold en_vq; simp)
  have m4 := M (.eq (.field (en_vT i) "SlabPantry$Verb" "hasData" "Z") (.int (vb i).2.2.1)) (by unfold en_vq; simp)
  have m5 := M (.eq (.field (en_vT i) "SlabPantry$Verb" "changesItem" "Z") (.int (vb i).2.2.2)) (by unfold en_vq; simp)
  obtain ⟨a, c, cA, kA, q1, -⟩ := Cond.exactly_spec (args := #[Value.ref b]) (first := s) (o := none) (s := s) (idx := []) (t := en_vT i) (cls := "SlabPantry$Verb") (hn _ m0)
  have e1 := en_ad_of q1
  have hw : (vb i).1 < 38 ∧ (vb i).2.1 < 38 := of_decide_eq_true (List.all_eq_true.mp (show (List.range 14).all (fun i => decide ((vb i).1 < 38 ∧ (vb i).2.1 < 38)) = true by decide +kernel) i (List.mem_range.mpr hi))
  have s1 := (en_str (A := A) hn ht hA G hG (vb i).1 hw.1).1
  have s2 := (en_str (A := A) hn ht hA G hG (vb i).2.1 hw.2).1
  rw [← en_g0 b s i hi, ← hG] at e1
  exact ⟨e1, va_Zref (ht _ (en_l1 i hi)) (ht _ (List.mem_of_getElem? (i := 8) (by decide +kernel))) e1 hA, va_Oof (hn _ m0) e1 hA, vk_OFof e1 (va_eqt (hn _ m1)) hA, vk_OFof e1 (en_eqR (hn _ m2) s1) hA, vk_OFof e1 (en_eqR (hn _ m3) s2) hA, vk_OFof e1 (va_eqt (hn _ m4)) hA, vk_OFof e1 (va_eqt (hn _ m5)) hA⟩
set_option maxRecDepth 100000 in
theorem en_va0 : (nw.drop 12).take 2 = [.arrayOf en_vs (.object "SlabPantry$Verb"), .eq (.length en_vs) (.int (Int32.ofNat 14))] ∧ (nw.drop (12 + 3)).take 14 = (List.range 14).map (fun k => .eq (.elem en_vs (.int (Int32.ofNat k))) (en_vT k)) := by decide +kernel
set_option maxRecDepth 100000 in
theorem en_sw0 : (nw.drop 50).take 16 = [.arrayOf en_sw .int, .eq (.length en_sw) (.int (Int32.ofNat 14))] ++ (List.range 14).map (fun k => .eq (.elem en_sw (.int (Int32.ofNat k))) (.int (sw_tab.getD k 0))) := by decide +kernel
theorem en_vs1 (hn : ∀ w ∈ nw, w.before #[Value.ref b] s = true) (ht : ∀ w ∈ tables_1, w.before #[Value.ref b] s = true) (hA : ∀ a : Nat, a < s.heap.size → ¬ A a) (G : sp_G) (hG : G.2.2 = en_g b s) : va_Z "SlabPantry$Command" "VERBS" "[LSlabPantry$Verb;" (.ref (G.2.2 50)) A s s.heap ∧ va_T (.object "SlabPantry$Verb") (G.2.2 50) 14 (fun k => .ref (G.2.2 k)) A s s.heap := by
  have m0 : Cond.arrayOf en_vs (.object "SlabPantry$Verb") ∈ nw := en_part en_va0.1 (by simp)
  have m1 : Cond.eq (.length en_vs) (.int (Int32.ofNat 14)) ∈ nw := en_part en_va0.1 (by simp)
  have m2 : ∀ k : Nat, k < 14 → Cond.eq (.elem en_vs (.int (Int32.ofNat k))) (en_vT k) ∈ nw := fun k hk => en_part en_va0.2 (List.mem_map.mpr ⟨k, List.mem_range.mpr hk, rfl⟩)
  obtain ⟨t, h1, h2⟩ := va_Tof (args := #[Value.ref b]) (s := s) (tm := en_vs) (ty := .object "SlabPantry$Verb") (N := 14) (f := fun k => .ref (G.2.2 k)) (A := A) (by decide) (hn _ m0) (va_eqt (hn _ m1)) (fun k hk => en_eqR (hn _ (m2 k hk)) (en_verb (A := A) hn ht hA G hG k hk).1) hA
  have e2 := en_ad_of h1
  have e3 : t = G.2.2 50 := by
    have h := h1.symm.trans e2
    injection h with h
    injection h with h
    rw [hG]
    exact h
  subst e3
  exact ⟨va_Zref (ht _ (List.mem_of_getElem? (i := 254) (by decide +kernel))) (ht _ (List.mem_of_getElem? (i := 6) (by decide +kernel))) h1 hA, h2⟩
theorem en_sw1 (hn : ∀ w ∈ nw, w.before #[Value.ref b] s = true) (ht : ∀ w ∈ tables_1, w.before #[Value.ref b] s = true) (hA : ∀ a : Nat, a < s.heap.size → ¬ A a) (G : sp_G) (hG : G.2.2 = en_g b s) : va_Z "SlabPantry$1" "$SwitchMap$SlabPantry$Verb" "[I" (.ref (G.2.2 51)) A s s.heap ∧ va_T .int (G.2.2 51) 14 (fun k => .int (sw_tab.getD k 0)) A s s.heap := by
  have m0 : Cond.arrayOf en_sw .int ∈ nw := en_part en_sw0 (by simp)
  have m1 : Cond.eq (.length en_sw) (.int (Int32.ofNat 14)) ∈ nw := en_part en_sw0 (by simp)
  have m2 : ∀ k : Nat, k < 14 → Cond.eq (.elem en_sw (.int (Int32.ofNat k))) (.int (sw_tab.getD k 0)) ∈ nw := fun k hk => en_part en_sw0 (List.mem_append_right _ (List.mem_map.mpr ⟨k, List.mem_range.mpr hk, rfl⟩))
  obtain ⟨t, h1, h2⟩ := va_Tof (args := #[Value.ref b]) (s := s) (tm := en_sw) (ty := .int) (N := 14) (f := fun k => .int (sw_tab.getD k 0)) (A := A) (by decide) (hn _ m0) (va_eqt (hn _ m1)) (fun k hk => va_eqt (hn _ (m2 k hk))) hA
  have e2 := en_ad_of h1
  have e3 : t = G.2.2 51 := by
    have h := h1.symm.trans e2
    injection h with h
    injection h with h
    rw [hG]
    exact h
  subst e3
  exact ⟨va_Zref (ht _ (List.mem_of_getElem? (i := 393) (by decide +kernel))) (ht _ (List.mem_of_getElem? (i := 15) (by decide +kernel))) h1 hA, h2⟩
theorem en_lsof {C n d : String} (h : (Cond.laysStatic C n d).before #[Value.ref b] s = true) (hA : ∀ a : Nat, a < s.heap.size → ¬ A a) : ev_ls C n d A s s.heap := by
  obtain ⟨c, k, i, f, a, cell, hc, hi, hst, ha, hcell, hs, hcls, hlt, hty⟩ := Cond.laysStatic_spec h
  exact ⟨c, k, i, f, a, cell, hc, hi, hst, ha, hcell, hs, hcls, hlt, hty, hA a (Array.getElem?_eq_some_iff.mp hcell).1⟩
theorem en_ncof (h : (Cond.not (Cond.castable "java/lang/IndexOutOfBoundsException" "java/lang/IllegalArgumentException")).before #[Value.ref b] s = true) : ev_nc s := by
  simp only [Cond.before, Cond.holds, Cond.value] at h
  cases hc : s.vm.findClass "java/lang/IndexOutOfBoundsException" with
  | none => simp [hc] at h
  | some c =>
    cases ht : s.vm.findClass "java/lang/IllegalArgumentException" with
    | none => simp [hc, ht] at h
    | some t =>
      refine ⟨c, t, hc, ht, ?_⟩
      simp [hc, ht] at h
      exact h
theorem en_rest (hn : ∀ w ∈ nw, w.before #[Value.ref b] s = true) (ht : ∀ w ∈ tables_1, w.before #[Value.ref b] s = true) (hA : ∀ a : Nat, a < s.heap.size → ¬ A a) (G : sp_G) (hG : G.2.2 = en_g b s) : ev_rest G A s s.heap := by
  have v := en_vs1 (A := A) hn ht hA G hG
  have w := en_sw1 (A := A) hn ht hA G hG
  have lu : (Cond.laysStatic "java/lang/Throwable" "UNASSIGNED_STACK" "[Ljava/lang/StackTraceElement;").before #[Value.ref b] s = true := ht _ (List.mem_of_getElem? (i := 702) (by decide +kernel))
  have lp : (Cond.laysStatic "java/lang/Throwable" "SUPPRESSED_SENTINEL" "Ljava/util/List;").before #[Value.ref b] s = true := ht _ (List.mem_of_getElem? (i := 704) (by decide +kernel))
  have it : (Cond.initialized "java/lang/Throwable").before #[Value.ref b] s = true := ht _ (List.mem_of_getElem? (i := 18) (by decide +kernel))
  refine ⟨v.1, v.2, w.1, w.2, va_Zof (ht _ (List.mem_of_getElem? (i := 276) (by decide +kernel))) (ht _ (List.mem_of_getElem? (i := 11) (by decide +kernel))) (va_eqi (hn _ (List.mem_of_getElem? (i := 29) (by decide +kernel)))) hA, va_Zqof lu it (hn _ (List.mem_of_getElem? (i := 66) (by decide +kernel))) hA, va_Zqof lp it (hn _ (List.mem_of_getElem? (i := 67) (by decide +kernel))) hA, va_AO.of (A := #[Value.ref b]) (ht _ (List.mem_of_getElem? (i := 52) (by decide +kernel))), va_Zqof (ht _ (List.mem_of_getElem? (i := 292) (by decide +kernel))) (ht _ (List.mem_of_getElem? (i := 13) (by decide +kernel))) (hn _ (List.mem_of_getElem? (i := 30) (by decide +kernel))) hA, en_lsof lu hA, en_lsof lp hA, en_ncof (b := b) (hn _ (List.mem_of_getElem? (i := 243) (by decide +kernel)))⟩
theorem en_arr {ty : FieldType} (h : (Cond.arrayClass ty).before #[Value.ref b] s = true) : ∃ cA : ClassId, ArrOfT s cA ty ∧ s.vm.findClass ("[" ++ ty.toString) = some cA := by
  obtain ⟨c, k, comp, h1, h2, h3⟩ := Cond.arrayClass_spec h
  exact ⟨c, fun n z => ⟨fun k h => (by cases h), k, h2, comp, h3⟩, h1⟩
theorem en_all (hts : ∀ w ∈ lw_tbl, w.before #[Value.ref b] s = true) (hg : (Jvm.Cond.and given_1 narrow_1).before #[Value.ref b] s = true) (hA : ∀ a : Nat, a < s.heap.size → ¬ A a) : ∃ G : sp_G, sp_E G A s s.heap := by
  have hn : ∀ w ∈ nw, w.before #[Value.ref b] s = true := flat_of_before _ hg
  have ht : ∀ w ∈ tables_1, w.before #[Value.ref b] s = true := fun w hw => hts w (List.mem_append_right _ hw)
  have hT : ∀ w ∈ sp_TB, w.before #[Value.ref b] s = true := fun w hw => hts w (List.mem_filter.mp hw).1
  have k0 : ∀ c : Nat, ∃ q : ClassId × (Nat → Nat), ∀ r : vw_C, classes[c]? = some r → u_Kn s r.1 r.2.1 r.2.2 q.1 q.2 := by
    intro c
    cases hr : classes[c]? with
    | none => exact ⟨(0, fun _ => 0), fun r h => by cases h⟩
    | some r =>
      have hc : c < 9 := (List.getElem?_eq_some_iff.mp hr).1
      have hi := ht _ (en_c1 c hc)
      rw [List.getD_eq_getElem?_getD, hr] at hi
      obtain ⟨cC, iS, h⟩ := u_known (ws := sp_TB) (C := r.1) (T := r.2.1) (N := r.2.2) hT (sp_cl_ws (ci := c) hr) hi
      exact ⟨(cC, iS), fun r' h' => by cases h'; exact h⟩
  obtain ⟨kf, hk⟩ := Classical.axiomOfChoice k0
  obtain ⟨a0, a01, a02⟩ := en_arr (b := b) (s := s) (ty := .char) (ht _ (List.mem_of_getElem? (i := 44) (by decide +kernel)))
  obtain ⟨a1, a11, a12⟩ := en_arr (b := b) (s := s) (ty := .int) (ht _ (List.mem_of_getElem? (i := 132) (by decide +kernel)))
  obtain ⟨a2, a21, a22⟩ := en_arr (b := b) (s := s) (ty := .long) (ht _ (List.mem_of_getElem? (i := 918) (by decide +kernel)))
  obtain ⟨comp, a3, kA, o1, -, o3, o4, o5⟩ := Cond.arrayOver_spec (ht (.arrayOver (.object "SlabPantry$Shelf")) (List.mem_of_getElem? (i := 52) (by decide +kernel)))
  have hG := (rfl : ((fun c => (kf c).1, fun c => (kf c).2), (fun n => if n = 0 then a0 else if n = 1 then a1 else if n = 2 then a2 else a3), en_g b s).2.2 = en_g b s)
  refine ⟨((fun c => (kf c).1, fun c => (kf c).2), (fun n => if n = 0 then a0 else if n = 1 then a1 else if n = 2 then a2 else a3), en_g b s), ⟨fun c r h => hk c r h, fun k q h => ?_⟩, fun i hi => (en_verb hn ht hA _ hG i hi).2, fun i j hi hj e => ?_, fun j hj => (en_str hn ht hA _ hG j hj).2, en_rest hn ht hA _ hG⟩
  · have hlt : k < 4 := (List.getElem?_eq_some_iff.mp h).1
    have hcase : k = 0 ∨ k = 1 ∨ k = 2 ∨ k = 3 := by omega
    rcases hcase with rfl | rfl | rfl | rfl
    · cases h
      exact ⟨a01, a02⟩
    · cases h
      exact ⟨a11, a12⟩
    · cases h
      exact ⟨a21, a22⟩
    · cases h
      exact ⟨fun N z => ⟨(fun k h => by cases h), kA, o3, comp, o4⟩, kA, comp, o3, o4, o1, o5⟩
  · by_cases hij : i = j
    · exact hij
    · rcases en_q1 i j hi hj hij with h | h
      · exact absurd e (va_neR (hn _ h) (en_verb (A := A) hn ht hA _ hG i hi).1 (en_verb (A := A) hn ht hA _ hG j hj).1)
      · exact absurd e.symm (va_neR (hn _ h) (en_verb (A := A) hn ht hA _ hG j hj).1 (en_verb (A := A) hn ht hA _ hG i hi).1)
end EN
