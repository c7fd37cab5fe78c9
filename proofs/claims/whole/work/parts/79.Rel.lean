/-! The model's items by their places, and the items newest first. -/
def sR (R : List (It × Nat)) (L : List It) (ck : Nat) : Prop := ∃ P : List (It × Nat), P.Perm R ∧ P.map Prod.fst = L ∧ P.Pairwise (fun x y => y.2 < x.2) ∧ ∀ x ∈ R, x.2 ≤ ck
def kne (k : List Nat) (x : It × Nat) : Bool := decide (iK x.1 ≠ k)
theorem map_kne (k : List Nat) (P : List (It × Nat)) : (P.filter (kne k)).map Prod.fst = rmv k (P.map Prod.fst) := by
  unfold rmv
  rw [List.filter_map]
  rfl
theorem set_perm' : ∀ (R : List (It × Nat)) (i : Nat) (z : It × Nat), i < R.length → (R.set i z).Perm (z :: R.eraseIdx i)
  | [], i, z, h => absurd h (Nat.not_lt_zero _)
  | y :: R, 0, z, _ => List.Perm.refl _
  | y :: R, i + 1, z, h => ((set_perm' R i z (Nat.lt_of_succ_lt_succ h)).cons y).trans (List.Perm.swap z y _)
theorem set_perm {R : List (It × Nat)} {i : Nat} (hi : i < R.length) (z : It × Nat) : (R.set i z).Perm (z :: R.eraseIdx i) := set_perm' R i z hi
theorem at_perm' : ∀ (R : List (It × Nat)) (i : Nat) (x : It × Nat), R[i]? = some x → (x :: R.eraseIdx i).Perm R
  | [], i, x, h => by simp at h
  | y :: R, 0, x, h => by
    rw [List.getElem?_cons_zero] at h
    cases h
    exact List.Perm.refl _
  | y :: R, i + 1, x, h => by
    rw [List.getElem?_cons_succ] at h
    exact (List.Perm.swap y x _).trans ((at_perm' R i x h).cons y)
theorem at_perm {R : List (It × Nat)} {i : Nat} {x : It × Nat} (h : R[i]? = some x) : (x :: R.eraseIdx i).Perm R := at_perm' R i x h
theorem rmx_app {R : List (It × Nat)} {i : Nat} (hi : i < R.length) : R.set i (R.getD (R.length - 1) dIt) = rmx i R ++ [R.getD (R.length - 1) dIt] := by
  obtain ⟨n, hn⟩ : ∃ n, R.length = n + 1 := ⟨R.length - 1, by omega⟩
  have hl : (rmx i R).length = n := by rw [rmx_len]; omega
  apply List.ext_getElem?
  intro j
  by_cases hj : j < n
  · rw [List.getElem?_append_left (by omega)]
    unfold rmx
    rw [List.getElem?_dropLast, if_pos (by rw [List.length_set]; omega)]
  · rw [List.getElem?_append_right (by omega), hl]
    by_cases e : j = n
    · subst e
      rw [Nat.sub_self, List.getElem?_cons_zero]
      by_cases q : i = j
      · subst q
        rw [List.getElem?_set_self hi]
      · rw [List.getElem?_set_ne q, List.getD_eq_getElem?_getD, hn, Nat.add_sub_cancel, List.getElem?_eq_getElem (show j < R.length by omega)]
        rfl
    · rw [List.getElem?_eq_none (by rw [List.length_set]; omega), List.getElem?_eq_none (by show 1 ≤ j - n; omega)]
theorem rmx_perm {R : List (It × Nat)} {i : Nat} (hi : i < R.length) : (rmx i R).Perm (R.eraseIdx i) := by
  have h := set_perm hi (R.getD (R.length - 1) dIt)
  rw [rmx_app hi] at h
  exact ((List.perm_append_singleton _ _).symm.trans h).cons_inv
section SR
variable {R : List (It × Nat)} {L : List It} {ck : Nat}
theorem sR.len (h : sR R L ck) : R.length = L.length := by
  obtain ⟨P, h1, h2, -⟩ := h
  rw [← h2, List.length_map, h1.length_eq]
theorem sR.mem (h : sR R L ck) {x : It} : x ∈ L ↔ ∃ u, (x, u) ∈ R := by
  obtain ⟨P, h1, h2, -⟩ := h
  rw [← h2, List.mem_map]
  exact ⟨fun ⟨y, hy, e⟩ => ⟨y.2, by rw [← e]; exact h1.mem_iff.mp hy⟩, fun ⟨u, hu⟩ => ⟨_, h1.mem_iff.mpr hu, rfl⟩⟩
theorem sR.mem' (h : sR R L ck) {x : It × Nat} (hx : x ∈ R) : x.1 ∈ L := h.mem.mpr ⟨x.2, hx⟩
theorem sR.bd (h : sR R L ck) : ∀ x ∈ R, x.2 ≤ ck := by
  obtain ⟨P, h1, h2, h3, h4⟩ := h
  exact h4
theorem sR.nil (ck : Nat) : sR [] [] ck := ⟨[], List.Perm.refl _, rfl, List.Pairwise.nil, fun x hx => by cases hx⟩
/-- the other items have other keys -/
theorem sR.oth (h : sR R L ck) (hk : kd L) {i : Nat} {x : It × Nat} (hx : R[i]? = some x) : (R.eraseIdx i).filter (kne (iK x.1)) = R.eraseIdx i := by
  obtain ⟨P, h1, h2, -⟩ := h
  have hp := (at_perm hx).trans h1.symm
  have hnd : ((x :: R.eraseIdx i).map (fun y => iK y.1)).Nodup := by
    have e : (P.map (fun y => iK y.1)) = L.map iK := by rw [← h2, List.map_map]; rfl
    rw [(hp.map _).nodup_iff, e]
    exact hk
  rw [List.map_cons, List.nodup_cons] at hnd
  refine List.filter_eq_self.mpr fun y hy => ?_
  unfold kne
  rw [decide_eq_true_eq]
  intro e
  exact hnd.1 (List.mem_map.mpr ⟨y, hy, e⟩)
theorem sR.P (h : sR R L ck) (hk : kd L) {i : Nat} {x : It × Nat} (hx : R[i]? = some x) : ∃ P : List (It × Nat), P.Perm (R.eraseIdx i) ∧ P.map Prod.fst = rmv (iK x.1) L ∧ P.Pairwise (fun x y => y.2 < x.2) := by
  have ho := h.oth hk hx
  obtain ⟨P, h1, h2, h3, h4⟩ := h
  refine ⟨P.filter (kne (iK x.1)), ?_, by rw [map_kne, h2], h3.filter _⟩
  have hp := (h1.trans (at_perm hx).symm).filter (kne (iK x.1))
  rw [List.filter_cons_of_neg (by unfold kne; simp)] at hp
  rw [ho] at hp
  exact hp
theorem er_mem {i : Nat} {y : It × Nat} (h : y ∈ R.eraseIdx i) : y ∈ R := List.mem_of_mem_eraseIdx h
theorem sR.rm (h : sR R L ck) (hk : kd L) {i : Nat} {x : It × Nat} (hx : R[i]? = some x) : sR (rmx i R) (rmv (iK x.1) L) ck := by
  obtain ⟨P, h1, h2, h3⟩ := h.P hk hx
  have hi := (List.getElem?_eq_some_iff.mp hx).1
  exact ⟨P, h1.trans (rmx_perm hi).symm, h2, h3, fun y hy => h.bd y (er_mem ((rmx_perm hi).mem_iff.mp hy))⟩
theorem sR.us (h : sR R L ck) (hk : kd L) {i : Nat} {x : It × Nat} (hx : R[i]? = some x) (x' : It) : sR (R.set i (x', ck + 1)) (x' :: rmv (iK x.1) L) (ck + 1) := by
  obtain ⟨P, h1, h2, h3⟩ := h.P hk hx
  have hi := (List.getElem?_eq_some_iff.mp hx).1
  have hb : ∀ y ∈ R.eraseIdx i, y.2 ≤ ck := fun y hy => h.bd y (er_mem hy)
  refine ⟨(x', ck + 1) :: P, (h1.cons _).trans (set_perm hi _).symm, by rw [List.map_cons, h2], List.pairwise_cons.mpr ⟨fun y hy => ?_, h3⟩, fun y hy => ?_⟩
  · have := hb y (h1.mem_iff.mp hy)
    show y.2 < ck + 1
    omega
  · rcases List.mem_cons.mp ((set_perm hi _).mem_iff.mp hy) with e | e
    · rw [e]
      exact Nat.le_refl _
    · have := hb y e
      omega
theorem sR.new (h : sR R L ck) (x : It) : sR (R ++ [(x, ck + 1)]) (x :: L) (ck + 1) := by
  obtain ⟨P, h1, h2, h3, h4⟩ := h
  refine ⟨(x, ck + 1) :: P, (h1.cons _).trans (List.perm_append_singleton _ _).symm, by rw [List.map_cons, h2], List.pairwise_cons.mpr ⟨fun y hy => ?_, h3⟩, fun y hy => ?_⟩
  · have := h4 y (h1.mem_iff.mp hy)
    show y.2 < ck + 1
    omega
  · rcases List.mem_append.mp hy with e | e
    · have := h4 y e
      omega
    · rw [List.mem_singleton.mp e]
      exact Nat.le_refl _
theorem cl_map (c : Nat) (P : List (It × Nat)) : (P.filter (fun x => decide (icl x.1 = c))).map Prod.fst = fi c (P.map Prod.fst) := by
  unfold fi
  rw [List.filter_map]
  rfl
theorem sR.cnt (h : sR R L ck) (c : Nat) : cn c R = (fi c L).length := by
  obtain ⟨P, h1, h2, -⟩ := h
  unfold cn
  rw [← h2, ← cl_map, List.length_map, (h1.filter _).length_eq]
theorem sR.last (h : sR R L ck) {c i : Nat} {x : It × Nat} (hx : lst c R i x) : lk c L = iK x.1 := by
  obtain ⟨P, h1, h2, h3, h4⟩ := h
  obtain ⟨hx1, hx2, hx3⟩ := hx
  have hxP : x ∈ P.filter (fun x => decide (icl x.1 = c)) := List.mem_filter.mpr ⟨h1.mem_iff.mpr (List.mem_of_getElem? hx1), decide_eq_true hx2⟩
  have hs : (P.filter (fun x => decide (icl x.1 = c))).Pairwise (fun x y => y.2 < x.2) := h3.filter _
  have hmin : ∀ y ∈ P.filter (fun x => decide (icl x.1 = c)), x.2 ≤ y.2 := fun y hy => by
    obtain ⟨hy1, hy2⟩ := List.mem_filter.mp hy
    obtain ⟨j, hj⟩ := List.mem_iff_getElem?.mp (h1.mem_iff.mp hy1)
    exact hx3 j y hj (of_decide_eq_true hy2)
  unfold lk
  rw [← h2, ← cl_map]
  generalize P.filter (fun x => decide (icl x.1 = c)) = Pc at hxP hs hmin
  have hne : Pc ≠ [] := fun e => by rw [e] at hxP; cases hxP
  obtain ⟨q, y, rfl⟩ : ∃ q y, Pc = q ++ [y] := ⟨_, _, (List.dropLast_concat_getLast hne).symm⟩
  have hy : x = y := by
    rcases List.mem_append.mp hxP with e | e
    · have h5 := (List.pairwise_append.mp hs).2.2 x e y (List.mem_singleton.mpr rfl)
      have h6 := hmin y (List.mem_append_right _ (List.mem_singleton.mpr rfl))
      have h5 : y.2 < x.2 := h5
      omega
    · exact List.mem_singleton.mp e
  rw [List.map_append, List.map_cons, List.map_nil, List.getLast?_concat, hy]
/-- how many of the class are newer than a stamp -/
def bf (c u : Nat) (R : List (It × Nat)) : Nat := (R.filter (fun x => decide (icl x.1 = c) && decide (u < x.2))).length
theorem bf_pos : ∀ (P : List (It × Nat)) (k : Nat) (x : It × Nat), P.Pairwise (fun x y => y.2 < x.2) → P[k]? = some x → (P.filter (fun y => decide (x.2 < y.2))).length = k
  | [], k, x, _, h => by simp at h
  | y :: P, 0, x, hs, h => by
    rw [List.getElem?_cons_zero] at h
    cases h
    rw [List.filter_eq_nil_iff.mpr]
    · rfl
    · intro w hw
      rw [decide_eq_true_eq]
      rcases List.mem_cons.mp hw with e | e
      · rw [e]; exact Nat.lt_irrefl _
      · have : w.2 < y.2 := (List.pairwise_cons.mp hs).1 w e
        omega
  | y :: P, k + 1, x, hs, h => by
    rw [List.getElem?_cons_succ] at h
    have hlt : x.2 < y.2 := (List.pairwise_cons.mp hs).1 x (List.mem_of_getElem? h)
    rw [List.filter_cons_of_pos (by rw [decide_eq_true_eq]; exact hlt), List.length_cons, bf_pos P k x (List.pairwise_cons.mp hs).2 h]
theorem sR.ord (h : sR R L ck) (c : Nat) : (∀ (i : Nat) (x : It × Nat), R[i]? = some x → icl x.1 = c → (fi c L)[bf c x.2 R]? = some x.1) ∧ ∀ (k : Nat) (y : It), (fi c L)[k]? = some y → ∃ (i : Nat) (x : It × Nat), R[i]? = some x ∧ icl x.1 = c ∧ x.1 = y ∧ bf c x.2 R = k := by
  obtain ⟨P, h1, h2, h3, h4⟩ := h
  have hs : (P.filter (fun x => decide (icl x.1 = c))).Pairwise (fun x y => y.2 < x.2) := h3.filter _
  have hbf : ∀ u, bf c u R = ((P.filter (fun x => decide (icl x.1 = c))).filter (fun y => decide (u < y.2))).length := fun u => by
    unfold bf
    rw [List.filter_filter, ← (h1.filter _).length_eq]
    congr 2
    funext y
    rw [Bool.and_comm]
  rw [← h2, ← cl_map]
  refine ⟨fun i x hx hc => ?_, fun k y hk => ?_⟩
  · have hxP : x ∈ P.filter (fun x => decide (icl x.1 = c)) := List.mem_filter.mpr ⟨h1.mem_iff.mpr (List.mem_of_getElem? hx), decide_eq_true hc⟩
    obtain ⟨k, hk⟩ := List.mem_iff_getElem?.mp hxP
    rw [hbf, bf_pos _ k x hs hk, List.getElem?_map, hk]
    rfl
  · rw [List.getElem?_map, Option.map_eq_some_iff] at hk
    obtain ⟨x, hk, rfl⟩ := hk
    obtain ⟨hx1, hx2⟩ := List.mem_filter.mp (List.mem_of_getElem? hk)
    obtain ⟨i, hi⟩ := List.mem_iff_getElem?.mp (h1.mem_iff.mp hx1)
    exact ⟨i, x, hi, of_decide_eq_true hx2, rfl, by rw [hbf]; exact bf_pos _ k x hs hk⟩
theorem sR.fil (h : sR R L ck) {p : It → Bool} {R' : List (It × Nat)} (hR : R'.Perm (R.filter (fun x => p x.1))) : sR R' (L.filter p) ck := by
  obtain ⟨P, h1, h2, h3, h4⟩ := h
  refine ⟨P.filter (fun x => p x.1), (h1.filter _).trans hR.symm, ?_, h3.filter _, fun x hx => h4 x (List.mem_filter.mp (hR.mem_iff.mp hx)).1⟩
  rw [← h2, List.filter_map]
  rfl
theorem sR.fd (h : sR R L ck) (hk : kd L) {i : Nat} {x : It × Nat} (hx : R[i]? = some x) : fnd (iK x.1) L = some x.1 := fnd_some hk (h.mem' (List.mem_of_getElem? hx)) rfl
theorem sR.fno (h : sR R L ck) {k : List Nat} (hn : ∀ x ∈ R, iK x.1 ≠ k) : fnd k L = none := fnd_none fun x hx => by
  obtain ⟨u, hu⟩ := h.mem.mp hx
  exact hn _ hu
end SR
theorem kd_rmv {L : List It} (h : kd L) (k : List Nat) : kd (rmv k L) := kd_sub h List.filter_sublist
theorem kd_cons {L : List It} {x : It} (h : kd (rmv (iK x) L)) : kd (x :: rmv (iK x) L) := by
  unfold kd
  rw [List.map_cons, List.nodup_cons]
  refine ⟨fun q => ?_, h⟩
  obtain ⟨y, hy, e⟩ := List.mem_map.mp q
  exact (rmv_mem hy).2 e
