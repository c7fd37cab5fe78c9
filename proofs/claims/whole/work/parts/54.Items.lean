/-! Items, in the order of their last use, newest first: what class and reference both keep. -/
abbrev It : Type := List Nat × List Nat × Nat × Nat × Nat
abbrev iK (x : It) : List Nat := x.1
abbrev iD (x : It) : List Nat := x.2.1
abbrev iF (x : It) : Nat := x.2.2.1
abbrev iT (x : It) : Nat := x.2.2.2.1
abbrev iG (x : It) : Nat := x.2.2.2.2
def cI (r : CR) : It := (cK r, cV r, cFl r, cTk r, cGn r)
def icl (x : It) : Nat := (zf ((iK x).length + (iD x).length)).getD 9
def kd (L : List It) : Prop := (L.map iK).Nodup
def fi (i : Nat) (L : List It) : List It := L.filter (fun x => decide (icl x = i))
def rmv (k : List Nat) (L : List It) : List It := L.filter (fun x => decide (iK x ≠ k))
def absR (os : Nat → List Nat) (Q : Nat → CR) (L : List It) : Prop := (∀ i, i < 4 → (os i).map (fun c => cI (Q c)) = fi i L) ∧ (∀ x ∈ L, icl x < 4) ∧ kd L
theorem kd_inj {L : List It} (h : kd L) {x y : It} (hx : x ∈ L) (hy : y ∈ L) (he : iK x = iK y) : x = y := by
  induction L with
  | nil => cases hx
  | cons z L ih =>
    unfold kd at h
    rw [List.map_cons, List.nodup_cons] at h
    rcases List.mem_cons.mp hx with e1 | hx1
    · rcases List.mem_cons.mp hy with e2 | hy1
      · rw [e1, e2]
      · rw [e1] at he
        exact absurd (List.mem_map.mpr ⟨y, hy1, he.symm⟩) h.1
    · rcases List.mem_cons.mp hy with e2 | hy1
      · rw [e2] at he
        exact absurd (List.mem_map.mpr ⟨x, hx1, he⟩) h.1
      · exact ih h.2 hx1 hy1
theorem kd_sub {L L' : List It} (h : kd L) (hs : L'.Sublist L) : kd L' := h.sublist (hs.map iK)
theorem er_fil {L : List It} (h : kd L) {k : Nat} {x : It} (hk : L[k]? = some x) : L.eraseIdx k = rmv (iK x) L := by
  induction L generalizing k with
  | nil => cases hk
  | cons z L ih =>
    unfold kd at h
    rw [List.map_cons, List.nodup_cons] at h
    cases k with
    | zero =>
      rw [List.getElem?_cons_zero] at hk
      cases hk
      rw [List.eraseIdx_cons_zero]
      unfold rmv
      rw [List.filter_cons_of_neg (by simp)]
      refine (List.filter_eq_self.mpr fun y hy => decide_eq_true (p := iK y ≠ iK x) fun e => ?_).symm
      exact h.1 (List.mem_map.mpr ⟨y, hy, e⟩)
    | succ k =>
      rw [List.getElem?_cons_succ] at hk
      rw [List.eraseIdx_cons_succ, ih h.2 hk]
      unfold rmv
      rw [List.filter_cons_of_pos]
      refine decide_eq_true (p := iK z ≠ iK x) fun e => ?_
      exact h.1 (List.mem_map.mpr ⟨x, List.mem_of_getElem? hk, e.symm⟩)
theorem rmv_none {L : List It} {k : List Nat} (h : ∀ x ∈ L, iK x ≠ k) : rmv k L = L := List.filter_eq_self.mpr fun y hy => decide_eq_true (h y hy)
theorem fi_rmv (i : Nat) (k : List Nat) (L : List It) : fi i (rmv k L) = rmv k (fi i L) := by
  unfold fi rmv
  rw [List.filter_filter, List.filter_filter]
  congr 1
  funext x
  exact Bool.and_comm _ _
theorem fi_kd {L : List It} (h : kd L) (i : Nat) : kd (fi i L) := kd_sub h List.filter_sublist
theorem absR.at {os : Nat → List Nat} {Q : Nat → CR} {L : List It} (h : absR os Q L) {i k c : Nat} (hi : i < 4) (hc : (os i)[k]? = some c) : (fi i L)[k]? = some (cI (Q c)) := by
  rw [← h.1 i hi, List.getElem?_map, hc]
  rfl
theorem absR.mem {os : Nat → List Nat} {Q : Nat → CR} {L : List It} (h : absR os Q L) {i k c : Nat} (hi : i < 4) (hc : (os i)[k]? = some c) : cI (Q c) ∈ L ∧ icl (cI (Q c)) = i := by
  have := List.mem_filter.mp (List.mem_of_getElem? (h.at hi hc))
  exact ⟨this.1, of_decide_eq_true this.2⟩
theorem absR.none {os : Nat → List Nat} {Q : Nat → CR} {L : List It} (h : absR os Q L) {key : List Nat} (hn : ∀ i, i < 4 → ∀ c ∈ os i, cK (Q c) ≠ key) : ∀ x ∈ L, iK x ≠ key := fun x hx e => by
  have hi := h.2.1 x hx
  have hm : x ∈ fi (icl x) L := List.mem_filter.mpr ⟨hx, decide_eq_true rfl⟩
  rw [← h.1 _ hi] at hm
  obtain ⟨c, hc, rfl⟩ := List.mem_map.mp hm
  exact hn _ hi c hc e
theorem map_erase {α β : Type} (f : α → β) : ∀ (l : List α) (k : Nat), (l.eraseIdx k).map f = (l.map f).eraseIdx k
  | [], _ => rfl
  | x :: l, 0 => rfl
  | x :: l, k + 1 => by
    rw [List.eraseIdx_cons_succ, List.map_cons, List.map_cons, List.eraseIdx_cons_succ, map_erase f l k]
theorem absR.rm {os : Nat → List Nat} {Q : Nat → CR} {L : List It} (h : absR os Q L) {i k c : Nat} (hi : i < 4) (hc : (os i)[k]? = some c) : absR (up os i ((os i).eraseIdx k)) Q (rmv (cK (Q c)) L) := by
  have hat := h.at hi hc
  obtain ⟨hm, hcl⟩ := h.mem hi hc
  refine ⟨fun j hj => ?_, fun x hx => h.2.1 x (List.mem_filter.mp hx).1, kd_sub h.2.2 List.filter_sublist⟩
  rw [fi_rmv]
  by_cases e : j = i
  · rw [e, up_s, map_erase, h.1 i hi]
    exact er_fil (fi_kd h.2.2 i) hat
  · rw [up_n _ _ e, h.1 j hj]
    refine (rmv_none fun x hx e2 => ?_).symm
    obtain ⟨hx1, hx2⟩ := List.mem_filter.mp hx
    have := kd_inj h.2.2 hx1 hm e2
    rw [this, decide_eq_true_eq, hcl] at hx2
    exact e hx2.symm
theorem absR.congr {os : Nat → List Nat} {Q Q' : Nat → CR} {L : List It} (h : absR os Q L) (hQ : ∀ j, j < 4 → ∀ x ∈ os j, cI (Q' x) = cI (Q x)) : absR os Q' L := by
  refine ⟨fun i hi => ?_, h.2⟩
  rw [← h.1 i hi]
  exact List.map_congr_left (fun x hx => hQ i hi x hx)
theorem absR.new {os : Nat → List Nat} {Q : Nat → CR} {L : List It} (h : absR os Q L) {i c : Nat} (hi : i < 4) (hcl : icl (cI (Q c)) = i) (hk : ∀ x ∈ L, iK x ≠ cK (Q c)) : absR (up os i (c :: os i)) Q (cI (Q c) :: L) := by
  refine ⟨fun j hj => ?_, fun x hx => ?_, ?_⟩
  · unfold fi
    by_cases e : j = i
    · rw [e, up_s, List.map_cons, List.filter_cons_of_pos (by rw [decide_eq_true_eq]; exact hcl), h.1 i hi]
      rfl
    · rw [up_n _ _ e, List.filter_cons_of_neg (by rw [decide_eq_true_eq, hcl]; exact fun q => e q.symm), h.1 j hj]
      rfl
  · rcases List.mem_cons.mp hx with e | hx
    · rw [e, hcl]; exact hi
    · exact h.2.1 x hx
  · unfold kd
    rw [List.map_cons, List.nodup_cons]
    refine ⟨fun hm => ?_, h.2.2⟩
    obtain ⟨x, hx, e⟩ := List.mem_map.mp hm
    exact hk x hx e
theorem rmv_mem {k : List Nat} {L : List It} {x : It} (h : x ∈ rmv k L) : x ∈ L ∧ iK x ≠ k := ⟨(List.mem_filter.mp h).1, of_decide_eq_true (List.mem_filter.mp h).2⟩
/-- brought to the front, its record perhaps anew -/
theorem absR.front {os : Nat → List Nat} {Q Q' : Nat → CR} {L : List It} (h : absR os Q L) {i k c : Nat} (hi : i < 4) (hc : (os i)[k]? = some c) (hQ : ∀ x, x ≠ c → Q' x = Q x) (hK : cK (Q' c) = cK (Q c)) (hV : cV (Q' c) = cV (Q c)) (hnd : nd (os i)) (hap : ∀ j, j < 4 → j ≠ i → c ∉ os j) : absR (up os i (c :: (os i).eraseIdx k)) Q' (cI (Q' c) :: rmv (cK (Q c)) L) := by
  have h1 := h.rm hi hc
  have hcl : icl (cI (Q' c)) = i := by
    rw [← (h.mem hi hc).2]
    unfold icl cI
    dsimp only [iK, iD]
    rw [hK, hV]
  have h2 : absR (up os i ((os i).eraseIdx k)) Q' (rmv (cK (Q c)) L) := h1.congr (fun j hj x hx => by
    rw [hQ x (fun e => ?_)]
    by_cases e2 : j = i
    · rw [e2, up_s, e] at hx
      obtain ⟨k2, hk2⟩ := mem_get hx
      exact ni_self hnd hc k2 hk2
    · rw [up_n _ _ e2, e] at hx
      exact hap j hj e2 hx)
  have h3 := h2.new hi hcl (fun x hx => by rw [hK]; exact (rmv_mem hx).2)
  rw [up_s, up_up] at h3
  exact h3
theorem absR.nil {os : Nat → List Nat} {Q : Nat → CR} (h : ∀ i, i < 4 → os i = []) : absR os Q [] := ⟨(fun i hi => by rw [h i hi]; rfl), (fun x hx => by cases hx), List.nodup_nil⟩
theorem absR.pass {os os' : Nat → List Nat} {Q : Nat → CR} {L : List It} (h : absR os Q L) {t : Nat} (ho : ∀ i, i < 4 → os' i = (os i).filter (fun c => decide (t < cGn (Q c)))) : absR os' Q (L.filter (fun x => decide (t < iG x))) := by
  refine ⟨fun i hi => ?_, fun x hx => h.2.1 x (List.mem_filter.mp hx).1, kd_sub h.2.2 List.filter_sublist⟩
  rw [ho i hi]
  have e1 : ((os i).filter (fun c => decide (t < cGn (Q c)))).map (fun c => cI (Q c)) = ((os i).map (fun c => cI (Q c))).filter (fun x => decide (t < iG x)) := by
    rw [List.filter_map]
    rfl
  rw [e1, h.1 i hi]
  unfold fi
  rw [List.filter_filter, List.filter_filter]
  congr 1
  funext x
  exact Bool.and_comm _ _
theorem absR.len {os : Nat → List Nat} {Q : Nat → CR} {L : List It} (h : absR os Q L) {i : Nat} (hi : i < 4) : (os i).length = (fi i L).length := by
  rw [← h.1 i hi, List.length_map]
theorem fi_tot : ∀ (L : List It), (∀ x ∈ L, icl x < 4) → (fi 0 L).length + (fi 1 L).length + (fi 2 L).length + (fi 3 L).length = L.length
  | [], _ => rfl
  | x :: L, h => by
    have ih := fi_tot L (fun y hy => h y (List.mem_cons_of_mem _ hy))
    have hx := h x List.mem_cons_self
    unfold fi at ih ⊢
    simp only [List.filter_cons]
    have h4 : icl x = 0 ∨ icl x = 1 ∨ icl x = 2 ∨ icl x = 3 := by omega
    rcases h4 with e | e | e | e <;> simp [e] <;> omega
theorem absR.total {os : Nat → List Nat} {Q : Nat → CR} {L : List It} (h : absR os Q L) : tot os = L.length := by
  unfold tot
  rw [h.len (by decide), h.len (by decide), h.len (by decide), h.len (by decide)]
  exact fi_tot L h.2.1
def fnd (k : List Nat) (L : List It) : Option It := L.find? (fun x => decide (iK x = k))
theorem fnd_none {k : List Nat} {L : List It} (h : ∀ x ∈ L, iK x ≠ k) : fnd k L = none := List.find?_eq_none.mpr fun x hx => by rw [decide_eq_false (h x hx)]; decide
theorem fnd_some {k : List Nat} {L : List It} (hk : kd L) {x : It} (hx : x ∈ L) (he : iK x = k) : fnd k L = some x := by
  cases hf : fnd k L with
  | none =>
    have := List.find?_eq_none.mp hf x hx
    exact absurd (decide_eq_true he) this
  | some y =>
    have h1 := List.mem_of_find?_eq_some hf
    have h2 : iK y = k := by
      have := List.find?_some hf
      exact of_decide_eq_true this
    rw [kd_inj hk h1 hx (h2.trans he.symm)]
theorem fnd_mem {k : List Nat} {L : List It} {x : It} (h : fnd k L = some x) : x ∈ L ∧ iK x = k := by
  refine ⟨List.mem_of_find?_eq_some h, ?_⟩
  have := List.find?_some h
  exact of_decide_eq_true this
