/-! pure: characters are numbers, a text is a list of them -/
theorem pu_nar {c : Nat} (h : c < 65536) : vp_nar .char (nI c) = nI c := by
  unfold vp_nar
  rw [(pk_charN h).1]
theorem pu_i2c {c : Nat} (h : c < 65536) : ((nI c).toUInt32 % 65536).toInt32 = nI c := by
  rw [pk_char, pk_tn (by omega), Nat.mod_eq_of_lt h]
theorem pu_getD {α : Type} {s : List α} {i : Nat} {d : α} (h : i < s.length) : s.getD i d ∈ s := by
  rw [List.getD_eq_getElem?_getD, List.getElem?_eq_getElem h]
  exact List.getElem_mem h
theorem pu_getD_out {α : Type} {s : List α} {i : Nat} {d : α} (h : s.length ≤ i) : s.getD i d = d := by
  rw [List.getD_eq_getElem?_getD, List.getElem?_eq_none h]
  rfl
theorem pu_getD_app {α : Type} {s r : List α} {i : Nat} {d : α} (h : i < s.length) : (s ++ r).getD i d = s.getD i d := by
  rw [List.getD_eq_getElem?_getD, List.getD_eq_getElem?_getD, List.getElem?_append_left h]
theorem pu_getD_last {α : Type} {s : List α} {x d : α} : (s ++ [x]).getD s.length d = x := by
  rw [List.getD_eq_getElem?_getD, List.getElem?_append_right (Nat.le_refl _), Nat.sub_self]
  rfl
/-- one more character, where there is room -/
def pu_add (cap : Nat) (s : List Nat) (c : Nat) : List Nat := if s.length < cap then s ++ [c] else s
/-- a text behind a text, where there is room -/
def pu_app (cap : Nat) : List Nat → List Nat → List Nat
  | s, [] => s
  | s, c :: r => pu_app cap (pu_add cap s c) r
theorem pu_app_app (cap : Nat) : ∀ (r q s : List Nat), pu_app cap s (r ++ q) = pu_app cap (pu_app cap s r) q
  | [], _, _ => rfl
  | c :: r, q, s => by
    show pu_app cap (pu_add cap s c) (r ++ q) = _
    rw [pu_app_app cap r q]
    rfl
theorem pu_app_snoc (cap : Nat) (r s : List Nat) (c : Nat) : pu_app cap s (r ++ [c]) = pu_add cap (pu_app cap s r) c := by
  rw [pu_app_app]
  rfl
theorem pu_add_len {cap : Nat} {s : List Nat} {c : Nat} (h : s.length ≤ cap) : (pu_add cap s c).length ≤ cap := by
  unfold pu_add
  split
  · rw [List.length_append]
    simp
    omega
  · exact h
theorem pu_add_mem {cap : Nat} {s : List Nat} {c b : Nat} (h : ∀ x ∈ s, x < b) (hc : c < b) : ∀ x ∈ pu_add cap s c, x < b := by
  unfold pu_add
  split
  · intro x hx
    rcases List.mem_append.mp hx with hx | hx
    · exact h x hx
    · rw [List.mem_singleton.mp hx]
      exact hc
  · exact h
/-- with room for all, nothing is cut -/
theorem pu_app_fits (cap : Nat) : ∀ (r s : List Nat), s.length + r.length ≤ cap → pu_app cap s r = s ++ r
  | [], s, _ => by simp [pu_app]
  | c :: r, s, h => by
    simp only [List.length_cons] at h
    show pu_app cap (pu_add cap s c) r = _
    unfold pu_add
    rw [if_pos (by omega), pu_app_fits cap r (s ++ [c]) (by simp; omega)]
    simp
/-- where the first break stands -/
def pu_brk : List Nat → Nat
  | [] => 0
  | c :: r => if c = 10 then 0 else pu_brk r + 1
theorem pu_brk_c (c : Nat) (r : List Nat) : pu_brk (c :: r) = if c = 10 then 0 else pu_brk r + 1 := rfl
theorem pu_drop {s : List Nat} {i : Nat} (h : i < s.length) : s.drop i = s.getD i 0 :: s.drop (i + 1) := by
  rw [List.getD_eq_getElem?_getD, List.getElem?_eq_getElem h]
  exact List.drop_eq_getElem_cons h
theorem pu_brk_le : ∀ s : List Nat, pu_brk s ≤ s.length
  | [] => Nat.le_refl _
  | c :: r => by
    unfold pu_brk
    split
    · exact Nat.zero_le _
    · exact Nat.succ_le_succ (pu_brk_le r)
/-- n characters of s from place st on (0 where there is none) -/
def pu_seg (s : List Nat) (st n : Nat) : List Nat := (List.range n).map (fun i => s.getD (st + i) 0)
theorem pu_seg_0 (s : List Nat) (st : Nat) : pu_seg s st 0 = [] := rfl
theorem pu_seg_s (s : List Nat) (st n : Nat) : pu_seg s st (n + 1) = pu_seg s st n ++ [s.getD (st + n) 0] := by
  unfold pu_seg
  rw [List.range_succ, List.map_append]
  rfl
theorem pu_seg_len (s : List Nat) (st n : Nat) : (pu_seg s st n).length = n := by simp [pu_seg]
def pu_dig (c : Nat) : Bool := decide (48 ≤ c) && decide (c ≤ 57)
/-- the number that decimals make -/
def pu_val (l : List Nat) : Nat := l.foldl (fun v c => v * 10 + (c - 48)) 0
theorem pu_val_s (l : List Nat) (c : Nat) : pu_val (l ++ [c]) = pu_val l * 10 + (c - 48) := by
  unfold pu_val
  rw [List.foldl_append]
  rfl
theorem pu_val_lt : ∀ (n : Nat) (s : List Nat) (st : Nat), (∀ i, i < n → pu_dig (s.getD (st + i) 0) = true) → pu_val (pu_seg s st n) < 10 ^ n
  | 0, s, st, _ => by
    rw [pu_seg_0]
    exact Nat.lt_add_one 0
  | n + 1, s, st, h => by
    rw [pu_seg_s, pu_val_s, Nat.pow_succ]
    have h1 := pu_val_lt n s st (fun i hi => h i (by omega))
    have h2 := h n (Nat.lt_succ_self n)
    simp only [pu_dig, Bool.and_eq_true, decide_eq_true_eq] at h2
    omega
def pu_isnum (s : List Nat) (st n : Nat) : Bool := decide (1 ≤ n) && decide (n ≤ 9) && (pu_seg s st n).all pu_dig
theorem pu_all_seg (s : List Nat) (st n : Nat) (p : Nat → Bool) : (pu_seg s st n).all p = true ↔ ∀ i, i < n → p (s.getD (st + i) 0) = true := by
  unfold pu_seg
  rw [List.all_map, List.all_eq_true]
  exact ⟨fun h i hi => h i (List.mem_range.mpr hi), fun h i hi => h i (List.mem_range.mp hi)⟩
/-- the decimals of n below the place k + 1, none in front that is 0 but the last -/
def pu_dcl : Nat → Nat → List Nat
  | 0, n => [48 + n % 10]
  | k + 1, n => (if 10 ^ (k + 1) ≤ n then [48 + n / 10 ^ (k + 1) % 10] else []) ++ pu_dcl k n
def pu_dec (n : Nat) : List Nat := pu_dcl 9 n
def b2i (b : Bool) : Int32 := if b then 1 else 0
theorem pow10 : ∀ k, k ≤ 9 → 10 ^ k < 2 ^ 31 := by decide
def pu_ischar (c : Nat) : Bool := decide (c = 10) || (decide (32 ≤ c) && decide (c ≤ 126))
