/-! The engine: a world is a map from addresses to cells; a block of instructions is run by a function, and the run is sound. -/
abbrev sp_M : Type := Nat → Option va_E
def sp_u (M : sp_M) (a : Nat) (e : va_E) : sp_M := fun b => if b = a then some e else M b
theorem sp_u_s (M : sp_M) (a : Nat) (e : va_E) : sp_u M a e a = some e := if_pos rfl
theorem sp_u_n (M : sp_M) {a b : Nat} (e : va_E) (h : b ≠ a) : sp_u M a e b = M b := if_neg h
def sp_A (M : sp_M) (sz : Nat) : Nat → Prop := fun q => M q ≠ none ∨ sz ≤ q
def sp_P (G : sp_G) (M : sp_M) (H : Heap) : Prop := ∀ (a : Nat) (e : va_E), M a = some e → va_at G.1 classes (a, e) H
theorem sp_P.one {G : sp_G} {M : sp_M} {H : Heap} {a : Nat} {e : va_E} (h : sp_P G M H) (ha : M a = some e) : va_P G.1 classes [(a, e)] H := by
  intro k q hk
  cases k with
  | zero => cases hk; exact h a e ha
  | succ k => simp at hk
theorem sp_P.set {G : sp_G} {M : sp_M} {H H1 : Heap} {a : Nat} {e : va_E} (h : sp_P G M H) (he : va_at G.1 classes (a, e) H1) (oq : ∀ q : Nat, q ≠ a → H1[q]? = H[q]?) : sp_P G (sp_u M a e) H1 := by
  intro b x hb
  by_cases hba : b = a
  · subst hba
    rw [sp_u_s] at hb
    cases hb
    exact he
  · rw [sp_u_n M e hba] at hb
    exact (h b x hb).kept (oq b hba)
theorem sp_P.lt {G : sp_G} {M : sp_M} {H : Heap} {a : Nat} {e : va_E} (h : sp_P G M H) (ha : M a = some e) : a < H.size := (h a e ha).lt
theorem sp_P.push {G : sp_G} {M : sp_M} {H H1 : Heap} {a : Nat} {e : va_E} (h : sp_P G M H) (he : va_at G.1 classes (a, e) H1) (hs : H.size ≤ a) (oq : ∀ q : Nat, q < H.size → H1[q]? = H[q]?) : sp_P G (sp_u M a e) H1 := by
  intro b x hb
  by_cases hba : b = a
  · subst hba
    rw [sp_u_s] at hb
    cases hb
    exact he
  · rw [sp_u_n M e hba] at hb
    exact (h b x hb).kept (oq b (h.lt hb))
theorem sp_P.kept {G : sp_G} {M : sp_M} {H H1 : Heap} (h : sp_P G M H) (oq : ∀ (q : Nat) (e : va_E), M q = some e → H1[q]? = H[q]?) : sp_P G M H1 := fun a e ha => (h a e ha).kept (oq a e ha)
theorem sp_A_u {M0 M : sp_M} {sz a : Nat} {e : va_E} (h : ∀ (q : Nat) (x : va_E), M q = some x → sp_A M0 sz q) (ha : sp_A M0 sz a) : ∀ (q : Nat) (x : va_E), sp_u M a e q = some x → sp_A M0 sz q := by
  intro q x hq
  by_cases hba : q = a
  · subst hba; exact ha
  · rw [sp_u_n M e hba] at hq
    exact h q x hq
/-- what is fixed while a method is walked: program, launch, environment, room, first state, method, arguments, frames below, method's record, code -/
abbrev sp_Z : Type := Program × Launch × Env × Room × State × MethodId × Array Value × List Frame × Method × Code
abbrev sp_zp (z : sp_Z) : Program := z.1
abbrev sp_zl (z : sp_Z) : Launch := z.2.1
abbrev sp_ze (z : sp_Z) : Env := z.2.2.1
abbrev sp_zr (z : sp_Z) : Room := z.2.2.2.1
abbrev sp_zs (z : sp_Z) : State := z.2.2.2.2.1
abbrev sp_zm (z : sp_Z) : MethodId := z.2.2.2.2.2.1
abbrev sp_za (z : sp_Z) : Array Value := z.2.2.2.2.2.2.1
abbrev sp_zb (z : sp_Z) : List Frame := z.2.2.2.2.2.2.2.1
abbrev sp_zh (z : sp_Z) : Method := z.2.2.2.2.2.2.2.2.1
abbrev sp_zc (z : sp_Z) : Code := z.2.2.2.2.2.2.2.2.2
abbrev sp_L : Type := List (Nat × Value)
/-- the walk, with heap, written places and locals' array hidden -/
def sp_W (z : sp_Z) (G : sp_G) (M0 : sp_M) (Q : State → Prop) (nL cs sl pc : Nat) (L : sp_L) (st : List Value) (M : sp_M) : Prop :=
  ∀ (H : Heap) (locs : List Loc) (ls : Array Slot), lv_has ls nL L → sp_P G M H → (∀ (q : Nat) (e : va_E), M q = some e → sp_A M0 (sp_zs z).heap.size q) → va_S (sp_A M0 (sp_zs z).heap.size) (sp_zs z).heap H locs →
    W (sp_zp z) (sp_zl z) (sp_ze z) (sp_zr z) (sp_zs z) (sp_zm z) (sp_za z) (sp_zb z) (sp_zh z) (sp_zc z) H locs cs sl Q (F0 (sp_zm z) pc ls st)
/-- what a walk may use: the code, the words, the environment -/
def sp_C (z : sp_Z) (l : Launch) (R0 : Room) (G : sp_G) (M0 : sp_M) (own : String) (cc : ByteArray) (nL : Nat) (ret : Option FieldType) : Prop :=
  (sp_zp z).tables.exec = Jvm.exec ∧ (sp_zc z).code = cc ∧ (sp_zc z).maxLocals = nL ∧ (sp_zs z).vm.findClass own = some (sp_zm z).cls ∧ (∀ w ∈ sp_TB, w.before (sp_za z) (sp_zs z) = true) ∧ (sp_zh z).sig.returnType = ret ∧ (sp_zh z).locks = false ∧ sp_E G (sp_A M0 (sp_zs z).heap.size) (sp_zs z) (sp_zs z).heap ∧ sp_zl z = l ∧ sp_zr z = R0
-- locals
def sp_lk : sp_L → Nat → Option Value
  | [], _ => none
  | (i, v) :: r, j => if i = j then some v else sp_lk r j
theorem sp_lk_mem : ∀ (L : sp_L) (j : Nat) (v : Value), sp_lk L j = some v → (j, v) ∈ L
  | [], _, _, h => by cases h
  | (i, w) :: r, j, v, h => by
    unfold sp_lk at h
    by_cases hij : i = j
    · rw [if_pos hij] at h
      cases h
      subst hij
      exact List.mem_cons_self
    · rw [if_neg hij] at h
      exact List.mem_cons_of_mem _ (sp_lk_mem r j v h)
theorem sp_lk_at {ls : Array Slot} {nL : Nat} {L : sp_L} {j : Nat} {v : Value} (hl : lv_has ls nL L) (h : sp_lk L j = some v) : ls[j]? = some (.val v) := hl.2.2 (j, v) (sp_lk_mem L j v h)
def sp_two (v : Value) : Bool := match v with
  | .long _ => true
  | .double _ => true
  | _ => false
theorem sp_two_f {v : Value} (h : sp_two v = false) : v.category = 1 := by
  cases v <;> first | rfl | cases h
def sp_s1 (i : Nat) : sp_L → sp_L
  | [] => []
  | (j, v) :: r => if j = i then sp_s1 i r else if j + 1 = i then (if sp_two v = true then sp_s1 i r else (j, v) :: sp_s1 i r) else (j, v) :: sp_s1 i r
def sp_s2 (i : Nat) : sp_L → sp_L
  | [] => []
  | (j, v) :: r => if j = i then sp_s2 i r else if j = i + 1 then sp_s2 i r else if j + 1 = i then (if sp_two v = true then sp_s2 i r else (j, v) :: sp_s2 i r) else (j, v) :: sp_s2 i r
theorem sp_s1_mem (i : Nat) : ∀ (L : sp_L) (q : Nat × Value), q ∈ sp_s1 i L → q ∈ L ∧ ¬ q.1 = i ∧ ¬ (q.1 + 1 = i ∧ q.2.category = 2)
  | [], q, h => by cases h
  | (j, v) :: r, q, h => by
    unfold sp_s1 at h
    by_cases h1 : j = i
    · rw [if_pos h1] at h
      obtain ⟨a, b⟩ := sp_s1_mem i r q h
      exact ⟨List.mem_cons_of_mem _ a, b⟩
    · rw [if_neg h1] at h
      by_cases h2 : j + 1 = i
      · rw [if_pos h2] at h
        by_cases h3 : sp_two v = true
        · rw [if_pos h3] at h
          obtain ⟨a, b⟩ := sp_s1_mem i r q h
          exact ⟨List.mem_cons_of_mem _ a, b⟩
        · rw [if_neg h3] at h
          rcases List.mem_cons.mp h with e | h
          · subst e
            refine ⟨List.mem_cons_self, h1, fun z => ?_⟩
            have := sp_two_f (v := v) (by cases hv : sp_two v <;> first | rfl | exact absurd hv h3)
            exact absurd (this.symm.trans z.2) (by decide)
          · obtain ⟨a, b⟩ := sp_s1_mem i r q h
            exact ⟨List.mem_cons_of_mem _ a, b⟩
      · rw [if_neg h2] at h
        rcases List.mem_cons.mp h with e | h
        · subst e
          exact ⟨List.mem_cons_self, h1, fun z => h2 z.1⟩
        · obtain ⟨a, b⟩ := sp_s1_mem i r q h
          exact ⟨List.mem_cons_of_mem _ a, b⟩
theorem sp_s2_mem (i : Nat) : ∀ (L : sp_L) (q : Nat × Value), q ∈ sp_s2 i L → q ∈ L ∧ ¬ q.1 = i ∧ ¬ q.1 = i + 1 ∧ ¬ (q.1 + 1 = i ∧ q.2.category = 2)
  | [], q, h => by cases h
  | (j, v) :: r, q, h => by
    unfold sp_s2 at h
    by_cases h1 : j = i
    · rw [if_pos h1] at h
      obtain ⟨a, b⟩ := sp_s2_mem i r q h
      exact ⟨List.mem_cons_of_mem _ a, b⟩
    · rw [if_neg h1] at h
      by_cases h0 : j = i + 1
      · rw [if_pos h0] at h
        obtain ⟨a, b⟩ := sp_s2_mem i r q h
        exact ⟨List.mem_cons_of_mem _ a, b⟩
      · rw [if_neg h0] at h
        by_cases h2 : j + 1 = i
        · rw [if_pos h2] at h
          by_cases h3 : sp_two v = true
          · rw [if_pos h3] at h
            obtain ⟨a, b⟩ := sp_s2_mem i r q h
            exact ⟨List.mem_cons_of_mem _ a, b⟩
          · rw [if_neg h3] at h
            rcases List.mem_cons.mp h with e | h
            · subst e
              refine ⟨List.mem_cons_self, h1, h0, fun z => ?_⟩
              have := sp_two_f (v := v) (by cases hv : sp_two v <;> first | rfl | exact absurd hv h3)
              exact absurd (this.symm.trans z.2) (by decide)
            · obtain ⟨a, b⟩ := sp_s2_mem i r q h
              exact ⟨List.mem_cons_of_mem _ a, b⟩
        · rw [if_neg h2] at h
          rcases List.mem_cons.mp h with e | h
          · subst e
            exact ⟨List.mem_cons_self, h1, h0, fun z => h2 z.1⟩
          · obtain ⟨a, b⟩ := sp_s2_mem i r q h
            exact ⟨List.mem_cons_of_mem _ a, b⟩
theorem sp_has1 {ls : Array Slot} {nL i : Nat} {v : Value} {L : sp_L} (h : lv_has ls nL ((i, v) :: L.filter (fun q => !(q.1 == i) && !(q.1 + 1 == i && q.2.category == 2)))) : lv_has ls nL ((i, v) :: sp_s1 i L) := by
  refine ⟨h.1, h.2.1, fun q hq => ?_⟩
  rcases List.mem_cons.mp hq with e | hq
  · exact h.2.2 q (by rw [e]; exact List.mem_cons_self)
  · obtain ⟨a, b, c⟩ := sp_s1_mem i L q hq
    refine h.2.2 q (List.mem_cons_of_mem _ (List.mem_filter.mpr ⟨a, ?_⟩))
    simp only [Bool.and_eq_true, Bool.not_eq_true', beq_eq_false_iff_ne, ne_eq, Bool.and_eq_false_imp, beq_iff_eq]
    exact ⟨b, fun h1 h2 => c ⟨h1, h2⟩⟩
theorem sp_has2 {ls : Array Slot} {nL i : Nat} {v : Value} {L : sp_L} (h : lv_has ls nL ((i, v) :: L.filter (fun q => !(q.1 == i) && (!(q.1 == i + 1) && !(q.1 + 1 == i && q.2.category == 2))))) : lv_has ls nL ((i, v) :: sp_s2 i L) := by
  refine ⟨h.1, h.2.1, fun q hq => ?_⟩
  rcases List.mem_cons.mp hq with e | hq
  · exact h.2.2 q (by rw [e]; exact List.mem_cons_self)
  · obtain ⟨a, b, d, c⟩ := sp_s2_mem i L q hq
    refine h.2.2 q (List.mem_cons_of_mem _ (List.mem_filter.mpr ⟨a, ?_⟩))
    simp only [Bool.and_eq_true, Bool.not_eq_true', beq_eq_false_iff_ne, ne_eq, Bool.and_eq_false_imp, beq_iff_eq]
    exact ⟨b, d, fun h1 h2 => c ⟨h1, h2⟩⟩
/-! blocks: an instruction with its length, a number (a place, a goal, a kind), a second one (a field), an int and a long that it pushes -/
abbrev sp_I : Type := Instr × Nat × Nat × Nat × Int32 × Int64
/-- a word at its place in the tables -/
def sp_in (j : Nat) (w : Cond) : Bool := decide (lw_tbl[j]? = some w) && goodWord w
theorem sp_in_e {j : Nat} {w : Cond} (h : sp_in j w = true) : w ∈ sp_TB := by
  simp only [sp_in, Bool.and_eq_true, decide_eq_true_eq] at h
  exact List.mem_filter.mpr ⟨List.mem_of_getElem? h.1, h.2⟩
def sp_fl (own : String) (i ci k j : Nat) : Bool := match classes[ci]? with
  | some q => decide (k < q.2.2) && sp_in j (Cond.fieldLink own i (q.2.1 k).1 (q.2.1 k).2.1 (q.2.1 k).2.2.1)
  | none => false
/-- how a field is stored: 0 an int, 1 a reference -/
def sp_ft (ci k : Nat) (v : Int32) : Bool := match classes[ci]? with
  | some q => ((q.2.1 k).2.2.2 == false) && (match parseFieldDescriptor (q.2.1 k).2.2.1 with
    | some .int => decide (v = 0)
    | some (.object _) => decide (v = 1)
    | some (.array _) => decide (v = 1)
    | _ => false)
  | none => false
def sp_ck (own : String) (nL pc : Nat) (i : Instr) (n t u : Nat) (v : Int32) (w : Int64) : Bool := match i with
  | .iconst a => n == 1 && decide (Int32.ofInt a = v)
  | .bipush a => n == 2 && decide ((Int8.ofInt a).toInt32 = v)
  | .sipush a => n == 3 && decide ((Int16.ofInt a).toInt32 = v)
  | .ldc a => n == 2 && (u != 1 || sp_in t (Cond.constant own a v))
  | .ldc2_w a => n == 3 && (u != 1 || sp_in t (Cond.constantLong own a w))
  | .lconst a => n == 1 && decide (Int64.ofNat (a : Nat) = w)
  | .aconst_null => n == 1
  | .iload_n a => n == 1 && decide ((a : Nat) = t)
  | .iload a => n == 2 && decide (a = t)
  | .lload_n a => n == 1 && decide ((a : Nat) = t)
  | .lload a => n == 2 && decide (a = t)
  | .aload_n a => n == 1 && decide ((a : Nat) = t)
  | .aload a => n == 2 && decide (a = t)
  | .istore_n a => n == 1 && decide ((a : Nat) = t) && decide (t < nL)
  | .istore a => n == 2 && decide (a = t) && decide (t < nL)
  | .astore_n a => n == 1 && decide ((a : Nat) = t) && decide (t < nL)
  | .astore a => n == 2 && decide (a = t) && decide (t < nL)
  | .lstore_n a => n == 1 && decide ((a : Nat) = t) && decide (t + 1 < nL)
  | .lstore a => n == 2 && decide (a = t) && decide (t + 1 < nL)
  | .iinc a b => n == 3 && decide (a = t) && decide (Int32.ofInt b = v) && decide (t < nL)
  | .iadd => n == 1
  | .isub => n == 1
  | .imul => n == 1
  | .idiv => n == 1
  | .irem => n == 1
  | .iand => n == 1
  | .ior => n == 1
  | .ixor => n == 1
  | .ineg => n == 1
  | .ishl => n == 1
  | .ishr => n == 1
  | .ladd => n == 1
  | .lsub => n == 1
  | .land => n == 1
  | .lor => n == 1
  | .lshl => n == 1
  | .lshr => n == 1
  | .lushr => n == 1
  | .lcmp => n == 1
  | .i2l => n == 1
  | .l2i => n == 1
  | .i2c => n == 1
  | .dup => n == 1
  | .dup_x1 => n == 1
  | .dup_x2 => n == 1
  | .dup2 => n == 1
  | .pop => n == 1
  | .goto a => n == 3 && decide ((pc : Int) + a = (t : Int))
  | .ifCond _ a => n == 3 && decide ((pc : Int) + a = (t : Int))
  | .if_icmp _ a => n == 3 && decide ((pc : Int) + a = (t : Int))
  | .ifnull a => n == 3 && decide ((pc : Int) + a = (t : Int))
  | .ifnonnull a => n == 3 && decide ((pc : Int) + a = (t : Int))
  | .getfield a => n == 3 && sp_fl own a t u w.toInt.toNat
  | .putfield a => n == 3 && (sp_fl own a t u w.toInt.toNat && sp_ft t u v)
  | .iaload => n == 1
  | .caload => n == 1
  | .laload => n == 1
  | .aaload => n == 1
  | .iastore => n == 1
  | .castore => n == 1
  | .lastore => n == 1
  | .arraylength => n == 1
  | _ => true
def sp_ok (own : String) (cc : ByteArray) (nL : Nat) : List sp_I → Nat → Bool
  | [], _ => true
  | (i, n, t, u, v, w) :: r, pc => decide (decode cc pc = .ok (i, n)) && (sp_ck own nL pc i n t u v w && sp_ok own cc nL r (pc + n))
-- the stack's shapes
def sp_xi (st : List Value) (d : Prop) (f : Int32 → List Value → Prop) : Prop := match st with
  | .int x :: r => f x r
  | _ => d
def sp_xl (st : List Value) (d : Prop) (f : Int64 → List Value → Prop) : Prop := match st with
  | .long x :: r => f x r
  | _ => d
def sp_xa (st : List Value) (d : Prop) (f : Nat → List Value → Prop) (g : List Value → Prop) : Prop := match st with
  | .ref x :: r => f x r
  | .null :: r => g r
  | _ => d
def sp_x1 (st : List Value) (d : Prop) (f : Value → List Value → Prop) : Prop := match st with
  | x :: r => if sp_two x = false then f x r else d
  | _ => d
theorem sp_xi_e {st : List Value} {d : Prop} {f : Int32 → List Value → Prop} (h : sp_xi st d f) : d ∨ ∃ x r, st = .int x :: r ∧ f x r := by
  unfold sp_xi at h
  split at h
  · exact Or.inr ⟨_, _, rfl, h⟩
  · exact Or.inl h
theorem sp_xl_e {st : List Value} {d : Prop} {f : Int64 → List Value → Prop} (h : sp_xl st d f) : d ∨ ∃ x r, st = .long x :: r ∧ f x r := by
  unfold sp_xl at h
  split at h
  · exact Or.inr ⟨_, _, rfl, h⟩
  · exact Or.inl h
theorem sp_xa_e {st : List Value} {d : Prop} {f : Nat → List Value → Prop} {g : List Value → Prop} (h : sp_xa st d f g) : d ∨ (∃ x r, st = .ref x :: r ∧ f x r) ∨ ∃ r, st = .null :: r ∧ g r := by
  unfold sp_xa at h
  split at h
  · exact Or.inr (Or.inl ⟨_, _, rfl, h⟩)
  · exact Or.inr (Or.inr ⟨_, rfl, h⟩)
  · exact Or.inl h
theorem sp_x1_e {st : List Value} {d : Prop} {f : Value → List Value → Prop} (h : sp_x1 st d f) : d ∨ ∃ x r, st = x :: r ∧ x.category = 1 ∧ f x r := by
  unfold sp_x1 at h
  split at h
  · split at h
    · rename_i h2
      exact Or.inr ⟨_, _, rfl, sp_two_f h2, h⟩
    · exact Or.inl h
  · exact Or.inl h
-- kinds of cells
def sp_xo (c : Option va_E) (d : Prop) (f : Nat → List Value → Prop) : Prop := match c with
  | some (.inr (ci, fs)) => f ci fs
  | _ => d
def sp_xI (c : Option va_E) (d : Prop) (f : ClassId → Nat → (Nat → Int32) → Prop) : Prop := match c with
  | some (.inl (cA, n, .inl g)) => f cA n g
  | _ => d
def sp_xJ (c : Option va_E) (d : Prop) (f : ClassId → Nat → (Nat → Int64) → Prop) : Prop := match c with
  | some (.inl (cA, n, .inr (.inl g))) => f cA n g
  | _ => d
def sp_xQ (c : Option va_E) (d : Prop) (f : ClassId → Nat → (Nat → Option Nat) → Prop) : Prop := match c with
  | some (.inl (cA, n, .inr (.inr (.inr (.inr g))))) => f cA n g
  | _ => d
def sp_xv (c : Option Value) (d : Prop) (f : Value → Prop) : Prop := match c with
  | some v => f v
  | none => d
theorem sp_xo_e {c : Option va_E} {d : Prop} {f : Nat → List Value → Prop} (h : sp_xo c d f) : d ∨ ∃ ci fs, c = some (.inr (ci, fs)) ∧ f ci fs := by
  unfold sp_xo at h
  split at h
  · exact Or.inr ⟨_, _, rfl, h⟩
  · exact Or.inl h
theorem sp_xI_e {c : Option va_E} {d : Prop} {f : ClassId → Nat → (Nat → Int32) → Prop} (h : sp_xI c d f) : d ∨ ∃ cA n g, c = some (.inl (cA, n, .inl g)) ∧ f cA n g := by
  unfold sp_xI at h
  split at h
  · exact Or.inr ⟨_, _, _, rfl, h⟩
  · exact Or.inl h
theorem sp_xJ_e {c : Option va_E} {d : Prop} {f : ClassId → Nat → (Nat → Int64) → Prop} (h : sp_xJ c d f) : d ∨ ∃ cA n g, c = some (.inl (cA, n, .inr (.inl g))) ∧ f cA n g := by
  unfold sp_xJ at h
  split at h
  · exact Or.inr ⟨_, _, _, rfl, h⟩
  · exact Or.inl h
theorem sp_xQ_e {c : Option va_E} {d : Prop} {f : ClassId → Nat → (Nat → Option Nat) → Prop} (h : sp_xQ c d f) : d ∨ ∃ cA n g, c = some (.inl (cA, n, .inr (.inr (.inr (.inr g))))) ∧ f cA n g := by
  unfold sp_xQ at h
  split at h
  · exact Or.inr ⟨_, _, _, rfl, h⟩
  · exact Or.inl h
theorem sp_xv_e {c : Option Value} {d : Prop} {f : Value → Prop} (h : sp_xv c d f) : d ∨ ∃ v, c = some v ∧ f v := by
  unfold sp_xv at h
  split at h
  · exact Or.inr ⟨_, rfl, h⟩
  · exact Or.inl h
def sp_xN (c : Option va_E) (d : Prop) (f : ClassId → Nat → Prop) : Prop := match c with
  | some (.inl (cA, n, _)) => f cA n
  | _ => d
theorem sp_xN_e {c : Option va_E} {d : Prop} {f : ClassId → Nat → Prop} (h : sp_xN c d f) : d ∨ ∃ cA n x, c = some (.inl (cA, n, x)) ∧ f cA n := by
  unfold sp_xN at h
  split at h
  · exact Or.inr ⟨_, _, _, rfl, h⟩
  · exact Or.inl h
def sp_nth : List Value → Nat → Option Value
  | [], _ => none
  | x :: _, 0 => some x
  | _ :: r, n + 1 => sp_nth r n
theorem sp_nth_eq : ∀ (fs : List Value) (u : Nat), sp_nth fs u = fs[u]?
  | [], _ => by simp [sp_nth]
  | x :: r, 0 => by simp [sp_nth]
  | x :: r, n + 1 => by simp [sp_nth, sp_nth_eq r n]
theorem sp_nth_lt {fs : List Value} {u : Nat} (h : (sp_nth fs u).isSome = true) : u < fs.length := by
  rw [sp_nth_eq] at h
  cases hn : fs[u]? with
  | none => rw [hn] at h; cases h
  | some x => exact (List.getElem?_eq_some_iff.mp hn).1
/-- one instruction: d is the walk here (where the instruction isn't run by this function), J the walk at the jump's goal, k what comes behind -/
def sp_1 (G : sp_G) (d : Prop) (J : sp_L → List Value → Prop) (i : Instr) (t u : Nat) (v : Int32) (w : Int64) (L : sp_L) (st : List Value) (M : sp_M) (k : sp_L → List Value → sp_M → Prop) : Prop := match i with
  | .iconst _ => k L (.int v :: st) M
  | .bipush _ => k L (.int v :: st) M
  | .sipush _ => k L (.int v :: st) M
  | .ldc _ => if u = 1 then k L (.int v :: st) M else d
  | .ldc2_w _ => if u = 1 then k L (.long w :: st) M else d
  | .lconst _ => k L (.long w :: st) M
  | .aconst_null => k L (.null :: st) M
  | .iload_n _ => sp_xv (sp_lk L t) d (fun x => sp_xi [x] d (fun y _ => k L (.int y :: st) M))
  | .iload _ => sp_xv (sp_lk L t) d (fun x => sp_xi [x] d (fun y _ => k L (.int y :: st) M))
  | .lload_n _ => sp_xv (sp_lk L t) d (fun x => sp_xl [x] d (fun y _ => k L (.long y :: st) M))
  | .lload _ => sp_xv (sp_lk L t) d (fun x => sp_xl [x] d (fun y _ => k L (.long y :: st) M))
  | .aload_n _ => sp_xv (sp_lk L t) d (fun x => sp_xa [x] d (fun y _ => k L (.ref y :: st) M) (fun _ => k L (.null :: st) M))
  | .aload _ => sp_xv (sp_lk L t) d (fun x => sp_xa [x] d (fun y _ => k L (.ref y :: st) M) (fun _ => k L (.null :: st) M))
  | .istore_n _ => sp_xi st d (fun x r => k ((t, .int x) :: sp_s1 t L) r M)
  | .istore _ => sp_xi st d (fun x r => k ((t, .int x) :: sp_s1 t L) r M)
  | .astore_n _ => sp_xa st d (fun x r => k ((t, .ref x) :: sp_s1 t L) r M) (fun r => k ((t, .null) :: sp_s1 t L) r M)
  | .astore _ => sp_xa st d (fun x r => k ((t, .ref x) :: sp_s1 t L) r M) (fun r => k ((t, .null) :: sp_s1 t L) r M)
  | .lstore_n _ => sp_xl st d (fun x r => k ((t, .long x) :: sp_s2 t L) r M)
  | .lstore _ => sp_xl st d (fun x r => k ((t, .long x) :: sp_s2 t L) r M)
  | .iinc _ _ => sp_xv (sp_lk L t) d (fun x => sp_xi [x] d (fun y _ => k ((t, .int (y + v)) :: sp_s1 t L) st M))
  | .iadd => sp_xi st d (fun y r => sp_xi r d (fun x r => k L (.int (x + y) :: r) M))
  | .isub => sp_xi st d (fun y r => sp_xi r d (fun x r => k L (.int (x - y) :: r) M))
  | .imul => sp_xi st d (fun y r => sp_xi r d (fun x r => k L (.int (x * y) :: r) M))
  | .idiv => sp_xi st d (fun y r => sp_xi r d (fun x r => ¬ y = 0 ∧ k L (.int (x / y) :: r) M))
  | .irem => sp_xi st d (fun y r => sp_xi r d (fun x r => ¬ y = 0 ∧ k L (.int (x - x / y * y) :: r) M))
  | .iand => sp_xi st d (fun y r => sp_xi r d (fun x r => k L (.int (x &&& y) :: r) M))
  | .ior => sp_xi st d (fun y r => sp_xi r d (fun x r => k L (.int (x ||| y) :: r) M))
  | .ixor => sp_xi st d (fun y r => sp_xi r d (fun x r => k L (.int (x ^^^ y) :: r) M))
  | .ineg => sp_xi st d (fun x r => k L (.int (-x) :: r) M)
  | .ishl => sp_xi st d (fun y r => sp_xi r d (fun x r => k L (.int (x <<< (y &&& 31)) :: r) M))
  | .ishr => sp_xi st d (fun y r => sp_xi r d (fun x r => k L (.int (x >>> (y &&& 31)) :: r) M))
  | .ladd => sp_xl st d (fun y r => sp_xl r d (fun x r => k L (.long (x + y) :: r) M))
  | .lsub => sp_xl st d (fun y r => sp_xl r d (fun x r => k L (.long (x - y) :: r) M))
  | .land => sp_xl st d (fun y r => sp_xl r d (fun x r => k L (.long (x &&& y) :: r) M))
  | .lor => sp_xl st d (fun y r => sp_xl r d (fun x r => k L (.long (x ||| y) :: r) M))
  | .lshl => sp_xi st d (fun y r => sp_xl r d (fun x r => k L (.long (x <<< (y.toInt64 &&& 63)) :: r) M))
  | .lshr => sp_xi st d (fun y r => sp_xl r d (fun x r => k L (.long (x >>> (y.toInt64 &&& 63)) :: r) M))
  | .lushr => sp_xi st d (fun y r => sp_xl r d (fun x r => k L (.long (x.toUInt64 >>> (y.toInt64.toUInt64 &&& Int64.toUInt64 63)).toInt64 :: r) M))
  | .lcmp => sp_xl st d (fun y r => sp_xl r d (fun x r => k L (.int (lg_cmp x y) :: r) M))
  | .i2l => sp_xi st d (fun x r => k L (.long x.toInt64 :: r) M)
  | .l2i => sp_xl st d (fun x r => k L (.int x.toInt32 :: r) M)
  | .i2c => sp_xi st d (fun x r => k L (.int (x.toUInt32 % 65536).toInt32 :: r) M)
  | .dup => sp_x1 st d (fun x r => k L (x :: x :: r) M)
  | .dup_x1 => sp_x1 st d (fun x r => sp_x1 r d (fun y r => k L (x :: y :: x :: r) M))
  | .dup_x2 => sp_x1 st d (fun x r => sp_x1 r d (fun y r => sp_x1 r d (fun y2 r => k L (x :: y :: y2 :: x :: r) M)))
  | .dup2 => sp_x1 st d (fun x r => sp_x1 r d (fun y r => k L (x :: y :: x :: y :: r) M))
  | .pop => sp_x1 st d (fun _ r => k L r M)
  | .goto _ => J L st
  | .ifCond a _ => sp_xi st d (fun x r => match a with
    | .eq => (x = 0 → J L r) ∧ (¬ x = 0 → k L r M)
    | .ne => (¬ x = 0 → J L r) ∧ (x = 0 → k L r M)
    | .lt => (x < 0 → J L r) ∧ (¬ x < 0 → k L r M)
    | .ge => (0 ≤ x → J L r) ∧ (¬ 0 ≤ x → k L r M)
    | .gt => (0 < x → J L r) ∧ (¬ 0 < x → k L r M)
    | .le => (x ≤ 0 → J L r) ∧ (¬ x ≤ 0 → k L r M))
  | .if_icmp a _ => sp_xi st d (fun y r => sp_xi r d (fun x r => match a with
    | .eq => (x = y → J L r) ∧ (¬ x = y → k L r M)
    | .ne => (¬ x = y → J L r) ∧ (x = y → k L r M)
    | .lt => (x < y → J L r) ∧ (¬ x < y → k L r M)
    | .ge => (y ≤ x → J L r) ∧ (¬ y ≤ x → k L r M)
    | .gt => (y < x → J L r) ∧ (¬ y < x → k L r M)
    | .le => (x ≤ y → J L r) ∧ (¬ x ≤ y → k L r M)))
  | .ifnull _ => sp_xa st d (fun _ r => k L r M) (fun r => J L r)
  | .ifnonnull _ => sp_xa st d (fun _ r => J L r) (fun r => k L r M)
  | .getfield _ => sp_xa st d (fun a r => sp_xo (M a) d (fun ci fs => if ci = t then sp_xv (sp_nth fs u) d (fun x => k L (x :: r) M) else d)) (fun _ => d)
  | .putfield _ => if v = 0 then sp_xi st d (fun x r => sp_xa r d (fun a r => sp_xo (M a) d (fun ci fs => if ci = t then ((sp_nth fs u).isSome = true ∧ k L r (sp_u M a (.inr (ci, fs.set u (.int x))))) else d)) (fun _ => d))
    else sp_xa st d (fun x r => sp_xa r d (fun a r => sp_xo (M a) d (fun ci fs => if ci = t then ((sp_nth fs u).isSome = true ∧ k L r (sp_u M a (.inr (ci, fs.set u (.ref x))))) else d)) (fun _ => d))
      (fun r => sp_xa r d (fun a r => sp_xo (M a) d (fun ci fs => if ci = t then ((sp_nth fs u).isSome = true ∧ k L r (sp_u M a (.inr (ci, fs.set u .null)))) else d)) (fun _ => d))
  | .iaload => sp_xi st d (fun j r => sp_xa r d (fun a r => sp_xI (M a) d (fun cA n f => cA = G.2.1 1 ∧ vp_in j n ∧ k L (.int (f j.toNatClampNeg) :: r) M)) (fun _ => d))
  | .caload => sp_xi st d (fun j r => sp_xa r d (fun a r => sp_xI (M a) d (fun cA n f => cA = G.2.1 0 ∧ vp_in j n ∧ k L (.int (f j.toNatClampNeg) :: r) M)) (fun _ => d))
  | .laload => sp_xi st d (fun j r => sp_xa r d (fun a r => sp_xJ (M a) d (fun cA n f => cA = G.2.1 2 ∧ vp_in j n ∧ k L (.long (f j.toNatClampNeg) :: r) M)) (fun _ => d))
  | .aaload => sp_xi st d (fun j r => sp_xa r d (fun a r => sp_xQ (M a) d (fun cA n f => cA = G.2.1 3 ∧ vp_in j n ∧ k L (va_rf (f j.toNatClampNeg) :: r) M)) (fun _ => d))
  | .arraylength => sp_xa st d (fun a r => sp_xN (M a) d (fun cA n => (cA = G.2.1 0 ∨ cA = G.2.1 1 ∨ cA = G.2.1 2 ∨ cA = G.2.1 3) ∧ k L (.int (nI n) :: r) M)) (fun _ => d)
  | .iastore => sp_xi st d (fun x r => sp_xi r d (fun j r => sp_xa r d (fun a r => sp_xI (M a) d (fun cA n f => cA = G.2.1 1 ∧ vp_in j n ∧ k L r (sp_u M a (.inl (cA, n, .inl (upd f j.toNatClampNeg x)))))) (fun _ => d)))
  | .castore => sp_xi st d (fun x r => sp_xi r d (fun j r => sp_xa r d (fun a r => sp_xI (M a) d (fun cA n f => cA = G.2.1 0 ∧ vp_in j n ∧ k L r (sp_u M a (.inl (cA, n, .inl (upd f j.toNatClampNeg (vp_nar .char x))))))) (fun _ => d)))
  | .lastore => sp_xl st d (fun x r => sp_xi r d (fun j r => sp_xa r d (fun a r => sp_xJ (M a) d (fun cA n f => cA = G.2.1 2 ∧ vp_in j n ∧ k L r (sp_u M a (.inl (cA, n, .inr (.inl (vp_updL f j.toNatClampNeg x))))))) (fun _ => d)))
  | _ => d
theorem sp_fl_e {own : String} {i ci k j : Nat} (h : sp_fl own i ci k j = true) : ∃ (C : String) (T : u_T) (N : Nat), classes[ci]? = some (C, T, N) ∧ k < N ∧ Cond.fieldLink own i (T k).1 (T k).2.1 (T k).2.2.1 ∈ sp_TB := by
  unfold sp_fl at h
  split at h
  · rename_i q hq
    obtain ⟨C, T, N⟩ := q
    simp only [Bool.and_eq_true, decide_eq_true_eq] at h
    exact ⟨C, T, N, hq, h.1, sp_in_e h.2⟩
  · cases h
section SPE
variable {z : sp_Z} {G : sp_G} {M0 M : sp_M} {Q : State → Prop} {own : String} {cc : ByteArray} {nL cs sl pc : Nat} {L : sp_L} {st rest : List Value} {a : Nat}
theorem sp_get (hx : (sp_zp z).tables.exec = Jvm.exec) (hb : (sp_zc z).code = cc) (hts : ∀ w ∈ sp_TB, w.before (sp_za z) (sp_zs z) = true) (hown : (sp_zs z).vm.findClass own = some (sp_zm z).cls) (hE : sp_E G (sp_A M0 (sp_zs z).heap.size) (sp_zs z) (sp_zs z).heap) {index ci k j : Nat} {fs : List Value} {v : Value} (hf : sp_fl own index ci k j = true) (hM : M a = some (.inr (ci, fs))) (hv : fs[k]? = some v) (hdg : decode cc pc = .ok (.getfield index, 3))
    (kk : sp_W z G M0 Q nL cs sl (pc + 3) L (v :: rest) M) : sp_W z G M0 Q nL cs sl pc L (.ref a :: rest) M := by
  obtain ⟨C, T, N, hc, hk, hl⟩ := sp_fl_e hf
  intro H locs ls hlv hP hA hS
  exact va_get (D := G.1) (cl := classes) (tys := sp_tys G) (ws := [(a, .inr (ci, fs))]) (C := C) (T := T) (N := N) (ref := (T k).1) hx hb hts (sp_cl_ws hc) hown hE.K (hP.one hM) 0 rfl hc k hk (hts _ hl) (fun _ h9 => h9) hv hdg (kk H locs ls hlv hP hA hS)
theorem sp_put (hx : (sp_zp z).tables.exec = Jvm.exec) (hb : (sp_zc z).code = cc) (hts : ∀ w ∈ sp_TB, w.before (sp_za z) (sp_zs z) = true) (hown : (sp_zs z).vm.findClass own = some (sp_zm z).cls) (hE : sp_E G (sp_A M0 (sp_zs z).heap.size) (sp_zs z) (sp_zs z).heap) {index ci k : Nat} {fs : List Value} {v : Value} {ty : FieldType} {C : String} {T : u_T} {N : Nat} (hc : classes[ci]? = some (C, T, N)) (hk : k < N) (hl : Cond.fieldLink own index (T k).1 (T k).2.1 (T k).2.2.1 ∈ sp_TB)
    (hfin : (T k).2.2.2 = false) (hd : parseFieldDescriptor (T k).2.2.1 = some ty) (hn : narrow ty v = v) (hfit : fits ty v = true) (hM : M a = some (.inr (ci, fs))) (hlen : k < fs.length) (hdg : decode cc pc = .ok (.putfield index, 3))
    (kk : sp_W z G M0 Q nL cs sl (pc + 3) L rest (sp_u M a (.inr (ci, fs.set k v)))) : sp_W z G M0 Q nL cs sl pc L (v :: .ref a :: rest) M := by
  intro H locs ls hlv hP hA hS
  have hK := hE.K
  have hin := sp_cl_ws hc
  have hap := va_apart (own := own) hts hin (fun j => (parseFieldDescriptor (T j).2.2.1).getD .int) (fun j hj => sp_cl_ty hc j hj) (fun x hx y hy => sp_cl_nm hc x hx y hy) hK hc
  obtain ⟨r, h1, cell, q1, q2, q3, q4⟩ := hP a _ hM
  have hr : r = (C, T, N) := Option.some.inj (h1.symm.trans hc)
  subst hr
  obtain ⟨hSl, hfc, kC, hkC, hkind⟩ := hK.1 ci _ hc
  obtain ⟨cf, kf, fi, f, hi, hsl⟩ := hSl k hk
  have hlay := hts _ (hin _ (u_in_lay hk))
  unfold u_lay at hlay
  rw [if_neg (by rw [hfin]; decide)] at hlay
  have hst := (u_facts hfc hkC (u_lays hts hin hk) hi).1
  have h6 := u_store hfc hkC hkind hlay hi hd hn hfit
  refine W.putK hx hb (f := f) ⟨hown, hts _ hl, ⟨_, _, _, hi⟩, hst⟩ (by rw [q2]; exact h6) q1 q3 (by rw [hsl]; exact k2_hasslot (q4 k hk)) rfl rfl hdg fun H' e1 e2 e3 => ?_
  rw [hsl] at e1 ⊢
  exact kk H' _ ls hlv (hP.set ⟨_, hc, t_OB.to (V := updV (vp_V fs) k v) ⟨_, e1, q2, q3, t_set q4 hap hk v⟩ (fun j _ => vp_updV_set hlen v j)⟩ e3) (sp_A_u hA (hA a _ hM)) (hS.put e2 e3 (hA a _ hM))
/-- a final field, in a constructor of its class -/
theorem sp_putF (hx : (sp_zp z).tables.exec = Jvm.exec) (hb : (sp_zc z).code = cc) (hts : ∀ w ∈ sp_TB, w.before (sp_za z) (sp_zs z) = true) (hown : (sp_zs z).vm.findClass own = some (sp_zm z).cls) (hE : sp_E G (sp_A M0 (sp_zs z).heap.size) (sp_zs z) (sp_zs z).heap) {index ci k : Nat} {fs : List Value} {v : Value} {ty : FieldType} {C : String} {T : u_T} {N : Nat} (hc : classes[ci]? = some (C, T, N)) (hk : k < N) (hl : Cond.fieldLink own index (T k).1 (T k).2.1 (T k).2.2.1 ∈ sp_TB)
    (hfin : (T k).2.2.2 = true) (hin2 : (sp_zh z).name = "<init>") (hdecl : (T k).1 = own) (hd : parseFieldDescriptor (T k).2.2.1 = some ty) (hn : narrow ty v = v) (hfit : fits ty v = true) (hM : M a = some (.inr (ci, fs))) (hlen : k < fs.length) (hdg : decode cc pc = .ok (.putfield index, 3))
    (kk : sp_W z G M0 Q nL cs sl (pc + 3) L rest (sp_u M a (.inr (ci, fs.set k v)))) : sp_W z G M0 Q nL cs sl pc L (v :: .ref a :: rest) M := by
  intro H locs ls hlv hP hA hS
  have hK := hE.K
  have hin := sp_cl_ws hc
  have hap := va_apart (own := own) hts hin (fun j => (parseFieldDescriptor (T j).2.2.1).getD .int) (fun j hj => sp_cl_ty hc j hj) (fun x hx y hy => sp_cl_nm hc x hx y hy) hK hc
  obtain ⟨r, h1, cell, q1, q2, q3, q4⟩ := hP a _ hM
  have hr : r = (C, T, N) := Option.some.inj (h1.symm.trans hc)
  subst hr
  obtain ⟨hSl, hfc, kC, hkC, hkind⟩ := hK.1 ci _ hc
  obtain ⟨cf, kf, fi, f, hi, hsl⟩ := hSl k hk
  have hlay := hts _ (hin _ (u_in_lay hk))
  unfold u_lay at hlay
  rw [if_pos hfin] at hlay
  have hst := (u_facts hfc hkC (u_lays hts hin hk) hi).1
  have hcf : (sp_zm z).cls = cf := by
    obtain ⟨_, _, c', _, _, _, -, -, hf', -, -, -, hown2, -⟩ := Cond.laysFinal_spec hlay
    have e1 : c' = cf := by have := hi.symm.trans hf'; simp at this; exact this.1.symm
    rw [hdecl] at hown2
    rw [← e1]; exact Option.some.inj (hown.symm.trans hown2)
  have h6 := u_fits hfc hkC hkind (Or.inr hlay) hi hd hn hfit
  refine W.putFinK hx hb hown (hts _ hl) hi hst hcf hin2 (by rw [q2]; exact h6) q1 q3 (by rw [hsl]; exact k2_hasslot (q4 k hk)) rfl rfl hdg fun H' e1 e2 e3 => ?_
  rw [hsl] at e1 ⊢
  exact kk H' _ ls hlv (hP.set ⟨_, hc, t_OB.to (V := updV (vp_V fs) k v) ⟨_, e1, q2, q3, t_set q4 hap hk v⟩ (fun j _ => vp_updV_set hlen v j)⟩ e3) (sp_A_u hA (hA a _ hM)) (hS.put e2 e3 (hA a _ hM))
theorem sp_cast (hx : (sp_zp z).tables.exec = Jvm.exec) (hb : (sp_zc z).code = cc) (hE : sp_E G (sp_A M0 (sp_zs z).heap.size) (sp_zs z) (sp_zs z).heap) {cA : ClassId} {n : Nat} {f : Nat → Int32} (hM : M a = some (.inl (cA, n, .inl f))) (hcA : cA = G.2.1 0) {i x : Int32} (hin : vp_in i n) (hdg : decode cc pc = .ok (.castore, 1))
    (kk : sp_W z G M0 Q nL cs sl (pc + 1) L rest (sp_u M a (.inl (cA, n, .inl (upd f i.toNatClampNeg (vp_nar .char x)))))) : sp_W z G M0 Q nL cs sl pc L (.int x :: .int i :: .ref a :: rest) M := by
  subst hcA
  intro H locs ls hlv hP hA hS
  refine W.cast hx hb (hP a _ hM) ((hE.K.2 0 _ rfl).1 n (fun j => .int (f j))) (fun q => by cases q) (by show ¬ (i < 0 ∨ (arrV _ _ _).slots.size ≤ _); rw [arrV_size]; exact hin) rfl rfl hdg fun H1 e z oq => ?_
  refine kk H1 _ ls hlv (hP.set ?_ oq) (sp_A_u hA (hA a _ hM)) (hS.put z oq (hA a _ hM))
  show H1[a]? = some (vp_cell _ _)
  rw [e]
  rw [vp_cell_i, vp_cell_i, arrV_store]
  congr 2
  funext q
  by_cases hq : q = i.toNatClampNeg
  · subst hq
    simp [updV, upd, vp_nar]
    try rfl
  · simp [updV, upd, hq]
theorem sp_iast (hx : (sp_zp z).tables.exec = Jvm.exec) (hb : (sp_zc z).code = cc) (hE : sp_E G (sp_A M0 (sp_zs z).heap.size) (sp_zs z) (sp_zs z).heap) {cA : ClassId} {n : Nat} {f : Nat → Int32} (hM : M a = some (.inl (cA, n, .inl f))) (hcA : cA = G.2.1 1) {i x : Int32} (hin : vp_in i n) (hdg : decode cc pc = .ok (.iastore, 1))
    (kk : sp_W z G M0 Q nL cs sl (pc + 1) L rest (sp_u M a (.inl (cA, n, .inl (upd f i.toNatClampNeg x))))) : sp_W z G M0 Q nL cs sl pc L (.int x :: .int i :: .ref a :: rest) M := by
  subst hcA
  intro H locs ls hlv hP hA hS
  refine W.iast hx hb (hP a _ hM) ((hE.K.2 1 _ rfl).1 n (fun j => .int (f j))) (fun q => by cases q) (by show ¬ (i < 0 ∨ (arrV _ _ _).slots.size ≤ _); rw [arrV_size]; exact hin) rfl rfl hdg fun H1 e z oq => ?_
  refine kk H1 _ ls hlv (hP.set ?_ oq) (sp_A_u hA (hA a _ hM)) (hS.put z oq (hA a _ hM))
  show H1[a]? = some (vp_cell _ _)
  rw [e]
  rw [vp_cell_i, vp_cell_i, arrV_store]
  congr 2
  funext q
  by_cases hq : q = i.toNatClampNeg
  · subst hq
    simp [updV, upd]
  · simp [updV, upd, hq]
theorem sp_last (hx : (sp_zp z).tables.exec = Jvm.exec) (hb : (sp_zc z).code = cc) (hE : sp_E G (sp_A M0 (sp_zs z).heap.size) (sp_zs z) (sp_zs z).heap) {cA : ClassId} {n : Nat} {f : Nat → Int64} (hM : M a = some (.inl (cA, n, .inr (.inl f)))) (hcA : cA = G.2.1 2) {i : Int32} {x : Int64} (hin : vp_in i n) (hdg : decode cc pc = .ok (.lastore, 1))
    (kk : sp_W z G M0 Q nL cs sl (pc + 1) L rest (sp_u M a (.inl (cA, n, .inr (.inl (vp_updL f i.toNatClampNeg x)))))) : sp_W z G M0 Q nL cs sl pc L (.long x :: .int i :: .ref a :: rest) M := by
  subst hcA
  intro H locs ls hlv hP hA hS
  refine W.last hx hb (hP a _ hM) ((hE.K.2 2 _ rfl).1 n (fun j => .long (f j))) (fun q => by cases q) (by show ¬ (i < 0 ∨ (arrV _ _ _).slots.size ≤ _); rw [arrV_size]; exact hin) rfl rfl hdg fun H1 e z oq => ?_
  refine kk H1 _ ls hlv (hP.set ?_ oq) (sp_A_u hA (hA a _ hM)) (hS.put z oq (hA a _ hM))
  show H1[a]? = some (vp_cell _ _)
  rw [e]
  rw [vp_cell_l, vp_cell_l, arrV_store]
  congr 2
  funext q
  by_cases hq : q = i.toNatClampNeg
  · subst hq
    simp [updV, vp_updL]
  · simp [updV, vp_updL, hq]
end SPE
