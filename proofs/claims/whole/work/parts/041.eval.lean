/-! a block's run, an instruction a row: rewriting rules (none of them by bare reflection, so that the kernel sees each step) -/
section SPX
variable {z : sp_Z} {G : sp_G} {M0 M : sp_M} {Q : State → Prop} {nL cs sl pc n t u a b c : Nat} {L : sp_L} {st : List Value} {v : Int32} {w : Int64} {r : List sp_I}
theorem E_nil : sp_ex z G M0 Q nL cs sl [] pc L st M = sp_W z G M0 Q nL cs sl pc L st M := (rfl : _ = _).trans rfl
theorem E_iconst {i : Int} : sp_ex z G M0 Q nL cs sl ((.iconst i, n, t, u, v, w) :: r) pc L st M = sp_ex z G M0 Q nL cs sl r (pc + n) L (.int v :: st) M := (rfl : _ = _).trans rfl
theorem E_bipush {i : Int} : sp_ex z G M0 Q nL cs sl ((.bipush i, n, t, u, v, w) :: r) pc L st M = sp_ex z G M0 Q nL cs sl r (pc + n) L (.int v :: st) M := (rfl : _ = _).trans rfl
theorem E_sipush {i : Int} : sp_ex z G M0 Q nL cs sl ((.sipush i, n, t, u, v, w) :: r) pc L st M = sp_ex z G M0 Q nL cs sl r (pc + n) L (.int v :: st) M := (rfl : _ = _).trans rfl
theorem E_ldc {i : Nat} : sp_ex z G M0 Q nL cs sl ((.ldc i, n, t, 1, v, w) :: r) pc L st M = sp_ex z G M0 Q nL cs sl r (pc + n) L (.int v :: st) M := (rfl : _ = _).trans rfl
theorem E_ldc2 {i : Nat} : sp_ex z G M0 Q nL cs sl ((.ldc2_w i, n, t, 1, v, w) :: r) pc L st M = sp_ex z G M0 Q nL cs sl r (pc + n) L (.long w :: st) M := (rfl : _ = _).trans rfl
theorem E_lconst {i : Fin 2} : sp_ex z G M0 Q nL cs sl ((.lconst i, n, t, u, v, w) :: r) pc L st M = sp_ex z G M0 Q nL cs sl r (pc + n) L (.long w :: st) M := (rfl : _ = _).trans rfl
theorem E_null : sp_ex z G M0 Q nL cs sl ((.aconst_null, n, t, u, v, w) :: r) pc L st M = sp_ex z G M0 Q nL cs sl r (pc + n) L (.null :: st) M := (rfl : _ = _).trans rfl
def sp_ldi (x : Option Value) (d : Prop) (k : Int32 → Prop) : Prop := sp_xv x d (fun x => sp_xi [x] d (fun y _ => k y))
def sp_ldl (x : Option Value) (d : Prop) (k : Int64 → Prop) : Prop := sp_xv x d (fun x => sp_xl [x] d (fun y _ => k y))
def sp_lda (x : Option Value) (d : Prop) (k : Value → Prop) : Prop := sp_xv x d (fun x => sp_xa [x] d (fun y _ => k (.ref y)) (fun _ => k .null))
theorem E_iload_n {i : Fin 4} : sp_ex z G M0 Q nL cs sl ((.iload_n i, n, t, u, v, w) :: r) pc L st M = sp_ldi (sp_lk L t) (sp_W z G M0 Q nL cs sl pc L st M) (fun y => sp_ex z G M0 Q nL cs sl r (pc + n) L (.int y :: st) M) := (rfl : _ = _).trans rfl
theorem E_lload_n {i : Fin 4} : sp_ex z G M0 Q nL cs sl ((.lload_n i, n, t, u, v, w) :: r) pc L st M = sp_ldl (sp_lk L t) (sp_W z G M0 Q nL cs sl pc L st M) (fun y => sp_ex z G M0 Q nL cs sl r (pc + n) L (.long y :: st) M) := (rfl : _ = _).trans rfl
theorem E_aload_n {i : Fin 4} : sp_ex z G M0 Q nL cs sl ((.aload_n i, n, t, u, v, w) :: r) pc L st M = sp_lda (sp_lk L t) (sp_W z G M0 Q nL cs sl pc L st M) (fun y => sp_ex z G M0 Q nL cs sl r (pc + n) L (y :: st) M) := (rfl : _ = _).trans rfl
theorem E_istore_n {i : Fin 4} {x : Int32} : sp_ex z G M0 Q nL cs sl ((.istore_n i, n, t, u, v, w) :: r) pc L (.int x :: st) M = sp_ex z G M0 Q nL cs sl r (pc + n) ((t, .int x) :: sp_s1 t L) st M := (rfl : _ = _).trans rfl
theorem E_lstore_n {i : Fin 4} {x : Int64} : sp_ex z G M0 Q nL cs sl ((.lstore_n i, n, t, u, v, w) :: r) pc L (.long x :: st) M = sp_ex z G M0 Q nL cs sl r (pc + n) ((t, .long x) :: sp_s2 t L) st M := (rfl : _ = _).trans rfl
theorem E_astore_n {i : Fin 4} {x : Nat} : sp_ex z G M0 Q nL cs sl ((.astore_n i, n, t, u, v, w) :: r) pc L (.ref x :: st) M = sp_ex z G M0 Q nL cs sl r (pc + n) ((t, .ref x) :: sp_s1 t L) st M := (rfl : _ = _).trans rfl
theorem E_astoreN_n {i : Fin 4} : sp_ex z G M0 Q nL cs sl ((.astore_n i, n, t, u, v, w) :: r) pc L (.null :: st) M = sp_ex z G M0 Q nL cs sl r (pc + n) ((t, .null) :: sp_s1 t L) st M := (rfl : _ = _).trans rfl
theorem E_iload {i : Nat} : sp_ex z G M0 Q nL cs sl ((.iload i, n, t, u, v, w) :: r) pc L st M = sp_ldi (sp_lk L t) (sp_W z G M0 Q nL cs sl pc L st M) (fun y => sp_ex z G M0 Q nL cs sl r (pc + n) L (.int y :: st) M) := (rfl : _ = _).trans rfl
theorem E_lload {i : Nat} : sp_ex z G M0 Q nL cs sl ((.lload i, n, t, u, v, w) :: r) pc L st M = sp_ldl (sp_lk L t) (sp_W z G M0 Q nL cs sl pc L st M) (fun y => sp_ex z G M0 Q nL cs sl r (pc + n) L (.long y :: st) M) := (rfl : _ = _).trans rfl
theorem E_aload {i : Nat} : sp_ex z G M0 Q nL cs sl ((.aload i, n, t, u, v, w) :: r) pc L st M = sp_lda (sp_lk L t) (sp_W z G M0 Q nL cs sl pc L st M) (fun y => sp_ex z G M0 Q nL cs sl r (pc + n) L (y :: st) M) := (rfl : _ = _).trans rfl
theorem E_istore {i : Nat} {x : Int32} : sp_ex z G M0 Q nL cs sl ((.istore i, n, t, u, v, w) :: r) pc L (.int x :: st) M = sp_ex z G M0 Q nL cs sl r (pc + n) ((t, .int x) :: sp_s1 t L) st M := (rfl : _ = _).trans rfl
theorem E_lstore {i : Nat} {x : Int64} : sp_ex z G M0 Q nL cs sl ((.lstore i, n, t, u, v, w) :: r) pc L (.long x :: st) M = sp_ex z G M0 Q nL cs sl r (pc + n) ((t, .long x) :: sp_s2 t L) st M := (rfl : _ = _).trans rfl
theorem E_astore {i : Nat} {x : Nat} : sp_ex z G M0 Q nL cs sl ((.astore i, n, t, u, v, w) :: r) pc L (.ref x :: st) M = sp_ex z G M0 Q nL cs sl r (pc + n) ((t, .ref x) :: sp_s1 t L) st M := (rfl : _ = _).trans rfl
theorem E_astoreN {i : Nat} : sp_ex z G M0 Q nL cs sl ((.astore i, n, t, u, v, w) :: r) pc L (.null :: st) M = sp_ex z G M0 Q nL cs sl r (pc + n) ((t, .null) :: sp_s1 t L) st M := (rfl : _ = _).trans rfl
theorem E_ldi {x : Int32} {d : Prop} {k : Int32 → Prop} : sp_ldi (some (.int x)) d k = k x := (rfl : _ = _).trans rfl
theorem E_ldl {x : Int64} {d : Prop} {k : Int64 → Prop} : sp_ldl (some (.long x)) d k = k x := (rfl : _ = _).trans rfl
theorem E_lda {x : Nat} {d : Prop} {k : Value → Prop} : sp_lda (some (.ref x)) d k = k (.ref x) := (rfl : _ = _).trans rfl
theorem E_ldN {d : Prop} {k : Value → Prop} : sp_lda (some .null) d k = k .null := (rfl : _ = _).trans rfl
theorem E_iinc {i : Nat} {j : Int} : sp_ex z G M0 Q nL cs sl ((.iinc i j, n, t, u, v, w) :: r) pc L st M = sp_ldi (sp_lk L t) (sp_W z G M0 Q nL cs sl pc L st M) (fun y => sp_ex z G M0 Q nL cs sl r (pc + n) ((t, .int (y + v)) :: sp_s1 t L) st M) := (rfl : _ = _).trans rfl
theorem E_iadd {x y : Int32} : sp_ex z G M0 Q nL cs sl ((.iadd, n, t, u, v, w) :: r) pc L (.int y :: .int x :: st) M = sp_ex z G M0 Q nL cs sl r (pc + n) L (.int (x + y) :: st) M := (rfl : _ = _).trans rfl
theorem E_isub {x y : Int32} : sp_ex z G M0 Q nL cs sl ((.isub, n, t, u, v, w) :: r) pc L (.int y :: .int x :: st) M = sp_ex z G M0 Q nL cs sl r (pc + n) L (.int (x - y) :: st) M := (rfl : _ = _).trans rfl
theorem E_imul {x y : Int32} : sp_ex z G M0 Q nL cs sl ((.imul, n, t, u, v, w) :: r) pc L (.int y :: .int x :: st) M = sp_ex z G M0 Q nL cs sl r (pc + n) L (.int (x * y) :: st) M := (rfl : _ = _).trans rfl
theorem E_iand {x y : Int32} : sp_ex z G M0 Q nL cs sl ((.iand, n, t, u, v, w) :: r) pc L (.int y :: .int x :: st) M = sp_ex z G M0 Q nL cs sl r (pc + n) L (.int (x &&& y) :: st) M := (rfl : _ = _).trans rfl
theorem E_ior {x y : Int32} : sp_ex z G M0 Q nL cs sl ((.ior, n, t, u, v, w) :: r) pc L (.int y :: .int x :: st) M = sp_ex z G M0 Q nL cs sl r (pc + n) L (.int (x ||| y) :: st) M := (rfl : _ = _).trans rfl
theorem E_ixor {x y : Int32} : sp_ex z G M0 Q nL cs sl ((.ixor, n, t, u, v, w) :: r) pc L (.int y :: .int x :: st) M = sp_ex z G M0 Q nL cs sl r (pc + n) L (.int (x ^^^ y) :: st) M := (rfl : _ = _).trans rfl
theorem E_ishl {x y : Int32} : sp_ex z G M0 Q nL cs sl ((.ishl, n, t, u, v, w) :: r) pc L (.int y :: .int x :: st) M = sp_ex z G M0 Q nL cs sl r (pc + n) L (.int (x <<< (y &&& 31)) :: st) M := (rfl : _ = _).trans rfl
theorem E_ishr {x y : Int32} : sp_ex z G M0 Q nL cs sl ((.ishr, n, t, u, v, w) :: r) pc L (.int y :: .int x :: st) M = sp_ex z G M0 Q nL cs sl r (pc + n) L (.int (x >>> (y &&& 31)) :: st) M := (rfl : _ = _).trans rfl
theorem E_idiv {x y : Int32} : sp_ex z G M0 Q nL cs sl ((.idiv, n, t, u, v, w) :: r) pc L (.int y :: .int x :: st) M = (¬ y = 0 ∧ sp_ex z G M0 Q nL cs sl r (pc + n) L (.int (x / y) :: st) M) := (rfl : _ = _).trans rfl
theorem E_irem {x y : Int32} : sp_ex z G M0 Q nL cs sl ((.irem, n, t, u, v, w) :: r) pc L (.int y :: .int x :: st) M = (¬ y = 0 ∧ sp_ex z G M0 Q nL cs sl r (pc + n) L (.int (x - x / y * y) :: st) M) := (rfl : _ = _).trans rfl
theorem E_ineg {x : Int32} : sp_ex z G M0 Q nL cs sl ((.ineg, n, t, u, v, w) :: r) pc L (.int x :: st) M = sp_ex z G M0 Q nL cs sl r (pc + n) L (.int (-x) :: st) M := (rfl : _ = _).trans rfl
theorem E_ladd {x y : Int64} : sp_ex z G M0 Q nL cs sl ((.ladd, n, t, u, v, w) :: r) pc L (.long y :: .long x :: st) M = sp_ex z G M0 Q nL cs sl r (pc + n) L (.long (x + y) :: st) M := (rfl : _ = _).trans rfl
theorem E_lsub {x y : Int64} : sp_ex z G M0 Q nL cs sl ((.lsub, n, t, u, v, w) :: r) pc L (.long y :: .long x :: st) M = sp_ex z G M0 Q nL cs sl r (pc + n) L (.long (x - y) :: st) M := (rfl : _ = _).trans rfl
theorem E_land {x y : Int64} : sp_ex z G M0 Q nL cs sl ((.land, n, t, u, v, w) :: r) pc L (.long y :: .long x :: st) M = sp_ex z G M0 Q nL cs sl r (pc + n) L (.long (x &&& y) :: st) M := (rfl : _ = _).trans rfl
theorem E_lor {x y : Int64} : sp_ex z G M0 Q nL cs sl ((.lor, n, t, u, v, w) :: r) pc L (.long y :: .long x :: st) M = sp_ex z G M0 Q nL cs sl r (pc + n) L (.long (x ||| y) :: st) M := (rfl : _ = _).trans rfl
theorem E_lcmp {x y : Int64} : sp_ex z G M0 Q nL cs sl ((.lcmp, n, t, u, v, w) :: r) pc L (.long y :: .long x :: st) M = sp_ex z G M0 Q nL cs sl r (pc + n) L (.int (lg_cmp x y) :: st) M := (rfl : _ = _).trans rfl
theorem E_lshl {x : Int64} {y : Int32} : sp_ex z G M0 Q nL cs sl ((.lshl, n, t, u, v, w) :: r) pc L (.int y :: .long x :: st) M = sp_ex z G M0 Q nL cs sl r (pc + n) L (.long (x <<< (y.toInt64 &&& 63)) :: st) M := (rfl : _ = _).trans rfl
theorem E_lshr {x : Int64} {y : Int32} : sp_ex z G M0 Q nL cs sl ((.lshr, n, t, u, v, w) :: r) pc L (.int y :: .long x :: st) M = sp_ex z G M0 Q nL cs sl r (pc + n) L (.long (x >>> (y.toInt64 &&& 63)) :: st) M := (rfl : _ = _).trans rfl
theorem E_lushr {x : Int64} {y : Int32} : sp_ex z G M0 Q nL cs sl ((.lushr, n, t, u, v, w) :: r) pc L (.int y :: .long x :: st) M = sp_ex z G M0 Q nL cs sl r (pc + n) L (.long (x.toUInt64 >>> (y.toInt64.toUInt64 &&& Int64.toUInt64 63)).toInt64 :: st) M := (rfl : _ = _).trans rfl
theorem E_i2l {x : Int32} : sp_ex z G M0 Q nL cs sl ((.i2l, n, t, u, v, w) :: r) pc L (.int x :: st) M = sp_ex z G M0 Q nL cs sl r (pc + n) L (.long x.toInt64 :: st) M := (rfl : _ = _).trans rfl
theorem E_l2i {x : Int64} : sp_ex z G M0 Q nL cs sl ((.l2i, n, t, u, v, w) :: r) pc L (.long x :: st) M = sp_ex z G M0 Q nL cs sl r (pc + n) L (.int x.toInt32 :: st) M := (rfl : _ = _).trans rfl
theorem E_i2c {x : Int32} : sp_ex z G M0 Q nL cs sl ((.i2c, n, t, u, v, w) :: r) pc L (.int x :: st) M = sp_ex z G M0 Q nL cs sl r (pc + n) L (.int (x.toUInt32 % 65536).toInt32 :: st) M := (rfl : _ = _).trans rfl
theorem E_dupI {x1 : Int32} : sp_ex z G M0 Q nL cs sl ((.dup, n, t, u, v, w) :: r) pc L (.int x1 :: st) M = sp_ex z G M0 Q nL cs sl r (pc + n) L (.int x1 :: .int x1 :: st) M := (rfl : _ = _).trans rfl
theorem E_popI {x1 : Int32} : sp_ex z G M0 Q nL cs sl ((.pop, n, t, u, v, w) :: r) pc L (.int x1 :: st) M = sp_ex z G M0 Q nL cs sl r (pc + n) L st M := (rfl : _ = _).trans rfl
theorem E_dup_x1II {x1 : Int32} {x2 : Int32} : sp_ex z G M0 Q nL cs sl ((.dup_x1, n, t, u, v, w) :: r) pc L (.int x1 :: .int x2 :: st) M = sp_ex z G M0 Q nL cs sl r (pc + n) L (.int x1 :: .int x2 :: .int x1 :: st) M := (rfl : _ = _).trans rfl
theorem E_dup2II {x1 : Int32} {x2 : Int32} : sp_ex z G M0 Q nL cs sl ((.dup2, n, t, u, v, w) :: r) pc L (.int x1 :: .int x2 :: st) M = sp_ex z G M0 Q nL cs sl r (pc + n) L (.int x1 :: .int x2 :: .int x1 :: .int x2 :: st) M := (rfl : _ = _).trans rfl
theorem E_dup_x1IR {x1 : Int32} {x2 : Nat} : sp_ex z G M0 Q nL cs sl ((.dup_x1, n, t, u, v, w) :: r) pc L (.int x1 :: .ref x2 :: st) M = sp_ex z G M0 Q nL cs sl r (pc + n) L (.int x1 :: .ref x2 :: .int x1 :: st) M := (rfl : _ = _).trans rfl
theorem E_dup2IR {x1 : Int32} {x2 : Nat} : sp_ex z G M0 Q nL cs sl ((.dup2, n, t, u, v, w) :: r) pc L (.int x1 :: .ref x2 :: st) M = sp_ex z G M0 Q nL cs sl r (pc + n) L (.int x1 :: .ref x2 :: .int x1 :: .ref x2 :: st) M := (rfl : _ = _).trans rfl
theorem E_dup_x1IN {x1 : Int32} : sp_ex z G M0 Q nL cs sl ((.dup_x1, n, t, u, v, w) :: r) pc L (.int x1 :: .null :: st) M = sp_ex z G M0 Q nL cs sl r (pc + n) L (.int x1 :: .null :: .int x1 :: st) M := (rfl : _ = _).trans rfl
theorem E_dup2IN {x1 : Int32} : sp_ex z G M0 Q nL cs sl ((.dup2, n, t, u, v, w) :: r) pc L (.int x1 :: .null :: st) M = sp_ex z G M0 Q nL cs sl r (pc + n) L (.int x1 :: .null :: .int x1 :: .null :: st) M := (rfl : _ = _).trans rfl
theorem E_dupR {x1 : Nat} : sp_ex z G M0 Q nL cs sl ((.dup, n, t, u, v, w) :: r) pc L (.ref x1 :: st) M = sp_ex z G M0 Q nL cs sl r (pc + n) L (.ref x1 :: .ref x1 :: st) M := (rfl : _ = _).trans rfl
theorem E_popR {x1 : Nat} : sp_ex z G M0 Q nL cs sl ((.pop, n, t, u, v, w) :: r) pc L (.ref x1 :: st) M = sp_ex z G M0 Q nL cs sl r (pc + n) L st M := (rfl : _ = _).trans rfl
theorem E_dup_x1RI {x1 : Nat} {x2 : Int32} : sp_ex z G M0 Q nL cs sl ((.dup_x1, n, t, u, v, w) :: r) pc L (.ref x1 :: .int x2 :: st) M = sp_ex z G M0 Q nL cs sl r (pc + n) L (.ref x1 :: .int x2 :: .ref x1 :: st) M := (rfl : _ = _).trans rfl
theorem E_dup2RI {x1 : Nat} {x2 : Int32} : sp_ex z G M0 Q nL cs sl ((.dup2, n, t, u, v, w) :: r) pc L (.ref x1 :: .int x2 :: st) M = sp_ex z G M0 Q nL cs sl r (pc + n) L (.ref x1 :: .int x2 :: .ref x1 :: .int x2 :: st) M := (rfl : _ = _).trans rfl
theorem E_dup_x1RR {x1 : Nat} {x2 : Nat} : sp_ex z G M0 Q nL cs sl ((.dup_x1, n, t, u, v, w) :: r) pc L (.ref x1 :: .ref x2 :: st) M = sp_ex z G M0 Q nL cs sl r (pc + n) L (.ref x1 :: .ref x2 :: .ref x1 :: st) M := (rfl : _ = _).trans rfl
theorem E_dup2RR {x1 : Nat} {x2 : Nat} : sp_ex z G M0 Q nL cs sl ((.dup2, n, t, u, v, w) :: r) pc L (.ref x1 :: .ref x2 :: st) M = sp_ex z G M0 Q nL cs sl r (pc + n) L (.ref x1 :: .ref x2 :: .ref x1 :: .ref x2 :: st) M := (rfl : _ = _).trans rfl
theorem E_dup_x1RN {x1 : Nat} : sp_ex z G M0 Q nL cs sl ((.dup_x1, n, t, u, v, w) :: r) pc L (.ref x1 :: .null :: st) M = sp_ex z G M0 Q nL cs sl r (pc + n) L (.ref x1 :: .null :: .ref x1 :: st) M := (rfl : _ = _).trans rfl
theorem E_dup2RN {x1 : Nat} : sp_ex z G M0 Q nL cs sl ((.dup2, n, t, u, v, w) :: r) pc L (.ref x1 :: .null :: st) M = sp_ex z G M0 Q nL cs sl r (pc + n) L (.ref x1 :: .null :: .ref x1 :: .null :: st) M := (rfl : _ = _).trans rfl
theorem E_dupN : sp_ex z G M0 Q nL cs sl ((.dup, n, t, u, v, w) :: r) pc L (.null :: st) M = sp_ex z G M0 Q nL cs sl r (pc + n) L (.null :: .null :: st) M := (rfl : _ = _).trans rfl
theorem E_popN : sp_ex z G M0 Q nL cs sl ((.pop, n, t, u, v, w) :: r) pc L (.null :: st) M = sp_ex z G M0 Q nL cs sl r (pc + n) L st M := (rfl : _ = _).trans rfl
theorem E_dup_x1NI {x2 : Int32} : sp_ex z G M0 Q nL cs sl ((.dup_x1, n, t, u, v, w) :: r) pc L (.null :: .int x2 :: st) M = sp_ex z G M0 Q nL cs sl r (pc + n) L (.null :: .int x2 :: .null :: st) M := (rfl : _ = _).trans rfl
theorem E_dup2NI {x2 : Int32} : sp_ex z G M0 Q nL cs sl ((.dup2, n, t, u, v, w) :: r) pc L (.null :: .int x2 :: st) M = sp_ex z G M0 Q nL cs sl r (pc + n) L (.null :: .int x2 :: .null :: .int x2 :: st) M := (rfl : _ = _).trans rfl
theorem E_dup_x1NR {x2 : Nat} : sp_ex z G M0 Q nL cs sl ((.dup_x1, n, t, u, v, w) :: r) pc L (.null :: .ref x2 :: st) M = sp_ex z G M0 Q nL cs sl r (pc + n) L (.null :: .ref x2 :: .null :: st) M := (rfl : _ = _).trans rfl
theorem E_dup2NR {x2 : Nat} : sp_ex z G M0 Q nL cs sl ((.dup2, n, t, u, v, w) :: r) pc L (.null :: .ref x2 :: st) M = sp_ex z G M0 Q nL cs sl r (pc + n) L (.null :: .ref x2 :: .null :: .ref x2 :: st) M := (rfl : _ = _).trans rfl
theorem E_dup_x1NN : sp_ex z G M0 Q nL cs sl ((.dup_x1, n, t, u, v, w) :: r) pc L (.null :: .null :: st) M = sp_ex z G M0 Q nL cs sl r (pc + n) L (.null :: .null :: .null :: st) M := (rfl : _ = _).trans rfl
theorem E_dup2NN : sp_ex z G M0 Q nL cs sl ((.dup2, n, t, u, v, w) :: r) pc L (.null :: .null :: st) M = sp_ex z G M0 Q nL cs sl r (pc + n) L (.null :: .null :: .null :: .null :: st) M := (rfl : _ = _).trans rfl
theorem E_goto {i : Int} : sp_ex z G M0 Q nL cs sl ((.goto i, n, t, u, v, w) :: r) pc L st M = sp_W z G M0 Q nL cs sl t L st M := (rfl : _ = _).trans rfl
theorem E_if_eq {x : Int32} {i : Int} : sp_ex z G M0 Q nL cs sl ((.ifCond .eq i, n, t, u, v, w) :: r) pc L (.int x :: st) M = ((x = 0 → sp_W z G M0 Q nL cs sl t L st M) ∧ (¬ x = 0 → sp_ex z G M0 Q nL cs sl r (pc + n) L st M)) := (rfl : _ = _).trans rfl
theorem E_if_ne {x : Int32} {i : Int} : sp_ex z G M0 Q nL cs sl ((.ifCond .ne i, n, t, u, v, w) :: r) pc L (.int x :: st) M = ((¬ x = 0 → sp_W z G M0 Q nL cs sl t L st M) ∧ (x = 0 → sp_ex z G M0 Q nL cs sl r (pc + n) L st M)) := (rfl : _ = _).trans rfl
theorem E_if_lt {x : Int32} {i : Int} : sp_ex z G M0 Q nL cs sl ((.ifCond .lt i, n, t, u, v, w) :: r) pc L (.int x :: st) M = ((x < 0 → sp_W z G M0 Q nL cs sl t L st M) ∧ (¬ x < 0 → sp_ex z G M0 Q nL cs sl r (pc + n) L st M)) := (rfl : _ = _).trans rfl
theorem E_if_ge {x : Int32} {i : Int} : sp_ex z G M0 Q nL cs sl ((.ifCond .ge i, n, t, u, v, w) :: r) pc L (.int x :: st) M = ((0 ≤ x → sp_W z G M0 Q nL cs sl t L st M) ∧ (¬ 0 ≤ x → sp_ex z G M0 Q nL cs sl r (pc + n) L st M)) := (rfl : _ = _).trans rfl
theorem E_if_gt {x : Int32} {i : Int} : sp_ex z G M0 Q nL cs sl ((.ifCond .gt i, n, t, u, v, w) :: r) pc L (.int x :: st) M = ((0 < x → sp_W z G M0 Q nL cs sl t L st M) ∧ (¬ 0 < x → sp_ex z G M0 Q nL cs sl r (pc + n) L st M)) := (rfl : _ = _).trans rfl
theorem E_if_le {x : Int32} {i : Int} : sp_ex z G M0 Q nL cs sl ((.ifCond .le i, n, t, u, v, w) :: r) pc L (.int x :: st) M = ((x ≤ 0 → sp_W z G M0 Q nL cs sl t L st M) ∧ (¬ x ≤ 0 → sp_ex z G M0 Q nL cs sl r (pc + n) L st M)) := (rfl : _ = _).trans rfl
theorem E_ic_eq {x y : Int32} {i : Int} : sp_ex z G M0 Q nL cs sl ((.if_icmp .eq i, n, t, u, v, w) :: r) pc L (.int y :: .int x :: st) M = ((x = y → sp_W z G M0 Q nL cs sl t L st M) ∧ (¬ x = y → sp_ex z G M0 Q nL cs sl r (pc + n) L st M)) := (rfl : _ = _).trans rfl
theorem E_ic_ne {x y : Int32} {i : Int} : sp_ex z G M0 Q nL cs sl ((.if_icmp .ne i, n, t, u, v, w) :: r) pc L (.int y :: .int x :: st) M = ((¬ x = y → sp_W z G M0 Q nL cs sl t L st M) ∧ (x = y → sp_ex z G M0 Q nL cs sl r (pc + n) L st M)) := (rfl : _ = _).trans rfl
theorem E_ic_lt {x y : Int32} {i : Int} : sp_ex z G M0 Q nL cs sl ((.if_icmp .lt i, n, t, u, v, w) :: r) pc L (.int y :: .int x :: st) M = ((x < y → sp_W z G M0 Q nL cs sl t L st M) ∧ (¬ x < y → sp_ex z G M0 Q nL cs sl r (pc + n) L st M)) := (rfl : _ = _).trans rfl
theorem E_ic_ge {x y : Int32} {i : Int} : sp_ex z G M0 Q nL cs sl ((.if_icmp .ge i, n, t, u, v, w) :: r) pc L (.int y :: .int x :: st) M = ((y ≤ x → sp_W z G M0 Q nL cs sl t L st M) ∧ (¬ y ≤ x → sp_ex z G M0 Q nL cs sl r (pc + n) L st M)) := (rfl : _ = _).trans rfl
theorem E_ic_gt {x y : Int32} {i : Int} : sp_ex z G M0 Q nL cs sl ((.if_icmp .gt i, n, t, u, v, w) :: r) pc L (.int y :: .int x :: st) M = ((y < x → sp_W z G M0 Q nL cs sl t L st M) ∧ (¬ y < x → sp_ex z G M0 Q nL cs sl r (pc + n) L st M)) := (rfl : _ = _).trans rfl
theorem E_ic_le {x y : Int32} {i : Int} : sp_ex z G M0 Q nL cs sl ((.if_icmp .le i, n, t, u, v, w) :: r) pc L (.int y :: .int x :: st) M = ((x ≤ y → sp_W z G M0 Q nL cs sl t L st M) ∧ (¬ x ≤ y → sp_ex z G M0 Q nL cs sl r (pc + n) L st M)) := (rfl : _ = _).trans rfl
theorem E_ifnull {x : Nat} {i : Int} : sp_ex z G M0 Q nL cs sl ((.ifnull i, n, t, u, v, w) :: r) pc L (.ref x :: st) M = sp_ex z G M0 Q nL cs sl r (pc + n) L st M := (rfl : _ = _).trans rfl
theorem E_ifnullN {i : Int} : sp_ex z G M0 Q nL cs sl ((.ifnull i, n, t, u, v, w) :: r) pc L (.null :: st) M = sp_W z G M0 Q nL cs sl t L st M := (rfl : _ = _).trans rfl
theorem E_ifnonnull {x : Nat} {i : Int} : sp_ex z G M0 Q nL cs sl ((.ifnonnull i, n, t, u, v, w) :: r) pc L (.ref x :: st) M = sp_W z G M0 Q nL cs sl t L st M := (rfl : _ = _).trans rfl
theorem E_ifnonnullN {i : Int} : sp_ex z G M0 Q nL cs sl ((.ifnonnull i, n, t, u, v, w) :: r) pc L (.null :: st) M = sp_ex z G M0 Q nL cs sl r (pc + n) L st M := (rfl : _ = _).trans rfl
def sp_gf (x : Option va_E) (t u : Nat) (d : Prop) (k : Value → Prop) : Prop := sp_xo x d (fun ci fs => if ci = t then sp_xv (sp_nth fs u) d k else d)
theorem E_get {i x : Nat} : sp_ex z G M0 Q nL cs sl ((.getfield i, n, t, u, v, w) :: r) pc L (.ref x :: st) M = sp_gf (M x) t u (sp_W z G M0 Q nL cs sl pc L (.ref x :: st) M) (fun y => sp_ex z G M0 Q nL cs sl r (pc + n) L (y :: st) M) := (rfl : _ = _).trans rfl
theorem E_gf {fs : List Value} {d : Prop} {k : Value → Prop} : sp_gf (some (.inr (t, fs))) t u d k = sp_xv (sp_nth fs u) d k := if_pos rfl
theorem E_xv {x : Value} {d : Prop} {k : Value → Prop} : sp_xv (some x) d k = k x := (rfl : _ = _).trans rfl
theorem E_n0 {x : Value} {fs : List Value} : sp_nth (x :: fs) 0 = some x := (rfl : _ = _).trans rfl
theorem E_ns {x : Value} {fs : List Value} {j : Nat} : sp_nth (x :: fs) (j + 1) = sp_nth fs j := (rfl : _ = _).trans rfl
def sp_pf (x : Option va_E) (t u : Nat) (y : Value) (d : Prop) (k : va_E → Prop) : Prop := sp_xo x d (fun ci fs => if ci = t then ((sp_nth fs u).isSome = true ∧ k (.inr (ci, fs.set u y))) else d)
theorem E_putI {x1 : Int32} {i x : Nat} : sp_ex z G M0 Q nL cs sl ((.putfield i, n, t, u, 0, w) :: r) pc L (.int x1 :: .ref x :: st) M = sp_pf (M x) t u (.int x1) (sp_W z G M0 Q nL cs sl pc L (.int x1 :: .ref x :: st) M) (fun y => sp_ex z G M0 Q nL cs sl r (pc + n) L st (sp_u M x y)) := (rfl : _ = _).trans rfl
theorem E_putR {x1 : Nat} {i x : Nat} : sp_ex z G M0 Q nL cs sl ((.putfield i, n, t, u, 1, w) :: r) pc L (.ref x1 :: .ref x :: st) M = sp_pf (M x) t u (.ref x1) (sp_W z G M0 Q nL cs sl pc L (.ref x1 :: .ref x :: st) M) (fun y => sp_ex z G M0 Q nL cs sl r (pc + n) L st (sp_u M x y)) := (rfl : _ = _).trans rfl
theorem E_putN {i x : Nat} : sp_ex z G M0 Q nL cs sl ((.putfield i, n, t, u, 1, w) :: r) pc L (.null :: .ref x :: st) M = sp_pf (M x) t u (.null) (sp_W z G M0 Q nL cs sl pc L (.null :: .ref x :: st) M) (fun y => sp_ex z G M0 Q nL cs sl r (pc + n) L st (sp_u M x y)) := (rfl : _ = _).trans rfl
theorem E_pf {fs : List Value} {y : Value} {d : Prop} {k : va_E → Prop} : sp_pf (some (.inr (t, fs))) t u y d k = ((sp_nth fs u).isSome = true ∧ k (.inr (t, fs.set u y))) := if_pos rfl
theorem E_st0 {x y : Value} {fs : List Value} : (x :: fs).set 0 y = y :: fs := (rfl : _ = _).trans rfl
theorem E_sts {x y : Value} {fs : List Value} {j : Nat} : (x :: fs).set (j + 1) y = x :: fs.set j y := (rfl : _ = _).trans rfl
theorem E_iaload {x : Nat} {j : Int32} : sp_ex z G M0 Q nL cs sl ((.iaload, n, t, u, v, w) :: r) pc L (.int j :: .ref x :: st) M = sp_xI (M x) (sp_W z G M0 Q nL cs sl pc L (.int j :: .ref x :: st) M) (fun cA m f => cA = G.2.1 1 ∧ vp_in j m ∧ sp_ex z G M0 Q nL cs sl r (pc + n) L (.int (f j.toNatClampNeg) :: st) M) := (rfl : _ = _).trans rfl
theorem E_caload {x : Nat} {j : Int32} : sp_ex z G M0 Q nL cs sl ((.caload, n, t, u, v, w) :: r) pc L (.int j :: .ref x :: st) M = sp_xI (M x) (sp_W z G M0 Q nL cs sl pc L (.int j :: .ref x :: st) M) (fun cA m f => cA = G.2.1 0 ∧ vp_in j m ∧ sp_ex z G M0 Q nL cs sl r (pc + n) L (.int (f j.toNatClampNeg) :: st) M) := (rfl : _ = _).trans rfl
theorem E_laload {x : Nat} {j : Int32} : sp_ex z G M0 Q nL cs sl ((.laload, n, t, u, v, w) :: r) pc L (.int j :: .ref x :: st) M = sp_xJ (M x) (sp_W z G M0 Q nL cs sl pc L (.int j :: .ref x :: st) M) (fun cA m f => cA = G.2.1 2 ∧ vp_in j m ∧ sp_ex z G M0 Q nL cs sl r (pc + n) L (.long (f j.toNatClampNeg) :: st) M) := (rfl : _ = _).trans rfl
theorem E_aaload {x : Nat} {j : Int32} : sp_ex z G M0 Q nL cs sl ((.aaload, n, t, u, v, w) :: r) pc L (.int j :: .ref x :: st) M = sp_xQ (M x) (sp_W z G M0 Q nL cs sl pc L (.int j :: .ref x :: st) M) (fun cA m f => cA = G.2.1 3 ∧ vp_in j m ∧ sp_ex z G M0 Q nL cs sl r (pc + n) L (va_rf (f j.toNatClampNeg) :: st) M) := (rfl : _ = _).trans rfl
theorem E_alen {x : Nat} : sp_ex z G M0 Q nL cs sl ((.arraylength, n, t, u, v, w) :: r) pc L (.ref x :: st) M = sp_xN (M x) (sp_W z G M0 Q nL cs sl pc L (.ref x :: st) M) (fun cA m => (cA = G.2.1 0 ∨ cA = G.2.1 1 ∨ cA = G.2.1 2 ∨ cA = G.2.1 3) ∧ sp_ex z G M0 Q nL cs sl r (pc + n) L (.int (nI m) :: st) M) := (rfl : _ = _).trans rfl
theorem E_iast {x : Nat} {j y : Int32} : sp_ex z G M0 Q nL cs sl ((.iastore, n, t, u, v, w) :: r) pc L (.int y :: .int j :: .ref x :: st) M = sp_xI (M x) (sp_W z G M0 Q nL cs sl pc L (.int y :: .int j :: .ref x :: st) M) (fun cA m f => cA = G.2.1 1 ∧ vp_in j m ∧ sp_ex z G M0 Q nL cs sl r (pc + n) L st (sp_u M x (.inl (cA, m, .inl (upd f j.toNatClampNeg y))))) := (rfl : _ = _).trans rfl
theorem E_cast {x : Nat} {j y : Int32} : sp_ex z G M0 Q nL cs sl ((.castore, n, t, u, v, w) :: r) pc L (.int y :: .int j :: .ref x :: st) M = sp_xI (M x) (sp_W z G M0 Q nL cs sl pc L (.int y :: .int j :: .ref x :: st) M) (fun cA m f => cA = G.2.1 0 ∧ vp_in j m ∧ sp_ex z G M0 Q nL cs sl r (pc + n) L st (sp_u M x (.inl (cA, m, .inl (upd f j.toNatClampNeg (vp_nar .char y)))))) := (rfl : _ = _).trans rfl
theorem E_last {x : Nat} {j : Int32} {y : Int64} : sp_ex z G M0 Q nL cs sl ((.lastore, n, t, u, v, w) :: r) pc L (.long y :: .int j :: .ref x :: st) M = sp_xJ (M x) (sp_W z G M0 Q nL cs sl pc L (.long y :: .int j :: .ref x :: st) M) (fun cA m f => cA = G.2.1 2 ∧ vp_in j m ∧ sp_ex z G M0 Q nL cs sl r (pc + n) L st (sp_u M x (.inl (cA, m, .inr (.inl (vp_updL f j.toNatClampNeg y)))))) := (rfl : _ = _).trans rfl
theorem E_xI {cA : ClassId} {m : Nat} {f : Nat → Int32} {d : Prop} {k : ClassId → Nat → (Nat → Int32) → Prop} : sp_xI (some (.inl (cA, m, .inl f))) d k = k cA m f := (rfl : _ = _).trans rfl
theorem E_xJ {cA : ClassId} {m : Nat} {f : Nat → Int64} {d : Prop} {k : ClassId → Nat → (Nat → Int64) → Prop} : sp_xJ (some (.inl (cA, m, .inr (.inl f)))) d k = k cA m f := (rfl : _ = _).trans rfl
theorem E_xQ {cA : ClassId} {m : Nat} {f : Nat → Option Nat} {d : Prop} {k : ClassId → Nat → (Nat → Option Nat) → Prop} : sp_xQ (some (.inl (cA, m, .inr (.inr (.inr (.inr f)))))) d k = k cA m f := (rfl : _ = _).trans rfl
theorem E_xN {cA : ClassId} {m : Nat} {y : (Nat → Int32) ⊕ (Nat → Int64) ⊕ (Nat → UInt32) ⊕ (Nat → UInt64) ⊕ (Nat → Option Nat)} {d : Prop} {k : ClassId → Nat → Prop} : sp_xN (some (.inl (cA, m, y))) d k = k cA m := (rfl : _ = _).trans rfl
theorem E_lk {x : Value} : sp_lk ((a, x) :: L) a = some x := if_pos rfl
theorem E_lkn {x : Value} (h : (a == b) = false) : sp_lk ((a, x) :: L) b = sp_lk L b := if_neg (fun e => by rw [e, beq_self_eq_true] at h; cases h)
theorem E_s1 : sp_s1 a [] = [] := (rfl : _ = _).trans rfl
theorem E_s1h {x : Value} : sp_s1 a ((a, x) :: L) = sp_s1 a L := if_pos rfl
theorem E_s1I {x1 : Int32} (h : (b == a) = false) : sp_s1 a ((b, .int x1) :: L) = (b, .int x1) :: sp_s1 a L := by
  have hne : ¬ b = a := fun e => by rw [e, beq_self_eq_true] at h; cases h
  show (if b = a then sp_s1 a L else if b + 1 = a then (if sp_two (.int x1) = true then sp_s1 a L else (b, .int x1) :: sp_s1 a L) else (b, .int x1) :: sp_s1 a L) = _
  rw [if_neg hne]
  split
  · exact if_neg (fun e => by cases e)
  · rfl
theorem E_s1R {x1 : Nat} (h : (b == a) = false) : sp_s1 a ((b, .ref x1) :: L) = (b, .ref x1) :: sp_s1 a L := by
  have hne : ¬ b = a := fun e => by rw [e, beq_self_eq_true] at h; cases h
  show (if b = a then sp_s1 a L else if b + 1 = a then (if sp_two (.ref x1) = true then sp_s1 a L else (b, .ref x1) :: sp_s1 a L) else (b, .ref x1) :: sp_s1 a L) = _
  rw [if_neg hne]
  split
  · exact if_neg (fun e => by cases e)
  · rfl
theorem E_s1N (h : (b == a) = false) : sp_s1 a ((b, .null) :: L) = (b, .null) :: sp_s1 a L := by
  have hne : ¬ b = a := fun e => by rw [e, beq_self_eq_true] at h; cases h
  show (if b = a then sp_s1 a L else if b + 1 = a then (if sp_two (.null) = true then sp_s1 a L else (b, .null) :: sp_s1 a L) else (b, .null) :: sp_s1 a L) = _
  rw [if_neg hne]
  split
  · exact if_neg (fun e => by cases e)
  · rfl
theorem E_s1L {x : Value} (h : (b == a) = false) (h2 : (b + 1 == a) = false) : sp_s1 a ((b, x) :: L) = (b, x) :: sp_s1 a L := by
  have hne : ¬ b = a := fun e => by rw [e, beq_self_eq_true] at h; cases h
  have hne2 : ¬ b + 1 = a := fun e => by rw [e, beq_self_eq_true] at h2; cases h2
  exact (if_neg hne).trans (if_neg hne2)
theorem E_s2 : sp_s2 a [] = [] := (rfl : _ = _).trans rfl
theorem E_s2h {x : Value} : sp_s2 a ((a, x) :: L) = sp_s2 a L := if_pos rfl
theorem E_s2L {x : Value} (h : (b == a) = false) (h1 : (b == a + 1) = false) (h2 : (b + 1 == a) = false) : sp_s2 a ((b, x) :: L) = (b, x) :: sp_s2 a L := by
  have hne : ¬ b = a := fun e => by rw [e, beq_self_eq_true] at h; cases h
  have hne1 : ¬ b = a + 1 := fun e => by rw [e, beq_self_eq_true] at h1; cases h1
  have hne2 : ¬ b + 1 = a := fun e => by rw [e, beq_self_eq_true] at h2; cases h2
  exact (if_neg hne).trans ((if_neg hne1).trans (if_neg hne2))
theorem E_s2I {x1 : Int32} (h : (b == a) = false) (h1 : (b == a + 1) = false) : sp_s2 a ((b, .int x1) :: L) = (b, .int x1) :: sp_s2 a L := by
  have hne : ¬ b = a := fun e => by rw [e, beq_self_eq_true] at h; cases h
  have hne1 : ¬ b = a + 1 := fun e => by rw [e, beq_self_eq_true] at h1; cases h1
  show (if b = a then sp_s2 a L else if b = a + 1 then sp_s2 a L else if b + 1 = a then (if sp_two (.int x1) = true then sp_s2 a L else (b, .int x1) :: sp_s2 a L) else (b, .int x1) :: sp_s2 a L) = _
  rw [if_neg hne, if_neg hne1]
  split
  · exact if_neg (fun e => by cases e)
  · rfl
theorem E_s2R {x1 : Nat} (h : (b == a) = false) (h1 : (b == a + 1) = false) : sp_s2 a ((b, .ref x1) :: L) = (b, .ref x1) :: sp_s2 a L := by
  have hne : ¬ b = a := fun e => by rw [e, beq_self_eq_true] at h; cases h
  have hne1 : ¬ b = a + 1 := fun e => by rw [e, beq_self_eq_true] at h1; cases h1
  show (if b = a then sp_s2 a L else if b = a + 1 then sp_s2 a L else if b + 1 = a then (if sp_two (.ref x1) = true then sp_s2 a L else (b, .ref x1) :: sp_s2 a L) else (b, .ref x1) :: sp_s2 a L) = _
  rw [if_neg hne, if_neg hne1]
  split
  · exact if_neg (fun e => by cases e)
  · rfl
theorem E_s2N (h : (b == a) = false) (h1 : (b == a + 1) = false) : sp_s2 a ((b, .null) :: L) = (b, .null) :: sp_s2 a L := by
  have hne : ¬ b = a := fun e => by rw [e, beq_self_eq_true] at h; cases h
  have hne1 : ¬ b = a + 1 := fun e => by rw [e, beq_self_eq_true] at h1; cases h1
  show (if b = a then sp_s2 a L else if b = a + 1 then sp_s2 a L else if b + 1 = a then (if sp_two (.null) = true then sp_s2 a L else (b, .null) :: sp_s2 a L) else (b, .null) :: sp_s2 a L) = _
  rw [if_neg hne, if_neg hne1]
  split
  · exact if_neg (fun e => by cases e)
  · rfl
theorem E_a1 {x : Value} : lv_args a [x] = [(a, x)] := (rfl : _ = _).trans rfl
theorem E_a0 : lv_args a [] = [] := (rfl : _ = _).trans rfl
theorem E_aI {x1 : Int32} {vs : List Value} : lv_args a (.int x1 :: vs) = (a, .int x1) :: lv_args (a + 1) vs := (rfl : _ = _).trans rfl
theorem E_aR {x1 : Nat} {vs : List Value} : lv_args a (.ref x1 :: vs) = (a, .ref x1) :: lv_args (a + 1) vs := (rfl : _ = _).trans rfl
theorem E_aN {vs : List Value} : lv_args a (.null :: vs) = (a, .null) :: lv_args (a + 1) vs := (rfl : _ = _).trans rfl
theorem E_aL {x : Int64} {vs : List Value} : lv_args a (.long x :: vs) = (a, .long x) :: lv_args (a + 2) vs := (rfl : _ = _).trans rfl
end SPX
