/-! the judgement over the ghost heap -/
def exn : Nat → String
  | 0 => "java/lang/IndexOutOfBoundsException"
  | 1 => "java/lang/IllegalStateException"
  | 2 => "java/lang/IllegalArgumentException"
  | _ => "java/lang/UnsupportedOperationException"
def ExAt (kd : Nat) (a : Addr) (s : State) (H : Heap) : Prop := ∃ cell : Cell, H[a]? = some cell ∧ (∀ k, cell.vm ≠ .statics k) ∧ s.vm.findClass (exn kd) = some cell.cls
def Cx (E : wE) (own : String) (cc : ByteArray) (nL : Nat) (A : Nat → Prop) (p : Program) (s : State) (m : MethodId) (args : Array Value) (meth : Method) (c : Code) : Prop :=
  p.tables.exec = Jvm.exec ∧ c.code = cc ∧ c.maxLocals = nL ∧ s.vm.findClass own = some m.cls ∧ (∀ w ∈ Tb, w.before args s = true) ∧ (∀ w ∈ Nb, va_Nw w s) ∧ va_K (E.1, E.2.1) classes (tysOf E) s ∧ (∀ q : Nat, s.heap.size ≤ q → A q) ∧ meth.locks = false ∧ Ev A s
def Vj (E : wE) (nL : Nat) (A : Nat → Prop) (Q : State → Prop) (p : Program) (l : Launch) (e : Env) (R : Room) (s : State) (m : MethodId) (args : Array Value) (below : List Frame) (meth : Method) (c : Code) (pc : Nat) (lv : List (Nat × Value)) (st : List Value) (G : gH) (k d : Nat) : Prop :=
  ∀ (H : Heap) (locs : List Loc) (ls : Array Slot), gP (E.1, E.2.1) classes A G H → va_S A s.heap H locs → lv_has ls nL lv → W p l e R s m args below meth c H locs k d Q (F0 m pc ls st)
def Vt (E : wE) (nL : Nat) (A : Nat → Prop) (Q : State → Prop) (p : Program) (l : Launch) (e : Env) (R : Room) (s : State) (m : MethodId) (args : Array Value) (below : List Frame) (meth : Method) (c : Code) (kd pc : Nat) (lv : List (Nat × Value)) (G : gH) (k d : Nat) : Prop :=
  ∀ (H : Heap) (locs : List Loc) (ls : Array Slot) (a : Addr) (rest : List Value), gP (E.1, E.2.1) classes A G H → va_S A s.heap H locs → lv_has ls nL lv → ExAt kd a s H → ∀ T : State, T.heap = H → Stand p l e R s m args below meth c T locs k d → ∃ t, Steps p.tables e below ((T.setTop (F0 m pc ls rest)).pushFrame (.throwing a)) t ∧ Q t
/-! what the tables say of classes, fields, makings -/
def clsOK (ci : Nat) (C : String) (T : u_T) (N : Nat) (ty0 : Nat → FieldType) : Prop := classes[ci]? = some (C, T, N) ∧ (∀ w ∈ u_ws C T N, w ∈ Tb) ∧ (∀ k, k < N → parseFieldDescriptor (T k).2.2.1 = some (ty0 k)) ∧ (∀ a, a < N → ∀ b, b < N → a ≠ b → (T a).2.1 ≠ (T b).2.1)
def fOK (own : String) (ix ci k : Nat) (ty : FieldType) (fin : Bool) : Prop := ∃ (C : String) (T : u_T) (N : Nat) (ty0 : Nat → FieldType), clsOK ci C T N ty0 ∧ k < N ∧ ty0 k = ty ∧ (T k).2.2.2 = fin ∧ (Cond.fieldLink own ix (T k).1 (T k).2.1 (T k).2.2.1 ∈ Tb ∨ ∃ host, Cond.fieldLinkNest own ix (T k).1 (T k).2.1 (T k).2.2.1 host ∈ Nb)
def fOKF (own : String) (ix ci k : Nat) (ty : FieldType) : Prop := ∃ (C : String) (T : u_T) (N : Nat) (ty0 : Nat → FieldType), clsOK ci C T N ty0 ∧ k < N ∧ ty0 k = ty ∧ (T k).2.2.2 = true ∧ (T k).1 = own ∧ Cond.fieldLink own ix (T k).1 (T k).2.1 (T k).2.2.1 ∈ Tb
def nOK (own : String) (ix ci N : Nat) (dfl : List Value) : Prop := ∃ (C : String) (T : u_T) (ty0 : Nat → FieldType), clsOK ci C T N ty0 ∧ Cond.classLink own ix C ∈ Tb ∧ Cond.instantiable C N ∈ Tb ∧ Cond.initialized C ∈ Tb ∧ ∀ j, j < N → defaultValue (ty0 j) = vp_V dfl j
def isA (E : wE) (cA : ClassId) : Prop := ∃ (t0 : Nat) (C : String), (tysOf E)[t0]? = some (cA, .object C)
/-- an array whose elements may be objects of class ci -/
def isAof (E : wE) (cA : ClassId) (ci : Nat) : Prop := ∃ (t0 : Nat) (r : vw_C), (tysOf E)[t0]? = some (cA, .object r.1) ∧ classes[ci]? = some r
/-- the class of the arrays made by anewarray with pool number ix -/
def aOK (E : wE) (own : String) (ix : Nat) (cA : ClassId) : Prop := ∃ (t0 : Nat) (C : String), (tysOf E)[t0]? = some (cA, .object C) ∧ Cond.classLink own ix C ∈ Tb ∧ Cond.arrayOver (.object C) ∈ Nb
def csum : List Value → Nat
  | [] => 0
  | v :: r => v.category + csum r
theorem csum_eq : ∀ l : List Value, csum l = (l.map fun v => v.category).sum
  | [] => rfl
  | v :: r => by simp [csum, csum_eq r]
def tg (pc : Nat) (off : Int) : Nat := ((pc : Int) + off).toNat
theorem tg_eq {pc : Nat} {off : Int} (h : 0 ≤ (pc : Int) + off) : (pc : Int) + off = ((tg pc off : Nat) : Int) := by
  unfold tg
  omega
abbrev CallT : Type := List Value → gH → (Option Value → gH → Prop) → (Nat → gH → Prop) → Prop
abbrev NxT : Type := Nat → List (Nat × Value) → List Value → gH → Nat → Nat → Prop
def swT (nx : NxT) (x : Int32) (pc : Nat) (lv : List (Nat × Value)) (st : List Value) (G : gH) (k d : Nat) : List Int → Int → Prop
  | [], _ => True
  | o :: r, lo => (x.toInt = lo → 0 ≤ (pc : Int) + o ∧ nx (tg pc o) lv st G k d) ∧ swT nx x pc lv st G k d r (lo + 1)
def swL (nx : NxT) (x : Int32) (pc : Nat) (dflt : Int) (lv : List (Nat × Value)) (st : List Value) (G : gH) (k d : Nat) : List (Int × Int) → Prop
  | [] => 0 ≤ (pc : Int) + dflt ∧ nx (tg pc dflt) lv st G k d
  | (a, o) :: r => (x.toInt = a → 0 ≤ (pc : Int) + o ∧ nx (tg pc o) lv st G k d) ∧ (¬ x.toInt = a → swL nx x pc dflt lv st G k d r)

theorem swT_pick {nx : NxT} {x : Int32} {pc : Nat} {lv : List (Nat × Value)} {st : List Value} {G : gH} {k d : Nat} : ∀ {offs : List Int} {lo : Int}, lo ≤ x.toInt → x.toInt < lo + (offs.length : Int) → swT nx x pc lv st G k d offs lo → ∃ o, offs[(x.toInt - lo).toNat]? = some o ∧ 0 ≤ (pc : Int) + o ∧ nx (tg pc o) lv st G k d
  | [], lo, h1, h2, _ => by simp at h2; omega
  | o :: r, lo, h1, h2, h => by
    by_cases z : x.toInt = lo
    · have := h.1 z
      refine ⟨o, ?_, this⟩
      rw [z, Int.sub_self]
      rfl
    · have h3 : lo + 1 ≤ x.toInt := by omega
      have h4 : x.toInt < lo + 1 + (r.length : Int) := by
        rw [List.length_cons] at h2
        omega
      obtain ⟨o1, e1, e2⟩ := swT_pick h3 h4 h.2
      refine ⟨o1, ?_, e2⟩
      have e3 : (x.toInt - lo).toNat = (x.toInt - (lo + 1)).toNat + 1 := by omega
      rw [e3, List.getElem?_cons_succ]
      exact e1
theorem swL_pick {nx : NxT} {x : Int32} {pc : Nat} {df : Int} {lv : List (Nat × Value)} {st : List Value} {G : gH} {k d : Nat} : ∀ (ps : List (Int × Int)), swL nx x pc df lv st G k d ps → 0 ≤ (pc : Int) + Op.lookupswitch.offset ps df x.toInt ∧ nx (tg pc (Op.lookupswitch.offset ps df x.toInt)) lv st G k d
  | [], h => h
  | (a, o) :: r, h => by
    by_cases z : x.toInt = a
    · have := h.1 z
      simpa [Op.lookupswitch.offset, z] using this
    · have := swL_pick r (h.2 z)
      have z1 : ¬ a = x.toInt := fun q => z q.symm
      simpa [Op.lookupswitch.offset, z1] using this
set_option maxHeartbeats 4000000 in
def wpI (nL : Nat) (E : wE) (fl : Nat → Option (Nat × Nat × FieldType × Bool)) (nw : Nat → Option (Nat × Nat × List Value)) (nq : Nat → Option ClassId) (oc : Option Nat) (cs : Nat → Option (Nat × Nat × Nat × Nat × CallT)) (hh : Nat → Nat → Option Nat) (ret : Option FieldType) (mc ms : Nat) (RP : Option Value → gH → Prop) (TP : Nat → gH → Prop) (nx : NxT) (i : Instr) (len pc : Nat) (lv : List (Nat × Value)) (st : List Value) (G : gH) (k d : Nat) : Prop :=
  match i with
  | .iconst n => len = 1 ∧ nx (pc + 1) lv (.int (Int32.ofInt n) :: st) G k d
  | .bipush n => len = 2 ∧ nx (pc + 2) lv (.int (Int8.ofInt n).toInt32 :: st) G k d
  | .sipush n => len = 3 ∧ nx (pc + 3) lv (.int (Int16.ofInt n).toInt32 :: st) G k d
  | .lconst n => len = 1 ∧ nx (pc + 1) lv (.long (Int64.ofNat (n : Nat)) :: st) G k d
  | .aconst_null => len = 1 ∧ nx (pc + 1) lv (.null :: st) G k d
  | .iadd => (match st with | .int y :: .int x :: r => len = 1 ∧ nx (pc + 1) lv (.int (x + y) :: r) G k d | _ => False)
  | .isub => (match st with | .int y :: .int x :: r => len = 1 ∧ nx (pc + 1) lv (.int (x - y) :: r) G k d | _ => False)
  | .imul => (match st with | .int y :: .int x :: r => len = 1 ∧ nx (pc + 1) lv (.int (x * y) :: r) G k d | _ => False)
  | .iand => (match st with | .int y :: .int x :: r => len = 1 ∧ nx (pc + 1) lv (.int (x &&& y) :: r) G k d | _ => False)
  | .ior => (match st with | .int y :: .int x :: r => len = 1 ∧ nx (pc + 1) lv (.int (x ||| y) :: r) G k d | _ => False)
  | .ixor => (match st with | .int y :: .int x :: r => len = 1 ∧ nx (pc + 1) lv (.int (x ^^^ y) :: r) G k d | _ => False)
  | .ishl => (match st with | .int y :: .int x :: r => len = 1 ∧ nx (pc + 1) lv (.int (x <<< (y &&& 31)) :: r) G k d | _ => False)
  | .ishr => (match st with | .int y :: .int x :: r => len = 1 ∧ nx (pc + 1) lv (.int (x >>> (y &&& 31)) :: r) G k d | _ => False)
  | .iushr => (match st with | .int y :: .int x :: r => len = 1 ∧ nx (pc + 1) lv (.int (x.toUInt32 >>> (y.toUInt32 &&& Int32.toUInt32 31)).toInt32 :: r) G k d | _ => False)
  | .idiv => (match st with | .int y :: .int x :: r => len = 1 ∧ (¬ y = 0) ∧ nx (pc + 1) lv (.int (x / y) :: r) G k d | _ => False)
  | .irem => (match st with | .int y :: .int x :: r => len = 1 ∧ (¬ y = 0) ∧ nx (pc + 1) lv (.int (x - x / y * y) :: r) G k d | _ => False)
  | .ineg => (match st with | .int x :: r => len = 1 ∧ nx (pc + 1) lv (.int (-x) :: r) G k d | _ => False)
  | .ladd => (match st with | .long y :: .long x :: r => len = 1 ∧ nx (pc + 1) lv (.long (x + y) :: r) G k d | _ => False)
  | .lsub => (match st with | .long y :: .long x :: r => len = 1 ∧ nx (pc + 1) lv (.long (x - y) :: r) G k d | _ => False)
  | .lmul => (match st with | .long y :: .long x :: r => len = 1 ∧ nx (pc + 1) lv (.long (x * y) :: r) G k d | _ => False)
  | .land => (match st with | .long y :: .long x :: r => len = 1 ∧ nx (pc + 1) lv (.long (x &&& y) :: r) G k d | _ => False)
  | .lor => (match st with | .long y :: .long x :: r => len = 1 ∧ nx (pc + 1) lv (.long (x ||| y) :: r) G k d | _ => False)
  | .lxor => (match st with | .long y :: .long x :: r => len = 1 ∧ nx (pc + 1) lv (.long (x ^^^ y) :: r) G k d | _ => False)
  | .lshl => (match st with | .int y :: .long x :: r => len = 1 ∧ nx (pc + 1) lv (.long (x <<< (y.toInt64 &&& 63)) :: r) G k d | _ => False)
  | .lushr => (match st with | .int y :: .long x :: r => len = 1 ∧ nx (pc + 1) lv (.long (x.toUInt64 >>> (y.toInt64.toUInt64 &&& Int64.toUInt64 63)).toInt64 :: r) G k d | _ => False)
  | .lshr => (match st with | .int y :: .long x :: r => len = 1 ∧ nx (pc + 1) lv (.long (x >>> (y.toInt64 &&& 63)) :: r) G k d | _ => False)
  | .lcmp => (match st with | .long y :: .long x :: r => len = 1 ∧ nx (pc + 1) lv (.int (lg_cmp x y) :: r) G k d | _ => False)
  | .i2l => (match st with | .int x :: r => len = 1 ∧ nx (pc + 1) lv (.long x.toInt64 :: r) G k d | _ => False)
  | .l2i => (match st with | .long x :: r => len = 1 ∧ nx (pc + 1) lv (.int x.toInt32 :: r) G k d | _ => False)
  | .i2b => (match st with | .int x :: r => len = 1 ∧ nx (pc + 1) lv (.int x.toInt8.toInt32 :: r) G k d | _ => False)
  | .i2c => (match st with | .int x :: r => len = 1 ∧ nx (pc + 1) lv (.int (x.toUInt32 % 65536).toInt32 :: r) G k d | _ => False)
  | .dup => (match st with | v :: r => len = 1 ∧ v.category = 1 ∧ nx (pc + 1) lv (v :: v :: r) G k d | _ => False)
  | .pop => (match st with | v :: r => len = 1 ∧ v.category = 1 ∧ nx (pc + 1) lv (r) G k d | _ => False)
  | .dup_x1 => (match st with | v :: w :: r => len = 1 ∧ (v.category = 1 ∧ w.category = 1) ∧ nx (pc + 1) lv (v :: w :: v :: r) G k d | _ => False)
  | .dup_x2 => (match st with | v :: w :: u :: r => len = 1 ∧ (v.category = 1 ∧ w.category = 1 ∧ u.category = 1) ∧ nx (pc + 1) lv (v :: w :: u :: v :: r) G k d | _ => False)
  | .dup2 => (match st with | v :: w :: r => len = 1 ∧ (v.category = 1 ∧ w.category = 1) ∧ nx (pc + 1) lv (v :: w :: v :: w :: r) G k d | _ => False)
  | .iload_n n => len = 1 ∧ (match lg lv n.val with | some (.int x) => nx (pc + 1) lv (.int x :: st) G k d | _ => False)
  | .iload n => len = 2 ∧ (match lg lv n with | some (.int x) => nx (pc + 2) lv (.int x :: st) G k d | _ => False)
  | .lload_n n => len = 1 ∧ (match lg lv n.val with | some (.long x) => nx (pc + 1) lv (.long x :: st) G k d | _ => False)
  | .lload n => len = 2 ∧ (match lg lv n with | some (.long x) => nx (pc + 2) lv (.long x :: st) G k d | _ => False)
  | .aload_n n => len = 1 ∧ (match lg lv n.val with | some (.ref x) => nx (pc + 1) lv (.ref x :: st) G k d | some .null => nx (pc + 1) lv (.null :: st) G k d | _ => False)
  | .aload n => len = 2 ∧ (match lg lv n with | some (.ref x) => nx (pc + 2) lv (.ref x :: st) G k d | some .null => nx (pc + 2) lv (.null :: st) G k d | _ => False)
  | .istore_n n => (match st with | .int x :: r => len = 1 ∧ n.val < nL ∧ nx (pc + 1) (lset lv n.val (.int x)) r G k d | _ => False)
  | .istore n => (match st with | .int x :: r => len = 2 ∧ n < nL ∧ nx (pc + 2) (lset lv n (.int x)) r G k d | _ => False)
  | .lstore_n n => (match st with | .long x :: r => len = 1 ∧ n.val + 1 < nL ∧ nx (pc + 1) (lset2 lv n.val (.long x)) r G k d | _ => False)
  | .lstore n => (match st with | .long x :: r => len = 2 ∧ n + 1 < nL ∧ nx (pc + 2) (lset2 lv n (.long x)) r G k d | _ => False)
  | .astore_n n => (match st with | .ref x :: r => len = 1 ∧ n.val < nL ∧ nx (pc + 1) (lset lv n.val (.ref x)) r G k d | .null :: r => len = 1 ∧ n.val < nL ∧ nx (pc + 1) (lset lv n.val .null) r G k d | _ => False)
  | .astore n => (match st with | .ref x :: r => len = 2 ∧ n < nL ∧ nx (pc + 2) (lset lv n (.ref x)) r G k d | .null :: r => len = 2 ∧ n < nL ∧ nx (pc + 2) (lset lv n .null) r G k d | _ => False)
  | .iinc n z => len = 3 ∧ n < nL ∧ (match lg lv n with | some (.int x) => nx (pc + 3) (lset lv n (.int (x + Int32.ofInt z))) st G k d | _ => False)
  | .ifCond .eq off => (match st with | .int x :: r => len = 3 ∧ 0 ≤ (pc : Int) + off ∧ (x = 0 → nx (tg pc off) lv r G k d) ∧ (¬ x = 0 → nx (pc + 3) lv r G k d) | _ => False)
  | .if_icmp .eq off => (match st with | .int y :: .int x :: r => len = 3 ∧ 0 ≤ (pc : Int) + off ∧ (x = y → nx (tg pc off) lv r G k d) ∧ (¬ x = y → nx (pc + 3) lv r G k d) | _ => False)
  | .ifCond .ne off => (match st with | .int x :: r => len = 3 ∧ 0 ≤ (pc : Int) + off ∧ (¬ x = 0 → nx (tg pc off) lv r G k d) ∧ (x = 0 → nx (pc + 3) lv r G k d) | _ => False)
  | .if_icmp .ne off => (match st with | .int y :: .int x :: r => len = 3 ∧ 0 ≤ (pc : Int) + off ∧ (¬ x = y → nx (tg pc off) lv r G k d) ∧ (x = y → nx (pc + 3) lv r G k d) | _ => False)
  | .ifCond .lt off => (match st with | .int x :: r => len = 3 ∧ 0 ≤ (pc : Int) + off ∧ (x < 0 → nx (tg pc off) lv r G k d) ∧ (¬ x < 0 → nx (pc + 3) lv r G k d) | _ => False)
  | .if_icmp .lt off => (match st with | .int y :: .int x :: r => len = 3 ∧ 0 ≤ (pc : Int) + off ∧ (x < y → nx (tg pc off) lv r G k d) ∧ (¬ x < y → nx (pc + 3) lv r G k d) | _ => False)
  | .ifCond .ge off => (match st with | .int x :: r => len = 3 ∧ 0 ≤ (pc : Int) + off ∧ (0 ≤ x → nx (tg pc off) lv r G k d) ∧ (¬ 0 ≤ x → nx (pc + 3) lv r G k d) | _ => False)
  | .if_icmp .ge off => (match st with | .int y :: .int x :: r => len = 3 ∧ 0 ≤ (pc : Int) + off ∧ (y ≤ x → nx (tg pc off) lv r G k d) ∧ (¬ y ≤ x → nx (pc + 3) lv r G k d) | _ => False)
  | .ifCond .gt off => (match st with | .int x :: r => len = 3 ∧ 0 ≤ (pc : Int) + off ∧ (0 < x → nx (tg pc off) lv r G k d) ∧ (¬ 0 < x → nx (pc + 3) lv r G k d) | _ => False)
  | .if_icmp .gt off => (match st with | .int y :: .int x :: r => len = 3 ∧ 0 ≤ (pc : Int) + off ∧ (y < x → nx (tg pc off) lv r G k d) ∧ (¬ y < x → nx (pc + 3) lv r G k d) | _ => False)
  | .ifCond .le off => (match st with | .int x :: r => len = 3 ∧ 0 ≤ (pc : Int) + off ∧ (x ≤ 0 → nx (tg pc off) lv r G k d) ∧ (¬ x ≤ 0 → nx (pc + 3) lv r G k d) | _ => False)
  | .if_icmp .le off => (match st with | .int y :: .int x :: r => len = 3 ∧ 0 ≤ (pc : Int) + off ∧ (x ≤ y → nx (tg pc off) lv r G k d) ∧ (¬ x ≤ y → nx (pc + 3) lv r G k d) | _ => False)
  | .goto off => len = 3 ∧ 0 ≤ (pc : Int) + off ∧ nx (tg pc off) lv st G k d
  | .ifnull off => (match st with | .null :: r => len = 3 ∧ 0 ≤ (pc : Int) + off ∧ nx (tg pc off) lv r G k d | .ref _ :: r => len = 3 ∧ nx (pc + 3) lv r G k d | _ => False)
  | .ifnonnull off => (match st with | .null :: r => len = 3 ∧ nx (pc + 3) lv r G k d | .ref _ :: r => len = 3 ∧ 0 ≤ (pc : Int) + off ∧ nx (tg pc off) lv r G k d | _ => False)
  | .tableswitch df lo hi offs => (match st with | .int x :: r => hi = lo + (offs.toList.length : Int) - 1 ∧ (x.toInt < lo ∨ hi < x.toInt → 0 ≤ (pc : Int) + df ∧ nx (tg pc df) lv r G k d) ∧ swT nx x pc lv r G k d offs.toList lo | _ => False)
  | .lookupswitch df ps => (match st with | .int x :: r => (ps.toList.zip (ps.toList.drop 1)).all (fun (a, next) => a.1 < next.1) = true ∧ swL nx x pc df lv r G k d ps.toList | _ => False)
  | .getfield n => len = 3 ∧ (match fl n with | some (ci, kf, _, _) => (match st with | .ref a :: r => (match G a with | some (.inr (ci1, fs)) => ci1 = ci ∧ (match fs[kf]? with | some v => nx (pc + 3) lv (v :: r) G k d | none => False) | _ => False) | _ => False) | none => False)
  | .putfield n => len = 3 ∧ (match fl n with | some (ci, kf, ty, fin) => (match st with | v :: .ref a :: r => (match G a with | some (.inr (ci1, fs)) => ci1 = ci ∧ kf < fs.length ∧ (fin = false ∨ oc = some ci) ∧ (narrow ty v = v ∧ fits ty v = true) ∧ nx (pc + 3) lv r (gset G a (.inr (ci, fs.set kf v))) k d | _ => False) | _ => False) | none => False)
  | .iaload => len = 1 ∧ (match st with | .int i :: .ref a :: r => (match G a with | some (.inl (cA, n, .inl f)) => cA = E.2.2 0 ∧ vp_in i n ∧ nx (pc + 1) lv (.int (f i.toNatClampNeg) :: r) G k d | _ => False) | _ => False)
  | .laload => len = 1 ∧ (match st with | .int i :: .ref a :: r => (match G a with | some (.inl (cA, n, .inr (.inl f))) => cA = E.2.2 1 ∧ vp_in i n ∧ nx (pc + 1) lv (.long (f i.toNatClampNeg) :: r) G k d | _ => False) | _ => False)
  | .aaload => len = 1 ∧ (match st with | .int i :: .ref a :: r => (match G a with | some (.inl (cA, n, .inr (.inr (.inr (.inr f))))) => isA E cA ∧ vp_in i n ∧ nx (pc + 1) lv (va_rf (f i.toNatClampNeg) :: r) G k d | _ => False) | _ => False)
  | .iastore => len = 1 ∧ (match st with | .int x :: .int i :: .ref a :: r => (match G a with | some (.inl (cA, n, .inl f)) => cA = E.2.2 0 ∧ vp_in i n ∧ nx (pc + 1) lv r (gset G a (.inl (cA, n, .inl (upd f i.toNatClampNeg x)))) k d | _ => False) | _ => False)
  | .lastore => len = 1 ∧ (match st with | .long x :: .int i :: .ref a :: r => (match G a with | some (.inl (cA, n, .inr (.inl f))) => cA = E.2.2 1 ∧ vp_in i n ∧ nx (pc + 1) lv r (gset G a (.inl (cA, n, .inr (.inl (vp_updL f i.toNatClampNeg x))))) k d | _ => False) | _ => False)
  | .aastore => len = 1 ∧ (match st with | .ref v :: .int i :: .ref a :: r => (match G a, G v with | some (.inl (cA, n, .inr (.inr (.inr (.inr f))))), some (.inr (ci, _)) => isAof E cA ci ∧ vp_in i n ∧ nx (pc + 1) lv r (gset G a (.inl (cA, n, .inr (.inr (.inr (.inr (va_up f i.toNatClampNeg (some v)))))))) k d | _, _ => False) | .null :: .int i :: .ref a :: r => (match G a with | some (.inl (cA, n, .inr (.inr (.inr (.inr f))))) => isA E cA ∧ vp_in i n ∧ nx (pc + 1) lv r (gset G a (.inl (cA, n, .inr (.inr (.inr (.inr (va_up f i.toNatClampNeg none))))))) k d | _ => False) | _ => False)
  | .arraylength => len = 1 ∧ (match st with | .ref a :: r => (match G a with | some (.inl (cA, x)) => (∃ (t0 : Nat) (ty : FieldType), (tysOf E)[t0]? = some (cA, ty)) ∧ nx (pc + 1) lv (.int (Int32.ofNat x.1) :: r) G k d | _ => False) | _ => False)
  | .new n => len = 3 ∧ (match nw n with | some (ci, N, dfl) => k + 1 ≤ mc ∧ d + N ≤ ms ∧ ∀ q : Nat, G q = none → nx (pc + 3) lv (.ref q :: st) (gset G q (.inr (ci, dfl))) (k + 1) (d + N) | none => False)
  | .newarray .int => len = 2 ∧ (match st with | .int n :: r => ¬ n < 0 ∧ n.toNatClampNeg * componentBytes .int ≤ 536870912 ∧ k + 1 ≤ mc ∧ d + n.toNatClampNeg ≤ ms ∧ ∀ q : Nat, G q = none → nx (pc + 2) lv (.ref q :: r) (gset G q (.inl (E.2.2 0, n.toNatClampNeg, .inl (fun _ => 0)))) (k + 1) (d + n.toNatClampNeg) | _ => False)
  | .newarray .long => len = 2 ∧ (match st with | .int n :: r => ¬ n < 0 ∧ n.toNatClampNeg * componentBytes .long ≤ 536870912 ∧ k + 1 ≤ mc ∧ d + n.toNatClampNeg ≤ ms ∧ ∀ q : Nat, G q = none → nx (pc + 2) lv (.ref q :: r) (gset G q (.inl (E.2.2 1, n.toNatClampNeg, .inr (.inl (fun _ => 0))))) (k + 1) (d + n.toNatClampNeg) | _ => False)
  | .anewarray n => len = 3 ∧ (match st, nq n with | .int x :: r, some cA => ¬ x < 0 ∧ x.toNatClampNeg * 4 ≤ 536870912 ∧ k + 1 ≤ mc ∧ d + x.toNatClampNeg ≤ ms ∧ ∀ q : Nat, G q = none → nx (pc + 3) lv (.ref q :: r) (gset G q (.inl (cA, x.toNatClampNeg, .inr (.inr (.inr (.inr (fun _ => none))))))) (k + 1) (d + x.toNatClampNeg) | _, _ => False)
  | .invokestatic n => len = 3 ∧ (match cs n with | some (kd, na, mc1, ms1, ct) => kd = 0 ∧ k + mc1 ≤ mc ∧ d + ms1 ≤ ms ∧ csum (st.drop na) ≤ 8 ∧ ct (st.take na).reverse G (fun v G1 => nx (pc + 3) lv (v.toList ++ st.drop na) G1 (k + mc1) (d + ms1)) (fun x G1 => (match hh pc x with | some h1 => ∀ a : Nat, nx h1 lv [.ref a] G1 (k + mc1) (d + ms1) | none => TP x G1)) | none => False)
  | .invokespecial n => len = 3 ∧ (match cs n with | some (kd, na, mc1, ms1, ct) => kd = 1 ∧ k + mc1 ≤ mc ∧ d + ms1 ≤ ms ∧ csum (st.drop na) ≤ 8 ∧ ct (st.take na).reverse G (fun v G1 => nx (pc + 3) lv (v.toList ++ st.drop na) G1 (k + mc1) (d + ms1)) (fun x G1 => (match hh pc x with | some h1 => ∀ a : Nat, nx h1 lv [.ref a] G1 (k + mc1) (d + ms1) | none => TP x G1)) | none => False)
  | .invokevirtual n => len = 3 ∧ (match cs n with | some (kd, na, mc1, ms1, ct) => kd = 2 ∧ k + mc1 ≤ mc ∧ d + ms1 ≤ ms ∧ csum (st.drop na) ≤ 8 ∧ ct (st.take na).reverse G (fun v G1 => nx (pc + 3) lv (v.toList ++ st.drop na) G1 (k + mc1) (d + ms1)) (fun x G1 => (match hh pc x with | some h1 => ∀ a : Nat, nx h1 lv [.ref a] G1 (k + mc1) (d + ms1) | none => TP x G1)) | none => False)
  | .ireturn => len = 1 ∧ k ≤ mc ∧ d ≤ ms ∧ (match st, ret with | [.int v], some ty => narrow ty (.int v) = .int v ∧ RP (some (.int v)) G | _, _ => False)
  | .return_ => len = 1 ∧ k ≤ mc ∧ d ≤ ms ∧ (match st, ret with | [], none => RP none G | _, _ => False)
  | _ => False
theorem wI_iconst {nL : Nat} {E : wE} {fl : Nat → Option (Nat × Nat × FieldType × Bool)} {nw : Nat → Option (Nat × Nat × List Value)} {nq : Nat → Option ClassId} {oc : Option Nat} {cs : Nat → Option (Nat × Nat × Nat × Nat × CallT)} {hh : Nat → Nat → Option Nat} {ret : Option FieldType} {mc ms : Nat} {RP : Option Value → gH → Prop} {TP : Nat → gH → Prop} {nx : NxT} {pc : Nat} {lv : List (Nat × Value)} {G : gH} {k d : Nat} {n : Int} {st : List Value}  : wpI nL E fl nw nq oc cs hh ret mc ms RP TP nx (.iconst n) 1 pc lv (st) G k d = (nx (pc + 1) lv (.int (Int32.ofInt n) :: st) G k d) := by
  show (1 = 1 ∧ _) = _
  exact propext ⟨fun h => h.2, fun h => ⟨rfl, h⟩⟩
theorem wI_bipush {nL : Nat} {E : wE} {fl : Nat → Option (Nat × Nat × FieldType × Bool)} {nw : Nat → Option (Nat × Nat × List Value)} {nq : Nat → Option ClassId} {oc : Option Nat} {cs : Nat → Option (Nat × Nat × Nat × Nat × CallT)} {hh : Nat → Nat → Option Nat} {ret : Option FieldType} {mc ms : Nat} {RP : Option Value → gH → Prop} {TP : Nat → gH → Prop} {nx : NxT} {pc : Nat} {lv : List (Nat × Value)} {G : gH} {k d : Nat} {n : Int} {st : List Value}  : wpI nL E fl nw nq oc cs hh ret mc ms RP TP nx (.bipush n) 2 pc lv (st) G k d = (nx (pc + 2) lv (.int (Int8.ofInt n).toInt32 :: st) G k d) := by
  show (2 = 2 ∧ _) = _
  exact propext ⟨fun h => h.2, fun h => ⟨rfl, h⟩⟩
theorem wI_sipush {nL : Nat} {E : wE} {fl : Nat → Option (Nat × Nat × FieldType × Bool)} {nw : Nat → Option (Nat × Nat × List Value)} {nq : Nat → Option ClassId} {oc : Option Nat} {cs : Nat → Option (Nat × Nat × Nat × Nat × CallT)} {hh : Nat → Nat → Option Nat} {ret : Option FieldType} {mc ms : Nat} {RP : Option Value → gH → Prop} {TP : Nat → gH → Prop} {nx : NxT} {pc : Nat} {lv : List (Nat × Value)} {G : gH} {k d : Nat} {n : Int} {st : List Value}  : wpI nL E fl nw nq oc cs hh ret mc ms RP TP nx (.sipush n) 3 pc lv (st) G k d = (nx (pc + 3) lv (.int (Int16.ofInt n).toInt32 :: st) G k d) := by
  show (3 = 3 ∧ _) = _
  exact propext ⟨fun h => h.2, fun h => ⟨rfl, h⟩⟩
theorem wI_lconst {nL : Nat} {E : wE} {fl : Nat → Option (Nat × Nat × FieldType × Bool)} {nw : Nat → Option (Nat × Nat × List Value)} {nq : Nat → Option ClassId} {oc : Option Nat} {cs : Nat → Option (Nat × Nat × Nat × Nat × CallT)} {hh : Nat → Nat → Option Nat} {ret : Option FieldType} {mc ms : Nat} {RP : Option Value → gH → Prop} {TP : Nat → gH → Prop} {nx : NxT} {pc : Nat} {lv : List (Nat × Value)} {G : gH} {k d : Nat} {n : Fin 2} {st : List Value}  : wpI nL E fl nw nq oc cs hh ret mc ms RP TP nx (.lconst n) 1 pc lv (st) G k d = (nx (pc + 1) lv (.long (Int64.ofNat (n : Nat)) :: st) G k d) := by
  show (1 = 1 ∧ _) = _
  exact propext ⟨fun h => h.2, fun h => ⟨rfl, h⟩⟩
theorem wI_aconst_null {nL : Nat} {E : wE} {fl : Nat → Option (Nat × Nat × FieldType × Bool)} {nw : Nat → Option (Nat × Nat × List Value)} {nq : Nat → Option ClassId} {oc : Option Nat} {cs : Nat → Option (Nat × Nat × Nat × Nat × CallT)} {hh : Nat → Nat → Option Nat} {ret : Option FieldType} {mc ms : Nat} {RP : Option Value → gH → Prop} {TP : Nat → gH → Prop} {nx : NxT} {pc : Nat} {lv : List (Nat × Value)} {G : gH} {k d : Nat}  {st : List Value}  : wpI nL E fl nw nq oc cs hh ret mc ms RP TP nx (.aconst_null) 1 pc lv (st) G k d = (nx (pc + 1) lv (.null :: st) G k d) := by
  show (1 = 1 ∧ _) = _
  exact propext ⟨fun h => h.2, fun h => ⟨rfl, h⟩⟩
theorem wI_iadd {nL : Nat} {E : wE} {fl : Nat → Option (Nat × Nat × FieldType × Bool)} {nw : Nat → Option (Nat × Nat × List Value)} {nq : Nat → Option ClassId} {oc : Option Nat} {cs : Nat → Option (Nat × Nat × Nat × Nat × CallT)} {hh : Nat → Nat → Option Nat} {ret : Option FieldType} {mc ms : Nat} {RP : Option Value → gH → Prop} {TP : Nat → gH → Prop} {nx : NxT} {pc : Nat} {lv : List (Nat × Value)} {G : gH} {k d : Nat}   {r : List Value} {x : Int32} {y : Int32} : wpI nL E fl nw nq oc cs hh ret mc ms RP TP nx (.iadd) 1 pc lv (.int y :: .int x :: r) G k d = (nx (pc + 1) lv (.int (x + y) :: r) G k d) := by
  show (1 = 1 ∧ _) = _
  exact propext ⟨fun h => h.2, fun h => ⟨rfl, h⟩⟩
theorem wI_isub {nL : Nat} {E : wE} {fl : Nat → Option (Nat × Nat × FieldType × Bool)} {nw : Nat → Option (Nat × Nat × List Value)} {nq : Nat → Option ClassId} {oc : Option Nat} {cs : Nat → Option (Nat × Nat × Nat × Nat × CallT)} {hh : Nat → Nat → Option Nat} {ret : Option FieldType} {mc ms : Nat} {RP : Option Value → gH → Prop} {TP : Nat → gH → Prop} {nx : NxT} {pc : Nat} {lv : List (Nat × Value)} {G : gH} {k d : Nat}   {r : List Value} {x : Int32} {y : Int32} : wpI nL E fl nw nq oc cs hh ret mc ms RP TP nx (.isub) 1 pc lv (.int y :: .int x :: r) G k d = (nx (pc + 1) lv (.int (x - y) :: r) G k d) := by
  show (1 = 1 ∧ _) = _
  exact propext ⟨fun h => h.2, fun h => ⟨rfl, h⟩⟩
theorem wI_imul {nL : Nat} {E : wE} {fl : Nat → Option (Nat × Nat × FieldType × Bool)} {nw : Nat → Option (Nat × Nat × List Value)} {nq : Nat → Option ClassId} {oc : Option Nat} {cs : Nat → Option (Nat × Nat × Nat × Nat × CallT)} {hh : Nat → Nat → Option Nat} {ret : Option FieldType} {mc ms : Nat} {RP : Option Value → gH → Prop} {TP : Nat → gH → Prop} {nx : NxT} {pc : Nat} {lv : List (Nat × Value)} {G : gH} {k d : Nat}   {r : List Value} {x : Int32} {y : Int32} : wpI nL E fl nw nq oc cs hh ret mc ms RP TP nx (.imul) 1 pc lv (.int y :: .int x :: r) G k d = (nx (pc + 1) lv (.int (x * y) :: r) G k d) := by
  show (1 = 1 ∧ _) = _
  exact propext ⟨fun h => h.2, fun h => ⟨rfl, h⟩⟩
theorem wI_iand {nL : Nat} {E : wE} {fl : Nat → Option (Nat × Nat × FieldType × Bool)} {nw : Nat → Option (Nat × Nat × List Value)} {nq : Nat → Option ClassId} {oc : Option Nat} {cs : Nat → Option (Nat × Nat × Nat × Nat × CallT)} {hh : Nat → Nat → Option Nat} {ret : Option FieldType} {mc ms : Nat} {RP : Option Value → gH → Prop} {TP : Nat → gH → Prop} {nx : NxT} {pc : Nat} {lv : List (Nat × Value)} {G : gH} {k d : Nat}   {r : List Value} {x : Int32} {y : Int32} : wpI nL E fl nw nq oc cs hh ret mc ms RP TP nx (.iand) 1 pc lv (.int y :: .int x :: r) G k d = (nx (pc + 1) lv (.int (x &&& y) :: r) G k d) := by
  show (1 = 1 ∧ _) = _
  exact propext ⟨fun h => h.2, fun h => ⟨rfl, h⟩⟩
theorem wI_ior {nL : Nat} {E : wE} {fl : Nat → Option (Nat × Nat × FieldType × Bool)} {nw : Nat → Option (Nat × Nat × List Value)} {nq : Nat → Option ClassId} {oc : Option Nat} {cs : Nat → Option (Nat × Nat × Nat × Nat × CallT)} {hh : Nat → Nat → Option Nat} {ret : Option FieldType} {mc ms : Nat} {RP : Option Value → gH → Prop} {TP : Nat → gH → Prop} {nx : NxT} {pc : Nat} {lv : List (Nat × Value)} {G : gH} {k d : Nat}   {r : List Value} {x : Int32} {y : Int32} : wpI nL E fl nw nq oc cs hh ret mc ms RP TP nx (.ior) 1 pc lv (.int y :: .int x :: r) G k d = (nx (pc + 1) lv (.int (x ||| y) :: r) G k d) := by
  show (1 = 1 ∧ _) = _
  exact propext ⟨fun h => h.2, fun h => ⟨rfl, h⟩⟩
theorem wI_ixor {nL : Nat} {E : wE} {fl : Nat → Option (Nat × Nat × FieldType × Bool)} {nw : Nat → Option (Nat × Nat × List Value)} {nq : Nat → Option ClassId} {oc : Option Nat} {cs : Nat → Option (Nat × Nat × Nat × Nat × CallT)} {hh : Nat → Nat → Option Nat} {ret : Option FieldType} {mc ms : Nat} {RP : Option Value → gH → Prop} {TP : Nat → gH → Prop} {nx : NxT} {pc : Nat} {lv : List (Nat × Value)} {G : gH} {k d : Nat}   {r : List Value} {x : Int32} {y : Int32} : wpI nL E fl nw nq oc cs hh ret mc ms RP TP nx (.ixor) 1 pc lv (.int y :: .int x :: r) G k d = (nx (pc + 1) lv (.int (x ^^^ y) :: r) G k d) := by
  show (1 = 1 ∧ _) = _
  exact propext ⟨fun h => h.2, fun h => ⟨rfl, h⟩⟩
theorem wI_ishl {nL : Nat} {E : wE} {fl : Nat → Option (Nat × Nat × FieldType × Bool)} {nw : Nat → Option (Nat × Nat × List Value)} {nq : Nat → Option ClassId} {oc : Option Nat} {cs : Nat → Option (Nat × Nat × Nat × Nat × CallT)} {hh : Nat → Nat → Option Nat} {ret : Option FieldType} {mc ms : Nat} {RP : Option Value → gH → Prop} {TP : Nat → gH → Prop} {nx : NxT} {pc : Nat} {lv : List (Nat × Value)} {G : gH} {k d : Nat}   {r : List Value} {x : Int32} {y : Int32} : wpI nL E fl nw nq oc cs hh ret mc ms RP TP nx (.ishl) 1 pc lv (.int y :: .int x :: r) G k d = (nx (pc + 1) lv (.int (x <<< (y &&& 31)) :: r) G k d) := by
  show (1 = 1 ∧ _) = _
  exact propext ⟨fun h => h.2, fun h => ⟨rfl, h⟩⟩
theorem wI_ishr {nL : Nat} {E : wE} {fl : Nat → Option (Nat × Nat × FieldType × Bool)} {nw : Nat → Option (Nat × Nat × List Value)} {nq : Nat → Option ClassId} {oc : Option Nat} {cs : Nat → Option (Nat × Nat × Nat × Nat × CallT)} {hh : Nat → Nat → Option Nat} {ret : Option FieldType} {mc ms : Nat} {RP : Option Value → gH → Prop} {TP : Nat → gH → Prop} {nx : NxT} {pc : Nat} {lv : List (Nat × Value)} {G : gH} {k d : Nat}   {r : List Value} {x : Int32} {y : Int32} : wpI nL E fl nw nq oc cs hh ret mc ms RP TP nx (.ishr) 1 pc lv (.int y :: .int x :: r) G k d = (nx (pc + 1) lv (.int (x >>> (y &&& 31)) :: r) G k d) := by
  show (1 = 1 ∧ _) = _
  exact propext ⟨fun h => h.2, fun h => ⟨rfl, h⟩⟩
theorem wI_iushr {nL : Nat} {E : wE} {fl : Nat → Option (Nat × Nat × FieldType × Bool)} {nw : Nat → Option (Nat × Nat × List Value)} {nq : Nat → Option ClassId} {oc : Option Nat} {cs : Nat → Option (Nat × Nat × Nat × Nat × CallT)} {hh : Nat → Nat → Option Nat} {ret : Option FieldType} {mc ms : Nat} {RP : Option Value → gH → Prop} {TP : Nat → gH → Prop} {nx : NxT} {pc : Nat} {lv : List (Nat × Value)} {G : gH} {k d : Nat}   {r : List Value} {x : Int32} {y : Int32} : wpI nL E fl nw nq oc cs hh ret mc ms RP TP nx (.iushr) 1 pc lv (.int y :: .int x :: r) G k d = (nx (pc + 1) lv (.int (x.toUInt32 >>> (y.toUInt32 &&& Int32.toUInt32 31)).toInt32 :: r) G k d) := by
  show (1 = 1 ∧ _) = _
  exact propext ⟨fun h => h.2, fun h => ⟨rfl, h⟩⟩
theorem wI_idiv {nL : Nat} {E : wE} {fl : Nat → Option (Nat × Nat × FieldType × Bool)} {nw : Nat → Option (Nat × Nat × List Value)} {nq : Nat → Option ClassId} {oc : Option Nat} {cs : Nat → Option (Nat × Nat × Nat × Nat × CallT)} {hh : Nat → Nat → Option Nat} {ret : Option FieldType} {mc ms : Nat} {RP : Option Value → gH → Prop} {TP : Nat → gH → Prop} {nx : NxT} {pc : Nat} {lv : List (Nat × Value)} {G : gH} {k d : Nat}   {r : List Value} {x : Int32} {y : Int32} : wpI nL E fl nw nq oc cs hh ret mc ms RP TP nx (.idiv) 1 pc lv (.int y :: .int x :: r) G k d = ((¬ y = 0) ∧ nx (pc + 1) lv (.int (x / y) :: r) G k d) := by
  show (1 = 1 ∧ _) = _
  exact propext ⟨fun h => h.2, fun h => ⟨rfl, h⟩⟩
theorem wI_irem {nL : Nat} {E : wE} {fl : Nat → Option (Nat × Nat × FieldType × Bool)} {nw : Nat → Option (Nat × Nat × List Value)} {nq : Nat → Option ClassId} {oc : Option Nat} {cs : Nat → Option (Nat × Nat × Nat × Nat × CallT)} {hh : Nat → Nat → Option Nat} {ret : Option FieldType} {mc ms : Nat} {RP : Option Value → gH → Prop} {TP : Nat → gH → Prop} {nx : NxT} {pc : Nat} {lv : List (Nat × Value)} {G : gH} {k d : Nat}   {r : List Value} {x : Int32} {y : Int32} : wpI nL E fl nw nq oc cs hh ret mc ms RP TP nx (.irem) 1 pc lv (.int y :: .int x :: r) G k d = ((¬ y = 0) ∧ nx (pc + 1) lv (.int (x - x / y * y) :: r) G k d) := by
  show (1 = 1 ∧ _) = _
  exact propext ⟨fun h => h.2, fun h => ⟨rfl, h⟩⟩
theorem wI_ineg {nL : Nat} {E : wE} {fl : Nat → Option (Nat × Nat × FieldType × Bool)} {nw : Nat → Option (Nat × Nat × List Value)} {nq : Nat → Option ClassId} {oc : Option Nat} {cs : Nat → Option (Nat × Nat × Nat × Nat × CallT)} {hh : Nat → Nat → Option Nat} {ret : Option FieldType} {mc ms : Nat} {RP : Option Value → gH → Prop} {TP : Nat → gH → Prop} {nx : NxT} {pc : Nat} {lv : List (Nat × Value)} {G : gH} {k d : Nat}   {r : List Value} {x : Int32} : wpI nL E fl nw nq oc cs hh ret mc ms RP TP nx (.ineg) 1 pc lv (.int x :: r) G k d = (nx (pc + 1) lv (.int (-x) :: r) G k d) := by
  show (1 = 1 ∧ _) = _
  exact propext ⟨fun h => h.2, fun h => ⟨rfl, h⟩⟩
theorem wI_ladd {nL : Nat} {E : wE} {fl : Nat → Option (Nat × Nat × FieldType × Bool)} {nw : Nat → Option (Nat × Nat × List Value)} {nq : Nat → Option ClassId} {oc : Option Nat} {cs : Nat → Option (Nat × Nat × Nat × Nat × CallT)} {hh : Nat → Nat → Option Nat} {ret : Option FieldType} {mc ms : Nat} {RP : Option Value → gH → Prop} {TP : Nat → gH → Prop} {nx : NxT} {pc : Nat} {lv : List (Nat × Value)} {G : gH} {k d : Nat}   {r : List Value} {x : Int64} {y : Int64} : wpI nL E fl nw nq oc cs hh ret mc ms RP TP nx (.ladd) 1 pc lv (.long y :: .long x :: r) G k d = (nx (pc + 1) lv (.long (x + y) :: r) G k d) := by
  show (1 = 1 ∧ _) = _
  exact propext ⟨fun h => h.2, fun h => ⟨rfl, h⟩⟩
theorem wI_lsub {nL : Nat} {E : wE} {fl : Nat → Option (Nat × Nat × FieldType × Bool)} {nw : Nat → Option (Nat × Nat × List Value)} {nq : Nat → Option ClassId} {oc : Option Nat} {cs : Nat → Option (Nat × Nat × Nat × Nat × CallT)} {hh : Nat → Nat → Option Nat} {ret : Option FieldType} {mc ms : Nat} {RP : Option Value → gH → Prop} {TP : Nat → gH → Prop} {nx : NxT} {pc : Nat} {lv : List (Nat × Value)} {G : gH} {k d : Nat}   {r : List Value} {x : Int64} {y : Int64} : wpI nL E fl nw nq oc cs hh ret mc ms RP TP nx (.lsub) 1 pc lv (.long y :: .long x :: r) G k d = (nx (pc + 1) lv (.long (x - y) :: r) G k d) := by
  show (1 = 1 ∧ _) = _
  exact propext ⟨fun h => h.2, fun h => ⟨rfl, h⟩⟩
theorem wI_lmul {nL : Nat} {E : wE} {fl : Nat → Option (Nat × Nat × FieldType × Bool)} {nw : Nat → Option (Nat × Nat × List Value)} {nq : Nat → Option ClassId} {oc : Option Nat} {cs : Nat → Option (Nat × Nat × Nat × Nat × CallT)} {hh : Nat → Nat → Option Nat} {ret : Option FieldType} {mc ms : Nat} {RP : Option Value → gH → Prop} {TP : Nat → gH → Prop} {nx : NxT} {pc : Nat} {lv : List (Nat × Value)} {G : gH} {k d : Nat}   {r : List Value} {x : Int64} {y : Int64} : wpI nL E fl nw nq oc cs hh ret mc ms RP TP nx (.lmul) 1 pc lv (.long y :: .long x :: r) G k d = (nx (pc + 1) lv (.long (x * y) :: r) G k d) := by
  show (1 = 1 ∧ _) = _
  exact propext ⟨fun h => h.2, fun h => ⟨rfl, h⟩⟩
theorem wI_land {nL : Nat} {E : wE} {fl : Nat → Option (Nat × Nat × FieldType × Bool)} {nw : Nat → Option (Nat × Nat × List Value)} {nq : Nat → Option ClassId} {oc : Option Nat} {cs : Nat → Option (Nat × Nat × Nat × Nat × CallT)} {hh : Nat → Nat → Option Nat} {ret : Option FieldType} {mc ms : Nat} {RP : Option Value → gH → Prop} {TP : Nat → gH → Prop} {nx : NxT} {pc : Nat} {lv : List (Nat × Value)} {G : gH} {k d : Nat}   {r : List Value} {x : Int64} {y : Int64} : wpI nL E fl nw nq oc cs hh ret mc ms RP TP nx (.land) 1 pc lv (.long y :: .long x :: r) G k d = (nx (pc + 1) lv (.long (x &&& y) :: r) G k d) := by
  show (1 = 1 ∧ _) = _
  exact propext ⟨fun h => h.2, fun h => ⟨rfl, h⟩⟩
theorem wI_lor {nL : Nat} {E : wE} {fl : Nat → Option (Nat × Nat × FieldType × Bool)} {nw : Nat → Option (Nat × Nat × List Value)} {nq : Nat → Option ClassId} {oc : Option Nat} {cs : Nat → Option (Nat × Nat × Nat × Nat × CallT)} {hh : Nat → Nat → Option Nat} {ret : Option FieldType} {mc ms : Nat} {RP : Option Value → gH → Prop} {TP : Nat → gH → Prop} {nx : NxT} {pc : Nat} {lv : List (Nat × Value)} {G : gH} {k d : Nat}   {r : List Value} {x : Int64} {y : Int64} : wpI nL E fl nw nq oc cs hh ret mc ms RP TP nx (.lor) 1 pc lv (.long y :: .long x :: r) G k d = (nx (pc + 1) lv (.long (x ||| y) :: r) G k d) := by
  show (1 = 1 ∧ _) = _
  exact propext ⟨fun h => h.2, fun h => ⟨rfl, h⟩⟩
theorem wI_lxor {nL : Nat} {E : wE} {fl : Nat → Option (Nat × Nat × FieldType × Bool)} {nw : Nat → Option (Nat × Nat × List Value)} {nq : Nat → Option ClassId} {oc : Option Nat} {cs : Nat → Option (Nat × Nat × Nat × Nat × CallT)} {hh : Nat → Nat → Option Nat} {ret : Option FieldType} {mc ms : Nat} {RP : Option Value → gH → Prop} {TP : Nat → gH → Prop} {nx : NxT} {pc : Nat} {lv : List (Nat × Value)} {G : gH} {k d : Nat}   {r : List Value} {x : Int64} {y : Int64} : wpI nL E fl nw nq oc cs hh ret mc ms RP TP nx (.lxor) 1 pc lv (.long y :: .long x :: r) G k d = (nx (pc + 1) lv (.long (x ^^^ y) :: r) G k d) := by
  show (1 = 1 ∧ _) = _
  exact propext ⟨fun h => h.2, fun h => ⟨rfl, h⟩⟩
theorem wI_lshl {nL : Nat} {E : wE} {fl : Nat → Option (Nat × Nat × FieldType × Bool)} {nw : Nat → Option (Nat × Nat × List Value)} {nq : Nat → Option ClassId} {oc : Option Nat} {cs : Nat → Option (Nat × Nat × Nat × Nat × CallT)} {hh : Nat → Nat → Option Nat} {ret : Option FieldType} {mc ms : Nat} {RP : Option Value → gH → Prop} {TP : Nat → gH → Prop} {nx : NxT} {pc : Nat} {lv : List (Nat × Value)} {G : gH} {k d : Nat}   {r : List Value} {x : Int64} {y : Int32} : wpI nL E fl nw nq oc cs hh ret mc ms RP TP nx (.lshl) 1 pc lv (.int y :: .long x :: r) G k d = (nx (pc + 1) lv (.long (x <<< (y.toInt64 &&& 63)) :: r) G k d) := by
  show (1 = 1 ∧ _) = _
  exact propext ⟨fun h => h.2, fun h => ⟨rfl, h⟩⟩
theorem wI_lushr {nL : Nat} {E : wE} {fl : Nat → Option (Nat × Nat × FieldType × Bool)} {nw : Nat → Option (Nat × Nat × List Value)} {nq : Nat → Option ClassId} {oc : Option Nat} {cs : Nat → Option (Nat × Nat × Nat × Nat × CallT)} {hh : Nat → Nat → Option Nat} {ret : Option FieldType} {mc ms : Nat} {RP : Option Value → gH → Prop} {TP : Nat → gH → Prop} {nx : NxT} {pc : Nat} {lv : List (Nat × Value)} {G : gH} {k d : Nat}   {r : List Value} {x : Int64} {y : Int32} : wpI nL E fl nw nq oc cs hh ret mc ms RP TP nx (.lushr) 1 pc lv (.int y :: .long x :: r) G k d = (nx (pc + 1) lv (.long (x.toUInt64 >>> (y.toInt64.toUInt64 &&& Int64.toUInt64 63)).toInt64 :: r) G k d) := by
  show (1 = 1 ∧ _) = _
  exact propext ⟨fun h => h.2, fun h => ⟨rfl, h⟩⟩
theorem wI_lshr {nL : Nat} {E : wE} {fl : Nat → Option (Nat × Nat × FieldType × Bool)} {nw : Nat → Option (Nat × Nat × List Value)} {nq : Nat → Option ClassId} {oc : Option Nat} {cs : Nat → Option (Nat × Nat × Nat × Nat × CallT)} {hh : Nat → Nat → Option Nat} {ret : Option FieldType} {mc ms : Nat} {RP : Option Value → gH → Prop} {TP : Nat → gH → Prop} {nx : NxT} {pc : Nat} {lv : List (Nat × Value)} {G : gH} {k d : Nat}   {r : List Value} {x : Int64} {y : Int32} : wpI nL E fl nw nq oc cs hh ret mc ms RP TP nx (.lshr) 1 pc lv (.int y :: .long x :: r) G k d = (nx (pc + 1) lv (.long (x >>> (y.toInt64 &&& 63)) :: r) G k d) := by
  show (1 = 1 ∧ _) = _
  exact propext ⟨fun h => h.2, fun h => ⟨rfl, h⟩⟩
theorem wI_lcmp {nL : Nat} {E : wE} {fl : Nat → Option (Nat × Nat × FieldType × Bool)} {nw : Nat → Option (Nat × Nat × List Value)} {nq : Nat → Option ClassId} {oc : Option Nat} {cs : Nat → Option (Nat × Nat × Nat × Nat × CallT)} {hh : Nat → Nat → Option Nat} {ret : Option FieldType} {mc ms : Nat} {RP : Option Value → gH → Prop} {TP : Nat → gH → Prop} {nx : NxT} {pc : Nat} {lv : List (Nat × Value)} {G : gH} {k d : Nat}   {r : List Value} {x : Int64} {y : Int64} : wpI nL E fl nw nq oc cs hh ret mc ms RP TP nx (.lcmp) 1 pc lv (.long y :: .long x :: r) G k d = (nx (pc + 1) lv (.int (lg_cmp x y) :: r) G k d) := by
  show (1 = 1 ∧ _) = _
  exact propext ⟨fun h => h.2, fun h => ⟨rfl, h⟩⟩
theorem wI_i2l {nL : Nat} {E : wE} {fl : Nat → Option (Nat × Nat × FieldType × Bool)} {nw : Nat → Option (Nat × Nat × List Value)} {nq : Nat → Option ClassId} {oc : Option Nat} {cs : Nat → Option (Nat × Nat × Nat × Nat × CallT)} {hh : Nat → Nat → Option Nat} {ret : Option FieldType} {mc ms : Nat} {RP : Option Value → gH → Prop} {TP : Nat → gH → Prop} {nx : NxT} {pc : Nat} {lv : List (Nat × Value)} {G : gH} {k d : Nat}   {r : List Value} {x : Int32} : wpI nL E fl nw nq oc cs hh ret mc ms RP TP nx (.i2l) 1 pc lv (.int x :: r) G k d = (nx (pc + 1) lv (.long x.toInt64 :: r) G k d) := by
  show (1 = 1 ∧ _) = _
  exact propext ⟨fun h => h.2, fun h => ⟨rfl, h⟩⟩
theorem wI_l2i {nL : Nat} {E : wE} {fl : Nat → Option (Nat × Nat × FieldType × Bool)} {nw : Nat → Option (Nat × Nat × List Value)} {nq : Nat → Option ClassId} {oc : Option Nat} {cs : Nat → Option (Nat × Nat × Nat × Nat × CallT)} {hh : Nat → Nat → Option Nat} {ret : Option FieldType} {mc ms : Nat} {RP : Option Value → gH → Prop} {TP : Nat → gH → Prop} {nx : NxT} {pc : Nat} {lv : List (Nat × Value)} {G : gH} {k d : Nat}   {r : List Value} {x : Int64} : wpI nL E fl nw nq oc cs hh ret mc ms RP TP nx (.l2i) 1 pc lv (.long x :: r) G k d = (nx (pc + 1) lv (.int x.toInt32 :: r) G k d) := by
  show (1 = 1 ∧ _) = _
  exact propext ⟨fun h => h.2, fun h => ⟨rfl, h⟩⟩
theorem wI_i2b {nL : Nat} {E : wE} {fl : Nat → Option (Nat × Nat × FieldType × Bool)} {nw : Nat → Option (Nat × Nat × List Value)} {nq : Nat → Option ClassId} {oc : Option Nat} {cs : Nat → Option (Nat × Nat × Nat × Nat × CallT)} {hh : Nat → Nat → Option Nat} {ret : Option FieldType} {mc ms : Nat} {RP : Option Value → gH → Prop} {TP : Nat → gH → Prop} {nx : NxT} {pc : Nat} {lv : List (Nat × Value)} {G : gH} {k d : Nat}   {r : List Value} {x : Int32} : wpI nL E fl nw nq oc cs hh ret mc ms RP TP nx (.i2b) 1 pc lv (.int x :: r) G k d = (nx (pc + 1) lv (.int x.toInt8.toInt32 :: r) G k d) := by
  show (1 = 1 ∧ _) = _
  exact propext ⟨fun h => h.2, fun h => ⟨rfl, h⟩⟩
theorem wI_i2c {nL : Nat} {E : wE} {fl : Nat → Option (Nat × Nat × FieldType × Bool)} {nw : Nat → Option (Nat × Nat × List Value)} {nq : Nat → Option ClassId} {oc : Option Nat} {cs : Nat → Option (Nat × Nat × Nat × Nat × CallT)} {hh : Nat → Nat → Option Nat} {ret : Option FieldType} {mc ms : Nat} {RP : Option Value → gH → Prop} {TP : Nat → gH → Prop} {nx : NxT} {pc : Nat} {lv : List (Nat × Value)} {G : gH} {k d : Nat}   {r : List Value} {x : Int32} : wpI nL E fl nw nq oc cs hh ret mc ms RP TP nx (.i2c) 1 pc lv (.int x :: r) G k d = (nx (pc + 1) lv (.int (x.toUInt32 % 65536).toInt32 :: r) G k d) := by
  show (1 = 1 ∧ _) = _
  exact propext ⟨fun h => h.2, fun h => ⟨rfl, h⟩⟩
theorem wI_dup {nL : Nat} {E : wE} {fl : Nat → Option (Nat × Nat × FieldType × Bool)} {nw : Nat → Option (Nat × Nat × List Value)} {nq : Nat → Option ClassId} {oc : Option Nat} {cs : Nat → Option (Nat × Nat × Nat × Nat × CallT)} {hh : Nat → Nat → Option Nat} {ret : Option FieldType} {mc ms : Nat} {RP : Option Value → gH → Prop} {TP : Nat → gH → Prop} {nx : NxT} {pc : Nat} {lv : List (Nat × Value)} {G : gH} {k d : Nat}   {r : List Value} {v : Value} : wpI nL E fl nw nq oc cs hh ret mc ms RP TP nx (.dup) 1 pc lv (v :: r) G k d = (v.category = 1 ∧ nx (pc + 1) lv (v :: v :: r) G k d) := by
  show (1 = 1 ∧ _) = _
  exact propext ⟨fun h => h.2, fun h => ⟨rfl, h⟩⟩
theorem wI_pop {nL : Nat} {E : wE} {fl : Nat → Option (Nat × Nat × FieldType × Bool)} {nw : Nat → Option (Nat × Nat × List Value)} {nq : Nat → Option ClassId} {oc : Option Nat} {cs : Nat → Option (Nat × Nat × Nat × Nat × CallT)} {hh : Nat → Nat → Option Nat} {ret : Option FieldType} {mc ms : Nat} {RP : Option Value → gH → Prop} {TP : Nat → gH → Prop} {nx : NxT} {pc : Nat} {lv : List (Nat × Value)} {G : gH} {k d : Nat}   {r : List Value} {v : Value} : wpI nL E fl nw nq oc cs hh ret mc ms RP TP nx (.pop) 1 pc lv (v :: r) G k d = (v.category = 1 ∧ nx (pc + 1) lv (r) G k d) := by
  show (1 = 1 ∧ _) = _
  exact propext ⟨fun h => h.2, fun h => ⟨rfl, h⟩⟩
theorem wI_dup_x1 {nL : Nat} {E : wE} {fl : Nat → Option (Nat × Nat × FieldType × Bool)} {nw : Nat → Option (Nat × Nat × List Value)} {nq : Nat → Option ClassId} {oc : Option Nat} {cs : Nat → Option (Nat × Nat × Nat × Nat × CallT)} {hh : Nat → Nat → Option Nat} {ret : Option FieldType} {mc ms : Nat} {RP : Option Value → gH → Prop} {TP : Nat → gH → Prop} {nx : NxT} {pc : Nat} {lv : List (Nat × Value)} {G : gH} {k d : Nat}   {r : List Value} {v : Value} {w : Value} : wpI nL E fl nw nq oc cs hh ret mc ms RP TP nx (.dup_x1) 1 pc lv (v :: w :: r) G k d = ((v.category = 1 ∧ w.category = 1) ∧ nx (pc + 1) lv (v :: w :: v :: r) G k d) := by
  show (1 = 1 ∧ _) = _
  exact propext ⟨fun h => h.2, fun h => ⟨rfl, h⟩⟩
theorem wI_dup_x2 {nL : Nat} {E : wE} {fl : Nat → Option (Nat × Nat × FieldType × Bool)} {nw : Nat → Option (Nat × Nat × List Value)} {nq : Nat → Option ClassId} {oc : Option Nat} {cs : Nat → Option (Nat × Nat × Nat × Nat × CallT)} {hh : Nat → Nat → Option Nat} {ret : Option FieldType} {mc ms : Nat} {RP : Option Value → gH → Prop} {TP : Nat → gH → Prop} {nx : NxT} {pc : Nat} {lv : List (Nat × Value)} {G : gH} {k d : Nat}   {r : List Value} {v : Value} {w : Value} {u : Value} : wpI nL E fl nw nq oc cs hh ret mc ms RP TP nx (.dup_x2) 1 pc lv (v :: w :: u :: r) G k d = ((v.category = 1 ∧ w.category = 1 ∧ u.category = 1) ∧ nx (pc + 1) lv (v :: w :: u :: v :: r) G k d) := by
  show (1 = 1 ∧ _) = _
  exact propext ⟨fun h => h.2, fun h => ⟨rfl, h⟩⟩
theorem wI_dup2 {nL : Nat} {E : wE} {fl : Nat → Option (Nat × Nat × FieldType × Bool)} {nw : Nat → Option (Nat × Nat × List Value)} {nq : Nat → Option ClassId} {oc : Option Nat} {cs : Nat → Option (Nat × Nat × Nat × Nat × CallT)} {hh : Nat → Nat → Option Nat} {ret : Option FieldType} {mc ms : Nat} {RP : Option Value → gH → Prop} {TP : Nat → gH → Prop} {nx : NxT} {pc : Nat} {lv : List (Nat × Value)} {G : gH} {k d : Nat}   {r : List Value} {v : Value} {w : Value} : wpI nL E fl nw nq oc cs hh ret mc ms RP TP nx (.dup2) 1 pc lv (v :: w :: r) G k d = ((v.category = 1 ∧ w.category = 1) ∧ nx (pc + 1) lv (v :: w :: v :: w :: r) G k d) := by
  show (1 = 1 ∧ _) = _
  exact propext ⟨fun h => h.2, fun h => ⟨rfl, h⟩⟩
theorem wI_iload_n {nL : Nat} {E : wE} {fl : Nat → Option (Nat × Nat × FieldType × Bool)} {nw : Nat → Option (Nat × Nat × List Value)} {nq : Nat → Option ClassId} {oc : Option Nat} {cs : Nat → Option (Nat × Nat × Nat × Nat × CallT)} {hh : Nat → Nat → Option Nat} {ret : Option FieldType} {mc ms : Nat} {RP : Option Value → gH → Prop} {TP : Nat → gH → Prop} {nx : NxT} {pc : Nat} {lv : List (Nat × Value)} {G : gH} {k d : Nat} {n : Fin 4} {st : List Value}  : wpI nL E fl nw nq oc cs hh ret mc ms RP TP nx (.iload_n n) 1 pc lv (st) G k d = ((match lg lv n.val with | some (.int x) => nx (pc + 1) lv (.int x :: st) G k d | _ => False)) := by
  show (1 = 1 ∧ _) = _
  exact propext ⟨fun h => h.2, fun h => ⟨rfl, h⟩⟩
theorem wI_iload {nL : Nat} {E : wE} {fl : Nat → Option (Nat × Nat × FieldType × Bool)} {nw : Nat → Option (Nat × Nat × List Value)} {nq : Nat → Option ClassId} {oc : Option Nat} {cs : Nat → Option (Nat × Nat × Nat × Nat × CallT)} {hh : Nat → Nat → Option Nat} {ret : Option FieldType} {mc ms : Nat} {RP : Option Value → gH → Prop} {TP : Nat → gH → Prop} {nx : NxT} {pc : Nat} {lv : List (Nat × Value)} {G : gH} {k d : Nat} {n : Nat} {st : List Value}  : wpI nL E fl nw nq oc cs hh ret mc ms RP TP nx (.iload n) 2 pc lv (st) G k d = ((match lg lv n with | some (.int x) => nx (pc + 2) lv (.int x :: st) G k d | _ => False)) := by
  show (2 = 2 ∧ _) = _
  exact propext ⟨fun h => h.2, fun h => ⟨rfl, h⟩⟩
theorem wI_lload_n {nL : Nat} {E : wE} {fl : Nat → Option (Nat × Nat × FieldType × Bool)} {nw : Nat → Option (Nat × Nat × List Value)} {nq : Nat → Option ClassId} {oc : Option Nat} {cs : Nat → Option (Nat × Nat × Nat × Nat × CallT)} {hh : Nat → Nat → Option Nat} {ret : Option FieldType} {mc ms : Nat} {RP : Option Value → gH → Prop} {TP : Nat → gH → Prop} {nx : NxT} {pc : Nat} {lv : List (Nat × Value)} {G : gH} {k d : Nat} {n : Fin 4} {st : List Value}  : wpI nL E fl nw nq oc cs hh ret mc ms RP TP nx (.lload_n n) 1 pc lv (st) G k d = ((match lg lv n.val with | some (.long x) => nx (pc + 1) lv (.long x :: st) G k d | _ => False)) := by
  show (1 = 1 ∧ _) = _
  exact propext ⟨fun h => h.2, fun h => ⟨rfl, h⟩⟩
theorem wI_lload {nL : Nat} {E : wE} {fl : Nat → Option (Nat × Nat × FieldType × Bool)} {nw : Nat → Option (Nat × Nat × List Value)} {nq : Nat → Option ClassId} {oc : Option Nat} {cs : Nat → Option (Nat × Nat × Nat × Nat × CallT)} {hh : Nat → Nat → Option Nat} {ret : Option FieldType} {mc ms : Nat} {RP : Option Value → gH → Prop} {TP : Nat → gH → Prop} {nx : NxT} {pc : Nat} {lv : List (Nat × Value)} {G : gH} {k d : Nat} {n : Nat} {st : List Value}  : wpI nL E fl nw nq oc cs hh ret mc ms RP TP nx (.lload n) 2 pc lv (st) G k d = ((match lg lv n with | some (.long x) => nx (pc + 2) lv (.long x :: st) G k d | _ => False)) := by
  show (2 = 2 ∧ _) = _
  exact propext ⟨fun h => h.2, fun h => ⟨rfl, h⟩⟩
theorem wI_aload_n {nL : Nat} {E : wE} {fl : Nat → Option (Nat × Nat × FieldType × Bool)} {nw : Nat → Option (Nat × Nat × List Value)} {nq : Nat → Option ClassId} {oc : Option Nat} {cs : Nat → Option (Nat × Nat × Nat × Nat × CallT)} {hh : Nat → Nat → Option Nat} {ret : Option FieldType} {mc ms : Nat} {RP : Option Value → gH → Prop} {TP : Nat → gH → Prop} {nx : NxT} {pc : Nat} {lv : List (Nat × Value)} {G : gH} {k d : Nat} {n : Fin 4} {st : List Value}  : wpI nL E fl nw nq oc cs hh ret mc ms RP TP nx (.aload_n n) 1 pc lv (st) G k d = ((match lg lv n.val with | some (.ref x) => nx (pc + 1) lv (.ref x :: st) G k d | some .null => nx (pc + 1) lv (.null :: st) G k d | _ => False)) := by
  show (1 = 1 ∧ _) = _
  exact propext ⟨fun h => h.2, fun h => ⟨rfl, h⟩⟩
theorem wI_aload {nL : Nat} {E : wE} {fl : Nat → Option (Nat × Nat × FieldType × Bool)} {nw : Nat → Option (Nat × Nat × List Value)} {nq : Nat → Option ClassId} {oc : Option Nat} {cs : Nat → Option (Nat × Nat × Nat × Nat × CallT)} {hh : Nat → Nat → Option Nat} {ret : Option FieldType} {mc ms : Nat} {RP : Option Value → gH → Prop} {TP : Nat → gH → Prop} {nx : NxT} {pc : Nat} {lv : List (Nat × Value)} {G : gH} {k d : Nat} {n : Nat} {st : List Value}  : wpI nL E fl nw nq oc cs hh ret mc ms RP TP nx (.aload n) 2 pc lv (st) G k d = ((match lg lv n with | some (.ref x) => nx (pc + 2) lv (.ref x :: st) G k d | some .null => nx (pc + 2) lv (.null :: st) G k d | _ => False)) := by
  show (2 = 2 ∧ _) = _
  exact propext ⟨fun h => h.2, fun h => ⟨rfl, h⟩⟩
theorem wI_istore_n {nL : Nat} {E : wE} {fl : Nat → Option (Nat × Nat × FieldType × Bool)} {nw : Nat → Option (Nat × Nat × List Value)} {nq : Nat → Option ClassId} {oc : Option Nat} {cs : Nat → Option (Nat × Nat × Nat × Nat × CallT)} {hh : Nat → Nat → Option Nat} {ret : Option FieldType} {mc ms : Nat} {RP : Option Value → gH → Prop} {TP : Nat → gH → Prop} {nx : NxT} {pc : Nat} {lv : List (Nat × Value)} {G : gH} {k d : Nat} {n : Fin 4}  {r : List Value} {x : Int32} : wpI nL E fl nw nq oc cs hh ret mc ms RP TP nx (.istore_n n) 1 pc lv (.int x :: r) G k d = (n.val < nL ∧ nx (pc + 1) (lset lv n.val (.int x)) r G k d) := by
  show (1 = 1 ∧ _) = _
  exact propext ⟨fun h => h.2, fun h => ⟨rfl, h⟩⟩
theorem wI_istore {nL : Nat} {E : wE} {fl : Nat → Option (Nat × Nat × FieldType × Bool)} {nw : Nat → Option (Nat × Nat × List Value)} {nq : Nat → Option ClassId} {oc : Option Nat} {cs : Nat → Option (Nat × Nat × Nat × Nat × CallT)} {hh : Nat → Nat → Option Nat} {ret : Option FieldType} {mc ms : Nat} {RP : Option Value → gH → Prop} {TP : Nat → gH → Prop} {nx : NxT} {pc : Nat} {lv : List (Nat × Value)} {G : gH} {k d : Nat} {n : Nat}  {r : List Value} {x : Int32} : wpI nL E fl nw nq oc cs hh ret mc ms RP TP nx (.istore n) 2 pc lv (.int x :: r) G k d = (n < nL ∧ nx (pc + 2) (lset lv n (.int x)) r G k d) := by
  show (2 = 2 ∧ _) = _
  exact propext ⟨fun h => h.2, fun h => ⟨rfl, h⟩⟩
theorem wI_lstore_n {nL : Nat} {E : wE} {fl : Nat → Option (Nat × Nat × FieldType × Bool)} {nw : Nat → Option (Nat × Nat × List Value)} {nq : Nat → Option ClassId} {oc : Option Nat} {cs : Nat → Option (Nat × Nat × Nat × Nat × CallT)} {hh : Nat → Nat → Option Nat} {ret : Option FieldType} {mc ms : Nat} {RP : Option Value → gH → Prop} {TP : Nat → gH → Prop} {nx : NxT} {pc : Nat} {lv : List (Nat × Value)} {G : gH} {k d : Nat} {n : Fin 4}  {r : List Value} {x : Int64} : wpI nL E fl nw nq oc cs hh ret mc ms RP TP nx (.lstore_n n) 1 pc lv (.long x :: r) G k d = (n.val + 1 < nL ∧ nx (pc + 1) (lset2 lv n.val (.long x)) r G k d) := by
  show (1 = 1 ∧ _) = _
  exact propext ⟨fun h => h.2, fun h => ⟨rfl, h⟩⟩
theorem wI_lstore {nL : Nat} {E : wE} {fl : Nat → Option (Nat × Nat × FieldType × Bool)} {nw : Nat → Option (Nat × Nat × List Value)} {nq : Nat → Option ClassId} {oc : Option Nat} {cs : Nat → Option (Nat × Nat × Nat × Nat × CallT)} {hh : Nat → Nat → Option Nat} {ret : Option FieldType} {mc ms : Nat} {RP : Option Value → gH → Prop} {TP : Nat → gH → Prop} {nx : NxT} {pc : Nat} {lv : List (Nat × Value)} {G : gH} {k d : Nat} {n : Nat}  {r : List Value} {x : Int64} : wpI nL E fl nw nq oc cs hh ret mc ms RP TP nx (.lstore n) 2 pc lv (.long x :: r) G k d = (n + 1 < nL ∧ nx (pc + 2) (lset2 lv n (.long x)) r G k d) := by
  show (2 = 2 ∧ _) = _
  exact propext ⟨fun h => h.2, fun h => ⟨rfl, h⟩⟩
theorem wI_astore_n {nL : Nat} {E : wE} {fl : Nat → Option (Nat × Nat × FieldType × Bool)} {nw : Nat → Option (Nat × Nat × List Value)} {nq : Nat → Option ClassId} {oc : Option Nat} {cs : Nat → Option (Nat × Nat × Nat × Nat × CallT)} {hh : Nat → Nat → Option Nat} {ret : Option FieldType} {mc ms : Nat} {RP : Option Value → gH → Prop} {TP : Nat → gH → Prop} {nx : NxT} {pc : Nat} {lv : List (Nat × Value)} {G : gH} {k d : Nat} {n : Fin 4}  {r : List Value} {x : Nat} : wpI nL E fl nw nq oc cs hh ret mc ms RP TP nx (.astore_n n) 1 pc lv (.ref x :: r) G k d = (n.val < nL ∧ nx (pc + 1) (lset lv n.val (.ref x)) r G k d) := by
  show (1 = 1 ∧ _) = _
  exact propext ⟨fun h => h.2, fun h => ⟨rfl, h⟩⟩
theorem wI_astore_nN {nL : Nat} {E : wE} {fl : Nat → Option (Nat × Nat × FieldType × Bool)} {nw : Nat → Option (Nat × Nat × List Value)} {nq : Nat → Option ClassId} {oc : Option Nat} {cs : Nat → Option (Nat × Nat × Nat × Nat × CallT)} {hh : Nat → Nat → Option Nat} {ret : Option FieldType} {mc ms : Nat} {RP : Option Value → gH → Prop} {TP : Nat → gH → Prop} {nx : NxT} {pc : Nat} {lv : List (Nat × Value)} {G : gH} {k d : Nat} {n : Fin 4}  {r : List Value} : wpI nL E fl nw nq oc cs hh ret mc ms RP TP nx (.astore_n n) 1 pc lv (.null :: r) G k d = (n.val < nL ∧ nx (pc + 1) (lset lv n.val .null) r G k d) := by
  show (1 = 1 ∧ _) = _
  exact propext ⟨fun h => h.2, fun h => ⟨rfl, h⟩⟩
theorem wI_astore {nL : Nat} {E : wE} {fl : Nat → Option (Nat × Nat × FieldType × Bool)} {nw : Nat → Option (Nat × Nat × List Value)} {nq : Nat → Option ClassId} {oc : Option Nat} {cs : Nat → Option (Nat × Nat × Nat × Nat × CallT)} {hh : Nat → Nat → Option Nat} {ret : Option FieldType} {mc ms : Nat} {RP : Option Value → gH → Prop} {TP : Nat → gH → Prop} {nx : NxT} {pc : Nat} {lv : List (Nat × Value)} {G : gH} {k d : Nat} {n : Nat}  {r : List Value} {x : Nat} : wpI nL E fl nw nq oc cs hh ret mc ms RP TP nx (.astore n) 2 pc lv (.ref x :: r) G k d = (n < nL ∧ nx (pc + 2) (lset lv n (.ref x)) r G k d) := by
  show (2 = 2 ∧ _) = _
  exact propext ⟨fun h => h.2, fun h => ⟨rfl, h⟩⟩
theorem wI_astoreN {nL : Nat} {E : wE} {fl : Nat → Option (Nat × Nat × FieldType × Bool)} {nw : Nat → Option (Nat × Nat × List Value)} {nq : Nat → Option ClassId} {oc : Option Nat} {cs : Nat → Option (Nat × Nat × Nat × Nat × CallT)} {hh : Nat → Nat → Option Nat} {ret : Option FieldType} {mc ms : Nat} {RP : Option Value → gH → Prop} {TP : Nat → gH → Prop} {nx : NxT} {pc : Nat} {lv : List (Nat × Value)} {G : gH} {k d : Nat} {n : Nat}  {r : List Value} : wpI nL E fl nw nq oc cs hh ret mc ms RP TP nx (.astore n) 2 pc lv (.null :: r) G k d = (n < nL ∧ nx (pc + 2) (lset lv n .null) r G k d) := by
  show (2 = 2 ∧ _) = _
  exact propext ⟨fun h => h.2, fun h => ⟨rfl, h⟩⟩
theorem wI_iinc {nL : Nat} {E : wE} {fl : Nat → Option (Nat × Nat × FieldType × Bool)} {nw : Nat → Option (Nat × Nat × List Value)} {nq : Nat → Option ClassId} {oc : Option Nat} {cs : Nat → Option (Nat × Nat × Nat × Nat × CallT)} {hh : Nat → Nat → Option Nat} {ret : Option FieldType} {mc ms : Nat} {RP : Option Value → gH → Prop} {TP : Nat → gH → Prop} {nx : NxT} {pc : Nat} {lv : List (Nat × Value)} {G : gH} {k d : Nat} {n : Nat} {z : Int} {st : List Value}  : wpI nL E fl nw nq oc cs hh ret mc ms RP TP nx (.iinc n z) 3 pc lv (st) G k d = (n < nL ∧ (match lg lv n with | some (.int x) => nx (pc + 3) (lset lv n (.int (x + Int32.ofInt z))) st G k d | _ => False)) := by
  show (3 = 3 ∧ _) = _
  exact propext ⟨fun h => h.2, fun h => ⟨rfl, h⟩⟩
theorem wI_if_eq {nL : Nat} {E : wE} {fl : Nat → Option (Nat × Nat × FieldType × Bool)} {nw : Nat → Option (Nat × Nat × List Value)} {nq : Nat → Option ClassId} {oc : Option Nat} {cs : Nat → Option (Nat × Nat × Nat × Nat × CallT)} {hh : Nat → Nat → Option Nat} {ret : Option FieldType} {mc ms : Nat} {RP : Option Value → gH → Prop} {TP : Nat → gH → Prop} {nx : NxT} {pc : Nat} {lv : List (Nat × Value)} {G : gH} {k d : Nat} {off : Int}  {r : List Value} {x : Int32} : wpI nL E fl nw nq oc cs hh ret mc ms RP TP nx (.ifCond .eq off) 3 pc lv (.int x :: r) G k d = (0 ≤ (pc : Int) + off ∧ (x = 0 → nx (tg pc off) lv r G k d) ∧ (¬ x = 0 → nx (pc + 3) lv r G k d)) := by
  show (3 = 3 ∧ _) = _
  exact propext ⟨fun h => h.2, fun h => ⟨rfl, h⟩⟩
theorem wI_icmp_eq {nL : Nat} {E : wE} {fl : Nat → Option (Nat × Nat × FieldType × Bool)} {nw : Nat → Option (Nat × Nat × List Value)} {nq : Nat → Option ClassId} {oc : Option Nat} {cs : Nat → Option (Nat × Nat × Nat × Nat × CallT)} {hh : Nat → Nat → Option Nat} {ret : Option FieldType} {mc ms : Nat} {RP : Option Value → gH → Prop} {TP : Nat → gH → Prop} {nx : NxT} {pc : Nat} {lv : List (Nat × Value)} {G : gH} {k d : Nat} {off : Int}  {r : List Value} {x : Int32} {y : Int32} : wpI nL E fl nw nq oc cs hh ret mc ms RP TP nx (.if_icmp .eq off) 3 pc lv (.int y :: .int x :: r) G k d = (0 ≤ (pc : Int) + off ∧ (x = y → nx (tg pc off) lv r G k d) ∧ (¬ x = y → nx (pc + 3) lv r G k d)) := by
  show (3 = 3 ∧ _) = _
  exact propext ⟨fun h => h.2, fun h => ⟨rfl, h⟩⟩
theorem wI_if_ne {nL : Nat} {E : wE} {fl : Nat → Option (Nat × Nat × FieldType × Bool)} {nw : Nat → Option (Nat × Nat × List Value)} {nq : Nat → Option ClassId} {oc : Option Nat} {cs : Nat → Option (Nat × Nat × Nat × Nat × CallT)} {hh : Nat → Nat → Option Nat} {ret : Option FieldType} {mc ms : Nat} {RP : Option Value → gH → Prop} {TP : Nat → gH → Prop} {nx : NxT} {pc : Nat} {lv : List (Nat × Value)} {G : gH} {k d : Nat} {off : Int}  {r : List Value} {x : Int32} : wpI nL E fl nw nq oc cs hh ret mc ms RP TP nx (.ifCond .ne off) 3 pc lv (.int x :: r) G k d = (0 ≤ (pc : Int) + off ∧ (¬ x = 0 → nx (tg pc off) lv r G k d) ∧ (x = 0 → nx (pc + 3) lv r G k d)) := by
  show (3 = 3 ∧ _) = _
  exact propext ⟨fun h => h.2, fun h => ⟨rfl, h⟩⟩
theorem wI_icmp_ne {nL : Nat} {E : wE} {fl : Nat → Option (Nat × Nat × FieldType × Bool)} {nw : Nat → Option (Nat × Nat × List Value)} {nq : Nat → Option ClassId} {oc : Option Nat} {cs : Nat → Option (Nat × Nat × Nat × Nat × CallT)} {hh : Nat → Nat → Option Nat} {ret : Option FieldType} {mc ms : Nat} {RP : Option Value → gH → Prop} {TP : Nat → gH → Prop} {nx : NxT} {pc : Nat} {lv : List (Nat × Value)} {G : gH} {k d : Nat} {off : Int}  {r : List Value} {x : Int32} {y : Int32} : wpI nL E fl nw nq oc cs hh ret mc ms RP TP nx (.if_icmp .ne off) 3 pc lv (.int y :: .int x :: r) G k d = (0 ≤ (pc : Int) + off ∧ (¬ x = y → nx (tg pc off) lv r G k d) ∧ (x = y → nx (pc + 3) lv r G k d)) := by
  show (3 = 3 ∧ _) = _
  exact propext ⟨fun h => h.2, fun h => ⟨rfl, h⟩⟩
theorem wI_if_lt {nL : Nat} {E : wE} {fl : Nat → Option (Nat × Nat × FieldType × Bool)} {nw : Nat → Option (Nat × Nat × List Value)} {nq : Nat → Option ClassId} {oc : Option Nat} {cs : Nat → Option (Nat × Nat × Nat × Nat × CallT)} {hh : Nat → Nat → Option Nat} {ret : Option FieldType} {mc ms : Nat} {RP : Option Value → gH → Prop} {TP : Nat → gH → Prop} {nx : NxT} {pc : Nat} {lv : List (Nat × Value)} {G : gH} {k d : Nat} {off : Int}  {r : List Value} {x : Int32} : wpI nL E fl nw nq oc cs hh ret mc ms RP TP nx (.ifCond .lt off) 3 pc lv (.int x :: r) G k d = (0 ≤ (pc : Int) + off ∧ (x < 0 → nx (tg pc off) lv r G k d) ∧ (¬ x < 0 → nx (pc + 3) lv r G k d)) := by
  show (3 = 3 ∧ _) = _
  exact propext ⟨fun h => h.2, fun h => ⟨rfl, h⟩⟩
theorem wI_icmp_lt {nL : Nat} {E : wE} {fl : Nat → Option (Nat × Nat × FieldType × Bool)} {nw : Nat → Option (Nat × Nat × List Value)} {nq : Nat → Option ClassId} {oc : Option Nat} {cs : Nat → Option (Nat × Nat × Nat × Nat × CallT)} {hh : Nat → Nat → Option Nat} {ret : Option FieldType} {mc ms : Nat} {RP : Option Value → gH → Prop} {TP : Nat → gH → Prop} {nx : NxT} {pc : Nat} {lv : List (Nat × Value)} {G : gH} {k d : Nat} {off : Int}  {r : List Value} {x : Int32} {y : Int32} : wpI nL E fl nw nq oc cs hh ret mc ms RP TP nx (.if_icmp .lt off) 3 pc lv (.int y :: .int x :: r) G k d = (0 ≤ (pc : Int) + off ∧ (x < y → nx (tg pc off) lv r G k d) ∧ (¬ x < y → nx (pc + 3) lv r G k d)) := by
  show (3 = 3 ∧ _) = _
  exact propext ⟨fun h => h.2, fun h => ⟨rfl, h⟩⟩
theorem wI_if_ge {nL : Nat} {E : wE} {fl : Nat → Option (Nat × Nat × FieldType × Bool)} {nw : Nat → Option (Nat × Nat × List Value)} {nq : Nat → Option ClassId} {oc : Option Nat} {cs : Nat → Option (Nat × Nat × Nat × Nat × CallT)} {hh : Nat → Nat → Option Nat} {ret : Option FieldType} {mc ms : Nat} {RP : Option Value → gH → Prop} {TP : Nat → gH → Prop} {nx : NxT} {pc : Nat} {lv : List (Nat × Value)} {G : gH} {k d : Nat} {off : Int}  {r : List Value} {x : Int32} : wpI nL E fl nw nq oc cs hh ret mc ms RP TP nx (.ifCond .ge off) 3 pc lv (.int x :: r) G k d = (0 ≤ (pc : Int) + off ∧ (0 ≤ x → nx (tg pc off) lv r G k d) ∧ (¬ 0 ≤ x → nx (pc + 3) lv r G k d)) := by
  show (3 = 3 ∧ _) = _
  exact propext ⟨fun h => h.2, fun h => ⟨rfl, h⟩⟩
theorem wI_icmp_ge {nL : Nat} {E : wE} {fl : Nat → Option (Nat × Nat × FieldType × Bool)} {nw : Nat → Option (Nat × Nat × List Value)} {nq : Nat → Option ClassId} {oc : Option Nat} {cs : Nat → Option (Nat × Nat × Nat × Nat × CallT)} {hh : Nat → Nat → Option Nat} {ret : Option FieldType} {mc ms : Nat} {RP : Option Value → gH → Prop} {TP : Nat → gH → Prop} {nx : NxT} {pc : Nat} {lv : List (Nat × Value)} {G : gH} {k d : Nat} {off : Int}  {r : List Value} {x : Int32} {y : Int32} : wpI nL E fl nw nq oc cs hh ret mc ms RP TP nx (.if_icmp .ge off) 3 pc lv (.int y :: .int x :: r) G k d = (0 ≤ (pc : Int) + off ∧ (y ≤ x → nx (tg pc off) lv r G k d) ∧ (¬ y ≤ x → nx (pc + 3) lv r G k d)) := by
  show (3 = 3 ∧ _) = _
  exact propext ⟨fun h => h.2, fun h => ⟨rfl, h⟩⟩
theorem wI_if_gt {nL : Nat} {E : wE} {fl : Nat → Option (Nat × Nat × FieldType × Bool)} {nw : Nat → Option (Nat × Nat × List Value)} {nq : Nat → Option ClassId} {oc : Option Nat} {cs : Nat → Option (Nat × Nat × Nat × Nat × CallT)} {hh : Nat → Nat → Option Nat} {ret : Option FieldType} {mc ms : Nat} {RP : Option Value → gH → Prop} {TP : Nat → gH → Prop} {nx : NxT} {pc : Nat} {lv : List (Nat × Value)} {G : gH} {k d : Nat} {off : Int}  {r : List Value} {x : Int32} : wpI nL E fl nw nq oc cs hh ret mc ms RP TP nx (.ifCond .gt off) 3 pc lv (.int x :: r) G k d = (0 ≤ (pc : Int) + off ∧ (0 < x → nx (tg pc off) lv r G k d) ∧ (¬ 0 < x → nx (pc + 3) lv r G k d)) := by
  show (3 = 3 ∧ _) = _
  exact propext ⟨fun h => h.2, fun h => ⟨rfl, h⟩⟩
theorem wI_icmp_gt {nL : Nat} {E : wE} {fl : Nat → Option (Nat × Nat × FieldType × Bool)} {nw : Nat → Option (Nat × Nat × List Value)} {nq : Nat → Option ClassId} {oc : Option Nat} {cs : Nat → Option (Nat × Nat × Nat × Nat × CallT)} {hh : Nat → Nat → Option Nat} {ret : Option FieldType} {mc ms : Nat} {RP : Option Value → gH → Prop} {TP : Nat → gH → Prop} {nx : NxT} {pc : Nat} {lv : List (Nat × Value)} {G : gH} {k d : Nat} {off : Int}  {r : List Value} {x : Int32} {y : Int32} : wpI nL E fl nw nq oc cs hh ret mc ms RP TP nx (.if_icmp .gt off) 3 pc lv (.int y :: .int x :: r) G k d = (0 ≤ (pc : Int) + off ∧ (y < x → nx (tg pc off) lv r G k d) ∧ (¬ y < x → nx (pc + 3) lv r G k d)) := by
  show (3 = 3 ∧ _) = _
  exact propext ⟨fun h => h.2, fun h => ⟨rfl, h⟩⟩
theorem wI_if_le {nL : Nat} {E : wE} {fl : Nat → Option (Nat × Nat × FieldType × Bool)} {nw : Nat → Option (Nat × Nat × List Value)} {nq : Nat → Option ClassId} {oc : Option Nat} {cs : Nat → Option (Nat × Nat × Nat × Nat × CallT)} {hh : Nat → Nat → Option Nat} {ret : Option FieldType} {mc ms : Nat} {RP : Option Value → gH → Prop} {TP : Nat → gH → Prop} {nx : NxT} {pc : Nat} {lv : List (Nat × Value)} {G : gH} {k d : Nat} {off : Int}  {r : List Value} {x : Int32} : wpI nL E fl nw nq oc cs hh ret mc ms RP TP nx (.ifCond .le off) 3 pc lv (.int x :: r) G k d = (0 ≤ (pc : Int) + off ∧ (x ≤ 0 → nx (tg pc off) lv r G k d) ∧ (¬ x ≤ 0 → nx (pc + 3) lv r G k d)) := by
  show (3 = 3 ∧ _) = _
  exact propext ⟨fun h => h.2, fun h => ⟨rfl, h⟩⟩
theorem wI_icmp_le {nL : Nat} {E : wE} {fl : Nat → Option (Nat × Nat × FieldType × Bool)} {nw : Nat → Option (Nat × Nat × List Value)} {nq : Nat → Option ClassId} {oc : Option Nat} {cs : Nat → Option (Nat × Nat × Nat × Nat × CallT)} {hh : Nat → Nat → Option Nat} {ret : Option FieldType} {mc ms : Nat} {RP : Option Value → gH → Prop} {TP : Nat → gH → Prop} {nx : NxT} {pc : Nat} {lv : List (Nat × Value)} {G : gH} {k d : Nat} {off : Int}  {r : List Value} {x : Int32} {y : Int32} : wpI nL E fl nw nq oc cs hh ret mc ms RP TP nx (.if_icmp .le off) 3 pc lv (.int y :: .int x :: r) G k d = (0 ≤ (pc : Int) + off ∧ (x ≤ y → nx (tg pc off) lv r G k d) ∧ (¬ x ≤ y → nx (pc + 3) lv r G k d)) := by
  show (3 = 3 ∧ _) = _
  exact propext ⟨fun h => h.2, fun h => ⟨rfl, h⟩⟩
theorem wI_goto {nL : Nat} {E : wE} {fl : Nat → Option (Nat × Nat × FieldType × Bool)} {nw : Nat → Option (Nat × Nat × List Value)} {nq : Nat → Option ClassId} {oc : Option Nat} {cs : Nat → Option (Nat × Nat × Nat × Nat × CallT)} {hh : Nat → Nat → Option Nat} {ret : Option FieldType} {mc ms : Nat} {RP : Option Value → gH → Prop} {TP : Nat → gH → Prop} {nx : NxT} {pc : Nat} {lv : List (Nat × Value)} {G : gH} {k d : Nat} {off : Int} {st : List Value}  : wpI nL E fl nw nq oc cs hh ret mc ms RP TP nx (.goto off) 3 pc lv (st) G k d = (0 ≤ (pc : Int) + off ∧ nx (tg pc off) lv st G k d) := by
  show (3 = 3 ∧ _) = _
  exact propext ⟨fun h => h.2, fun h => ⟨rfl, h⟩⟩
theorem wI_ifnullN {nL : Nat} {E : wE} {fl : Nat → Option (Nat × Nat × FieldType × Bool)} {nw : Nat → Option (Nat × Nat × List Value)} {nq : Nat → Option ClassId} {oc : Option Nat} {cs : Nat → Option (Nat × Nat × Nat × Nat × CallT)} {hh : Nat → Nat → Option Nat} {ret : Option FieldType} {mc ms : Nat} {RP : Option Value → gH → Prop} {TP : Nat → gH → Prop} {nx : NxT} {pc : Nat} {lv : List (Nat × Value)} {G : gH} {k d : Nat} {off : Int}  {r : List Value} : wpI nL E fl nw nq oc cs hh ret mc ms RP TP nx (.ifnull off) 3 pc lv (.null :: r) G k d = (0 ≤ (pc : Int) + off ∧ nx (tg pc off) lv r G k d) := by
  show (3 = 3 ∧ _) = _
  exact propext ⟨fun h => h.2, fun h => ⟨rfl, h⟩⟩
theorem wI_ifnullR {nL : Nat} {E : wE} {fl : Nat → Option (Nat × Nat × FieldType × Bool)} {nw : Nat → Option (Nat × Nat × List Value)} {nq : Nat → Option ClassId} {oc : Option Nat} {cs : Nat → Option (Nat × Nat × Nat × Nat × CallT)} {hh : Nat → Nat → Option Nat} {ret : Option FieldType} {mc ms : Nat} {RP : Option Value → gH → Prop} {TP : Nat → gH → Prop} {nx : NxT} {pc : Nat} {lv : List (Nat × Value)} {G : gH} {k d : Nat} {off : Int}  {r : List Value} {x : Nat} : wpI nL E fl nw nq oc cs hh ret mc ms RP TP nx (.ifnull off) 3 pc lv (.ref x :: r) G k d = (nx (pc + 3) lv r G k d) := by
  show (3 = 3 ∧ _) = _
  exact propext ⟨fun h => h.2, fun h => ⟨rfl, h⟩⟩
theorem wI_ifnonnullN {nL : Nat} {E : wE} {fl : Nat → Option (Nat × Nat × FieldType × Bool)} {nw : Nat → Option (Nat × Nat × List Value)} {nq : Nat → Option ClassId} {oc : Option Nat} {cs : Nat → Option (Nat × Nat × Nat × Nat × CallT)} {hh : Nat → Nat → Option Nat} {ret : Option FieldType} {mc ms : Nat} {RP : Option Value → gH → Prop} {TP : Nat → gH → Prop} {nx : NxT} {pc : Nat} {lv : List (Nat × Value)} {G : gH} {k d : Nat} {off : Int}  {r : List Value} : wpI nL E fl nw nq oc cs hh ret mc ms RP TP nx (.ifnonnull off) 3 pc lv (.null :: r) G k d = (nx (pc + 3) lv r G k d) := by
  show (3 = 3 ∧ _) = _
  exact propext ⟨fun h => h.2, fun h => ⟨rfl, h⟩⟩
theorem wI_ifnonnullR {nL : Nat} {E : wE} {fl : Nat → Option (Nat × Nat × FieldType × Bool)} {nw : Nat → Option (Nat × Nat × List Value)} {nq : Nat → Option ClassId} {oc : Option Nat} {cs : Nat → Option (Nat × Nat × Nat × Nat × CallT)} {hh : Nat → Nat → Option Nat} {ret : Option FieldType} {mc ms : Nat} {RP : Option Value → gH → Prop} {TP : Nat → gH → Prop} {nx : NxT} {pc : Nat} {lv : List (Nat × Value)} {G : gH} {k d : Nat} {off : Int}  {r : List Value} {x : Nat} : wpI nL E fl nw nq oc cs hh ret mc ms RP TP nx (.ifnonnull off) 3 pc lv (.ref x :: r) G k d = (0 ≤ (pc : Int) + off ∧ nx (tg pc off) lv r G k d) := by
  show (3 = 3 ∧ _) = _
  exact propext ⟨fun h => h.2, fun h => ⟨rfl, h⟩⟩
theorem wI_tableswitch {nL : Nat} {E : wE} {fl : Nat → Option (Nat × Nat × FieldType × Bool)} {nw : Nat → Option (Nat × Nat × List Value)} {nq : Nat → Option ClassId} {oc : Option Nat} {cs : Nat → Option (Nat × Nat × Nat × Nat × CallT)} {hh : Nat → Nat → Option Nat} {ret : Option FieldType} {mc ms : Nat} {RP : Option Value → gH → Prop} {TP : Nat → gH → Prop} {nx : NxT} {len pc : Nat} {lv : List (Nat × Value)} {G : gH} {k d : Nat} {df lo hi : Int} {offs : Array Int}  {r : List Value} {x : Int32} : wpI nL E fl nw nq oc cs hh ret mc ms RP TP nx (.tableswitch df lo hi offs) len pc lv (.int x :: r) G k d = (hi = lo + (offs.toList.length : Int) - 1 ∧ (x.toInt < lo ∨ hi < x.toInt → 0 ≤ (pc : Int) + df ∧ nx (tg pc df) lv r G k d) ∧ swT nx x pc lv r G k d offs.toList lo) := rfl
theorem wI_lookupswitch {nL : Nat} {E : wE} {fl : Nat → Option (Nat × Nat × FieldType × Bool)} {nw : Nat → Option (Nat × Nat × List Value)} {nq : Nat → Option ClassId} {oc : Option Nat} {cs : Nat → Option (Nat × Nat × Nat × Nat × CallT)} {hh : Nat → Nat → Option Nat} {ret : Option FieldType} {mc ms : Nat} {RP : Option Value → gH → Prop} {TP : Nat → gH → Prop} {nx : NxT} {len pc : Nat} {lv : List (Nat × Value)} {G : gH} {k d : Nat} {df : Int} {ps : Array (Int × Int)}  {r : List Value} {x : Int32} : wpI nL E fl nw nq oc cs hh ret mc ms RP TP nx (.lookupswitch df ps) len pc lv (.int x :: r) G k d = ((ps.toList.zip (ps.toList.drop 1)).all (fun (a, next) => a.1 < next.1) = true ∧ swL nx x pc df lv r G k d ps.toList) := rfl
theorem wI_getfield {nL : Nat} {E : wE} {fl : Nat → Option (Nat × Nat × FieldType × Bool)} {nw : Nat → Option (Nat × Nat × List Value)} {nq : Nat → Option ClassId} {oc : Option Nat} {cs : Nat → Option (Nat × Nat × Nat × Nat × CallT)} {hh : Nat → Nat → Option Nat} {ret : Option FieldType} {mc ms : Nat} {RP : Option Value → gH → Prop} {TP : Nat → gH → Prop} {nx : NxT} {pc : Nat} {lv : List (Nat × Value)} {G : gH} {k d : Nat} {n : Nat} {st : List Value}  : wpI nL E fl nw nq oc cs hh ret mc ms RP TP nx (.getfield n) 3 pc lv (st) G k d = ((match fl n with | some (ci, kf, _, _) => (match st with | .ref a :: r => (match G a with | some (.inr (ci1, fs)) => ci1 = ci ∧ (match fs[kf]? with | some v => nx (pc + 3) lv (v :: r) G k d | none => False) | _ => False) | _ => False) | none => False)) := by
  show (3 = 3 ∧ _) = _
  exact propext ⟨fun h => h.2, fun h => ⟨rfl, h⟩⟩
theorem wI_putfield {nL : Nat} {E : wE} {fl : Nat → Option (Nat × Nat × FieldType × Bool)} {nw : Nat → Option (Nat × Nat × List Value)} {nq : Nat → Option ClassId} {oc : Option Nat} {cs : Nat → Option (Nat × Nat × Nat × Nat × CallT)} {hh : Nat → Nat → Option Nat} {ret : Option FieldType} {mc ms : Nat} {RP : Option Value → gH → Prop} {TP : Nat → gH → Prop} {nx : NxT} {pc : Nat} {lv : List (Nat × Value)} {G : gH} {k d : Nat} {n : Nat} {st : List Value}  : wpI nL E fl nw nq oc cs hh ret mc ms RP TP nx (.putfield n) 3 pc lv (st) G k d = ((match fl n with | some (ci, kf, ty, fin) => (match st with | v :: .ref a :: r => (match G a with | some (.inr (ci1, fs)) => ci1 = ci ∧ kf < fs.length ∧ (fin = false ∨ oc = some ci) ∧ (narrow ty v = v ∧ fits ty v = true) ∧ nx (pc + 3) lv r (gset G a (.inr (ci, fs.set kf v))) k d | _ => False) | _ => False) | none => False)) := by
  show (3 = 3 ∧ _) = _
  exact propext ⟨fun h => h.2, fun h => ⟨rfl, h⟩⟩
theorem wI_iaload {nL : Nat} {E : wE} {fl : Nat → Option (Nat × Nat × FieldType × Bool)} {nw : Nat → Option (Nat × Nat × List Value)} {nq : Nat → Option ClassId} {oc : Option Nat} {cs : Nat → Option (Nat × Nat × Nat × Nat × CallT)} {hh : Nat → Nat → Option Nat} {ret : Option FieldType} {mc ms : Nat} {RP : Option Value → gH → Prop} {TP : Nat → gH → Prop} {nx : NxT} {pc : Nat} {lv : List (Nat × Value)} {G : gH} {k d : Nat}  {st : List Value}  : wpI nL E fl nw nq oc cs hh ret mc ms RP TP nx (.iaload) 1 pc lv (st) G k d = ((match st with | .int i :: .ref a :: r => (match G a with | some (.inl (cA, n, .inl f)) => cA = E.2.2 0 ∧ vp_in i n ∧ nx (pc + 1) lv (.int (f i.toNatClampNeg) :: r) G k d | _ => False) | _ => False)) := by
  show (1 = 1 ∧ _) = _
  exact propext ⟨fun h => h.2, fun h => ⟨rfl, h⟩⟩
theorem wI_laload {nL : Nat} {E : wE} {fl : Nat → Option (Nat × Nat × FieldType × Bool)} {nw : Nat → Option (Nat × Nat × List Value)} {nq : Nat → Option ClassId} {oc : Option Nat} {cs : Nat → Option (Nat × Nat × Nat × Nat × CallT)} {hh : Nat → Nat → Option Nat} {ret : Option FieldType} {mc ms : Nat} {RP : Option Value → gH → Prop} {TP : Nat → gH → Prop} {nx : NxT} {pc : Nat} {lv : List (Nat × Value)} {G : gH} {k d : Nat}  {st : List Value}  : wpI nL E fl nw nq oc cs hh ret mc ms RP TP nx (.laload) 1 pc lv (st) G k d = ((match st with | .int i :: .ref a :: r => (match G a with | some (.inl (cA, n, .inr (.inl f))) => cA = E.2.2 1 ∧ vp_in i n ∧ nx (pc + 1) lv (.long (f i.toNatClampNeg) :: r) G k d | _ => False) | _ => False)) := by
  show (1 = 1 ∧ _) = _
  exact propext ⟨fun h => h.2, fun h => ⟨rfl, h⟩⟩
theorem wI_aaload {nL : Nat} {E : wE} {fl : Nat → Option (Nat × Nat × FieldType × Bool)} {nw : Nat → Option (Nat × Nat × List Value)} {nq : Nat → Option ClassId} {oc : Option Nat} {cs : Nat → Option (Nat × Nat × Nat × Nat × CallT)} {hh : Nat → Nat → Option Nat} {ret : Option FieldType} {mc ms : Nat} {RP : Option Value → gH → Prop} {TP : Nat → gH → Prop} {nx : NxT} {pc : Nat} {lv : List (Nat × Value)} {G : gH} {k d : Nat}  {st : List Value}  : wpI nL E fl nw nq oc cs hh ret mc ms RP TP nx (.aaload) 1 pc lv (st) G k d = ((match st with | .int i :: .ref a :: r => (match G a with | some (.inl (cA, n, .inr (.inr (.inr (.inr f))))) => isA E cA ∧ vp_in i n ∧ nx (pc + 1) lv (va_rf (f i.toNatClampNeg) :: r) G k d | _ => False) | _ => False)) := by
  show (1 = 1 ∧ _) = _
  exact propext ⟨fun h => h.2, fun h => ⟨rfl, h⟩⟩
theorem wI_iastore {nL : Nat} {E : wE} {fl : Nat → Option (Nat × Nat × FieldType × Bool)} {nw : Nat → Option (Nat × Nat × List Value)} {nq : Nat → Option ClassId} {oc : Option Nat} {cs : Nat → Option (Nat × Nat × Nat × Nat × CallT)} {hh : Nat → Nat → Option Nat} {ret : Option FieldType} {mc ms : Nat} {RP : Option Value → gH → Prop} {TP : Nat → gH → Prop} {nx : NxT} {pc : Nat} {lv : List (Nat × Value)} {G : gH} {k d : Nat}  {st : List Value}  : wpI nL E fl nw nq oc cs hh ret mc ms RP TP nx (.iastore) 1 pc lv (st) G k d = ((match st with | .int x :: .int i :: .ref a :: r => (match G a with | some (.inl (cA, n, .inl f)) => cA = E.2.2 0 ∧ vp_in i n ∧ nx (pc + 1) lv r (gset G a (.inl (cA, n, .inl (upd f i.toNatClampNeg x)))) k d | _ => False) | _ => False)) := by
  show (1 = 1 ∧ _) = _
  exact propext ⟨fun h => h.2, fun h => ⟨rfl, h⟩⟩
theorem wI_lastore {nL : Nat} {E : wE} {fl : Nat → Option (Nat × Nat × FieldType × Bool)} {nw : Nat → Option (Nat × Nat × List Value)} {nq : Nat → Option ClassId} {oc : Option Nat} {cs : Nat → Option (Nat × Nat × Nat × Nat × CallT)} {hh : Nat → Nat → Option Nat} {ret : Option FieldType} {mc ms : Nat} {RP : Option Value → gH → Prop} {TP : Nat → gH → Prop} {nx : NxT} {pc : Nat} {lv : List (Nat × Value)} {G : gH} {k d : Nat}  {st : List Value}  : wpI nL E fl nw nq oc cs hh ret mc ms RP TP nx (.lastore) 1 pc lv (st) G k d = ((match st with | .long x :: .int i :: .ref a :: r => (match G a with | some (.inl (cA, n, .inr (.inl f))) => cA = E.2.2 1 ∧ vp_in i n ∧ nx (pc + 1) lv r (gset G a (.inl (cA, n, .inr (.inl (vp_updL f i.toNatClampNeg x))))) k d | _ => False) | _ => False)) := by
  show (1 = 1 ∧ _) = _
  exact propext ⟨fun h => h.2, fun h => ⟨rfl, h⟩⟩
theorem wI_aastore {nL : Nat} {E : wE} {fl : Nat → Option (Nat × Nat × FieldType × Bool)} {nw : Nat → Option (Nat × Nat × List Value)} {nq : Nat → Option ClassId} {oc : Option Nat} {cs : Nat → Option (Nat × Nat × Nat × Nat × CallT)} {hh : Nat → Nat → Option Nat} {ret : Option FieldType} {mc ms : Nat} {RP : Option Value → gH → Prop} {TP : Nat → gH → Prop} {nx : NxT} {pc : Nat} {lv : List (Nat × Value)} {G : gH} {k d : Nat}  {st : List Value}  : wpI nL E fl nw nq oc cs hh ret mc ms RP TP nx (.aastore) 1 pc lv (st) G k d = ((match st with | .ref v :: .int i :: .ref a :: r => (match G a, G v with | some (.inl (cA, n, .inr (.inr (.inr (.inr f))))), some (.inr (ci, _)) => isAof E cA ci ∧ vp_in i n ∧ nx (pc + 1) lv r (gset G a (.inl (cA, n, .inr (.inr (.inr (.inr (va_up f i.toNatClampNeg (some v)))))))) k d | _, _ => False) | .null :: .int i :: .ref a :: r => (match G a with | some (.inl (cA, n, .inr (.inr (.inr (.inr f))))) => isA E cA ∧ vp_in i n ∧ nx (pc + 1) lv r (gset G a (.inl (cA, n, .inr (.inr (.inr (.inr (va_up f i.toNatClampNeg none))))))) k d | _ => False) | _ => False)) := by
  show (1 = 1 ∧ _) = _
  exact propext ⟨fun h => h.2, fun h => ⟨rfl, h⟩⟩
theorem wI_arraylength {nL : Nat} {E : wE} {fl : Nat → Option (Nat × Nat × FieldType × Bool)} {nw : Nat → Option (Nat × Nat × List Value)} {nq : Nat → Option ClassId} {oc : Option Nat} {cs : Nat → Option (Nat × Nat × Nat × Nat × CallT)} {hh : Nat → Nat → Option Nat} {ret : Option FieldType} {mc ms : Nat} {RP : Option Value → gH → Prop} {TP : Nat → gH → Prop} {nx : NxT} {pc : Nat} {lv : List (Nat × Value)} {G : gH} {k d : Nat}  {st : List Value}  : wpI nL E fl nw nq oc cs hh ret mc ms RP TP nx (.arraylength) 1 pc lv (st) G k d = ((match st with | .ref a :: r => (match G a with | some (.inl (cA, x)) => (∃ (t0 : Nat) (ty : FieldType), (tysOf E)[t0]? = some (cA, ty)) ∧ nx (pc + 1) lv (.int (Int32.ofNat x.1) :: r) G k d | _ => False) | _ => False)) := by
  show (1 = 1 ∧ _) = _
  exact propext ⟨fun h => h.2, fun h => ⟨rfl, h⟩⟩
theorem wI_new {nL : Nat} {E : wE} {fl : Nat → Option (Nat × Nat × FieldType × Bool)} {nw : Nat → Option (Nat × Nat × List Value)} {nq : Nat → Option ClassId} {oc : Option Nat} {cs : Nat → Option (Nat × Nat × Nat × Nat × CallT)} {hh : Nat → Nat → Option Nat} {ret : Option FieldType} {mc ms : Nat} {RP : Option Value → gH → Prop} {TP : Nat → gH → Prop} {nx : NxT} {pc : Nat} {lv : List (Nat × Value)} {G : gH} {k d : Nat} {n : Nat} {st : List Value}  : wpI nL E fl nw nq oc cs hh ret mc ms RP TP nx (.new n) 3 pc lv (st) G k d = ((match nw n with | some (ci, N, dfl) => k + 1 ≤ mc ∧ d + N ≤ ms ∧ ∀ q : Nat, G q = none → nx (pc + 3) lv (.ref q :: st) (gset G q (.inr (ci, dfl))) (k + 1) (d + N) | none => False)) := by
  show (3 = 3 ∧ _) = _
  exact propext ⟨fun h => h.2, fun h => ⟨rfl, h⟩⟩
theorem wI_newarray_int {nL : Nat} {E : wE} {fl : Nat → Option (Nat × Nat × FieldType × Bool)} {nw : Nat → Option (Nat × Nat × List Value)} {nq : Nat → Option ClassId} {oc : Option Nat} {cs : Nat → Option (Nat × Nat × Nat × Nat × CallT)} {hh : Nat → Nat → Option Nat} {ret : Option FieldType} {mc ms : Nat} {RP : Option Value → gH → Prop} {TP : Nat → gH → Prop} {nx : NxT} {pc : Nat} {lv : List (Nat × Value)} {G : gH} {k d : Nat}  {st : List Value}  : wpI nL E fl nw nq oc cs hh ret mc ms RP TP nx (.newarray .int) 2 pc lv (st) G k d = ((match st with | .int n :: r => ¬ n < 0 ∧ n.toNatClampNeg * componentBytes .int ≤ 536870912 ∧ k + 1 ≤ mc ∧ d + n.toNatClampNeg ≤ ms ∧ ∀ q : Nat, G q = none → nx (pc + 2) lv (.ref q :: r) (gset G q (.inl (E.2.2 0, n.toNatClampNeg, .inl (fun _ => 0)))) (k + 1) (d + n.toNatClampNeg) | _ => False)) := by
  show (2 = 2 ∧ _) = _
  exact propext ⟨fun h => h.2, fun h => ⟨rfl, h⟩⟩
theorem wI_newarray_long {nL : Nat} {E : wE} {fl : Nat → Option (Nat × Nat × FieldType × Bool)} {nw : Nat → Option (Nat × Nat × List Value)} {nq : Nat → Option ClassId} {oc : Option Nat} {cs : Nat → Option (Nat × Nat × Nat × Nat × CallT)} {hh : Nat → Nat → Option Nat} {ret : Option FieldType} {mc ms : Nat} {RP : Option Value → gH → Prop} {TP : Nat → gH → Prop} {nx : NxT} {pc : Nat} {lv : List (Nat × Value)} {G : gH} {k d : Nat}  {st : List Value}  : wpI nL E fl nw nq oc cs hh ret mc ms RP TP nx (.newarray .long) 2 pc lv (st) G k d = ((match st with | .int n :: r => ¬ n < 0 ∧ n.toNatClampNeg * componentBytes .long ≤ 536870912 ∧ k + 1 ≤ mc ∧ d + n.toNatClampNeg ≤ ms ∧ ∀ q : Nat, G q = none → nx (pc + 2) lv (.ref q :: r) (gset G q (.inl (E.2.2 1, n.toNatClampNeg, .inr (.inl (fun _ => 0))))) (k + 1) (d + n.toNatClampNeg) | _ => False)) := by
  show (2 = 2 ∧ _) = _
  exact propext ⟨fun h => h.2, fun h => ⟨rfl, h⟩⟩
theorem wI_anewarray {nL : Nat} {E : wE} {fl : Nat → Option (Nat × Nat × FieldType × Bool)} {nw : Nat → Option (Nat × Nat × List Value)} {nq : Nat → Option ClassId} {oc : Option Nat} {cs : Nat → Option (Nat × Nat × Nat × Nat × CallT)} {hh : Nat → Nat → Option Nat} {ret : Option FieldType} {mc ms : Nat} {RP : Option Value → gH → Prop} {TP : Nat → gH → Prop} {nx : NxT} {pc : Nat} {lv : List (Nat × Value)} {G : gH} {k d : Nat} {n : Nat} {st : List Value}  : wpI nL E fl nw nq oc cs hh ret mc ms RP TP nx (.anewarray n) 3 pc lv (st) G k d = ((match st, nq n with | .int x :: r, some cA => ¬ x < 0 ∧ x.toNatClampNeg * 4 ≤ 536870912 ∧ k + 1 ≤ mc ∧ d + x.toNatClampNeg ≤ ms ∧ ∀ q : Nat, G q = none → nx (pc + 3) lv (.ref q :: r) (gset G q (.inl (cA, x.toNatClampNeg, .inr (.inr (.inr (.inr (fun _ => none))))))) (k + 1) (d + x.toNatClampNeg) | _, _ => False)) := by
  show (3 = 3 ∧ _) = _
  exact propext ⟨fun h => h.2, fun h => ⟨rfl, h⟩⟩
theorem wI_invokestatic {nL : Nat} {E : wE} {fl : Nat → Option (Nat × Nat × FieldType × Bool)} {nw : Nat → Option (Nat × Nat × List Value)} {nq : Nat → Option ClassId} {oc : Option Nat} {cs : Nat → Option (Nat × Nat × Nat × Nat × CallT)} {hh : Nat → Nat → Option Nat} {ret : Option FieldType} {mc ms : Nat} {RP : Option Value → gH → Prop} {TP : Nat → gH → Prop} {nx : NxT} {pc : Nat} {lv : List (Nat × Value)} {G : gH} {k d : Nat} {n : Nat} {st : List Value}  : wpI nL E fl nw nq oc cs hh ret mc ms RP TP nx (.invokestatic n) 3 pc lv (st) G k d = ((match cs n with | some (kd, na, mc1, ms1, ct) => kd = 0 ∧ k + mc1 ≤ mc ∧ d + ms1 ≤ ms ∧ csum (st.drop na) ≤ 8 ∧ ct (st.take na).reverse G (fun v G1 => nx (pc + 3) lv (v.toList ++ st.drop na) G1 (k + mc1) (d + ms1)) (fun x G1 => (match hh pc x with | some h1 => ∀ a : Nat, nx h1 lv [.ref a] G1 (k + mc1) (d + ms1) | none => TP x G1)) | none => False)) := by
  show (3 = 3 ∧ _) = _
  exact propext ⟨fun h => h.2, fun h => ⟨rfl, h⟩⟩
theorem wI_invokespecial {nL : Nat} {E : wE} {fl : Nat → Option (Nat × Nat × FieldType × Bool)} {nw : Nat → Option (Nat × Nat × List Value)} {nq : Nat → Option ClassId} {oc : Option Nat} {cs : Nat → Option (Nat × Nat × Nat × Nat × CallT)} {hh : Nat → Nat → Option Nat} {ret : Option FieldType} {mc ms : Nat} {RP : Option Value → gH → Prop} {TP : Nat → gH → Prop} {nx : NxT} {pc : Nat} {lv : List (Nat × Value)} {G : gH} {k d : Nat} {n : Nat} {st : List Value}  : wpI nL E fl nw nq oc cs hh ret mc ms RP TP nx (.invokespecial n) 3 pc lv (st) G k d = ((match cs n with | some (kd, na, mc1, ms1, ct) => kd = 1 ∧ k + mc1 ≤ mc ∧ d + ms1 ≤ ms ∧ csum (st.drop na) ≤ 8 ∧ ct (st.take na).reverse G (fun v G1 => nx (pc + 3) lv (v.toList ++ st.drop na) G1 (k + mc1) (d + ms1)) (fun x G1 => (match hh pc x with | some h1 => ∀ a : Nat, nx h1 lv [.ref a] G1 (k + mc1) (d + ms1) | none => TP x G1)) | none => False)) := by
  show (3 = 3 ∧ _) = _
  exact propext ⟨fun h => h.2, fun h => ⟨rfl, h⟩⟩
theorem wI_invokevirtual {nL : Nat} {E : wE} {fl : Nat → Option (Nat × Nat × FieldType × Bool)} {nw : Nat → Option (Nat × Nat × List Value)} {nq : Nat → Option ClassId} {oc : Option Nat} {cs : Nat → Option (Nat × Nat × Nat × Nat × CallT)} {hh : Nat → Nat → Option Nat} {ret : Option FieldType} {mc ms : Nat} {RP : Option Value → gH → Prop} {TP : Nat → gH → Prop} {nx : NxT} {pc : Nat} {lv : List (Nat × Value)} {G : gH} {k d : Nat} {n : Nat} {st : List Value}  : wpI nL E fl nw nq oc cs hh ret mc ms RP TP nx (.invokevirtual n) 3 pc lv (st) G k d = ((match cs n with | some (kd, na, mc1, ms1, ct) => kd = 2 ∧ k + mc1 ≤ mc ∧ d + ms1 ≤ ms ∧ csum (st.drop na) ≤ 8 ∧ ct (st.take na).reverse G (fun v G1 => nx (pc + 3) lv (v.toList ++ st.drop na) G1 (k + mc1) (d + ms1)) (fun x G1 => (match hh pc x with | some h1 => ∀ a : Nat, nx h1 lv [.ref a] G1 (k + mc1) (d + ms1) | none => TP x G1)) | none => False)) := by
  show (3 = 3 ∧ _) = _
  exact propext ⟨fun h => h.2, fun h => ⟨rfl, h⟩⟩
theorem wI_ireturn {nL : Nat} {E : wE} {fl : Nat → Option (Nat × Nat × FieldType × Bool)} {nw : Nat → Option (Nat × Nat × List Value)} {nq : Nat → Option ClassId} {oc : Option Nat} {cs : Nat → Option (Nat × Nat × Nat × Nat × CallT)} {hh : Nat → Nat → Option Nat} {ret : Option FieldType} {mc ms : Nat} {RP : Option Value → gH → Prop} {TP : Nat → gH → Prop} {nx : NxT} {pc : Nat} {lv : List (Nat × Value)} {G : gH} {k d : Nat}   {v : Int32} : wpI nL E fl nw nq oc cs hh ret mc ms RP TP nx (.ireturn) 1 pc lv ([.int v]) G k d = (k ≤ mc ∧ d ≤ ms ∧ (match ret with | some ty => narrow ty (.int v) = .int v ∧ RP (some (.int v)) G | none => False)) := by
  cases ret <;> exact propext ⟨fun h => h.2, fun h => ⟨rfl, h⟩⟩
theorem wI_return_ {nL : Nat} {E : wE} {fl : Nat → Option (Nat × Nat × FieldType × Bool)} {nw : Nat → Option (Nat × Nat × List Value)} {nq : Nat → Option ClassId} {oc : Option Nat} {cs : Nat → Option (Nat × Nat × Nat × Nat × CallT)} {hh : Nat → Nat → Option Nat} {ret : Option FieldType} {mc ms : Nat} {RP : Option Value → gH → Prop} {TP : Nat → gH → Prop} {nx : NxT} {pc : Nat} {lv : List (Nat × Value)} {G : gH} {k d : Nat}    : wpI nL E fl nw nq oc cs hh ret mc ms RP TP nx (.return_) 1 pc lv ([]) G k d = (k ≤ mc ∧ d ≤ ms ∧ (match ret with | none => RP none G | some _ => False)) := by
  cases ret <;> exact propext ⟨fun h => h.2, fun h => ⟨rfl, h⟩⟩
theorem Cx.hx {E : wE} {own : String} {cc : ByteArray} {nL : Nat} {A : Nat → Prop} {p : Program} {s : State} {m : MethodId} {args : Array Value} {meth : Method} {c : Code} (X : Cx E own cc nL A p s m args meth c) : p.tables.exec = Jvm.exec := X.1
theorem Cx.hb {E : wE} {own : String} {cc : ByteArray} {nL : Nat} {A : Nat → Prop} {p : Program} {s : State} {m : MethodId} {args : Array Value} {meth : Method} {c : Code} (X : Cx E own cc nL A p s m args meth c) : c.code = cc := X.2.1
theorem Cx.hml {E : wE} {own : String} {cc : ByteArray} {nL : Nat} {A : Nat → Prop} {p : Program} {s : State} {m : MethodId} {args : Array Value} {meth : Method} {c : Code} (X : Cx E own cc nL A p s m args meth c) : c.maxLocals = nL := X.2.2.1
theorem Cx.hown {E : wE} {own : String} {cc : ByteArray} {nL : Nat} {A : Nat → Prop} {p : Program} {s : State} {m : MethodId} {args : Array Value} {meth : Method} {c : Code} (X : Cx E own cc nL A p s m args meth c) : s.vm.findClass own = some m.cls := X.2.2.2.1
theorem Cx.hts {E : wE} {own : String} {cc : ByteArray} {nL : Nat} {A : Nat → Prop} {p : Program} {s : State} {m : MethodId} {args : Array Value} {meth : Method} {c : Code} (X : Cx E own cc nL A p s m args meth c) : ∀ w ∈ Tb, w.before args s = true := X.2.2.2.2.1
theorem Cx.hnw {E : wE} {own : String} {cc : ByteArray} {nL : Nat} {A : Nat → Prop} {p : Program} {s : State} {m : MethodId} {args : Array Value} {meth : Method} {c : Code} (X : Cx E own cc nL A p s m args meth c) : ∀ w ∈ Nb, va_Nw w s := X.2.2.2.2.2.1
theorem Cx.hK {E : wE} {own : String} {cc : ByteArray} {nL : Nat} {A : Nat → Prop} {p : Program} {s : State} {m : MethodId} {args : Array Value} {meth : Method} {c : Code} (X : Cx E own cc nL A p s m args meth c) : va_K (E.1, E.2.1) classes (tysOf E) s := X.2.2.2.2.2.2.1
theorem Cx.hA {E : wE} {own : String} {cc : ByteArray} {nL : Nat} {A : Nat → Prop} {p : Program} {s : State} {m : MethodId} {args : Array Value} {meth : Method} {c : Code} (X : Cx E own cc nL A p s m args meth c) : ∀ q : Nat, s.heap.size ≤ q → A q := X.2.2.2.2.2.2.2.1
theorem Cx.hlk {E : wE} {own : String} {cc : ByteArray} {nL : Nat} {A : Nat → Prop} {p : Program} {s : State} {m : MethodId} {args : Array Value} {meth : Method} {c : Code} (X : Cx E own cc nL A p s m args meth c) : meth.locks = false := X.2.2.2.2.2.2.2.2.1
theorem Cx.hev {E : wE} {own : String} {cc : ByteArray} {nL : Nat} {A : Nat → Prop} {p : Program} {s : State} {m : MethodId} {args : Array Value} {meth : Method} {c : Code} (X : Cx E own cc nL A p s m args meth c) : Ev A s := X.2.2.2.2.2.2.2.2.2
section WPS
variable {p : Program} {l : Launch} {e : Env} {R : Room} {s : State} {m : MethodId} {args : Array Value} {below : List Frame} {meth : Method} {c : Code} {Q : State → Prop} {E : wE} {A : Nat → Prop} {own : String} {cc : ByteArray} {nL : Nat} {pc : Nat} {lv : List (Nat × Value)} {st : List Value} {G : gH} {k d : Nat}
variable {fl : Nat → Option (Nat × Nat × FieldType × Bool)} {nw : Nat → Option (Nat × Nat × List Value)} {nq : Nat → Option ClassId} {oc : Option Nat} {cs : Nat → Option (Nat × Nat × Nat × Nat × CallT)} {hh : Nat → Nat → Option Nat} {ret : Option FieldType} {mc ms : Nat} {RP : Option Value → gH → Prop} {TP : Nat → gH → Prop} {nx : NxT}
def ik : Nat → Nat → Instr
  | 0, n => .invokestatic n
  | 1, n => .invokespecial n
  | _, n => .invokevirtual n
/-- what stands behind a call -/
def CallOK (E : wE) (nL : Nat) (A : Nat → Prop) (Q : State → Prop) (p : Program) (l : Launch) (e : Env) (R : Room) (s : State) (m : MethodId) (args : Array Value) (below : List Frame) (meth : Method) (c : Code) (cc : ByteArray) (ix kd na mc1 ms1 : Nat) (ct : CallT) : Prop :=
  ∀ (pc : Nat) (lv : List (Nat × Value)) (st : List Value) (G : gH) (k d : Nat), decode cc pc = .ok (ik kd ix, 3) → csum (st.drop na) ≤ 8 → k + mc1 ≤ R.cells → d + ms1 ≤ R.slots →
    ∀ (KR : Option Value → gH → Prop) (KT : Nat → gH → Prop), ct (st.take na).reverse G KR KT →
      (∀ v G1, KR v G1 → Vj E nL A Q p l e R s m args below meth c (pc + 3) lv (v.toList ++ st.drop na) G1 (k + mc1) (d + ms1)) →
      (∀ x G1, KT x G1 → Vt E nL A Q p l e R s m args below meth c x pc lv G1 (k + mc1) (d + ms1)) → Vj E nL A Q p l e R s m args below meth c pc lv st G k d
/-- what a method's proof hands to the walk -/
def WpH (E : wE) (own : String) (cc : ByteArray) (nL : Nat) (A : Nat → Prop) (Q : State → Prop) (p : Program) (l : Launch) (e : Env) (R : Room) (s : State) (m : MethodId) (args : Array Value) (below : List Frame) (meth : Method) (c : Code) (fl : Nat → Option (Nat × Nat × FieldType × Bool)) (nw : Nat → Option (Nat × Nat × List Value)) (nq : Nat → Option ClassId) (oc : Option Nat) (cs : Nat → Option (Nat × Nat × Nat × Nat × CallT)) (hh : Nat → Nat → Option Nat) (ret : Option FieldType) (mc ms : Nat) (RP : Option Value → gH → Prop) (TP : Nat → gH → Prop) : Prop :=
  (Cx E own cc nL A p s m args meth c) ∧ (R.cells = mc) ∧ (R.slots = ms) ∧ (∀ ix ci kf ty fin, fl ix = some (ci, kf, ty, fin) → fOK own ix ci kf ty fin) ∧ (∀ ix ci kf ty, oc = some ci → fl ix = some (ci, kf, ty, true) → meth.name = "<init>" ∧ fOKF own ix ci kf ty) ∧ (∀ ix ci N dfl, nw ix = some (ci, N, dfl) → nOK own ix ci N dfl) ∧ (∀ ix cA, nq ix = some cA → aOK E own ix cA) ∧ (Cond.arrayClass .int ∈ Tb) ∧ (Cond.arrayClass .long ∈ Tb) ∧ (∀ ix kd na mc1 ms1 ct, cs ix = some (kd, na, mc1, ms1, ct) → CallOK E nL A Q p l e R s m args below meth c cc ix kd na mc1 ms1 ct) ∧ (∀ pc x h, hh pc x = some h → ∀ lv G k d, (∀ a : Nat, Vj E nL A Q p l e R s m args below meth c h lv [.ref a] G k d) → Vt E nL A Q p l e R s m args below meth c x pc lv G k d) ∧ (∀ pc x, hh pc x = none → ∀ lv G k d, k ≤ mc → d ≤ ms → TP x G → Vt E nL A Q p l e R s m args below meth c x pc lv G k d) ∧ (∀ {pc lv v ty G k d}, ret = some ty → narrow ty (.int v) = .int v → decode cc pc = .ok (.ireturn, 1) → k ≤ mc → d ≤ ms → RP (some (.int v)) G → Vj E nL A Q p l e R s m args below meth c pc lv [.int v] G k d) ∧ (∀ {pc lv G k d}, ret = none → decode cc pc = .ok (.return_, 1) → k ≤ mc → d ≤ ms → RP none G → Vj E nL A Q p l e R s m args below meth c pc lv [] G k d)
set_option maxHeartbeats 1000000 in
theorem ws_iconst {len : Nat} {n : Int} (hH : WpH E own cc nL A Q p l e R s m args below meth c fl nw nq oc cs hh ret mc ms RP TP) (hnx : ∀ pc lv st G k d, nx pc lv st G k d → Vj E nL A Q p l e R s m args below meth c pc lv st G k d) (hd : decode cc pc = .ok (.iconst n, len)) (h : wpI nL E fl nw nq oc cs hh ret mc ms RP TP nx (.iconst n) len pc lv st G k d) : Vj E nL A Q p l e R s m args below meth c pc lv st G k d := by
  obtain ⟨X, hmc, hms, hfl, hflF, hnw, hnq, harr_int, harr_long, hcs, hcat, hthr, hreti, hretv⟩ := hH
  replace h : len = 1 ∧ nx (pc + 1) lv (.int (Int32.ofInt n) :: st) G k d := h
  obtain ⟨rfl, h⟩ := h
  intro H locs ls hP hS hl
  exact lv_iconst X.hx X.hb hd rfl (hnx _ _ _ _ _ _ h H locs ls hP hS hl)
set_option maxHeartbeats 1000000 in
theorem ws_bipush {len : Nat} {n : Int} (hH : WpH E own cc nL A Q p l e R s m args below meth c fl nw nq oc cs hh ret mc ms RP TP) (hnx : ∀ pc lv st G k d, nx pc lv st G k d → Vj E nL A Q p l e R s m args below meth c pc lv st G k d) (hd : decode cc pc = .ok (.bipush n, len)) (h : wpI nL E fl nw nq oc cs hh ret mc ms RP TP nx (.bipush n) len pc lv st G k d) : Vj E nL A Q p l e R s m args below meth c pc lv st G k d := by
  obtain ⟨X, hmc, hms, hfl, hflF, hnw, hnq, harr_int, harr_long, hcs, hcat, hthr, hreti, hretv⟩ := hH
  replace h : len = 2 ∧ nx (pc + 2) lv (.int (Int8.ofInt n).toInt32 :: st) G k d := h
  obtain ⟨rfl, h⟩ := h
  intro H locs ls hP hS hl
  exact lv_bipush X.hx X.hb hd rfl (hnx _ _ _ _ _ _ h H locs ls hP hS hl)
set_option maxHeartbeats 1000000 in
theorem ws_sipush {len : Nat} {n : Int} (hH : WpH E own cc nL A Q p l e R s m args below meth c fl nw nq oc cs hh ret mc ms RP TP) (hnx : ∀ pc lv st G k d, nx pc lv st G k d → Vj E nL A Q p l e R s m args below meth c pc lv st G k d) (hd : decode cc pc = .ok (.sipush n, len)) (h : wpI nL E fl nw nq oc cs hh ret mc ms RP TP nx (.sipush n) len pc lv st G k d) : Vj E nL A Q p l e R s m args below meth c pc lv st G k d := by
  obtain ⟨X, hmc, hms, hfl, hflF, hnw, hnq, harr_int, harr_long, hcs, hcat, hthr, hreti, hretv⟩ := hH
  replace h : len = 3 ∧ nx (pc + 3) lv (.int (Int16.ofInt n).toInt32 :: st) G k d := h
  obtain ⟨rfl, h⟩ := h
  intro H locs ls hP hS hl
  exact lv_sipush X.hx X.hb hd rfl (hnx _ _ _ _ _ _ h H locs ls hP hS hl)
set_option maxHeartbeats 1000000 in
theorem ws_lconst {len : Nat} {n : Fin 2} (hH : WpH E own cc nL A Q p l e R s m args below meth c fl nw nq oc cs hh ret mc ms RP TP) (hnx : ∀ pc lv st G k d, nx pc lv st G k d → Vj E nL A Q p l e R s m args below meth c pc lv st G k d) (hd : decode cc pc = .ok (.lconst n, len)) (h : wpI nL E fl nw nq oc cs hh ret mc ms RP TP nx (.lconst n) len pc lv st G k d) : Vj E nL A Q p l e R s m args below meth c pc lv st G k d := by
  obtain ⟨X, hmc, hms, hfl, hflF, hnw, hnq, harr_int, harr_long, hcs, hcat, hthr, hreti, hretv⟩ := hH
  replace h : len = 1 ∧ nx (pc + 1) lv (.long (Int64.ofNat (n : Nat)) :: st) G k d := h
  obtain ⟨rfl, h⟩ := h
  intro H locs ls hP hS hl
  exact lv_lconst X.hx X.hb hd rfl (hnx _ _ _ _ _ _ h H locs ls hP hS hl)
set_option maxHeartbeats 1000000 in
theorem ws_aconst_null {len : Nat}  (hH : WpH E own cc nL A Q p l e R s m args below meth c fl nw nq oc cs hh ret mc ms RP TP) (hnx : ∀ pc lv st G k d, nx pc lv st G k d → Vj E nL A Q p l e R s m args below meth c pc lv st G k d) (hd : decode cc pc = .ok (.aconst_null, len)) (h : wpI nL E fl nw nq oc cs hh ret mc ms RP TP nx (.aconst_null) len pc lv st G k d) : Vj E nL A Q p l e R s m args below meth c pc lv st G k d := by
  obtain ⟨X, hmc, hms, hfl, hflF, hnw, hnq, harr_int, harr_long, hcs, hcat, hthr, hreti, hretv⟩ := hH
  replace h : len = 1 ∧ nx (pc + 1) lv (.null :: st) G k d := h
  obtain ⟨rfl, h⟩ := h
  intro H locs ls hP hS hl
  exact lv_null X.hx X.hb hd (hnx _ _ _ _ _ _ h H locs ls hP hS hl)
set_option maxHeartbeats 1000000 in
theorem ws_iadd {len : Nat}  (hH : WpH E own cc nL A Q p l e R s m args below meth c fl nw nq oc cs hh ret mc ms RP TP) (hnx : ∀ pc lv st G k d, nx pc lv st G k d → Vj E nL A Q p l e R s m args below meth c pc lv st G k d) (hd : decode cc pc = .ok (.iadd, len)) (h : wpI nL E fl nw nq oc cs hh ret mc ms RP TP nx (.iadd) len pc lv st G k d) : Vj E nL A Q p l e R s m args below meth c pc lv st G k d := by
  obtain ⟨X, hmc, hms, hfl, hflF, hnw, hnq, harr_int, harr_long, hcs, hcat, hthr, hreti, hretv⟩ := hH
  replace h : (match (generalizing := false) st with | .int y :: .int x :: r => len = 1 ∧ nx (pc + 1) lv (.int (x + y) :: r) G k d | _ => False) := h
  split at h
  · obtain ⟨rfl, h⟩ := h
    intro H locs ls hP hS hl
    exact lv_iadd X.hx X.hb hd (hnx _ _ _ _ _ _ h H locs ls hP hS hl)
  · exact h.elim
set_option maxHeartbeats 1000000 in
theorem ws_isub {len : Nat}  (hH : WpH E own cc nL A Q p l e R s m args below meth c fl nw nq oc cs hh ret mc ms RP TP) (hnx : ∀ pc lv st G k d, nx pc lv st G k d → Vj E nL A Q p l e R s m args below meth c pc lv st G k d) (hd : decode cc pc = .ok (.isub, len)) (h : wpI nL E fl nw nq oc cs hh ret mc ms RP TP nx (.isub) len pc lv st G k d) : Vj E nL A Q p l e R s m args below meth c pc lv st G k d := by
  obtain ⟨X, hmc, hms, hfl, hflF, hnw, hnq, harr_int, harr_long, hcs, hcat, hthr, hreti, hretv⟩ := hH
  replace h : (match (generalizing := false) st with | .int y :: .int x :: r => len = 1 ∧ nx (pc + 1) lv (.int (x - y) :: r) G k d | _ => False) := h
  split at h
  · obtain ⟨rfl, h⟩ := h
    intro H locs ls hP hS hl
    exact lv_isub X.hx X.hb hd (hnx _ _ _ _ _ _ h H locs ls hP hS hl)
  · exact h.elim
set_option maxHeartbeats 1000000 in
theorem ws_imul {len : Nat}  (hH : WpH E own cc nL A Q p l e R s m args below meth c fl nw nq oc cs hh ret mc ms RP TP) (hnx : ∀ pc lv st G k d, nx pc lv st G k d → Vj E nL A Q p l e R s m args below meth c pc lv st G k d) (hd : decode cc pc = .ok (.imul, len)) (h : wpI nL E fl nw nq oc cs hh ret mc ms RP TP nx (.imul) len pc lv st G k d) : Vj E nL A Q p l e R s m args below meth c pc lv st G k d := by
  obtain ⟨X, hmc, hms, hfl, hflF, hnw, hnq, harr_int, harr_long, hcs, hcat, hthr, hreti, hretv⟩ := hH
  replace h : (match (generalizing := false) st with | .int y :: .int x :: r => len = 1 ∧ nx (pc + 1) lv (.int (x * y) :: r) G k d | _ => False) := h
  split at h
  · obtain ⟨rfl, h⟩ := h
    intro H locs ls hP hS hl
    exact lv_imul X.hx X.hb hd (hnx _ _ _ _ _ _ h H locs ls hP hS hl)
  · exact h.elim
set_option maxHeartbeats 1000000 in
theorem ws_iand {len : Nat}  (hH : WpH E own cc nL A Q p l e R s m args below meth c fl nw nq oc cs hh ret mc ms RP TP) (hnx : ∀ pc lv st G k d, nx pc lv st G k d → Vj E nL A Q p l e R s m args below meth c pc lv st G k d) (hd : decode cc pc = .ok (.iand, len)) (h : wpI nL E fl nw nq oc cs hh ret mc ms RP TP nx (.iand) len pc lv st G k d) : Vj E nL A Q p l e R s m args below meth c pc lv st G k d := by
  obtain ⟨X, hmc, hms, hfl, hflF, hnw, hnq, harr_int, harr_long, hcs, hcat, hthr, hreti, hretv⟩ := hH
  replace h : (match (generalizing := false) st with | .int y :: .int x :: r => len = 1 ∧ nx (pc + 1) lv (.int (x &&& y) :: r) G k d | _ => False) := h
  split at h
  · obtain ⟨rfl, h⟩ := h
    intro H locs ls hP hS hl
    exact lv_iand X.hx X.hb hd (hnx _ _ _ _ _ _ h H locs ls hP hS hl)
  · exact h.elim
set_option maxHeartbeats 1000000 in
theorem ws_ior {len : Nat}  (hH : WpH E own cc nL A Q p l e R s m args below meth c fl nw nq oc cs hh ret mc ms RP TP) (hnx : ∀ pc lv st G k d, nx pc lv st G k d → Vj E nL A Q p l e R s m args below meth c pc lv st G k d) (hd : decode cc pc = .ok (.ior, len)) (h : wpI nL E fl nw nq oc cs hh ret mc ms RP TP nx (.ior) len pc lv st G k d) : Vj E nL A Q p l e R s m args below meth c pc lv st G k d := by
  obtain ⟨X, hmc, hms, hfl, hflF, hnw, hnq, harr_int, harr_long, hcs, hcat, hthr, hreti, hretv⟩ := hH
  replace h : (match (generalizing := false) st with | .int y :: .int x :: r => len = 1 ∧ nx (pc + 1) lv (.int (x ||| y) :: r) G k d | _ => False) := h
  split at h
  · obtain ⟨rfl, h⟩ := h
    intro H locs ls hP hS hl
    exact lv_ior X.hx X.hb hd (hnx _ _ _ _ _ _ h H locs ls hP hS hl)
  · exact h.elim
set_option maxHeartbeats 1000000 in
theorem ws_ixor {len : Nat}  (hH : WpH E own cc nL A Q p l e R s m args below meth c fl nw nq oc cs hh ret mc ms RP TP) (hnx : ∀ pc lv st G k d, nx pc lv st G k d → Vj E nL A Q p l e R s m args below meth c pc lv st G k d) (hd : decode cc pc = .ok (.ixor, len)) (h : wpI nL E fl nw nq oc cs hh ret mc ms RP TP nx (.ixor) len pc lv st G k d) : Vj E nL A Q p l e R s m args below meth c pc lv st G k d := by
  obtain ⟨X, hmc, hms, hfl, hflF, hnw, hnq, harr_int, harr_long, hcs, hcat, hthr, hreti, hretv⟩ := hH
  replace h : (match (generalizing := false) st with | .int y :: .int x :: r => len = 1 ∧ nx (pc + 1) lv (.int (x ^^^ y) :: r) G k d | _ => False) := h
  split at h
  · obtain ⟨rfl, h⟩ := h
    intro H locs ls hP hS hl
    exact lv_ixor X.hx X.hb hd (hnx _ _ _ _ _ _ h H locs ls hP hS hl)
  · exact h.elim
set_option maxHeartbeats 1000000 in
theorem ws_ishl {len : Nat}  (hH : WpH E own cc nL A Q p l e R s m args below meth c fl nw nq oc cs hh ret mc ms RP TP) (hnx : ∀ pc lv st G k d, nx pc lv st G k d → Vj E nL A Q p l e R s m args below meth c pc lv st G k d) (hd : decode cc pc = .ok (.ishl, len)) (h : wpI nL E fl nw nq oc cs hh ret mc ms RP TP nx (.ishl) len pc lv st G k d) : Vj E nL A Q p l e R s m args below meth c pc lv st G k d := by
  obtain ⟨X, hmc, hms, hfl, hflF, hnw, hnq, harr_int, harr_long, hcs, hcat, hthr, hreti, hretv⟩ := hH
  replace h : (match (generalizing := false) st with | .int y :: .int x :: r => len = 1 ∧ nx (pc + 1) lv (.int (x <<< (y &&& 31)) :: r) G k d | _ => False) := h
  split at h
  · obtain ⟨rfl, h⟩ := h
    intro H locs ls hP hS hl
    exact lv_ishl X.hx X.hb hd (hnx _ _ _ _ _ _ h H locs ls hP hS hl)
  · exact h.elim
set_option maxHeartbeats 1000000 in
theorem ws_ishr {len : Nat}  (hH : WpH E own cc nL A Q p l e R s m args below meth c fl nw nq oc cs hh ret mc ms RP TP) (hnx : ∀ pc lv st G k d, nx pc lv st G k d → Vj E nL A Q p l e R s m args below meth c pc lv st G k d) (hd : decode cc pc = .ok (.ishr, len)) (h : wpI nL E fl nw nq oc cs hh ret mc ms RP TP nx (.ishr) len pc lv st G k d) : Vj E nL A Q p l e R s m args below meth c pc lv st G k d := by
  obtain ⟨X, hmc, hms, hfl, hflF, hnw, hnq, harr_int, harr_long, hcs, hcat, hthr, hreti, hretv⟩ := hH
  replace h : (match (generalizing := false) st with | .int y :: .int x :: r => len = 1 ∧ nx (pc + 1) lv (.int (x >>> (y &&& 31)) :: r) G k d | _ => False) := h
  split at h
  · obtain ⟨rfl, h⟩ := h
    intro H locs ls hP hS hl
    exact lv_ishr X.hx X.hb hd (hnx _ _ _ _ _ _ h H locs ls hP hS hl)
  · exact h.elim
set_option maxHeartbeats 1000000 in
theorem ws_iushr {len : Nat}  (hH : WpH E own cc nL A Q p l e R s m args below meth c fl nw nq oc cs hh ret mc ms RP TP) (hnx : ∀ pc lv st G k d, nx pc lv st G k d → Vj E nL A Q p l e R s m args below meth c pc lv st G k d) (hd : decode cc pc = .ok (.iushr, len)) (h : wpI nL E fl nw nq oc cs hh ret mc ms RP TP nx (.iushr) len pc lv st G k d) : Vj E nL A Q p l e R s m args below meth c pc lv st G k d := by
  obtain ⟨X, hmc, hms, hfl, hflF, hnw, hnq, harr_int, harr_long, hcs, hcat, hthr, hreti, hretv⟩ := hH
  replace h : (match (generalizing := false) st with | .int y :: .int x :: r => len = 1 ∧ nx (pc + 1) lv (.int (x.toUInt32 >>> (y.toUInt32 &&& Int32.toUInt32 31)).toInt32 :: r) G k d | _ => False) := h
  split at h
  · obtain ⟨rfl, h⟩ := h
    intro H locs ls hP hS hl
    exact lv_iushr X.hx X.hb hd rfl (hnx _ _ _ _ _ _ h H locs ls hP hS hl)
  · exact h.elim
set_option maxHeartbeats 1000000 in
theorem ws_idiv {len : Nat}  (hH : WpH E own cc nL A Q p l e R s m args below meth c fl nw nq oc cs hh ret mc ms RP TP) (hnx : ∀ pc lv st G k d, nx pc lv st G k d → Vj E nL A Q p l e R s m args below meth c pc lv st G k d) (hd : decode cc pc = .ok (.idiv, len)) (h : wpI nL E fl nw nq oc cs hh ret mc ms RP TP nx (.idiv) len pc lv st G k d) : Vj E nL A Q p l e R s m args below meth c pc lv st G k d := by
  obtain ⟨X, hmc, hms, hfl, hflF, hnw, hnq, harr_int, harr_long, hcs, hcat, hthr, hreti, hretv⟩ := hH
  replace h : (match (generalizing := false) st with | .int y :: .int x :: r => len = 1 ∧ (¬ y = 0) ∧ nx (pc + 1) lv (.int (x / y) :: r) G k d | _ => False) := h
  split at h
  · obtain ⟨rfl, hc, h⟩ := h
    intro H locs ls hP hS hl
    exact lv_idiv X.hx X.hb hd hc (hnx _ _ _ _ _ _ h H locs ls hP hS hl)
  · exact h.elim
set_option maxHeartbeats 1000000 in
theorem ws_irem {len : Nat}  (hH : WpH E own cc nL A Q p l e R s m args below meth c fl nw nq oc cs hh ret mc ms RP TP) (hnx : ∀ pc lv st G k d, nx pc lv st G k d → Vj E nL A Q p l e R s m args below meth c pc lv st G k d) (hd : decode cc pc = .ok (.irem, len)) (h : wpI nL E fl nw nq oc cs hh ret mc ms RP TP nx (.irem) len pc lv st G k d) : Vj E nL A Q p l e R s m args below meth c pc lv st G k d := by
  obtain ⟨X, hmc, hms, hfl, hflF, hnw, hnq, harr_int, harr_long, hcs, hcat, hthr, hreti, hretv⟩ := hH
  replace h : (match (generalizing := false) st with | .int y :: .int x :: r => len = 1 ∧ (¬ y = 0) ∧ nx (pc + 1) lv (.int (x - x / y * y) :: r) G k d | _ => False) := h
  split at h
  · obtain ⟨rfl, hc, h⟩ := h
    intro H locs ls hP hS hl
    exact lv_irem X.hx X.hb hd hc (hnx _ _ _ _ _ _ h H locs ls hP hS hl)
  · exact h.elim
set_option maxHeartbeats 1000000 in
theorem ws_ineg {len : Nat}  (hH : WpH E own cc nL A Q p l e R s m args below meth c fl nw nq oc cs hh ret mc ms RP TP) (hnx : ∀ pc lv st G k d, nx pc lv st G k d → Vj E nL A Q p l e R s m args below meth c pc lv st G k d) (hd : decode cc pc = .ok (.ineg, len)) (h : wpI nL E fl nw nq oc cs hh ret mc ms RP TP nx (.ineg) len pc lv st G k d) : Vj E nL A Q p l e R s m args below meth c pc lv st G k d := by
  obtain ⟨X, hmc, hms, hfl, hflF, hnw, hnq, harr_int, harr_long, hcs, hcat, hthr, hreti, hretv⟩ := hH
  replace h : (match (generalizing := false) st with | .int x :: r => len = 1 ∧ nx (pc + 1) lv (.int (-x) :: r) G k d | _ => False) := h
  split at h
  · obtain ⟨rfl, h⟩ := h
    intro H locs ls hP hS hl
    exact lv_ineg X.hx X.hb hd (hnx _ _ _ _ _ _ h H locs ls hP hS hl)
  · exact h.elim
set_option maxHeartbeats 1000000 in
theorem ws_ladd {len : Nat}  (hH : WpH E own cc nL A Q p l e R s m args below meth c fl nw nq oc cs hh ret mc ms RP TP) (hnx : ∀ pc lv st G k d, nx pc lv st G k d → Vj E nL A Q p l e R s m args below meth c pc lv st G k d) (hd : decode cc pc = .ok (.ladd, len)) (h : wpI nL E fl nw nq oc cs hh ret mc ms RP TP nx (.ladd) len pc lv st G k d) : Vj E nL A Q p l e R s m args below meth c pc lv st G k d := by
  obtain ⟨X, hmc, hms, hfl, hflF, hnw, hnq, harr_int, harr_long, hcs, hcat, hthr, hreti, hretv⟩ := hH
  replace h : (match (generalizing := false) st with | .long y :: .long x :: r => len = 1 ∧ nx (pc + 1) lv (.long (x + y) :: r) G k d | _ => False) := h
  split at h
  · obtain ⟨rfl, h⟩ := h
    intro H locs ls hP hS hl
    exact lv_ladd X.hx X.hb hd (hnx _ _ _ _ _ _ h H locs ls hP hS hl)
  · exact h.elim
set_option maxHeartbeats 1000000 in
theorem ws_lsub {len : Nat}  (hH : WpH E own cc nL A Q p l e R s m args below meth c fl nw nq oc cs hh ret mc ms RP TP) (hnx : ∀ pc lv st G k d, nx pc lv st G k d → Vj E nL A Q p l e R s m args below meth c pc lv st G k d) (hd : decode cc pc = .ok (.lsub, len)) (h : wpI nL E fl nw nq oc cs hh ret mc ms RP TP nx (.lsub) len pc lv st G k d) : Vj E nL A Q p l e R s m args below meth c pc lv st G k d := by
  obtain ⟨X, hmc, hms, hfl, hflF, hnw, hnq, harr_int, harr_long, hcs, hcat, hthr, hreti, hretv⟩ := hH
  replace h : (match (generalizing := false) st with | .long y :: .long x :: r => len = 1 ∧ nx (pc + 1) lv (.long (x - y) :: r) G k d | _ => False) := h
  split at h
  · obtain ⟨rfl, h⟩ := h
    intro H locs ls hP hS hl
    exact lv_lsub X.hx X.hb hd (hnx _ _ _ _ _ _ h H locs ls hP hS hl)
  · exact h.elim
set_option maxHeartbeats 1000000 in
theorem ws_lmul {len : Nat}  (hH : WpH E own cc nL A Q p l e R s m args below meth c fl nw nq oc cs hh ret mc ms RP TP) (hnx : ∀ pc lv st G k d, nx pc lv st G k d → Vj E nL A Q p l e R s m args below meth c pc lv st G k d) (hd : decode cc pc = .ok (.lmul, len)) (h : wpI nL E fl nw nq oc cs hh ret mc ms RP TP nx (.lmul) len pc lv st G k d) : Vj E nL A Q p l e R s m args below meth c pc lv st G k d := by
  obtain ⟨X, hmc, hms, hfl, hflF, hnw, hnq, harr_int, harr_long, hcs, hcat, hthr, hreti, hretv⟩ := hH
  replace h : (match (generalizing := false) st with | .long y :: .long x :: r => len = 1 ∧ nx (pc + 1) lv (.long (x * y) :: r) G k d | _ => False) := h
  split at h
  · obtain ⟨rfl, h⟩ := h
    intro H locs ls hP hS hl
    exact lv_lmul X.hx X.hb hd (hnx _ _ _ _ _ _ h H locs ls hP hS hl)
  · exact h.elim
set_option maxHeartbeats 1000000 in
theorem ws_land {len : Nat}  (hH : WpH E own cc nL A Q p l e R s m args below meth c fl nw nq oc cs hh ret mc ms RP TP) (hnx : ∀ pc lv st G k d, nx pc lv st G k d → Vj E nL A Q p l e R s m args below meth c pc lv st G k d) (hd : decode cc pc = .ok (.land, len)) (h : wpI nL E fl nw nq oc cs hh ret mc ms RP TP nx (.land) len pc lv st G k d) : Vj E nL A Q p l e R s m args below meth c pc lv st G k d := by
  obtain ⟨X, hmc, hms, hfl, hflF, hnw, hnq, harr_int, harr_long, hcs, hcat, hthr, hreti, hretv⟩ := hH
  replace h : (match (generalizing := false) st with | .long y :: .long x :: r => len = 1 ∧ nx (pc + 1) lv (.long (x &&& y) :: r) G k d | _ => False) := h
  split at h
  · obtain ⟨rfl, h⟩ := h
    intro H locs ls hP hS hl
    exact lv_land X.hx X.hb hd (hnx _ _ _ _ _ _ h H locs ls hP hS hl)
  · exact h.elim
set_option maxHeartbeats 1000000 in
theorem ws_lor {len : Nat}  (hH : WpH E own cc nL A Q p l e R s m args below meth c fl nw nq oc cs hh ret mc ms RP TP) (hnx : ∀ pc lv st G k d, nx pc lv st G k d → Vj E nL A Q p l e R s m args below meth c pc lv st G k d) (hd : decode cc pc = .ok (.lor, len)) (h : wpI nL E fl nw nq oc cs hh ret mc ms RP TP nx (.lor) len pc lv st G k d) : Vj E nL A Q p l e R s m args below meth c pc lv st G k d := by
  obtain ⟨X, hmc, hms, hfl, hflF, hnw, hnq, harr_int, harr_long, hcs, hcat, hthr, hreti, hretv⟩ := hH
  replace h : (match (generalizing := false) st with | .long y :: .long x :: r => len = 1 ∧ nx (pc + 1) lv (.long (x ||| y) :: r) G k d | _ => False) := h
  split at h
  · obtain ⟨rfl, h⟩ := h
    intro H locs ls hP hS hl
    exact lv_lor X.hx X.hb hd (hnx _ _ _ _ _ _ h H locs ls hP hS hl)
  · exact h.elim
set_option maxHeartbeats 1000000 in
theorem ws_lxor {len : Nat}  (hH : WpH E own cc nL A Q p l e R s m args below meth c fl nw nq oc cs hh ret mc ms RP TP) (hnx : ∀ pc lv st G k d, nx pc lv st G k d → Vj E nL A Q p l e R s m args below meth c pc lv st G k d) (hd : decode cc pc = .ok (.lxor, len)) (h : wpI nL E fl nw nq oc cs hh ret mc ms RP TP nx (.lxor) len pc lv st G k d) : Vj E nL A Q p l e R s m args below meth c pc lv st G k d := by
  obtain ⟨X, hmc, hms, hfl, hflF, hnw, hnq, harr_int, harr_long, hcs, hcat, hthr, hreti, hretv⟩ := hH
  replace h : (match (generalizing := false) st with | .long y :: .long x :: r => len = 1 ∧ nx (pc + 1) lv (.long (x ^^^ y) :: r) G k d | _ => False) := h
  split at h
  · obtain ⟨rfl, h⟩ := h
    intro H locs ls hP hS hl
    exact lv_lxor X.hx X.hb hd (hnx _ _ _ _ _ _ h H locs ls hP hS hl)
  · exact h.elim
set_option maxHeartbeats 1000000 in
theorem ws_lshl {len : Nat}  (hH : WpH E own cc nL A Q p l e R s m args below meth c fl nw nq oc cs hh ret mc ms RP TP) (hnx : ∀ pc lv st G k d, nx pc lv st G k d → Vj E nL A Q p l e R s m args below meth c pc lv st G k d) (hd : decode cc pc = .ok (.lshl, len)) (h : wpI nL E fl nw nq oc cs hh ret mc ms RP TP nx (.lshl) len pc lv st G k d) : Vj E nL A Q p l e R s m args below meth c pc lv st G k d := by
  obtain ⟨X, hmc, hms, hfl, hflF, hnw, hnq, harr_int, harr_long, hcs, hcat, hthr, hreti, hretv⟩ := hH
  replace h : (match (generalizing := false) st with | .int y :: .long x :: r => len = 1 ∧ nx (pc + 1) lv (.long (x <<< (y.toInt64 &&& 63)) :: r) G k d | _ => False) := h
  split at h
  · obtain ⟨rfl, h⟩ := h
    intro H locs ls hP hS hl
    exact lv_lshl X.hx X.hb hd rfl (hnx _ _ _ _ _ _ h H locs ls hP hS hl)
  · exact h.elim
set_option maxHeartbeats 1000000 in
theorem ws_lushr {len : Nat}  (hH : WpH E own cc nL A Q p l e R s m args below meth c fl nw nq oc cs hh ret mc ms RP TP) (hnx : ∀ pc lv st G k d, nx pc lv st G k d → Vj E nL A Q p l e R s m args below meth c pc lv st G k d) (hd : decode cc pc = .ok (.lushr, len)) (h : wpI nL E fl nw nq oc cs hh ret mc ms RP TP nx (.lushr) len pc lv st G k d) : Vj E nL A Q p l e R s m args below meth c pc lv st G k d := by
  obtain ⟨X, hmc, hms, hfl, hflF, hnw, hnq, harr_int, harr_long, hcs, hcat, hthr, hreti, hretv⟩ := hH
  replace h : (match (generalizing := false) st with | .int y :: .long x :: r => len = 1 ∧ nx (pc + 1) lv (.long (x.toUInt64 >>> (y.toInt64.toUInt64 &&& Int64.toUInt64 63)).toInt64 :: r) G k d | _ => False) := h
  split at h
  · obtain ⟨rfl, h⟩ := h
    intro H locs ls hP hS hl
    exact lv_lushr X.hx X.hb hd rfl (hnx _ _ _ _ _ _ h H locs ls hP hS hl)
  · exact h.elim
set_option maxHeartbeats 1000000 in
theorem ws_lshr {len : Nat}  (hH : WpH E own cc nL A Q p l e R s m args below meth c fl nw nq oc cs hh ret mc ms RP TP) (hnx : ∀ pc lv st G k d, nx pc lv st G k d → Vj E nL A Q p l e R s m args below meth c pc lv st G k d) (hd : decode cc pc = .ok (.lshr, len)) (h : wpI nL E fl nw nq oc cs hh ret mc ms RP TP nx (.lshr) len pc lv st G k d) : Vj E nL A Q p l e R s m args below meth c pc lv st G k d := by
  obtain ⟨X, hmc, hms, hfl, hflF, hnw, hnq, harr_int, harr_long, hcs, hcat, hthr, hreti, hretv⟩ := hH
  replace h : (match (generalizing := false) st with | .int y :: .long x :: r => len = 1 ∧ nx (pc + 1) lv (.long (x >>> (y.toInt64 &&& 63)) :: r) G k d | _ => False) := h
  split at h
  · obtain ⟨rfl, h⟩ := h
    intro H locs ls hP hS hl
    exact lv_lshr X.hx X.hb hd rfl (hnx _ _ _ _ _ _ h H locs ls hP hS hl)
  · exact h.elim
set_option maxHeartbeats 1000000 in
theorem ws_lcmp {len : Nat}  (hH : WpH E own cc nL A Q p l e R s m args below meth c fl nw nq oc cs hh ret mc ms RP TP) (hnx : ∀ pc lv st G k d, nx pc lv st G k d → Vj E nL A Q p l e R s m args below meth c pc lv st G k d) (hd : decode cc pc = .ok (.lcmp, len)) (h : wpI nL E fl nw nq oc cs hh ret mc ms RP TP nx (.lcmp) len pc lv st G k d) : Vj E nL A Q p l e R s m args below meth c pc lv st G k d := by
  obtain ⟨X, hmc, hms, hfl, hflF, hnw, hnq, harr_int, harr_long, hcs, hcat, hthr, hreti, hretv⟩ := hH
  replace h : (match (generalizing := false) st with | .long y :: .long x :: r => len = 1 ∧ nx (pc + 1) lv (.int (lg_cmp x y) :: r) G k d | _ => False) := h
  split at h
  · obtain ⟨rfl, h⟩ := h
    intro H locs ls hP hS hl
    exact W.lcmp X.hx X.hb hd (hnx _ _ _ _ _ _ h H locs ls hP hS hl)
  · exact h.elim
set_option maxHeartbeats 1000000 in
theorem ws_i2l {len : Nat}  (hH : WpH E own cc nL A Q p l e R s m args below meth c fl nw nq oc cs hh ret mc ms RP TP) (hnx : ∀ pc lv st G k d, nx pc lv st G k d → Vj E nL A Q p l e R s m args below meth c pc lv st G k d) (hd : decode cc pc = .ok (.i2l, len)) (h : wpI nL E fl nw nq oc cs hh ret mc ms RP TP nx (.i2l) len pc lv st G k d) : Vj E nL A Q p l e R s m args below meth c pc lv st G k d := by
  obtain ⟨X, hmc, hms, hfl, hflF, hnw, hnq, harr_int, harr_long, hcs, hcat, hthr, hreti, hretv⟩ := hH
  replace h : (match (generalizing := false) st with | .int x :: r => len = 1 ∧ nx (pc + 1) lv (.long x.toInt64 :: r) G k d | _ => False) := h
  split at h
  · obtain ⟨rfl, h⟩ := h
    intro H locs ls hP hS hl
    exact lv_i2l X.hx X.hb hd rfl (hnx _ _ _ _ _ _ h H locs ls hP hS hl)
  · exact h.elim
set_option maxHeartbeats 1000000 in
theorem ws_l2i {len : Nat}  (hH : WpH E own cc nL A Q p l e R s m args below meth c fl nw nq oc cs hh ret mc ms RP TP) (hnx : ∀ pc lv st G k d, nx pc lv st G k d → Vj E nL A Q p l e R s m args below meth c pc lv st G k d) (hd : decode cc pc = .ok (.l2i, len)) (h : wpI nL E fl nw nq oc cs hh ret mc ms RP TP nx (.l2i) len pc lv st G k d) : Vj E nL A Q p l e R s m args below meth c pc lv st G k d := by
  obtain ⟨X, hmc, hms, hfl, hflF, hnw, hnq, harr_int, harr_long, hcs, hcat, hthr, hreti, hretv⟩ := hH
  replace h : (match (generalizing := false) st with | .long x :: r => len = 1 ∧ nx (pc + 1) lv (.int x.toInt32 :: r) G k d | _ => False) := h
  split at h
  · obtain ⟨rfl, h⟩ := h
    intro H locs ls hP hS hl
    exact lv_l2i X.hx X.hb hd rfl (hnx _ _ _ _ _ _ h H locs ls hP hS hl)
  · exact h.elim
set_option maxHeartbeats 1000000 in
theorem ws_i2b {len : Nat}  (hH : WpH E own cc nL A Q p l e R s m args below meth c fl nw nq oc cs hh ret mc ms RP TP) (hnx : ∀ pc lv st G k d, nx pc lv st G k d → Vj E nL A Q p l e R s m args below meth c pc lv st G k d) (hd : decode cc pc = .ok (.i2b, len)) (h : wpI nL E fl nw nq oc cs hh ret mc ms RP TP nx (.i2b) len pc lv st G k d) : Vj E nL A Q p l e R s m args below meth c pc lv st G k d := by
  obtain ⟨X, hmc, hms, hfl, hflF, hnw, hnq, harr_int, harr_long, hcs, hcat, hthr, hreti, hretv⟩ := hH
  replace h : (match (generalizing := false) st with | .int x :: r => len = 1 ∧ nx (pc + 1) lv (.int x.toInt8.toInt32 :: r) G k d | _ => False) := h
  split at h
  · obtain ⟨rfl, h⟩ := h
    intro H locs ls hP hS hl
    exact lv_i2b X.hx X.hb hd rfl (hnx _ _ _ _ _ _ h H locs ls hP hS hl)
  · exact h.elim
set_option maxHeartbeats 1000000 in
theorem ws_i2c {len : Nat}  (hH : WpH E own cc nL A Q p l e R s m args below meth c fl nw nq oc cs hh ret mc ms RP TP) (hnx : ∀ pc lv st G k d, nx pc lv st G k d → Vj E nL A Q p l e R s m args below meth c pc lv st G k d) (hd : decode cc pc = .ok (.i2c, len)) (h : wpI nL E fl nw nq oc cs hh ret mc ms RP TP nx (.i2c) len pc lv st G k d) : Vj E nL A Q p l e R s m args below meth c pc lv st G k d := by
  obtain ⟨X, hmc, hms, hfl, hflF, hnw, hnq, harr_int, harr_long, hcs, hcat, hthr, hreti, hretv⟩ := hH
  replace h : (match (generalizing := false) st with | .int x :: r => len = 1 ∧ nx (pc + 1) lv (.int (x.toUInt32 % 65536).toInt32 :: r) G k d | _ => False) := h
  split at h
  · obtain ⟨rfl, h⟩ := h
    intro H locs ls hP hS hl
    exact lv_i2c X.hx X.hb hd rfl (hnx _ _ _ _ _ _ h H locs ls hP hS hl)
  · exact h.elim
set_option maxHeartbeats 1000000 in
theorem ws_dup {len : Nat}  (hH : WpH E own cc nL A Q p l e R s m args below meth c fl nw nq oc cs hh ret mc ms RP TP) (hnx : ∀ pc lv st G k d, nx pc lv st G k d → Vj E nL A Q p l e R s m args below meth c pc lv st G k d) (hd : decode cc pc = .ok (.dup, len)) (h : wpI nL E fl nw nq oc cs hh ret mc ms RP TP nx (.dup) len pc lv st G k d) : Vj E nL A Q p l e R s m args below meth c pc lv st G k d := by
  obtain ⟨X, hmc, hms, hfl, hflF, hnw, hnq, harr_int, harr_long, hcs, hcat, hthr, hreti, hretv⟩ := hH
  replace h : (match (generalizing := false) st with | v :: r => len = 1 ∧ v.category = 1 ∧ nx (pc + 1) lv (v :: v :: r) G k d | _ => False) := h
  split at h
  · obtain ⟨rfl, hc, h⟩ := h
    intro H locs ls hP hS hl
    exact lv_dup X.hx X.hb hd hc (hnx _ _ _ _ _ _ h H locs ls hP hS hl)
  · exact h.elim
set_option maxHeartbeats 1000000 in
theorem ws_pop {len : Nat}  (hH : WpH E own cc nL A Q p l e R s m args below meth c fl nw nq oc cs hh ret mc ms RP TP) (hnx : ∀ pc lv st G k d, nx pc lv st G k d → Vj E nL A Q p l e R s m args below meth c pc lv st G k d) (hd : decode cc pc = .ok (.pop, len)) (h : wpI nL E fl nw nq oc cs hh ret mc ms RP TP nx (.pop) len pc lv st G k d) : Vj E nL A Q p l e R s m args below meth c pc lv st G k d := by
  obtain ⟨X, hmc, hms, hfl, hflF, hnw, hnq, harr_int, harr_long, hcs, hcat, hthr, hreti, hretv⟩ := hH
  replace h : (match (generalizing := false) st with | v :: r => len = 1 ∧ v.category = 1 ∧ nx (pc + 1) lv (r) G k d | _ => False) := h
  split at h
  · obtain ⟨rfl, hc, h⟩ := h
    intro H locs ls hP hS hl
    exact lv_pop X.hx X.hb hd hc (hnx _ _ _ _ _ _ h H locs ls hP hS hl)
  · exact h.elim
set_option maxHeartbeats 1000000 in
theorem ws_dup_x1 {len : Nat}  (hH : WpH E own cc nL A Q p l e R s m args below meth c fl nw nq oc cs hh ret mc ms RP TP) (hnx : ∀ pc lv st G k d, nx pc lv st G k d → Vj E nL A Q p l e R s m args below meth c pc lv st G k d) (hd : decode cc pc = .ok (.dup_x1, len)) (h : wpI nL E fl nw nq oc cs hh ret mc ms RP TP nx (.dup_x1) len pc lv st G k d) : Vj E nL A Q p l e R s m args below meth c pc lv st G k d := by
  obtain ⟨X, hmc, hms, hfl, hflF, hnw, hnq, harr_int, harr_long, hcs, hcat, hthr, hreti, hretv⟩ := hH
  replace h : (match (generalizing := false) st with | v :: w :: r => len = 1 ∧ (v.category = 1 ∧ w.category = 1) ∧ nx (pc + 1) lv (v :: w :: v :: r) G k d | _ => False) := h
  split at h
  · obtain ⟨rfl, hc, h⟩ := h
    intro H locs ls hP hS hl
    exact lv_dup_x1 X.hx X.hb hd hc.1 hc.2 (hnx _ _ _ _ _ _ h H locs ls hP hS hl)
  · exact h.elim
set_option maxHeartbeats 1000000 in
theorem ws_dup_x2 {len : Nat}  (hH : WpH E own cc nL A Q p l e R s m args below meth c fl nw nq oc cs hh ret mc ms RP TP) (hnx : ∀ pc lv st G k d, nx pc lv st G k d → Vj E nL A Q p l e R s m args below meth c pc lv st G k d) (hd : decode cc pc = .ok (.dup_x2, len)) (h : wpI nL E fl nw nq oc cs hh ret mc ms RP TP nx (.dup_x2) len pc lv st G k d) : Vj E nL A Q p l e R s m args below meth c pc lv st G k d := by
  obtain ⟨X, hmc, hms, hfl, hflF, hnw, hnq, harr_int, harr_long, hcs, hcat, hthr, hreti, hretv⟩ := hH
  replace h : (match (generalizing := false) st with | v :: w :: u :: r => len = 1 ∧ (v.category = 1 ∧ w.category = 1 ∧ u.category = 1) ∧ nx (pc + 1) lv (v :: w :: u :: v :: r) G k d | _ => False) := h
  split at h
  · obtain ⟨rfl, hc, h⟩ := h
    intro H locs ls hP hS hl
    exact lv_dup_x2 X.hx X.hb hd hc.1 hc.2.1 hc.2.2 (hnx _ _ _ _ _ _ h H locs ls hP hS hl)
  · exact h.elim
set_option maxHeartbeats 1000000 in
theorem ws_dup2 {len : Nat}  (hH : WpH E own cc nL A Q p l e R s m args below meth c fl nw nq oc cs hh ret mc ms RP TP) (hnx : ∀ pc lv st G k d, nx pc lv st G k d → Vj E nL A Q p l e R s m args below meth c pc lv st G k d) (hd : decode cc pc = .ok (.dup2, len)) (h : wpI nL E fl nw nq oc cs hh ret mc ms RP TP nx (.dup2) len pc lv st G k d) : Vj E nL A Q p l e R s m args below meth c pc lv st G k d := by
  obtain ⟨X, hmc, hms, hfl, hflF, hnw, hnq, harr_int, harr_long, hcs, hcat, hthr, hreti, hretv⟩ := hH
  replace h : (match (generalizing := false) st with | v :: w :: r => len = 1 ∧ (v.category = 1 ∧ w.category = 1) ∧ nx (pc + 1) lv (v :: w :: v :: w :: r) G k d | _ => False) := h
  split at h
  · obtain ⟨rfl, hc, h⟩ := h
    intro H locs ls hP hS hl
    exact lv_dup2_11 X.hx X.hb hd hc.1 hc.2 (hnx _ _ _ _ _ _ h H locs ls hP hS hl)
  · exact h.elim
set_option maxHeartbeats 1000000 in
theorem ws_iload_n {len : Nat} {n : Fin 4} (hH : WpH E own cc nL A Q p l e R s m args below meth c fl nw nq oc cs hh ret mc ms RP TP) (hnx : ∀ pc lv st G k d, nx pc lv st G k d → Vj E nL A Q p l e R s m args below meth c pc lv st G k d) (hd : decode cc pc = .ok (.iload_n n, len)) (h : wpI nL E fl nw nq oc cs hh ret mc ms RP TP nx (.iload_n n) len pc lv st G k d) : Vj E nL A Q p l e R s m args below meth c pc lv st G k d := by
  obtain ⟨X, hmc, hms, hfl, hflF, hnw, hnq, harr_int, harr_long, hcs, hcat, hthr, hreti, hretv⟩ := hH
  replace h : len = 1 ∧ (match (generalizing := false) lg lv n.val with | some (.int x) => nx (pc + 1) lv (.int x :: st) G k d | _ => False) := h
  obtain ⟨rfl, h⟩ := h
  split at h
  · rename_i x hx0
    intro H locs ls hP hS hl
    exact lv_iload_n X.hx X.hb hd rfl (hl.2.2 _ (lg_mem hx0)) (hnx _ _ _ _ _ _ h H locs ls hP hS hl)
  · exact h.elim
set_option maxHeartbeats 1000000 in
theorem ws_iload {len : Nat} {n : Nat} (hH : WpH E own cc nL A Q p l e R s m args below meth c fl nw nq oc cs hh ret mc ms RP TP) (hnx : ∀ pc lv st G k d, nx pc lv st G k d → Vj E nL A Q p l e R s m args below meth c pc lv st G k d) (hd : decode cc pc = .ok (.iload n, len)) (h : wpI nL E fl nw nq oc cs hh ret mc ms RP TP nx (.iload n) len pc lv st G k d) : Vj E nL A Q p l e R s m args below meth c pc lv st G k d := by
  obtain ⟨X, hmc, hms, hfl, hflF, hnw, hnq, harr_int, harr_long, hcs, hcat, hthr, hreti, hretv⟩ := hH
  replace h : len = 2 ∧ (match (generalizing := false) lg lv n with | some (.int x) => nx (pc + 2) lv (.int x :: st) G k d | _ => False) := h
  obtain ⟨rfl, h⟩ := h
  split at h
  · rename_i x hx0
    intro H locs ls hP hS hl
    exact lv_iload X.hx X.hb hd (hl.2.2 _ (lg_mem hx0)) (hnx _ _ _ _ _ _ h H locs ls hP hS hl)
  · exact h.elim
set_option maxHeartbeats 1000000 in
theorem ws_lload_n {len : Nat} {n : Fin 4} (hH : WpH E own cc nL A Q p l e R s m args below meth c fl nw nq oc cs hh ret mc ms RP TP) (hnx : ∀ pc lv st G k d, nx pc lv st G k d → Vj E nL A Q p l e R s m args below meth c pc lv st G k d) (hd : decode cc pc = .ok (.lload_n n, len)) (h : wpI nL E fl nw nq oc cs hh ret mc ms RP TP nx (.lload_n n) len pc lv st G k d) : Vj E nL A Q p l e R s m args below meth c pc lv st G k d := by
  obtain ⟨X, hmc, hms, hfl, hflF, hnw, hnq, harr_int, harr_long, hcs, hcat, hthr, hreti, hretv⟩ := hH
  replace h : len = 1 ∧ (match (generalizing := false) lg lv n.val with | some (.long x) => nx (pc + 1) lv (.long x :: st) G k d | _ => False) := h
  obtain ⟨rfl, h⟩ := h
  split at h
  · rename_i x hx0
    intro H locs ls hP hS hl
    exact lv_lload_n X.hx X.hb hd rfl (hl.2.2 _ (lg_mem hx0)) (hnx _ _ _ _ _ _ h H locs ls hP hS hl)
  · exact h.elim
set_option maxHeartbeats 1000000 in
theorem ws_lload {len : Nat} {n : Nat} (hH : WpH E own cc nL A Q p l e R s m args below meth c fl nw nq oc cs hh ret mc ms RP TP) (hnx : ∀ pc lv st G k d, nx pc lv st G k d → Vj E nL A Q p l e R s m args below meth c pc lv st G k d) (hd : decode cc pc = .ok (.lload n, len)) (h : wpI nL E fl nw nq oc cs hh ret mc ms RP TP nx (.lload n) len pc lv st G k d) : Vj E nL A Q p l e R s m args below meth c pc lv st G k d := by
  obtain ⟨X, hmc, hms, hfl, hflF, hnw, hnq, harr_int, harr_long, hcs, hcat, hthr, hreti, hretv⟩ := hH
  replace h : len = 2 ∧ (match (generalizing := false) lg lv n with | some (.long x) => nx (pc + 2) lv (.long x :: st) G k d | _ => False) := h
  obtain ⟨rfl, h⟩ := h
  split at h
  · rename_i x hx0
    intro H locs ls hP hS hl
    exact lv_lload X.hx X.hb hd (hl.2.2 _ (lg_mem hx0)) (hnx _ _ _ _ _ _ h H locs ls hP hS hl)
  · exact h.elim
set_option maxHeartbeats 1000000 in
theorem ws_aload_n {len : Nat} {n : Fin 4} (hH : WpH E own cc nL A Q p l e R s m args below meth c fl nw nq oc cs hh ret mc ms RP TP) (hnx : ∀ pc lv st G k d, nx pc lv st G k d → Vj E nL A Q p l e R s m args below meth c pc lv st G k d) (hd : decode cc pc = .ok (.aload_n n, len)) (h : wpI nL E fl nw nq oc cs hh ret mc ms RP TP nx (.aload_n n) len pc lv st G k d) : Vj E nL A Q p l e R s m args below meth c pc lv st G k d := by
  obtain ⟨X, hmc, hms, hfl, hflF, hnw, hnq, harr_int, harr_long, hcs, hcat, hthr, hreti, hretv⟩ := hH
  replace h : len = 1 ∧ (match (generalizing := false) lg lv n.val with | some (.ref x) => nx (pc + 1) lv (.ref x :: st) G k d | some .null => nx (pc + 1) lv (.null :: st) G k d | _ => False) := h
  obtain ⟨rfl, h⟩ := h
  split at h
  · rename_i x hx0
    intro H locs ls hP hS hl
    exact lv_aload_n X.hx X.hb hd rfl (hl.2.2 _ (lg_mem hx0)) (hnx _ _ _ _ _ _ h H locs ls hP hS hl)
  · rename_i hx0
    intro H locs ls hP hS hl
    exact lv_aload_nN X.hx X.hb hd rfl (hl.2.2 _ (lg_mem hx0)) (hnx _ _ _ _ _ _ h H locs ls hP hS hl)
  · exact h.elim
set_option maxHeartbeats 1000000 in
theorem ws_aload {len : Nat} {n : Nat} (hH : WpH E own cc nL A Q p l e R s m args below meth c fl nw nq oc cs hh ret mc ms RP TP) (hnx : ∀ pc lv st G k d, nx pc lv st G k d → Vj E nL A Q p l e R s m args below meth c pc lv st G k d) (hd : decode cc pc = .ok (.aload n, len)) (h : wpI nL E fl nw nq oc cs hh ret mc ms RP TP nx (.aload n) len pc lv st G k d) : Vj E nL A Q p l e R s m args below meth c pc lv st G k d := by
  obtain ⟨X, hmc, hms, hfl, hflF, hnw, hnq, harr_int, harr_long, hcs, hcat, hthr, hreti, hretv⟩ := hH
  replace h : len = 2 ∧ (match (generalizing := false) lg lv n with | some (.ref x) => nx (pc + 2) lv (.ref x :: st) G k d | some .null => nx (pc + 2) lv (.null :: st) G k d | _ => False) := h
  obtain ⟨rfl, h⟩ := h
  split at h
  · rename_i x hx0
    intro H locs ls hP hS hl
    exact lv_aload X.hx X.hb hd (hl.2.2 _ (lg_mem hx0)) (hnx _ _ _ _ _ _ h H locs ls hP hS hl)
  · rename_i hx0
    intro H locs ls hP hS hl
    exact lv_aloadN X.hx X.hb hd (hl.2.2 _ (lg_mem hx0)) (hnx _ _ _ _ _ _ h H locs ls hP hS hl)
  · exact h.elim
set_option maxHeartbeats 1000000 in
theorem ws_istore_n {len : Nat} {n : Fin 4} (hH : WpH E own cc nL A Q p l e R s m args below meth c fl nw nq oc cs hh ret mc ms RP TP) (hnx : ∀ pc lv st G k d, nx pc lv st G k d → Vj E nL A Q p l e R s m args below meth c pc lv st G k d) (hd : decode cc pc = .ok (.istore_n n, len)) (h : wpI nL E fl nw nq oc cs hh ret mc ms RP TP nx (.istore_n n) len pc lv st G k d) : Vj E nL A Q p l e R s m args below meth c pc lv st G k d := by
  obtain ⟨X, hmc, hms, hfl, hflF, hnw, hnq, harr_int, harr_long, hcs, hcat, hthr, hreti, hretv⟩ := hH
  replace h : (match (generalizing := false) st with | .int x :: r => len = 1 ∧ n.val < nL ∧ nx (pc + 1) (lset lv n.val (.int x)) r G k d | _ => False) := h
  split at h
  · obtain ⟨rfl, hn, h⟩ := h
    intro H locs ls hP hS hl
    exact lv_istore_n X.hx X.hb hd rfl hl hn rfl (fun ls2 hl2 => hnx _ _ _ _ _ _ h H locs ls2 hP hS (lv_mono hl2 lset_in))
  · exact h.elim
set_option maxHeartbeats 1000000 in
theorem ws_istore {len : Nat} {n : Nat} (hH : WpH E own cc nL A Q p l e R s m args below meth c fl nw nq oc cs hh ret mc ms RP TP) (hnx : ∀ pc lv st G k d, nx pc lv st G k d → Vj E nL A Q p l e R s m args below meth c pc lv st G k d) (hd : decode cc pc = .ok (.istore n, len)) (h : wpI nL E fl nw nq oc cs hh ret mc ms RP TP nx (.istore n) len pc lv st G k d) : Vj E nL A Q p l e R s m args below meth c pc lv st G k d := by
  obtain ⟨X, hmc, hms, hfl, hflF, hnw, hnq, harr_int, harr_long, hcs, hcat, hthr, hreti, hretv⟩ := hH
  replace h : (match (generalizing := false) st with | .int x :: r => len = 2 ∧ n < nL ∧ nx (pc + 2) (lset lv n (.int x)) r G k d | _ => False) := h
  split at h
  · obtain ⟨rfl, hn, h⟩ := h
    intro H locs ls hP hS hl
    exact lv_istore X.hx X.hb hd hl hn rfl (fun ls2 hl2 => hnx _ _ _ _ _ _ h H locs ls2 hP hS (lv_mono hl2 lset_in))
  · exact h.elim
set_option maxHeartbeats 1000000 in
theorem ws_lstore_n {len : Nat} {n : Fin 4} (hH : WpH E own cc nL A Q p l e R s m args below meth c fl nw nq oc cs hh ret mc ms RP TP) (hnx : ∀ pc lv st G k d, nx pc lv st G k d → Vj E nL A Q p l e R s m args below meth c pc lv st G k d) (hd : decode cc pc = .ok (.lstore_n n, len)) (h : wpI nL E fl nw nq oc cs hh ret mc ms RP TP nx (.lstore_n n) len pc lv st G k d) : Vj E nL A Q p l e R s m args below meth c pc lv st G k d := by
  obtain ⟨X, hmc, hms, hfl, hflF, hnw, hnq, harr_int, harr_long, hcs, hcat, hthr, hreti, hretv⟩ := hH
  replace h : (match (generalizing := false) st with | .long x :: r => len = 1 ∧ n.val + 1 < nL ∧ nx (pc + 1) (lset2 lv n.val (.long x)) r G k d | _ => False) := h
  split at h
  · obtain ⟨rfl, hn, h⟩ := h
    intro H locs ls hP hS hl
    exact lv_lstore_n X.hx X.hb hd rfl hl hn rfl (fun ls2 hl2 => hnx _ _ _ _ _ _ h H locs ls2 hP hS (lv_mono hl2 lset2_in))
  · exact h.elim
set_option maxHeartbeats 1000000 in
theorem ws_lstore {len : Nat} {n : Nat} (hH : WpH E own cc nL A Q p l e R s m args below meth c fl nw nq oc cs hh ret mc ms RP TP) (hnx : ∀ pc lv st G k d, nx pc lv st G k d → Vj E nL A Q p l e R s m args below meth c pc lv st G k d) (hd : decode cc pc = .ok (.lstore n, len)) (h : wpI nL E fl nw nq oc cs hh ret mc ms RP TP nx (.lstore n) len pc lv st G k d) : Vj E nL A Q p l e R s m args below meth c pc lv st G k d := by
  obtain ⟨X, hmc, hms, hfl, hflF, hnw, hnq, harr_int, harr_long, hcs, hcat, hthr, hreti, hretv⟩ := hH
  replace h : (match (generalizing := false) st with | .long x :: r => len = 2 ∧ n + 1 < nL ∧ nx (pc + 2) (lset2 lv n (.long x)) r G k d | _ => False) := h
  split at h
  · obtain ⟨rfl, hn, h⟩ := h
    intro H locs ls hP hS hl
    exact lv_lstore X.hx X.hb hd hl hn rfl (fun ls2 hl2 => hnx _ _ _ _ _ _ h H locs ls2 hP hS (lv_mono hl2 lset2_in))
  · exact h.elim
set_option maxHeartbeats 1000000 in
theorem ws_astore_n {len : Nat} {n : Fin 4} (hH : WpH E own cc nL A Q p l e R s m args below meth c fl nw nq oc cs hh ret mc ms RP TP) (hnx : ∀ pc lv st G k d, nx pc lv st G k d → Vj E nL A Q p l e R s m args below meth c pc lv st G k d) (hd : decode cc pc = .ok (.astore_n n, len)) (h : wpI nL E fl nw nq oc cs hh ret mc ms RP TP nx (.astore_n n) len pc lv st G k d) : Vj E nL A Q p l e R s m args below meth c pc lv st G k d := by
  obtain ⟨X, hmc, hms, hfl, hflF, hnw, hnq, harr_int, harr_long, hcs, hcat, hthr, hreti, hretv⟩ := hH
  replace h : (match (generalizing := false) st with | .ref x :: r => len = 1 ∧ n.val < nL ∧ nx (pc + 1) (lset lv n.val (.ref x)) r G k d | .null :: r => len = 1 ∧ n.val < nL ∧ nx (pc + 1) (lset lv n.val .null) r G k d | _ => False) := h
  split at h
  · obtain ⟨rfl, hn, h⟩ := h
    intro H locs ls hP hS hl
    exact lv_astore_n X.hx X.hb hd rfl hl hn rfl (fun ls2 hl2 => hnx _ _ _ _ _ _ h H locs ls2 hP hS (lv_mono hl2 lset_in))
  · obtain ⟨rfl, hn, h⟩ := h
    intro H locs ls hP hS hl
    exact lv_astore_nN X.hx X.hb hd rfl hl hn rfl (fun ls2 hl2 => hnx _ _ _ _ _ _ h H locs ls2 hP hS (lv_mono hl2 lset_in))
  · exact h.elim
set_option maxHeartbeats 1000000 in
theorem ws_astore {len : Nat} {n : Nat} (hH : WpH E own cc nL A Q p l e R s m args below meth c fl nw nq oc cs hh ret mc ms RP TP) (hnx : ∀ pc lv st G k d, nx pc lv st G k d → Vj E nL A Q p l e R s m args below meth c pc lv st G k d) (hd : decode cc pc = .ok (.astore n, len)) (h : wpI nL E fl nw nq oc cs hh ret mc ms RP TP nx (.astore n) len pc lv st G k d) : Vj E nL A Q p l e R s m args below meth c pc lv st G k d := by
  obtain ⟨X, hmc, hms, hfl, hflF, hnw, hnq, harr_int, harr_long, hcs, hcat, hthr, hreti, hretv⟩ := hH
  replace h : (match (generalizing := false) st with | .ref x :: r => len = 2 ∧ n < nL ∧ nx (pc + 2) (lset lv n (.ref x)) r G k d | .null :: r => len = 2 ∧ n < nL ∧ nx (pc + 2) (lset lv n .null) r G k d | _ => False) := h
  split at h
  · obtain ⟨rfl, hn, h⟩ := h
    intro H locs ls hP hS hl
    exact lv_astore X.hx X.hb hd hl hn rfl (fun ls2 hl2 => hnx _ _ _ _ _ _ h H locs ls2 hP hS (lv_mono hl2 lset_in))
  · obtain ⟨rfl, hn, h⟩ := h
    intro H locs ls hP hS hl
    exact lv_astoreN X.hx X.hb hd hl hn rfl (fun ls2 hl2 => hnx _ _ _ _ _ _ h H locs ls2 hP hS (lv_mono hl2 lset_in))
  · exact h.elim
set_option maxHeartbeats 1000000 in
theorem ws_iinc {len : Nat} {n : Nat} {z : Int} (hH : WpH E own cc nL A Q p l e R s m args below meth c fl nw nq oc cs hh ret mc ms RP TP) (hnx : ∀ pc lv st G k d, nx pc lv st G k d → Vj E nL A Q p l e R s m args below meth c pc lv st G k d) (hd : decode cc pc = .ok (.iinc n z, len)) (h : wpI nL E fl nw nq oc cs hh ret mc ms RP TP nx (.iinc n z) len pc lv st G k d) : Vj E nL A Q p l e R s m args below meth c pc lv st G k d := by
  obtain ⟨X, hmc, hms, hfl, hflF, hnw, hnq, harr_int, harr_long, hcs, hcat, hthr, hreti, hretv⟩ := hH
  replace h : len = 3 ∧ n < nL ∧ (match (generalizing := false) lg lv n with | some (.int x) => nx (pc + 3) (lset lv n (.int (x + Int32.ofInt z))) st G k d | _ => False) := h
  obtain ⟨rfl, hn, h⟩ := h
  split at h
  · rename_i x hx0
    intro H locs ls hP hS hl
    obtain ⟨q, hq⟩ := List.getElem?_of_mem (lg_mem hx0)
    exact lv_iinc X.hx X.hb hd hl hq rfl hn rfl (fun ls2 hl2 => hnx _ _ _ _ _ _ h H locs ls2 hP hS (lv_mono hl2 lset_in))
  · exact h.elim
set_option maxHeartbeats 1000000 in
theorem ws_if_eq {len : Nat} {off : Int} (hH : WpH E own cc nL A Q p l e R s m args below meth c fl nw nq oc cs hh ret mc ms RP TP) (hnx : ∀ pc lv st G k d, nx pc lv st G k d → Vj E nL A Q p l e R s m args below meth c pc lv st G k d) (hd : decode cc pc = .ok (.ifCond .eq off, len)) (h : wpI nL E fl nw nq oc cs hh ret mc ms RP TP nx (.ifCond .eq off) len pc lv st G k d) : Vj E nL A Q p l e R s m args below meth c pc lv st G k d := by
  obtain ⟨X, hmc, hms, hfl, hflF, hnw, hnq, harr_int, harr_long, hcs, hcat, hthr, hreti, hretv⟩ := hH
  replace h : (match (generalizing := false) st with | .int x :: r => len = 3 ∧ 0 ≤ (pc : Int) + off ∧ (x = 0 → nx (tg pc off) lv r G k d) ∧ (¬ x = 0 → nx (pc + 3) lv r G k d) | _ => False) := h
  split at h
  · obtain ⟨rfl, ho, h1, h2⟩ := h
    intro H locs ls hP hS hl
    exact lv_if_eq X.hx X.hb hd (tg_eq ho) (fun q => hnx _ _ _ _ _ _ (h1 q) H locs ls hP hS hl) (fun q => hnx _ _ _ _ _ _ (h2 q) H locs ls hP hS hl)
  · exact h.elim
set_option maxHeartbeats 1000000 in
theorem ws_icmp_eq {len : Nat} {off : Int} (hH : WpH E own cc nL A Q p l e R s m args below meth c fl nw nq oc cs hh ret mc ms RP TP) (hnx : ∀ pc lv st G k d, nx pc lv st G k d → Vj E nL A Q p l e R s m args below meth c pc lv st G k d) (hd : decode cc pc = .ok (.if_icmp .eq off, len)) (h : wpI nL E fl nw nq oc cs hh ret mc ms RP TP nx (.if_icmp .eq off) len pc lv st G k d) : Vj E nL A Q p l e R s m args below meth c pc lv st G k d := by
  obtain ⟨X, hmc, hms, hfl, hflF, hnw, hnq, harr_int, harr_long, hcs, hcat, hthr, hreti, hretv⟩ := hH
  replace h : (match (generalizing := false) st with | .int y :: .int x :: r => len = 3 ∧ 0 ≤ (pc : Int) + off ∧ (x = y → nx (tg pc off) lv r G k d) ∧ (¬ x = y → nx (pc + 3) lv r G k d) | _ => False) := h
  split at h
  · obtain ⟨rfl, ho, h1, h2⟩ := h
    intro H locs ls hP hS hl
    exact lv_icmp_eq X.hx X.hb hd (tg_eq ho) (fun q => hnx _ _ _ _ _ _ (h1 q) H locs ls hP hS hl) (fun q => hnx _ _ _ _ _ _ (h2 q) H locs ls hP hS hl)
  · exact h.elim
set_option maxHeartbeats 1000000 in
theorem ws_if_ne {len : Nat} {off : Int} (hH : WpH E own cc nL A Q p l e R s m args below meth c fl nw nq oc cs hh ret mc ms RP TP) (hnx : ∀ pc lv st G k d, nx pc lv st G k d → Vj E nL A Q p l e R s m args below meth c pc lv st G k d) (hd : decode cc pc = .ok (.ifCond .ne off, len)) (h : wpI nL E fl nw nq oc cs hh ret mc ms RP TP nx (.ifCond .ne off) len pc lv st G k d) : Vj E nL A Q p l e R s m args below meth c pc lv st G k d := by
  obtain ⟨X, hmc, hms, hfl, hflF, hnw, hnq, harr_int, harr_long, hcs, hcat, hthr, hreti, hretv⟩ := hH
  replace h : (match (generalizing := false) st with | .int x :: r => len = 3 ∧ 0 ≤ (pc : Int) + off ∧ (¬ x = 0 → nx (tg pc off) lv r G k d) ∧ (x = 0 → nx (pc + 3) lv r G k d) | _ => False) := h
  split at h
  · obtain ⟨rfl, ho, h1, h2⟩ := h
    intro H locs ls hP hS hl
    exact lv_if_ne X.hx X.hb hd (tg_eq ho) (fun q => hnx _ _ _ _ _ _ (h1 q) H locs ls hP hS hl) (fun q => hnx _ _ _ _ _ _ (h2 q) H locs ls hP hS hl)
  · exact h.elim
set_option maxHeartbeats 1000000 in
theorem ws_icmp_ne {len : Nat} {off : Int} (hH : WpH E own cc nL A Q p l e R s m args below meth c fl nw nq oc cs hh ret mc ms RP TP) (hnx : ∀ pc lv st G k d, nx pc lv st G k d → Vj E nL A Q p l e R s m args below meth c pc lv st G k d) (hd : decode cc pc = .ok (.if_icmp .ne off, len)) (h : wpI nL E fl nw nq oc cs hh ret mc ms RP TP nx (.if_icmp .ne off) len pc lv st G k d) : Vj E nL A Q p l e R s m args below meth c pc lv st G k d := by
  obtain ⟨X, hmc, hms, hfl, hflF, hnw, hnq, harr_int, harr_long, hcs, hcat, hthr, hreti, hretv⟩ := hH
  replace h : (match (generalizing := false) st with | .int y :: .int x :: r => len = 3 ∧ 0 ≤ (pc : Int) + off ∧ (¬ x = y → nx (tg pc off) lv r G k d) ∧ (x = y → nx (pc + 3) lv r G k d) | _ => False) := h
  split at h
  · obtain ⟨rfl, ho, h1, h2⟩ := h
    intro H locs ls hP hS hl
    exact lv_icmp_ne X.hx X.hb hd (tg_eq ho) (fun q => hnx _ _ _ _ _ _ (h1 q) H locs ls hP hS hl) (fun q => hnx _ _ _ _ _ _ (h2 q) H locs ls hP hS hl)
  · exact h.elim
set_option maxHeartbeats 1000000 in
theorem ws_if_lt {len : Nat} {off : Int} (hH : WpH E own cc nL A Q p l e R s m args below meth c fl nw nq oc cs hh ret mc ms RP TP) (hnx : ∀ pc lv st G k d, nx pc lv st G k d → Vj E nL A Q p l e R s m args below meth c pc lv st G k d) (hd : decode cc pc = .ok (.ifCond .lt off, len)) (h : wpI nL E fl nw nq oc cs hh ret mc ms RP TP nx (.ifCond .lt off) len pc lv st G k d) : Vj E nL A Q p l e R s m args below meth c pc lv st G k d := by
  obtain ⟨X, hmc, hms, hfl, hflF, hnw, hnq, harr_int, harr_long, hcs, hcat, hthr, hreti, hretv⟩ := hH
  replace h : (match (generalizing := false) st with | .int x :: r => len = 3 ∧ 0 ≤ (pc : Int) + off ∧ (x < 0 → nx (tg pc off) lv r G k d) ∧ (¬ x < 0 → nx (pc + 3) lv r G k d) | _ => False) := h
  split at h
  · obtain ⟨rfl, ho, h1, h2⟩ := h
    intro H locs ls hP hS hl
    exact lv_if_lt X.hx X.hb hd (tg_eq ho) (fun q => hnx _ _ _ _ _ _ (h1 q) H locs ls hP hS hl) (fun q => hnx _ _ _ _ _ _ (h2 q) H locs ls hP hS hl)
  · exact h.elim
set_option maxHeartbeats 1000000 in
theorem ws_icmp_lt {len : Nat} {off : Int} (hH : WpH E own cc nL A Q p l e R s m args below meth c fl nw nq oc cs hh ret mc ms RP TP) (hnx : ∀ pc lv st G k d, nx pc lv st G k d → Vj E nL A Q p l e R s m args below meth c pc lv st G k d) (hd : decode cc pc = .ok (.if_icmp .lt off, len)) (h : wpI nL E fl nw nq oc cs hh ret mc ms RP TP nx (.if_icmp .lt off) len pc lv st G k d) : Vj E nL A Q p l e R s m args below meth c pc lv st G k d := by
  obtain ⟨X, hmc, hms, hfl, hflF, hnw, hnq, harr_int, harr_long, hcs, hcat, hthr, hreti, hretv⟩ := hH
  replace h : (match (generalizing := false) st with | .int y :: .int x :: r => len = 3 ∧ 0 ≤ (pc : Int) + off ∧ (x < y → nx (tg pc off) lv r G k d) ∧ (¬ x < y → nx (pc + 3) lv r G k d) | _ => False) := h
  split at h
  · obtain ⟨rfl, ho, h1, h2⟩ := h
    intro H locs ls hP hS hl
    exact lv_icmp_lt X.hx X.hb hd (tg_eq ho) (fun q => hnx _ _ _ _ _ _ (h1 q) H locs ls hP hS hl) (fun q => hnx _ _ _ _ _ _ (h2 q) H locs ls hP hS hl)
  · exact h.elim
set_option maxHeartbeats 1000000 in
theorem ws_if_ge {len : Nat} {off : Int} (hH : WpH E own cc nL A Q p l e R s m args below meth c fl nw nq oc cs hh ret mc ms RP TP) (hnx : ∀ pc lv st G k d, nx pc lv st G k d → Vj E nL A Q p l e R s m args below meth c pc lv st G k d) (hd : decode cc pc = .ok (.ifCond .ge off, len)) (h : wpI nL E fl nw nq oc cs hh ret mc ms RP TP nx (.ifCond .ge off) len pc lv st G k d) : Vj E nL A Q p l e R s m args below meth c pc lv st G k d := by
  obtain ⟨X, hmc, hms, hfl, hflF, hnw, hnq, harr_int, harr_long, hcs, hcat, hthr, hreti, hretv⟩ := hH
  replace h : (match (generalizing := false) st with | .int x :: r => len = 3 ∧ 0 ≤ (pc : Int) + off ∧ (0 ≤ x → nx (tg pc off) lv r G k d) ∧ (¬ 0 ≤ x → nx (pc + 3) lv r G k d) | _ => False) := h
  split at h
  · obtain ⟨rfl, ho, h1, h2⟩ := h
    intro H locs ls hP hS hl
    exact lv_if_ge X.hx X.hb hd (tg_eq ho) (fun q => hnx _ _ _ _ _ _ (h1 q) H locs ls hP hS hl) (fun q => hnx _ _ _ _ _ _ (h2 q) H locs ls hP hS hl)
  · exact h.elim
set_option maxHeartbeats 1000000 in
theorem ws_icmp_ge {len : Nat} {off : Int} (hH : WpH E own cc nL A Q p l e R s m args below meth c fl nw nq oc cs hh ret mc ms RP TP) (hnx : ∀ pc lv st G k d, nx pc lv st G k d → Vj E nL A Q p l e R s m args below meth c pc lv st G k d) (hd : decode cc pc = .ok (.if_icmp .ge off, len)) (h : wpI nL E fl nw nq oc cs hh ret mc ms RP TP nx (.if_icmp .ge off) len pc lv st G k d) : Vj E nL A Q p l e R s m args below meth c pc lv st G k d := by
  obtain ⟨X, hmc, hms, hfl, hflF, hnw, hnq, harr_int, harr_long, hcs, hcat, hthr, hreti, hretv⟩ := hH
  replace h : (match (generalizing := false) st with | .int y :: .int x :: r => len = 3 ∧ 0 ≤ (pc : Int) + off ∧ (y ≤ x → nx (tg pc off) lv r G k d) ∧ (¬ y ≤ x → nx (pc + 3) lv r G k d) | _ => False) := h
  split at h
  · obtain ⟨rfl, ho, h1, h2⟩ := h
    intro H locs ls hP hS hl
    exact lv_icmp_ge X.hx X.hb hd (tg_eq ho) (fun q => hnx _ _ _ _ _ _ (h1 q) H locs ls hP hS hl) (fun q => hnx _ _ _ _ _ _ (h2 q) H locs ls hP hS hl)
  · exact h.elim
set_option maxHeartbeats 1000000 in
theorem ws_if_gt {len : Nat} {off : Int} (hH : WpH E own cc nL A Q p l e R s m args below meth c fl nw nq oc cs hh ret mc ms RP TP) (hnx : ∀ pc lv st G k d, nx pc lv st G k d → Vj E nL A Q p l e R s m args below meth c pc lv st G k d) (hd : decode cc pc = .ok (.ifCond .gt off, len)) (h : wpI nL E fl nw nq oc cs hh ret mc ms RP TP nx (.ifCond .gt off) len pc lv st G k d) : Vj E nL A Q p l e R s m args below meth c pc lv st G k d := by
  obtain ⟨X, hmc, hms, hfl, hflF, hnw, hnq, harr_int, harr_long, hcs, hcat, hthr, hreti, hretv⟩ := hH
  replace h : (match (generalizing := false) st with | .int x :: r => len = 3 ∧ 0 ≤ (pc : Int) + off ∧ (0 < x → nx (tg pc off) lv r G k d) ∧ (¬ 0 < x → nx (pc + 3) lv r G k d) | _ => False) := h
  split at h
  · obtain ⟨rfl, ho, h1, h2⟩ := h
    intro H locs ls hP hS hl
    exact lv_if_gt X.hx X.hb hd (tg_eq ho) (fun q => hnx _ _ _ _ _ _ (h1 q) H locs ls hP hS hl) (fun q => hnx _ _ _ _ _ _ (h2 q) H locs ls hP hS hl)
  · exact h.elim
set_option maxHeartbeats 1000000 in
theorem ws_icmp_gt {len : Nat} {off : Int} (hH : WpH E own cc nL A Q p l e R s m args below meth c fl nw nq oc cs hh ret mc ms RP TP) (hnx : ∀ pc lv st G k d, nx pc lv st G k d → Vj E nL A Q p l e R s m args below meth c pc lv st G k d) (hd : decode cc pc = .ok (.if_icmp .gt off, len)) (h : wpI nL E fl nw nq oc cs hh ret mc ms RP TP nx (.if_icmp .gt off) len pc lv st G k d) : Vj E nL A Q p l e R s m args below meth c pc lv st G k d := by
  obtain ⟨X, hmc, hms, hfl, hflF, hnw, hnq, harr_int, harr_long, hcs, hcat, hthr, hreti, hretv⟩ := hH
  replace h : (match (generalizing := false) st with | .int y :: .int x :: r => len = 3 ∧ 0 ≤ (pc : Int) + off ∧ (y < x → nx (tg pc off) lv r G k d) ∧ (¬ y < x → nx (pc + 3) lv r G k d) | _ => False) := h
  split at h
  · obtain ⟨rfl, ho, h1, h2⟩ := h
    intro H locs ls hP hS hl
    exact lv_icmp_gt X.hx X.hb hd (tg_eq ho) (fun q => hnx _ _ _ _ _ _ (h1 q) H locs ls hP hS hl) (fun q => hnx _ _ _ _ _ _ (h2 q) H locs ls hP hS hl)
  · exact h.elim
set_option maxHeartbeats 1000000 in
theorem ws_if_le {len : Nat} {off : Int} (hH : WpH E own cc nL A Q p l e R s m args below meth c fl nw nq oc cs hh ret mc ms RP TP) (hnx : ∀ pc lv st G k d, nx pc lv st G k d → Vj E nL A Q p l e R s m args below meth c pc lv st G k d) (hd : decode cc pc = .ok (.ifCond .le off, len)) (h : wpI nL E fl nw nq oc cs hh ret mc ms RP TP nx (.ifCond .le off) len pc lv st G k d) : Vj E nL A Q p l e R s m args below meth c pc lv st G k d := by
  obtain ⟨X, hmc, hms, hfl, hflF, hnw, hnq, harr_int, harr_long, hcs, hcat, hthr, hreti, hretv⟩ := hH
  replace h : (match (generalizing := false) st with | .int x :: r => len = 3 ∧ 0 ≤ (pc : Int) + off ∧ (x ≤ 0 → nx (tg pc off) lv r G k d) ∧ (¬ x ≤ 0 → nx (pc + 3) lv r G k d) | _ => False) := h
  split at h
  · obtain ⟨rfl, ho, h1, h2⟩ := h
    intro H locs ls hP hS hl
    exact lv_if_le X.hx X.hb hd (tg_eq ho) (fun q => hnx _ _ _ _ _ _ (h1 q) H locs ls hP hS hl) (fun q => hnx _ _ _ _ _ _ (h2 q) H locs ls hP hS hl)
  · exact h.elim
set_option maxHeartbeats 1000000 in
theorem ws_icmp_le {len : Nat} {off : Int} (hH : WpH E own cc nL A Q p l e R s m args below meth c fl nw nq oc cs hh ret mc ms RP TP) (hnx : ∀ pc lv st G k d, nx pc lv st G k d → Vj E nL A Q p l e R s m args below meth c pc lv st G k d) (hd : decode cc pc = .ok (.if_icmp .le off, len)) (h : wpI nL E fl nw nq oc cs hh ret mc ms RP TP nx (.if_icmp .le off) len pc lv st G k d) : Vj E nL A Q p l e R s m args below meth c pc lv st G k d := by
  obtain ⟨X, hmc, hms, hfl, hflF, hnw, hnq, harr_int, harr_long, hcs, hcat, hthr, hreti, hretv⟩ := hH
  replace h : (match (generalizing := false) st with | .int y :: .int x :: r => len = 3 ∧ 0 ≤ (pc : Int) + off ∧ (x ≤ y → nx (tg pc off) lv r G k d) ∧ (¬ x ≤ y → nx (pc + 3) lv r G k d) | _ => False) := h
  split at h
  · obtain ⟨rfl, ho, h1, h2⟩ := h
    intro H locs ls hP hS hl
    exact lv_icmp_le X.hx X.hb hd (tg_eq ho) (fun q => hnx _ _ _ _ _ _ (h1 q) H locs ls hP hS hl) (fun q => hnx _ _ _ _ _ _ (h2 q) H locs ls hP hS hl)
  · exact h.elim
set_option maxHeartbeats 1000000 in
theorem ws_goto {len : Nat} {off : Int} (hH : WpH E own cc nL A Q p l e R s m args below meth c fl nw nq oc cs hh ret mc ms RP TP) (hnx : ∀ pc lv st G k d, nx pc lv st G k d → Vj E nL A Q p l e R s m args below meth c pc lv st G k d) (hd : decode cc pc = .ok (.goto off, len)) (h : wpI nL E fl nw nq oc cs hh ret mc ms RP TP nx (.goto off) len pc lv st G k d) : Vj E nL A Q p l e R s m args below meth c pc lv st G k d := by
  obtain ⟨X, hmc, hms, hfl, hflF, hnw, hnq, harr_int, harr_long, hcs, hcat, hthr, hreti, hretv⟩ := hH
  replace h : len = 3 ∧ 0 ≤ (pc : Int) + off ∧ nx (tg pc off) lv st G k d := h
  obtain ⟨rfl, ho, h⟩ := h
  intro H locs ls hP hS hl
  exact lv_goto X.hx X.hb hd (tg_eq ho) (hnx _ _ _ _ _ _ h H locs ls hP hS hl)
set_option maxHeartbeats 1000000 in
theorem ws_ifnull {len : Nat} {off : Int} (hH : WpH E own cc nL A Q p l e R s m args below meth c fl nw nq oc cs hh ret mc ms RP TP) (hnx : ∀ pc lv st G k d, nx pc lv st G k d → Vj E nL A Q p l e R s m args below meth c pc lv st G k d) (hd : decode cc pc = .ok (.ifnull off, len)) (h : wpI nL E fl nw nq oc cs hh ret mc ms RP TP nx (.ifnull off) len pc lv st G k d) : Vj E nL A Q p l e R s m args below meth c pc lv st G k d := by
  obtain ⟨X, hmc, hms, hfl, hflF, hnw, hnq, harr_int, harr_long, hcs, hcat, hthr, hreti, hretv⟩ := hH
  replace h : (match (generalizing := false) st with | .null :: r => len = 3 ∧ 0 ≤ (pc : Int) + off ∧ nx (tg pc off) lv r G k d | .ref _ :: r => len = 3 ∧ nx (pc + 3) lv r G k d | _ => False) := h
  split at h
  · obtain ⟨rfl, ho, h⟩ := h
    intro H locs ls hP hS hl
    exact lv_ifnullN X.hx X.hb hd (tg_eq ho) (hnx _ _ _ _ _ _ h H locs ls hP hS hl)
  · obtain ⟨rfl, h⟩ := h
    intro H locs ls hP hS hl
    exact lv_ifnull X.hx X.hb hd (hnx _ _ _ _ _ _ h H locs ls hP hS hl)
  · exact h.elim
set_option maxHeartbeats 1000000 in
theorem ws_ifnonnull {len : Nat} {off : Int} (hH : WpH E own cc nL A Q p l e R s m args below meth c fl nw nq oc cs hh ret mc ms RP TP) (hnx : ∀ pc lv st G k d, nx pc lv st G k d → Vj E nL A Q p l e R s m args below meth c pc lv st G k d) (hd : decode cc pc = .ok (.ifnonnull off, len)) (h : wpI nL E fl nw nq oc cs hh ret mc ms RP TP nx (.ifnonnull off) len pc lv st G k d) : Vj E nL A Q p l e R s m args below meth c pc lv st G k d := by
  obtain ⟨X, hmc, hms, hfl, hflF, hnw, hnq, harr_int, harr_long, hcs, hcat, hthr, hreti, hretv⟩ := hH
  replace h : (match (generalizing := false) st with | .null :: r => len = 3 ∧ nx (pc + 3) lv r G k d | .ref _ :: r => len = 3 ∧ 0 ≤ (pc : Int) + off ∧ nx (tg pc off) lv r G k d | _ => False) := h
  split at h
  · obtain ⟨rfl, h⟩ := h
    intro H locs ls hP hS hl
    exact lv_ifnonnullN X.hx X.hb hd (hnx _ _ _ _ _ _ h H locs ls hP hS hl)
  · obtain ⟨rfl, ho, h⟩ := h
    intro H locs ls hP hS hl
    exact lv_ifnonnull X.hx X.hb hd (tg_eq ho) (hnx _ _ _ _ _ _ h H locs ls hP hS hl)
  · exact h.elim
set_option maxHeartbeats 1000000 in
theorem ws_tableswitch {len : Nat} {df lo hi : Int} {offs : Array Int} (hH : WpH E own cc nL A Q p l e R s m args below meth c fl nw nq oc cs hh ret mc ms RP TP) (hnx : ∀ pc lv st G k d, nx pc lv st G k d → Vj E nL A Q p l e R s m args below meth c pc lv st G k d) (hd : decode cc pc = .ok (.tableswitch df lo hi offs, len)) (h : wpI nL E fl nw nq oc cs hh ret mc ms RP TP nx (.tableswitch df lo hi offs) len pc lv st G k d) : Vj E nL A Q p l e R s m args below meth c pc lv st G k d := by
  obtain ⟨X, hmc, hms, hfl, hflF, hnw, hnq, harr_int, harr_long, hcs, hcat, hthr, hreti, hretv⟩ := hH
  replace h : (match (generalizing := false) st with | .int x :: r => hi = lo + (offs.toList.length : Int) - 1 ∧ (x.toInt < lo ∨ hi < x.toInt → 0 ≤ (pc : Int) + df ∧ nx (tg pc df) lv r G k d) ∧ swT nx x pc lv r G k d offs.toList lo | _ => False) := h
  split at h
  · rename_i x r
    obtain ⟨hl0, h1, h2⟩ := h
    intro H locs ls hP hS hl
    by_cases q : x.toInt < lo ∨ hi < x.toInt
    · obtain ⟨ho, h1⟩ := h1 q
      exact lv_tableOut X.hx X.hb hd q (tg_eq ho) (hnx _ _ _ _ _ _ h1 H locs ls hP hS hl)
    · obtain ⟨o, e1, e2, e3⟩ := swT_pick (by omega) (by omega) h2
      exact lv_tableIn X.hx X.hb hd (fun z => q (Or.inl z)) (fun z => q (Or.inr z)) (by rw [← Array.getElem?_toList]; exact e1) (tg_eq e2) (hnx _ _ _ _ _ _ e3 H locs ls hP hS hl)
  · exact h.elim
set_option maxHeartbeats 1000000 in
theorem ws_lookupswitch {len : Nat} {df : Int} {ps : Array (Int × Int)} (hH : WpH E own cc nL A Q p l e R s m args below meth c fl nw nq oc cs hh ret mc ms RP TP) (hnx : ∀ pc lv st G k d, nx pc lv st G k d → Vj E nL A Q p l e R s m args below meth c pc lv st G k d) (hd : decode cc pc = .ok (.lookupswitch df ps, len)) (h : wpI nL E fl nw nq oc cs hh ret mc ms RP TP nx (.lookupswitch df ps) len pc lv st G k d) : Vj E nL A Q p l e R s m args below meth c pc lv st G k d := by
  obtain ⟨X, hmc, hms, hfl, hflF, hnw, hnq, harr_int, harr_long, hcs, hcat, hthr, hreti, hretv⟩ := hH
  replace h : (match (generalizing := false) st with | .int x :: r => (ps.toList.zip (ps.toList.drop 1)).all (fun (a, next) => a.1 < next.1) = true ∧ swL nx x pc df lv r G k d ps.toList | _ => False) := h
  split at h
  · rename_i x r
    obtain ⟨hp, h⟩ := h
    intro H locs ls hP hS hl
    obtain ⟨ho, h1⟩ := swL_pick ps.toList h
    exact lv_lookup X.hx X.hb hd hp rfl (tg_eq ho) (hnx _ _ _ _ _ _ h1 H locs ls hP hS hl)
  · exact h.elim
set_option maxHeartbeats 1000000 in
theorem ws_getfield {len : Nat} {n : Nat} (hH : WpH E own cc nL A Q p l e R s m args below meth c fl nw nq oc cs hh ret mc ms RP TP) (hnx : ∀ pc lv st G k d, nx pc lv st G k d → Vj E nL A Q p l e R s m args below meth c pc lv st G k d) (hd : decode cc pc = .ok (.getfield n, len)) (h : wpI nL E fl nw nq oc cs hh ret mc ms RP TP nx (.getfield n) len pc lv st G k d) : Vj E nL A Q p l e R s m args below meth c pc lv st G k d := by
  obtain ⟨X, hmc, hms, hfl, hflF, hnw, hnq, harr_int, harr_long, hcs, hcat, hthr, hreti, hretv⟩ := hH
  replace h : len = 3 ∧ (match (generalizing := false) fl n with | some (ci, kf, _, _) => (match (generalizing := false) st with | .ref a :: r => (match (generalizing := false) G a with | some (.inr (ci1, fs)) => ci1 = ci ∧ (match (generalizing := false) fs[kf]? with | some v => nx (pc + 3) lv (v :: r) G k d | none => False) | _ => False) | _ => False) | none => False) := h
  obtain ⟨rfl, h⟩ := h
  split at h
  · rename_i ci kf ty fin hf0
    split at h
    · split at h
      · rename_i ci1 fs hg
        obtain ⟨rfl, h⟩ := h
        split at h
        · rename_i v hv
          intro H locs ls hP hS hl
          obtain ⟨L, f, q, rfl, hP1, hD1, hL, -, hq⟩ := gP_get hP hg
          obtain ⟨C, T, N, ty0, ⟨hc, hin, -, -⟩, hk, -, -, hlk⟩ := hfl _ _ _ _ _ hf0
          rcases hlk with hlk | ⟨host, hlk⟩
          · exact va_get X.hx X.hb X.hts hin X.hown X.hK hP1 q hq hc kf hk (X.hts _ hlk) (fun _ z => z) hv hd (hnx _ _ _ _ _ _ h H locs ls hP hS hl)
          · exact va_getN X.hx X.hb X.hts hin X.hown X.hK hP1 q hq hc kf hk (va_Nw.use rfl (X.hnw _ hlk)) (fun _ z => z) hv hd (hnx _ _ _ _ _ _ h H locs ls hP hS hl)
        · exact h.elim
      · exact h.elim
    · exact h.elim
  · exact h.elim
set_option maxHeartbeats 1000000 in
theorem ws_putfield {len : Nat} {n : Nat} (hH : WpH E own cc nL A Q p l e R s m args below meth c fl nw nq oc cs hh ret mc ms RP TP) (hnx : ∀ pc lv st G k d, nx pc lv st G k d → Vj E nL A Q p l e R s m args below meth c pc lv st G k d) (hd : decode cc pc = .ok (.putfield n, len)) (h : wpI nL E fl nw nq oc cs hh ret mc ms RP TP nx (.putfield n) len pc lv st G k d) : Vj E nL A Q p l e R s m args below meth c pc lv st G k d := by
  obtain ⟨X, hmc, hms, hfl, hflF, hnw, hnq, harr_int, harr_long, hcs, hcat, hthr, hreti, hretv⟩ := hH
  replace h : len = 3 ∧ (match (generalizing := false) fl n with | some (ci, kf, ty, fin) => (match (generalizing := false) st with | v :: .ref a :: r => (match (generalizing := false) G a with | some (.inr (ci1, fs)) => ci1 = ci ∧ kf < fs.length ∧ (fin = false ∨ oc = some ci) ∧ (narrow ty v = v ∧ fits ty v = true) ∧ nx (pc + 3) lv r (gset G a (.inr (ci, fs.set kf v))) k d | _ => False) | _ => False) | none => False) := h
  obtain ⟨rfl, h⟩ := h
  split at h
  · rename_i ci kf ty fin hf0
    split at h
    · split at h
      · rename_i ci1 fs hg
        obtain ⟨rfl, hlen, hfi, ⟨hn1, hn2⟩, h⟩ := h
        intro H locs ls hP hS hl
        obtain ⟨L, f, q, rfl, hP1, hD1, hL, hfa, hq⟩ := gP_get hP hg
        by_cases hz : fin = false
        · obtain ⟨C, T, N, ty0, ⟨hc, hin, hty, hnm⟩, hk, hty1, hfin, hlk⟩ := hfl _ _ _ _ _ hf0
          rcases hlk with hlk | ⟨host, hlk⟩
          · exact va_put X.hx X.hb X.hts hin ty0 hty hnm X.hown X.hK hP1 hD1 hS q hq hc kf hk (X.hts _ hlk) (fun _ z => z) (hfin.trans hz) (by rw [← hty1]; exact hty kf hk) hn1 hn2 hlen hd (fun H1 locs1 a1 a2 a3 => hnx _ _ _ _ _ _ h H1 locs1 ls (gP_set hL (by rw [hfa]; exact hq) hD1 a1 a2) a3 hl)
          · exact va_putN X.hx X.hb X.hts hin ty0 hty hnm X.hown X.hK hP1 hD1 hS q hq hc kf hk (va_Nw.use rfl (X.hnw _ hlk)) (fun _ z => z) (hfin.trans hz) (by rw [← hty1]; exact hty kf hk) hn1 hn2 hlen hd (fun H1 locs1 a1 a2 a3 => hnx _ _ _ _ _ _ h H1 locs1 ls (gP_set hL (by rw [hfa]; exact hq) hD1 a1 a2) a3 hl)
        · have hz1 : fin = true := by simpa using hz
          subst hz1
          obtain ⟨hini, C, T, N, ty0, ⟨hc, hin, hty, hnm⟩, hk, hty1, hfin, hdecl, hlk⟩ := hflF _ _ _ _ (hfi.resolve_left hz) hf0
          exact va_putF X.hx X.hb X.hts hin ty0 hty hnm X.hown X.hK hP1 hD1 hS q hq hc kf hk (X.hts _ hlk) (fun _ z => z) hfin hini hdecl (by rw [← hty1]; exact hty kf hk) hn1 hn2 hlen hd (fun H1 locs1 a1 a2 a3 => hnx _ _ _ _ _ _ h H1 locs1 ls (gP_set hL (by rw [hfa]; exact hq) hD1 a1 a2) a3 hl)
      · exact h.elim
    · exact h.elim
  · exact h.elim
set_option maxHeartbeats 1000000 in
theorem ws_iaload {len : Nat}  (hH : WpH E own cc nL A Q p l e R s m args below meth c fl nw nq oc cs hh ret mc ms RP TP) (hnx : ∀ pc lv st G k d, nx pc lv st G k d → Vj E nL A Q p l e R s m args below meth c pc lv st G k d) (hd : decode cc pc = .ok (.iaload, len)) (h : wpI nL E fl nw nq oc cs hh ret mc ms RP TP nx (.iaload) len pc lv st G k d) : Vj E nL A Q p l e R s m args below meth c pc lv st G k d := by
  obtain ⟨X, hmc, hms, hfl, hflF, hnw, hnq, harr_int, harr_long, hcs, hcat, hthr, hreti, hretv⟩ := hH
  replace h : len = 1 ∧ (match (generalizing := false) st with | .int i :: .ref a :: r => (match (generalizing := false) G a with | some (.inl (cA, n, .inl f)) => cA = E.2.2 0 ∧ vp_in i n ∧ nx (pc + 1) lv (.int (f i.toNatClampNeg) :: r) G k d | _ => False) | _ => False) := h
  obtain ⟨rfl, h⟩ := h
  split at h
  · split at h
    · rename_i hg
      obtain ⟨rfl, hi, h⟩ := h
      intro H locs ls hP hS hl
      obtain ⟨L, f, q, rfl, hP1, hD1, hL, -, hq⟩ := gP_get hP hg
      exact va_iald X.hx X.hb X.hK hP1 q 0 hq rfl hi hd (hnx _ _ _ _ _ _ h H locs ls hP hS hl)
    · exact h.elim
  · exact h.elim
set_option maxHeartbeats 1000000 in
theorem ws_laload {len : Nat}  (hH : WpH E own cc nL A Q p l e R s m args below meth c fl nw nq oc cs hh ret mc ms RP TP) (hnx : ∀ pc lv st G k d, nx pc lv st G k d → Vj E nL A Q p l e R s m args below meth c pc lv st G k d) (hd : decode cc pc = .ok (.laload, len)) (h : wpI nL E fl nw nq oc cs hh ret mc ms RP TP nx (.laload) len pc lv st G k d) : Vj E nL A Q p l e R s m args below meth c pc lv st G k d := by
  obtain ⟨X, hmc, hms, hfl, hflF, hnw, hnq, harr_int, harr_long, hcs, hcat, hthr, hreti, hretv⟩ := hH
  replace h : len = 1 ∧ (match (generalizing := false) st with | .int i :: .ref a :: r => (match (generalizing := false) G a with | some (.inl (cA, n, .inr (.inl f))) => cA = E.2.2 1 ∧ vp_in i n ∧ nx (pc + 1) lv (.long (f i.toNatClampNeg) :: r) G k d | _ => False) | _ => False) := h
  obtain ⟨rfl, h⟩ := h
  split at h
  · split at h
    · rename_i hg
      obtain ⟨rfl, hi, h⟩ := h
      intro H locs ls hP hS hl
      obtain ⟨L, f, q, rfl, hP1, hD1, hL, -, hq⟩ := gP_get hP hg
      exact va_lald X.hx X.hb X.hK hP1 q 1 hq rfl hi hd (hnx _ _ _ _ _ _ h H locs ls hP hS hl)
    · exact h.elim
  · exact h.elim
set_option maxHeartbeats 1000000 in
theorem ws_aaload {len : Nat}  (hH : WpH E own cc nL A Q p l e R s m args below meth c fl nw nq oc cs hh ret mc ms RP TP) (hnx : ∀ pc lv st G k d, nx pc lv st G k d → Vj E nL A Q p l e R s m args below meth c pc lv st G k d) (hd : decode cc pc = .ok (.aaload, len)) (h : wpI nL E fl nw nq oc cs hh ret mc ms RP TP nx (.aaload) len pc lv st G k d) : Vj E nL A Q p l e R s m args below meth c pc lv st G k d := by
  obtain ⟨X, hmc, hms, hfl, hflF, hnw, hnq, harr_int, harr_long, hcs, hcat, hthr, hreti, hretv⟩ := hH
  replace h : len = 1 ∧ (match (generalizing := false) st with | .int i :: .ref a :: r => (match (generalizing := false) G a with | some (.inl (cA, n, .inr (.inr (.inr (.inr f))))) => isA E cA ∧ vp_in i n ∧ nx (pc + 1) lv (va_rf (f i.toNatClampNeg) :: r) G k d | _ => False) | _ => False) := h
  obtain ⟨rfl, h⟩ := h
  split at h
  · split at h
    · rename_i hg
      obtain ⟨⟨t0, C, ht⟩, hi, h⟩ := h
      intro H locs ls hP hS hl
      obtain ⟨L, f, q, rfl, hP1, hD1, hL, -, hq⟩ := gP_get hP hg
      exact va_aldq X.hx X.hb X.hK hP1 q t0 hq ht hi hd (hnx _ _ _ _ _ _ h H locs ls hP hS hl)
    · exact h.elim
  · exact h.elim
set_option maxHeartbeats 1000000 in
theorem ws_iastore {len : Nat}  (hH : WpH E own cc nL A Q p l e R s m args below meth c fl nw nq oc cs hh ret mc ms RP TP) (hnx : ∀ pc lv st G k d, nx pc lv st G k d → Vj E nL A Q p l e R s m args below meth c pc lv st G k d) (hd : decode cc pc = .ok (.iastore, len)) (h : wpI nL E fl nw nq oc cs hh ret mc ms RP TP nx (.iastore) len pc lv st G k d) : Vj E nL A Q p l e R s m args below meth c pc lv st G k d := by
  obtain ⟨X, hmc, hms, hfl, hflF, hnw, hnq, harr_int, harr_long, hcs, hcat, hthr, hreti, hretv⟩ := hH
  replace h : len = 1 ∧ (match (generalizing := false) st with | .int x :: .int i :: .ref a :: r => (match (generalizing := false) G a with | some (.inl (cA, n, .inl f)) => cA = E.2.2 0 ∧ vp_in i n ∧ nx (pc + 1) lv r (gset G a (.inl (cA, n, .inl (upd f i.toNatClampNeg x)))) k d | _ => False) | _ => False) := h
  obtain ⟨rfl, h⟩ := h
  split at h
  · split at h
    · rename_i hg
      obtain ⟨rfl, hi, h⟩ := h
      intro H locs ls hP hS hl
      obtain ⟨L, f, q, rfl, hP1, hD1, hL, hfa, hq⟩ := gP_get hP hg
      exact va_iast X.hx X.hb X.hK hP1 hD1 hS q 0 hq rfl hi hd (fun H1 locs1 a1 a2 a3 => hnx _ _ _ _ _ _ h H1 locs1 ls (gP_set hL (by rw [hfa]; exact hq) hD1 a1 a2) a3 hl)
    · exact h.elim
  · exact h.elim
set_option maxHeartbeats 1000000 in
theorem ws_lastore {len : Nat}  (hH : WpH E own cc nL A Q p l e R s m args below meth c fl nw nq oc cs hh ret mc ms RP TP) (hnx : ∀ pc lv st G k d, nx pc lv st G k d → Vj E nL A Q p l e R s m args below meth c pc lv st G k d) (hd : decode cc pc = .ok (.lastore, len)) (h : wpI nL E fl nw nq oc cs hh ret mc ms RP TP nx (.lastore) len pc lv st G k d) : Vj E nL A Q p l e R s m args below meth c pc lv st G k d := by
  obtain ⟨X, hmc, hms, hfl, hflF, hnw, hnq, harr_int, harr_long, hcs, hcat, hthr, hreti, hretv⟩ := hH
  replace h : len = 1 ∧ (match (generalizing := false) st with | .long x :: .int i :: .ref a :: r => (match (generalizing := false) G a with | some (.inl (cA, n, .inr (.inl f))) => cA = E.2.2 1 ∧ vp_in i n ∧ nx (pc + 1) lv r (gset G a (.inl (cA, n, .inr (.inl (vp_updL f i.toNatClampNeg x))))) k d | _ => False) | _ => False) := h
  obtain ⟨rfl, h⟩ := h
  split at h
  · split at h
    · rename_i hg
      obtain ⟨rfl, hi, h⟩ := h
      intro H locs ls hP hS hl
      obtain ⟨L, f, q, rfl, hP1, hD1, hL, hfa, hq⟩ := gP_get hP hg
      exact va_last X.hx X.hb X.hK hP1 hD1 hS q 1 hq rfl hi hd (fun H1 locs1 a1 a2 a3 => hnx _ _ _ _ _ _ h H1 locs1 ls (gP_set hL (by rw [hfa]; exact hq) hD1 a1 a2) a3 hl)
    · exact h.elim
  · exact h.elim
set_option maxHeartbeats 1000000 in
theorem ws_aastore {len : Nat}  (hH : WpH E own cc nL A Q p l e R s m args below meth c fl nw nq oc cs hh ret mc ms RP TP) (hnx : ∀ pc lv st G k d, nx pc lv st G k d → Vj E nL A Q p l e R s m args below meth c pc lv st G k d) (hd : decode cc pc = .ok (.aastore, len)) (h : wpI nL E fl nw nq oc cs hh ret mc ms RP TP nx (.aastore) len pc lv st G k d) : Vj E nL A Q p l e R s m args below meth c pc lv st G k d := by
  obtain ⟨X, hmc, hms, hfl, hflF, hnw, hnq, harr_int, harr_long, hcs, hcat, hthr, hreti, hretv⟩ := hH
  replace h : len = 1 ∧ (match (generalizing := false) st with | .ref v :: .int i :: .ref a :: r => (match (generalizing := false) G a, G v with | some (.inl (cA, n, .inr (.inr (.inr (.inr f))))), some (.inr (ci, _)) => isAof E cA ci ∧ vp_in i n ∧ nx (pc + 1) lv r (gset G a (.inl (cA, n, .inr (.inr (.inr (.inr (va_up f i.toNatClampNeg (some v)))))))) k d | _, _ => False) | .null :: .int i :: .ref a :: r => (match (generalizing := false) G a with | some (.inl (cA, n, .inr (.inr (.inr (.inr f))))) => isA E cA ∧ vp_in i n ∧ nx (pc + 1) lv r (gset G a (.inl (cA, n, .inr (.inr (.inr (.inr (va_up f i.toNatClampNeg none))))))) k d | _ => False) | _ => False) := h
  obtain ⟨rfl, h⟩ := h
  split at h
  · split at h
    · rename_i hg hv
      obtain ⟨⟨t0, r0, ht, hc⟩, hi, h⟩ := h
      intro H locs ls hP hS hl
      obtain ⟨L, f, q, rfl, hP1, hD1, hL, hfa, hq⟩ := gP_get hP hg
      obtain ⟨hL2, hf2⟩ := gv_in hv
      obtain ⟨q2, hq2⟩ := va_pl_get (X := []) (f := f) hL2
      rw [hf2] at hq2
      exact va_astq X.hx X.hb X.hK hP1 hD1 hS q t0 q2 _ hq ht hq2 hc hi hd (fun H1 locs1 a1 a2 a3 => hnx _ _ _ _ _ _ h H1 locs1 ls (gP_set hL (by rw [hfa]; exact hq) hD1 a1 a2) a3 hl)
    · exact h.elim
  · split at h
    · rename_i hg
      obtain ⟨⟨t0, C, ht⟩, hi, h⟩ := h
      intro H locs ls hP hS hl
      obtain ⟨L, f, q, rfl, hP1, hD1, hL, hfa, hq⟩ := gP_get hP hg
      exact va_astqN X.hx X.hb X.hK hP1 hD1 hS q t0 hq ht hi hd (fun H1 locs1 a1 a2 a3 => hnx _ _ _ _ _ _ h H1 locs1 ls (gP_set hL (by rw [hfa]; exact hq) hD1 a1 a2) a3 hl)
    · exact h.elim
  · exact h.elim
set_option maxHeartbeats 1000000 in
theorem ws_arraylength {len : Nat}  (hH : WpH E own cc nL A Q p l e R s m args below meth c fl nw nq oc cs hh ret mc ms RP TP) (hnx : ∀ pc lv st G k d, nx pc lv st G k d → Vj E nL A Q p l e R s m args below meth c pc lv st G k d) (hd : decode cc pc = .ok (.arraylength, len)) (h : wpI nL E fl nw nq oc cs hh ret mc ms RP TP nx (.arraylength) len pc lv st G k d) : Vj E nL A Q p l e R s m args below meth c pc lv st G k d := by
  obtain ⟨X, hmc, hms, hfl, hflF, hnw, hnq, harr_int, harr_long, hcs, hcat, hthr, hreti, hretv⟩ := hH
  replace h : len = 1 ∧ (match (generalizing := false) st with | .ref a :: r => (match (generalizing := false) G a with | some (.inl (cA, x)) => (∃ (t0 : Nat) (ty : FieldType), (tysOf E)[t0]? = some (cA, ty)) ∧ nx (pc + 1) lv (.int (Int32.ofNat x.1) :: r) G k d | _ => False) | _ => False) := h
  obtain ⟨rfl, h⟩ := h
  split at h
  · split at h
    · rename_i hg
      obtain ⟨⟨t0, ty, ht⟩, h⟩ := h
      intro H locs ls hP hS hl
      obtain ⟨L, f, q, rfl, hP1, hD1, hL, -, hq⟩ := gP_get hP hg
      exact va_alen X.hx X.hb X.hK hP1 q t0 hq ht rfl hd (hnx _ _ _ _ _ _ h H locs ls hP hS hl)
    · exact h.elim
  · exact h.elim
set_option maxHeartbeats 1000000 in
theorem ws_new {len : Nat} {n : Nat} (hH : WpH E own cc nL A Q p l e R s m args below meth c fl nw nq oc cs hh ret mc ms RP TP) (hnx : ∀ pc lv st G k d, nx pc lv st G k d → Vj E nL A Q p l e R s m args below meth c pc lv st G k d) (hd : decode cc pc = .ok (.new n, len)) (h : wpI nL E fl nw nq oc cs hh ret mc ms RP TP nx (.new n) len pc lv st G k d) : Vj E nL A Q p l e R s m args below meth c pc lv st G k d := by
  obtain ⟨X, hmc, hms, hfl, hflF, hnw, hnq, harr_int, harr_long, hcs, hcat, hthr, hreti, hretv⟩ := hH
  replace h : len = 3 ∧ (match (generalizing := false) nw n with | some (ci, N, dfl) => k + 1 ≤ mc ∧ d + N ≤ ms ∧ ∀ q : Nat, G q = none → nx (pc + 3) lv (.ref q :: st) (gset G q (.inr (ci, dfl))) (k + 1) (d + N) | none => False) := h
  obtain ⟨rfl, h⟩ := h
  split at h
  · rename_i ci N dfl hn0
    obtain ⟨h1, h2, h⟩ := h
    obtain ⟨C, T, ty0, ⟨hc, hin, hty, hnm⟩, hcl, hinst, hini, hdf⟩ := hnw _ _ _ _ hn0
    intro H locs ls hP hS hl
    obtain ⟨L, f, rfl, hP1, hD1⟩ := hP
    refine va_new X.hx X.hb X.hts hin ty0 hty X.hown (X.hts _ hcl) (X.hts _ hinst) (X.hts _ hini) X.hK hP1 hD1 hS X.hA hc hdf (by rw [hmc]; exact h1) (by rw [hms]; exact h2) hd (fun q H1 a1 a2 a3 => ?_)
    obtain ⟨b1, b2⟩ := gP_push a1 a2
    exact hnx _ _ _ _ _ _ (h q b1) H1 locs ls b2 a3 hl
  · exact h.elim
set_option maxHeartbeats 1000000 in
theorem ws_newarray_int {len : Nat}  (hH : WpH E own cc nL A Q p l e R s m args below meth c fl nw nq oc cs hh ret mc ms RP TP) (hnx : ∀ pc lv st G k d, nx pc lv st G k d → Vj E nL A Q p l e R s m args below meth c pc lv st G k d) (hd : decode cc pc = .ok (.newarray .int, len)) (h : wpI nL E fl nw nq oc cs hh ret mc ms RP TP nx (.newarray .int) len pc lv st G k d) : Vj E nL A Q p l e R s m args below meth c pc lv st G k d := by
  obtain ⟨X, hmc, hms, hfl, hflF, hnw, hnq, harr_int, harr_long, hcs, hcat, hthr, hreti, hretv⟩ := hH
  replace h : len = 2 ∧ (match (generalizing := false) st with | .int n :: r => ¬ n < 0 ∧ n.toNatClampNeg * componentBytes .int ≤ 536870912 ∧ k + 1 ≤ mc ∧ d + n.toNatClampNeg ≤ ms ∧ ∀ q : Nat, G q = none → nx (pc + 2) lv (.ref q :: r) (gset G q (.inl (E.2.2 0, n.toNatClampNeg, .inl (fun _ => 0)))) (k + 1) (d + n.toNatClampNeg) | _ => False) := h
  obtain ⟨rfl, h⟩ := h
  split at h
  · obtain ⟨h0, h1, h2, h3, h⟩ := h
    intro H locs ls hP hS hl
    obtain ⟨L, f, rfl, hP1, hD1⟩ := hP
    refine va_newa (atype := .int) (ty := .int) X.hx X.hb (X.hts _ harr_int) rfl X.hK hP1 hD1 hS X.hA (a0 := (_, .inl (fun _ => 0))) (fun cA => rfl) h0 rfl h1 (by rw [hmc]; exact h2) (by rw [hms]; exact h3) hd (fun q cA H1 hK2 a1 a2 a3 => ?_)
    have e1 : cA = E.2.2 0 := by
      have z1 := (hK2.2 (tysOf E).length (cA, .int) (by simp)).2
      have z2 := (X.hK.2 0 (E.2.2 0, .int) rfl).2
      have z3 : s.vm.findClass ("[" ++ FieldType.toString .int) = some cA := z1
      have z4 : s.vm.findClass ("[" ++ FieldType.toString .int) = some (E.2.2 0) := z2
      rw [z4] at z3
      exact (Option.some.inj z3).symm
    subst e1
    obtain ⟨b1, b2⟩ := gP_push a1 a2
    exact hnx _ _ _ _ _ _ (h q b1) H1 locs ls b2 a3 hl
  · exact h.elim
set_option maxHeartbeats 1000000 in
theorem ws_newarray_long {len : Nat}  (hH : WpH E own cc nL A Q p l e R s m args below meth c fl nw nq oc cs hh ret mc ms RP TP) (hnx : ∀ pc lv st G k d, nx pc lv st G k d → Vj E nL A Q p l e R s m args below meth c pc lv st G k d) (hd : decode cc pc = .ok (.newarray .long, len)) (h : wpI nL E fl nw nq oc cs hh ret mc ms RP TP nx (.newarray .long) len pc lv st G k d) : Vj E nL A Q p l e R s m args below meth c pc lv st G k d := by
  obtain ⟨X, hmc, hms, hfl, hflF, hnw, hnq, harr_int, harr_long, hcs, hcat, hthr, hreti, hretv⟩ := hH
  replace h : len = 2 ∧ (match (generalizing := false) st with | .int n :: r => ¬ n < 0 ∧ n.toNatClampNeg * componentBytes .long ≤ 536870912 ∧ k + 1 ≤ mc ∧ d + n.toNatClampNeg ≤ ms ∧ ∀ q : Nat, G q = none → nx (pc + 2) lv (.ref q :: r) (gset G q (.inl (E.2.2 1, n.toNatClampNeg, .inr (.inl (fun _ => 0))))) (k + 1) (d + n.toNatClampNeg) | _ => False) := h
  obtain ⟨rfl, h⟩ := h
  split at h
  · obtain ⟨h0, h1, h2, h3, h⟩ := h
    intro H locs ls hP hS hl
    obtain ⟨L, f, rfl, hP1, hD1⟩ := hP
    refine va_newa (atype := .long) (ty := .long) X.hx X.hb (X.hts _ harr_long) rfl X.hK hP1 hD1 hS X.hA (a0 := (_, .inr (.inl (fun _ => 0)))) (fun cA => rfl) h0 rfl h1 (by rw [hmc]; exact h2) (by rw [hms]; exact h3) hd (fun q cA H1 hK2 a1 a2 a3 => ?_)
    have e1 : cA = E.2.2 1 := by
      have z1 := (hK2.2 (tysOf E).length (cA, .long) (by simp)).2
      have z2 := (X.hK.2 1 (E.2.2 1, .long) rfl).2
      have z3 : s.vm.findClass ("[" ++ FieldType.toString .long) = some cA := z1
      have z4 : s.vm.findClass ("[" ++ FieldType.toString .long) = some (E.2.2 1) := z2
      rw [z4] at z3
      exact (Option.some.inj z3).symm
    subst e1
    obtain ⟨b1, b2⟩ := gP_push a1 a2
    exact hnx _ _ _ _ _ _ (h q b1) H1 locs ls b2 a3 hl
  · exact h.elim
set_option maxHeartbeats 1000000 in
theorem ws_anewarray {len : Nat} {n : Nat} (hH : WpH E own cc nL A Q p l e R s m args below meth c fl nw nq oc cs hh ret mc ms RP TP) (hnx : ∀ pc lv st G k d, nx pc lv st G k d → Vj E nL A Q p l e R s m args below meth c pc lv st G k d) (hd : decode cc pc = .ok (.anewarray n, len)) (h : wpI nL E fl nw nq oc cs hh ret mc ms RP TP nx (.anewarray n) len pc lv st G k d) : Vj E nL A Q p l e R s m args below meth c pc lv st G k d := by
  obtain ⟨X, hmc, hms, hfl, hflF, hnw, hnq, harr_int, harr_long, hcs, hcat, hthr, hreti, hretv⟩ := hH
  replace h : len = 3 ∧ (match (generalizing := false) st, nq n with | .int x :: r, some cA => ¬ x < 0 ∧ x.toNatClampNeg * 4 ≤ 536870912 ∧ k + 1 ≤ mc ∧ d + x.toNatClampNeg ≤ ms ∧ ∀ q : Nat, G q = none → nx (pc + 3) lv (.ref q :: r) (gset G q (.inl (cA, x.toNatClampNeg, .inr (.inr (.inr (.inr (fun _ => none))))))) (k + 1) (d + x.toNatClampNeg) | _, _ => False) := h
  obtain ⟨rfl, h⟩ := h
  split at h
  · rename_i x r cA0 hq0
    obtain ⟨h0, h1, h2, h3, h⟩ := h
    obtain ⟨t0, C, ht, hcl, hao⟩ := hnq _ _ hq0
    intro H locs ls hP hS hl
    obtain ⟨L, f, rfl, hP1, hD1⟩ := hP
    refine va_newq X.hx X.hb X.hown (X.hts _ hcl) (va_AO.of (A := #[]) (X.hnw _ hao)) X.hK hP1 hD1 hS X.hA h0 rfl h1 (by rw [hmc]; exact h2) (by rw [hms]; exact h3) hd (fun q cA H1 hK2 a1 a2 a3 => ?_)
    have e1 : cA = cA0 := by
      obtain ⟨-, -, -, -, -, z3⟩ := (hK2.2 (tysOf E).length (cA, .object C) (by simp)).2
      obtain ⟨-, -, -, -, -, z4⟩ := (X.hK.2 t0 (cA0, .object C) ht).2
      rw [z4] at z3
      exact (Option.some.inj z3).symm
    subst e1
    obtain ⟨b1, b2⟩ := gP_push a1 a2
    exact hnx _ _ _ _ _ _ (h q b1) H1 locs ls b2 a3 hl
  · exact h.elim
set_option maxHeartbeats 1000000 in
theorem ws_invokestatic {len : Nat} {n : Nat} (hH : WpH E own cc nL A Q p l e R s m args below meth c fl nw nq oc cs hh ret mc ms RP TP) (hnx : ∀ pc lv st G k d, nx pc lv st G k d → Vj E nL A Q p l e R s m args below meth c pc lv st G k d) (hd : decode cc pc = .ok (.invokestatic n, len)) (h : wpI nL E fl nw nq oc cs hh ret mc ms RP TP nx (.invokestatic n) len pc lv st G k d) : Vj E nL A Q p l e R s m args below meth c pc lv st G k d := by
  obtain ⟨X, hmc, hms, hfl, hflF, hnw, hnq, harr_int, harr_long, hcs, hcat, hthr, hreti, hretv⟩ := hH
  replace h : len = 3 ∧ (match (generalizing := false) cs n with | some (kd, na, mc1, ms1, ct) => kd = 0 ∧ k + mc1 ≤ mc ∧ d + ms1 ≤ ms ∧ csum (st.drop na) ≤ 8 ∧ ct (st.take na).reverse G (fun v G1 => nx (pc + 3) lv (v.toList ++ st.drop na) G1 (k + mc1) (d + ms1)) (fun x G1 => (match (generalizing := false) hh pc x with | some h1 => ∀ a : Nat, nx h1 lv [.ref a] G1 (k + mc1) (d + ms1) | none => TP x G1)) | none => False) := h
  obtain ⟨rfl, h⟩ := h
  split at h
  · rename_i kd na mc1 ms1 ct hc0
    obtain ⟨rfl, h1, h2, h3, h⟩ := h
    refine hcs n _ na mc1 ms1 ct hc0 pc lv st G k d hd h3 (by rw [hmc]; exact h1) (by rw [hms]; exact h2) _ _ h (fun v G1 q => hnx _ _ _ _ _ _ q) (fun x G1 q => ?_)
    split at q
    · rename_i h9 e9
      exact hcat pc x h9 e9 lv G1 _ _ (fun a => hnx _ _ _ _ _ _ (q a))
    · rename_i e9
      exact hthr pc x e9 lv G1 _ _ h1 h2 q
  · exact h.elim
set_option maxHeartbeats 1000000 in
theorem ws_invokespecial {len : Nat} {n : Nat} (hH : WpH E own cc nL A Q p l e R s m args below meth c fl nw nq oc cs hh ret mc ms RP TP) (hnx : ∀ pc lv st G k d, nx pc lv st G k d → Vj E nL A Q p l e R s m args below meth c pc lv st G k d) (hd : decode cc pc = .ok (.invokespecial n, len)) (h : wpI nL E fl nw nq oc cs hh ret mc ms RP TP nx (.invokespecial n) len pc lv st G k d) : Vj E nL A Q p l e R s m args below meth c pc lv st G k d := by
  obtain ⟨X, hmc, hms, hfl, hflF, hnw, hnq, harr_int, harr_long, hcs, hcat, hthr, hreti, hretv⟩ := hH
  replace h : len = 3 ∧ (match (generalizing := false) cs n with | some (kd, na, mc1, ms1, ct) => kd = 1 ∧ k + mc1 ≤ mc ∧ d + ms1 ≤ ms ∧ csum (st.drop na) ≤ 8 ∧ ct (st.take na).reverse G (fun v G1 => nx (pc + 3) lv (v.toList ++ st.drop na) G1 (k + mc1) (d + ms1)) (fun x G1 => (match (generalizing := false) hh pc x with | some h1 => ∀ a : Nat, nx h1 lv [.ref a] G1 (k + mc1) (d + ms1) | none => TP x G1)) | none => False) := h
  obtain ⟨rfl, h⟩ := h
  split at h
  · rename_i kd na mc1 ms1 ct hc0
    obtain ⟨rfl, h1, h2, h3, h⟩ := h
    refine hcs n _ na mc1 ms1 ct hc0 pc lv st G k d hd h3 (by rw [hmc]; exact h1) (by rw [hms]; exact h2) _ _ h (fun v G1 q => hnx _ _ _ _ _ _ q) (fun x G1 q => ?_)
    split at q
    · rename_i h9 e9
      exact hcat pc x h9 e9 lv G1 _ _ (fun a => hnx _ _ _ _ _ _ (q a))
    · rename_i e9
      exact hthr pc x e9 lv G1 _ _ h1 h2 q
  · exact h.elim
set_option maxHeartbeats 1000000 in
theorem ws_invokevirtual {len : Nat} {n : Nat} (hH : WpH E own cc nL A Q p l e R s m args below meth c fl nw nq oc cs hh ret mc ms RP TP) (hnx : ∀ pc lv st G k d, nx pc lv st G k d → Vj E nL A Q p l e R s m args below meth c pc lv st G k d) (hd : decode cc pc = .ok (.invokevirtual n, len)) (h : wpI nL E fl nw nq oc cs hh ret mc ms RP TP nx (.invokevirtual n) len pc lv st G k d) : Vj E nL A Q p l e R s m args below meth c pc lv st G k d := by
  obtain ⟨X, hmc, hms, hfl, hflF, hnw, hnq, harr_int, harr_long, hcs, hcat, hthr, hreti, hretv⟩ := hH
  replace h : len = 3 ∧ (match (generalizing := false) cs n with | some (kd, na, mc1, ms1, ct) => kd = 2 ∧ k + mc1 ≤ mc ∧ d + ms1 ≤ ms ∧ csum (st.drop na) ≤ 8 ∧ ct (st.take na).reverse G (fun v G1 => nx (pc + 3) lv (v.toList ++ st.drop na) G1 (k + mc1) (d + ms1)) (fun x G1 => (match (generalizing := false) hh pc x with | some h1 => ∀ a : Nat, nx h1 lv [.ref a] G1 (k + mc1) (d + ms1) | none => TP x G1)) | none => False) := h
  obtain ⟨rfl, h⟩ := h
  split at h
  · rename_i kd na mc1 ms1 ct hc0
    obtain ⟨rfl, h1, h2, h3, h⟩ := h
    refine hcs n _ na mc1 ms1 ct hc0 pc lv st G k d hd h3 (by rw [hmc]; exact h1) (by rw [hms]; exact h2) _ _ h (fun v G1 q => hnx _ _ _ _ _ _ q) (fun x G1 q => ?_)
    split at q
    · rename_i h9 e9
      exact hcat pc x h9 e9 lv G1 _ _ (fun a => hnx _ _ _ _ _ _ (q a))
    · rename_i e9
      exact hthr pc x e9 lv G1 _ _ h1 h2 q
  · exact h.elim
set_option maxHeartbeats 1000000 in
theorem ws_ireturn {len : Nat}  (hH : WpH E own cc nL A Q p l e R s m args below meth c fl nw nq oc cs hh ret mc ms RP TP) (hnx : ∀ pc lv st G k d, nx pc lv st G k d → Vj E nL A Q p l e R s m args below meth c pc lv st G k d) (hd : decode cc pc = .ok (.ireturn, len)) (h : wpI nL E fl nw nq oc cs hh ret mc ms RP TP nx (.ireturn) len pc lv st G k d) : Vj E nL A Q p l e R s m args below meth c pc lv st G k d := by
  obtain ⟨X, hmc, hms, hfl, hflF, hnw, hnq, harr_int, harr_long, hcs, hcat, hthr, hreti, hretv⟩ := hH
  replace h : len = 1 ∧ k ≤ mc ∧ d ≤ ms ∧ (match (generalizing := false) st, ret with | [.int v], some ty => narrow ty (.int v) = .int v ∧ RP (some (.int v)) G | _, _ => False) := h
  obtain ⟨rfl, h1, h2, h⟩ := h
  split at h
  · obtain ⟨hn, h⟩ := h
    exact hreti rfl hn hd h1 h2 h
  · exact h.elim
set_option maxHeartbeats 1000000 in
theorem ws_return_ {len : Nat}  (hH : WpH E own cc nL A Q p l e R s m args below meth c fl nw nq oc cs hh ret mc ms RP TP) (hnx : ∀ pc lv st G k d, nx pc lv st G k d → Vj E nL A Q p l e R s m args below meth c pc lv st G k d) (hd : decode cc pc = .ok (.return_, len)) (h : wpI nL E fl nw nq oc cs hh ret mc ms RP TP nx (.return_) len pc lv st G k d) : Vj E nL A Q p l e R s m args below meth c pc lv st G k d := by
  obtain ⟨X, hmc, hms, hfl, hflF, hnw, hnq, harr_int, harr_long, hcs, hcat, hthr, hreti, hretv⟩ := hH
  replace h : len = 1 ∧ k ≤ mc ∧ d ≤ ms ∧ (match (generalizing := false) st, ret with | [], none => RP none G | _, _ => False) := h
  obtain ⟨rfl, h1, h2, h⟩ := h
  split at h
  · exact hretv rfl hd h1 h2 h
  · exact h.elim
set_option maxHeartbeats 4000000 in
theorem wpI_sound {len : Nat} {i : Instr} (hH : WpH E own cc nL A Q p l e R s m args below meth c fl nw nq oc cs hh ret mc ms RP TP) (hnx : ∀ pc lv st G k d, nx pc lv st G k d → Vj E nL A Q p l e R s m args below meth c pc lv st G k d) (hd : decode cc pc = .ok (i, len)) (h : wpI nL E fl nw nq oc cs hh ret mc ms RP TP nx i len pc lv st G k d) : Vj E nL A Q p l e R s m args below meth c pc lv st G k d := by
  cases i with
  | iconst n => exact ws_iconst hH hnx hd h
  | bipush n => exact ws_bipush hH hnx hd h
  | sipush n => exact ws_sipush hH hnx hd h
  | lconst n => exact ws_lconst hH hnx hd h
  | aconst_null  => exact ws_aconst_null hH hnx hd h
  | iadd  => exact ws_iadd hH hnx hd h
  | isub  => exact ws_isub hH hnx hd h
  | imul  => exact ws_imul hH hnx hd h
  | iand  => exact ws_iand hH hnx hd h
  | ior  => exact ws_ior hH hnx hd h
  | ixor  => exact ws_ixor hH hnx hd h
  | ishl  => exact ws_ishl hH hnx hd h
  | ishr  => exact ws_ishr hH hnx hd h
  | iushr  => exact ws_iushr hH hnx hd h
  | idiv  => exact ws_idiv hH hnx hd h
  | irem  => exact ws_irem hH hnx hd h
  | ineg  => exact ws_ineg hH hnx hd h
  | ladd  => exact ws_ladd hH hnx hd h
  | lsub  => exact ws_lsub hH hnx hd h
  | lmul  => exact ws_lmul hH hnx hd h
  | land  => exact ws_land hH hnx hd h
  | lor  => exact ws_lor hH hnx hd h
  | lxor  => exact ws_lxor hH hnx hd h
  | lshl  => exact ws_lshl hH hnx hd h
  | lushr  => exact ws_lushr hH hnx hd h
  | lshr  => exact ws_lshr hH hnx hd h
  | lcmp  => exact ws_lcmp hH hnx hd h
  | i2l  => exact ws_i2l hH hnx hd h
  | l2i  => exact ws_l2i hH hnx hd h
  | i2b  => exact ws_i2b hH hnx hd h
  | i2c  => exact ws_i2c hH hnx hd h
  | dup  => exact ws_dup hH hnx hd h
  | pop  => exact ws_pop hH hnx hd h
  | dup_x1  => exact ws_dup_x1 hH hnx hd h
  | dup_x2  => exact ws_dup_x2 hH hnx hd h
  | dup2  => exact ws_dup2 hH hnx hd h
  | iload_n n => exact ws_iload_n hH hnx hd h
  | iload n => exact ws_iload hH hnx hd h
  | lload_n n => exact ws_lload_n hH hnx hd h
  | lload n => exact ws_lload hH hnx hd h
  | aload_n n => exact ws_aload_n hH hnx hd h
  | aload n => exact ws_aload hH hnx hd h
  | istore_n n => exact ws_istore_n hH hnx hd h
  | istore n => exact ws_istore hH hnx hd h
  | lstore_n n => exact ws_lstore_n hH hnx hd h
  | lstore n => exact ws_lstore hH hnx hd h
  | astore_n n => exact ws_astore_n hH hnx hd h
  | astore n => exact ws_astore hH hnx hd h
  | iinc n z => exact ws_iinc hH hnx hd h
  | ifCond cnd off => cases cnd with
    | eq => exact ws_if_eq hH hnx hd h
    | ne => exact ws_if_ne hH hnx hd h
    | lt => exact ws_if_lt hH hnx hd h
    | ge => exact ws_if_ge hH hnx hd h
    | gt => exact ws_if_gt hH hnx hd h
    | le => exact ws_if_le hH hnx hd h
  | if_icmp cnd off => cases cnd with
    | eq => exact ws_icmp_eq hH hnx hd h
    | ne => exact ws_icmp_ne hH hnx hd h
    | lt => exact ws_icmp_lt hH hnx hd h
    | ge => exact ws_icmp_ge hH hnx hd h
    | gt => exact ws_icmp_gt hH hnx hd h
    | le => exact ws_icmp_le hH hnx hd h
  | goto off => exact ws_goto hH hnx hd h
  | ifnull off => exact ws_ifnull hH hnx hd h
  | ifnonnull off => exact ws_ifnonnull hH hnx hd h
  | tableswitch df lo hi offs => exact ws_tableswitch hH hnx hd h
  | lookupswitch df ps => exact ws_lookupswitch hH hnx hd h
  | getfield n => exact ws_getfield hH hnx hd h
  | putfield n => exact ws_putfield hH hnx hd h
  | iaload  => exact ws_iaload hH hnx hd h
  | laload  => exact ws_laload hH hnx hd h
  | aaload  => exact ws_aaload hH hnx hd h
  | iastore  => exact ws_iastore hH hnx hd h
  | lastore  => exact ws_lastore hH hnx hd h
  | aastore  => exact ws_aastore hH hnx hd h
  | arraylength  => exact ws_arraylength hH hnx hd h
  | new n => exact ws_new hH hnx hd h
  | newarray at0 => cases at0 with
    | int => exact ws_newarray_int hH hnx hd h
    | long => exact ws_newarray_long hH hnx hd h
    | _ => exact False.elim h
  | anewarray n => exact ws_anewarray hH hnx hd h
  | invokestatic n => exact ws_invokestatic hH hnx hd h
  | invokespecial n => exact ws_invokespecial hH hnx hd h
  | invokevirtual n => exact ws_invokevirtual hH hnx hd h
  | ireturn  => exact ws_ireturn hH hnx hd h
  | return_  => exact ws_return_ hH hnx hd h
  | _ => exact False.elim h
end WPS
abbrev CutT : Type := Nat → Option (List Nat × (List Value → List Value → gH → Nat → Nat → Prop))
def wp (cc : ByteArray) (cut : CutT) (nL : Nat) (E : wE) (fl : Nat → Option (Nat × Nat × FieldType × Bool)) (nw : Nat → Option (Nat × Nat × List Value)) (nq : Nat → Option ClassId) (oc : Option Nat) (cs : Nat → Option (Nat × Nat × Nat × Nat × CallT)) (hh : Nat → Nat → Option Nat) (ret : Option FieldType) (mc ms : Nat) (RP : Option Value → gH → Prop) (TP : Nat → gH → Prop) : Nat → NxT
  | 0, _, _, _, _, _, _ => False
  | n + 1, pc, lv, st, G, k, d => match cut pc with
    | some (ks, K) => (match lgs lv ks with | some vs => K vs st G k d | none => False)
    | none => (match decode cc pc with | .ok (i, len) => wpI nL E fl nw nq oc cs hh ret mc ms RP TP (wp cc cut nL E fl nw nq oc cs hh ret mc ms RP TP n) i len pc lv st G k d | .error _ => False)
/-- one step from pc, whether it is a cut or not -/
def wp1 (cc : ByteArray) (cut : CutT) (nL : Nat) (E : wE) (fl : Nat → Option (Nat × Nat × FieldType × Bool)) (nw : Nat → Option (Nat × Nat × List Value)) (nq : Nat → Option ClassId) (oc : Option Nat) (cs : Nat → Option (Nat × Nat × Nat × Nat × CallT)) (hh : Nat → Nat → Option Nat) (ret : Option FieldType) (mc ms : Nat) (RP : Option Value → gH → Prop) (TP : Nat → gH → Prop) (n pc : Nat) (lv : List (Nat × Value)) (st : List Value) (G : gH) (k d : Nat) : Prop :=
  (match decode cc pc with | .ok (i, len) => wpI nL E fl nw nq oc cs hh ret mc ms RP TP (wp cc cut nL E fl nw nq oc cs hh ret mc ms RP TP n) i len pc lv st G k d | .error _ => False)
section WPT
variable {p : Program} {l : Launch} {e : Env} {R : Room} {s : State} {m : MethodId} {args : Array Value} {below : List Frame} {meth : Method} {c : Code} {Q : State → Prop} {E : wE} {A : Nat → Prop} {own : String} {cc : ByteArray} {nL : Nat} {pc : Nat} {lv : List (Nat × Value)} {st : List Value} {G : gH} {k d : Nat}
variable {fl : Nat → Option (Nat × Nat × FieldType × Bool)} {nw : Nat → Option (Nat × Nat × List Value)} {nq : Nat → Option ClassId} {oc : Option Nat} {cs : Nat → Option (Nat × Nat × Nat × Nat × CallT)} {hh : Nat → Nat → Option Nat} {ret : Option FieldType} {mc ms : Nat} {RP : Option Value → gH → Prop} {TP : Nat → gH → Prop}
theorem wp_sound {cut : CutT} (hH : WpH E own cc nL A Q p l e R s m args below meth c fl nw nq oc cs hh ret mc ms RP TP)
    (hcut : ∀ pc ks K, cut pc = some (ks, K) → ∀ vs st G k d, K vs st G k d → Vj E nL A Q p l e R s m args below meth c pc (ks.zip vs) st G k d) :
    ∀ (n pc : Nat) (lv : List (Nat × Value)) (st : List Value) (G : gH) (k d : Nat), wp cc cut nL E fl nw nq oc cs hh ret mc ms RP TP n pc lv st G k d → Vj E nL A Q p l e R s m args below meth c pc lv st G k d := by
  intro n
  induction n with
  | zero => intro pc lv st G k d h; exact False.elim h
  | succ n ih =>
    intro pc lv st G k d h
    unfold wp at h
    split at h
    · rename_i ks K hc0
      split at h
      · rename_i vs hv0
        intro H locs ls hP hS hl
        exact hcut pc ks K hc0 vs st G k d h H locs ls hP hS (lv_mono hl (lgs_mem hv0))
      · exact h.elim
    · split at h
      · rename_i i len hd
        exact wpI_sound hH ih hd h
      · exact h.elim
theorem wp1_sound {cut : CutT} (hH : WpH E own cc nL A Q p l e R s m args below meth c fl nw nq oc cs hh ret mc ms RP TP)
    (hcut : ∀ pc ks K, cut pc = some (ks, K) → ∀ vs st G k d, K vs st G k d → Vj E nL A Q p l e R s m args below meth c pc (ks.zip vs) st G k d)
    (n pc : Nat) (lv : List (Nat × Value)) (st : List Value) (G : gH) (k d : Nat) (h : wp1 cc cut nL E fl nw nq oc cs hh ret mc ms RP TP n pc lv st G k d) : Vj E nL A Q p l e R s m args below meth c pc lv st G k d := by
  unfold wp1 at h
  split at h
  · rename_i i len hd
    exact wpI_sound hH (wp_sound hH hcut n) hd h
  · exact h.elim
end WPT
