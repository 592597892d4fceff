/-! A SMALL MACHINE: the bytecode's instructions as a function over a plain heap (a list of cells: a number for the class, and the values); references are numbers counted from the law's entry on, those from 1000000 on are the script and the two constant rows. -/
abbrev m_H : Type := List (Nat × List Value)
abbrev m_L : Type := List (Nat × Value)
abbrev m_E : Type := Instr × Nat × Int × Nat
abbrev m_R : Type := Option Value × m_H
abbrev m_C : Type := Nat × m_L × List Value × m_H
def m_nth {α : Type} : List α → Nat → Option α
  | [], _ => none
  | a :: _, 0 => some a
  | _ :: r, n + 1 => m_nth r n
theorem m_nth_eq {α : Type} (l : List α) (n : Nat) : m_nth l n = l[n]? := by
  induction l generalizing n with
  | nil => simp [m_nth]
  | cons a r ih => cases n <;> simp [m_nth, ih]
def m_lg : m_L → Nat → Option Value
  | [], _ => none
  | (j, v) :: r, i => if j = i then some v else m_lg r i
theorem m_lg_mem {l : m_L} {i : Nat} {v : Value} (h : m_lg l i = some v) : (i, v) ∈ l := by
  induction l with
  | nil => simp [m_lg] at h
  | cons a r ih =>
    obtain ⟨j, w⟩ := a
    simp only [m_lg] at h
    split at h
    · rename_i e
      cases h
      subst e
      exact List.mem_cons_self
    · exact List.mem_cons_of_mem _ (ih h)
def m_st (lv : m_L) (i : Nat) (v : Value) : m_L := (i, v) :: lv.filter (fun q => !(q.1 == i) && !(q.1 + 1 == i && q.2.category == 2))
def m_ix (i : Int32) : Option Nat := if i < 0 then none else some i.toNatClampNeg
def m_ob (h : m_H) (k : Nat) : Option (Nat × List Value) := if k < 1000000 then m_nth h k else none
/-- what a field of a kind may hold: 0 int, 1 boolean, 2 a reference -/
def m_fit (ty : Nat) (v : Value) : Bool := match v with
  | .int x => ty == 0 || (ty == 1 && (x == 0 || x == 1))
  | .null => ty == 2
  | .ref _ => ty == 2
  | _ => false
/-- an array's elements -/
def m_el (X : Nat → List Int32) (h : m_H) (tag k : Nat) (i : Int32) : Option Value :=
  match m_ix i with
  | none => none
  | some j => if k < 1000000 then (match m_nth h k with
    | some (t, vs) => if t = tag then m_nth vs j else none
    | none => none) else if tag = 20 ∧ k - 1000000 < 3 ∧ X 3 = [] then (m_nth (X (k - 1000000)) j).map Value.int else none
/-- an array with an element changed -/
def m_se (h : m_H) (tag k : Nat) (i : Int32) (v : Value) : Option m_H :=
  match m_ix i with
  | none => none
  | some j => match m_ob h k with
    | some (t, vs) => if t = tag ∧ j < vs.length then some (h.set k (tag, vs.set j v)) else none
    | none => none
def m_ln (X : Nat → List Int32) (h : m_H) (k : Nat) : Option Int32 :=
  if k < 1000000 then (match m_nth h k with
    | some (t, vs) => if 20 ≤ t ∧ t ≤ 26 then some (Int32.ofNat vs.length) else none
    | none => none) else if k - 1000000 < 3 ∧ X 3 = [] then some (Int32.ofNat (X (k - 1000000)).length) else none
/-- the class of the elements of an array of references -/
def m_cmp (tag : Nat) : Nat := match tag with
  | 22 => 6
  | 23 => 0
  | 24 => 2
  | 25 => 1
  | 26 => 8
  | _ => 99
def m_asg (h : m_H) (tag : Nat) (v : Value) : Bool := match v with
  | .null => true
  | .ref q => (match m_ob h q with
    | some (t, _) => t == m_cmp tag
    | none => false)
  | _ => false
/-- System.arraycopy of rows of ints -/
def m_acp (h : m_H) (a : Nat) (sp : Int32) (b : Nat) (dp n : Int32) : Option m_H :=
  match m_ix sp, m_ix dp, m_ix n with
  | some i, some j, some w => (match m_ob h a, m_ob h b with
    | some (t, us), some (t', vs) => if t = 20 ∧ t' = 20 ∧ i + w ≤ us.length ∧ j + w ≤ vs.length then some (h.set b (20, vs.take j ++ ((us.drop i).take w ++ vs.drop (j + w)))) else none
    | _, _ => none)
  | _, _, _ => none
def m_add (h : m_H) (tag : Nat) (vs : List Value) : Option m_H := if h.length < 1000000 then some (h ++ [(tag, vs)]) else none
/-- the fields of a new object, by its class -/
def m_dfl : Nat → List Value
  | 0 => [.int 0, .int 0, .int 0, .int 0, .int 0, .null, .null, .null]
  | 1 => [.null]
  | 2 => [.int 0, .int 0, .int 0, .int 0]
  | 3 => [.null, .int 0, .int 0, .null]
  | 4 => [.null, .null, .null, .null, .int 0, .null, .int 0, .int 0, .int 0, .null]
  | 5 => [.null, .int 0, .null, .int 0, .null, .int 0, .null, .int 0, .null, .int 0, .int 0, .null, .int 0, .null]
  | 6 => [.int 0, .null, .null, .null, .null, .null, .int 0, .int 0, .null]
  | 7 => [.null, .int 0, .int 0, .int 0, .int 0]
  | 8 => [.int 0, .int 0, .int 0, .null, .null, .null]
  | 9 => [.null, .null, .int 0, .null, .null]
  | 10 => [.int 0, .null, .null, .int 0, .null, .null, .null, .null, .null, .int 0, .int 0, .int 0, .int 0, .int 0, .int 0, .null, .null, .int 0, .int 0, .int 0, .int 0, .int 0, .int 0, .int 0, .null, .null, .null, .int 0, .null, .null, .null, .null, .null, .null, .null, .null, .null, .int 0, .int 0, .null, .int 0, .int 0, .int 0, .int 0]
  | _ => []
def m_go (pc : Nat) (off : Int) : Option Nat := if 0 ≤ (pc : Int) + off then some ((pc : Int) + off).toNat else none
abbrev m_nx (pc : Nat) (lv : m_L) (st : List Value) (h : m_H) : Option (m_C ⊕ m_R) := some (.inl (pc, lv, st, h))
/-- one instruction: the next place, or the method's end; call: what a called method does -/
def m_stp (X : Nat → List Int32) (call : Nat → List Value → m_H → Option m_R) (en : m_E) (pc : Nat) (lv : m_L) (st : List Value) (h : m_H) : Option (m_C ⊕ m_R) :=
  match en with
  | (ins, len, a, b) =>
  match ins with
  | .iconst n => m_nx (pc + len) lv (.int (Int32.ofInt n) :: st) h
  | .bipush n => m_nx (pc + len) lv (.int (Int8.ofInt n).toInt32 :: st) h
  | .sipush n => m_nx (pc + len) lv (.int (Int16.ofInt n).toInt32 :: st) h
  | .ldc _ => m_nx (pc + len) lv (.int (Int32.ofInt a) :: st) h
  | .ldc_w _ => m_nx (pc + len) lv (.int (Int32.ofInt a) :: st) h
  | .ldc2_w _ => m_nx (pc + len) lv (.long (Int64.ofInt a) :: st) h
  | .aconst_null => m_nx (pc + len) lv (.null :: st) h
  | .iload_n k => (match m_lg lv k.val with
    | some (.int x) => m_nx (pc + len) lv (.int x :: st) h
    | _ => none)
  | .iload k => (match m_lg lv k with
    | some (.int x) => m_nx (pc + len) lv (.int x :: st) h
    | _ => none)
  | .lload_n k => (match m_lg lv k.val with
    | some (.long x) => m_nx (pc + len) lv (.long x :: st) h
    | _ => none)
  | .lload k => (match m_lg lv k with
    | some (.long x) => m_nx (pc + len) lv (.long x :: st) h
    | _ => none)
  | .aload_n k => (match m_lg lv k.val with
    | some (.ref x) => m_nx (pc + len) lv (.ref x :: st) h
    | some .null => m_nx (pc + len) lv (.null :: st) h
    | _ => none)
  | .aload k => (match m_lg lv k with
    | some (.ref x) => m_nx (pc + len) lv (.ref x :: st) h
    | some .null => m_nx (pc + len) lv (.null :: st) h
    | _ => none)
  | .istore_n k => (match st with
    | .int x :: r => m_nx (pc + len) (m_st lv k.val (.int x)) r h
    | _ => none)
  | .istore k => (match st with
    | .int x :: r => m_nx (pc + len) (m_st lv k (.int x)) r h
    | _ => none)
  | .astore_n k => (match st with
    | .ref x :: r => m_nx (pc + len) (m_st lv k.val (.ref x)) r h
    | .null :: r => m_nx (pc + len) (m_st lv k.val .null) r h
    | _ => none)
  | .astore k => (match st with
    | .ref x :: r => m_nx (pc + len) (m_st lv k (.ref x)) r h
    | .null :: r => m_nx (pc + len) (m_st lv k .null) r h
    | _ => none)
  | .iinc i n => (match m_lg lv i with
    | some (.int x) => m_nx (pc + len) (m_st lv i (.int (x + Int32.ofInt n))) st h
    | _ => none)
  | .iadd => (match st with
    | .int y :: .int x :: r => m_nx (pc + len) lv (.int (x + y) :: r) h
    | _ => none)
  | .isub => (match st with
    | .int y :: .int x :: r => m_nx (pc + len) lv (.int (x - y) :: r) h
    | _ => none)
  | .imul => (match st with
    | .int y :: .int x :: r => m_nx (pc + len) lv (.int (x * y) :: r) h
    | _ => none)
  | .iand => (match st with
    | .int y :: .int x :: r => m_nx (pc + len) lv (.int (x &&& y) :: r) h
    | _ => none)
  | .ior => (match st with
    | .int y :: .int x :: r => m_nx (pc + len) lv (.int (x ||| y) :: r) h
    | _ => none)
  | .ixor => (match st with
    | .int y :: .int x :: r => m_nx (pc + len) lv (.int (x ^^^ y) :: r) h
    | _ => none)
  | .idiv => (match st with
    | .int y :: .int x :: r => if y = 0 then none else m_nx (pc + len) lv (.int (x / y) :: r) h
    | _ => none)
  | .irem => (match st with
    | .int y :: .int x :: r => if y = 0 then none else m_nx (pc + len) lv (.int (x - x / y * y) :: r) h
    | _ => none)
  | .ishl => (match st with
    | .int y :: .int x :: r => m_nx (pc + len) lv (.int (x <<< (y &&& 31)) :: r) h
    | _ => none)
  | .ishr => (match st with
    | .int y :: .int x :: r => m_nx (pc + len) lv (.int (x >>> (y &&& 31)) :: r) h
    | _ => none)
  | .iushr => (match st with
    | .int y :: .int x :: r => m_nx (pc + len) lv (.int ((x.toUInt32 >>> (y.toUInt32 &&& Int32.toUInt32 31)).toInt32) :: r) h
    | _ => none)
  | .land => (match st with
    | .long y :: .long x :: r => m_nx (pc + len) lv (.long (x &&& y) :: r) h
    | _ => none)
  | .lor => (match st with
    | .long y :: .long x :: r => m_nx (pc + len) lv (.long (x ||| y) :: r) h
    | _ => none)
  | .lshl => (match st with
    | .int y :: .long x :: r => m_nx (pc + len) lv (.long (x <<< (y.toInt64 &&& 63)) :: r) h
    | _ => none)
  | .lshr => (match st with
    | .int y :: .long x :: r => m_nx (pc + len) lv (.long (x >>> (y.toInt64 &&& 63)) :: r) h
    | _ => none)
  | .lushr => (match st with
    | .int y :: .long x :: r => m_nx (pc + len) lv (.long ((x.toUInt64 >>> (y.toInt64.toUInt64 &&& Int64.toUInt64 63)).toInt64) :: r) h
    | _ => none)
  | .ineg => (match st with
    | .int x :: r => m_nx (pc + len) lv (.int (-x) :: r) h
    | _ => none)
  | .i2l => (match st with
    | .int x :: r => m_nx (pc + len) lv (.long (x.toInt64) :: r) h
    | _ => none)
  | .l2i => (match st with
    | .long x :: r => m_nx (pc + len) lv (.int (x.toInt32) :: r) h
    | _ => none)
  | .dup => (match st with
    | .int x :: r => m_nx (pc + len) lv (.int x :: .int x :: r) h
    | .ref x :: r => m_nx (pc + len) lv (.ref x :: .ref x :: r) h
    | _ => none)
  | .dup2 => (match st with
    | .int x :: .ref y :: r => m_nx (pc + len) lv (.int x :: .ref y :: .int x :: .ref y :: r) h
    | _ => none)
  | .pop => (match st with
    | .int _ :: r => m_nx (pc + len) lv r h
    | _ => none)
  | .ifCond .eq _ => (match st with
    | .int x :: r => if x = 0 then m_nx a.toNat lv r h else m_nx (pc + len) lv r h
    | _ => none)
  | .ifCond .ne _ => (match st with
    | .int x :: r => if x = 0 then m_nx (pc + len) lv r h else m_nx a.toNat lv r h
    | _ => none)
  | .ifCond .lt _ => (match st with
    | .int x :: r => if x < 0 then m_nx a.toNat lv r h else m_nx (pc + len) lv r h
    | _ => none)
  | .ifCond .ge _ => (match st with
    | .int x :: r => if 0 ≤ x then m_nx a.toNat lv r h else m_nx (pc + len) lv r h
    | _ => none)
  | .ifCond .gt _ => (match st with
    | .int x :: r => if 0 < x then m_nx a.toNat lv r h else m_nx (pc + len) lv r h
    | _ => none)
  | .ifCond .le _ => (match st with
    | .int x :: r => if x ≤ 0 then m_nx a.toNat lv r h else m_nx (pc + len) lv r h
    | _ => none)
  | .if_icmp .eq _ => (match st with
    | .int y :: .int x :: r => if x = y then m_nx a.toNat lv r h else m_nx (pc + len) lv r h
    | _ => none)
  | .if_icmp .ne _ => (match st with
    | .int y :: .int x :: r => if x = y then m_nx (pc + len) lv r h else m_nx a.toNat lv r h
    | _ => none)
  | .if_icmp .lt _ => (match st with
    | .int y :: .int x :: r => if x < y then m_nx a.toNat lv r h else m_nx (pc + len) lv r h
    | _ => none)
  | .if_icmp .ge _ => (match st with
    | .int y :: .int x :: r => if y ≤ x then m_nx a.toNat lv r h else m_nx (pc + len) lv r h
    | _ => none)
  | .if_icmp .gt _ => (match st with
    | .int y :: .int x :: r => if y < x then m_nx a.toNat lv r h else m_nx (pc + len) lv r h
    | _ => none)
  | .if_icmp .le _ => (match st with
    | .int y :: .int x :: r => if x ≤ y then m_nx a.toNat lv r h else m_nx (pc + len) lv r h
    | _ => none)
  | .ifnull _ => (match st with
    | .null :: r => m_nx a.toNat lv r h
    | .ref _ :: r => m_nx (pc + len) lv r h
    | _ => none)
  | .ifnonnull _ => (match st with
    | .null :: r => m_nx (pc + len) lv r h
    | .ref _ :: r => m_nx a.toNat lv r h
    | _ => none)
  | .goto _ => m_nx a.toNat lv st h
  | .tableswitch d lo hi offs => (match st with
    | .int x :: r => if x.toInt < lo ∨ hi < x.toInt then (match m_go pc d with
      | some t => m_nx t lv r h
      | none => none) else (match m_nth offs.toList (x.toInt - lo).toNat with
      | some off => (match m_go pc off with
        | some t => m_nx t lv r h
        | none => none)
      | none => none)
    | _ => none)
  | .lookupswitch d ps => (match st with
    | .int x :: r => (match m_go pc (Op.lookupswitch.offset ps.toList d x.toInt) with
      | some t => m_nx t lv r h
      | none => none)
    | _ => none)
  | .getfield _ => (match st with
    | .ref k :: r => (match m_ob h k with
      | some (t, vs) => if t = b then (match m_nth vs (a.toNat % 100) with
        | some (.int x) => m_nx (pc + len) lv (.int x :: r) h
        | some (.ref x) => m_nx (pc + len) lv (.ref x :: r) h
        | some .null => m_nx (pc + len) lv (.null :: r) h
        | _ => none) else none
      | none => none)
    | _ => none)
  | .putfield _ => (match st with
    | v :: .ref k :: r => (match m_ob h k with
      | some (t, vs) => if t = b ∧ a.toNat % 100 < vs.length ∧ m_fit (a.toNat / 100) v = true then m_nx (pc + len) lv r (h.set k (t, vs.set (a.toNat % 100) v)) else none
      | none => none)
    | _ => none)
  | .getstatic _ => m_nx (pc + len) lv (.ref (1000000 + b) :: st) h
  | .new _ => (match m_add h b (m_dfl b) with
    | some h' => m_nx (pc + len) lv (.ref h.length :: st) h'
    | none => none)
  | .newarray _ => (match st with
    | .int n :: r => (match m_ix n with
      | some w => if w ≤ 100000 then (match m_add h b (List.replicate w (.int 0)) with
        | some h' => m_nx (pc + len) lv (.ref h.length :: r) h'
        | none => none) else none
      | none => none)
    | _ => none)
  | .anewarray _ => (match st with
    | .int n :: r => (match m_ix n with
      | some w => if w ≤ 100000 then (match m_add h b (List.replicate w .null) with
        | some h' => m_nx (pc + len) lv (.ref h.length :: r) h'
        | none => none) else none
      | none => none)
    | _ => none)
  | .arraylength => (match st with
    | .ref k :: r => (match m_ln X h k with
      | some n => m_nx (pc + len) lv (.int n :: r) h
      | none => none)
    | _ => none)
  | .iaload => (match st with
    | .int i :: .ref k :: r => (match m_el X h 20 k i with
      | some (.int x) => m_nx (pc + len) lv (.int x :: r) h
      | _ => none)
    | _ => none)
  | .baload => (match st with
    | .int i :: .ref k :: r => (match m_el X h 21 k i with
      | some (.int x) => m_nx (pc + len) lv (.int x :: r) h
      | _ => none)
    | _ => none)
  | .aaload => (match st with
    | .int i :: .ref k :: r => (match m_ob h k, m_ix i with
      | some (t, vs), some j => if 22 ≤ t ∧ t ≤ 26 then (match m_nth vs j with
        | some (.ref x) => m_nx (pc + len) lv (.ref x :: r) h
        | some .null => m_nx (pc + len) lv (.null :: r) h
        | _ => none) else none
      | _, _ => none)
    | _ => none)
  | .iastore => (match st with
    | .int x :: .int i :: .ref k :: r => (match m_se h 20 k i (.int x) with
      | some h' => m_nx (pc + len) lv r h'
      | none => none)
    | _ => none)
  | .bastore => (match st with
    | .int x :: .int i :: .ref k :: r => if x = 0 ∨ x = 1 then (match m_se h 21 k i (.int x) with
      | some h' => m_nx (pc + len) lv r h'
      | none => none) else none
    | _ => none)
  | .aastore => (match st with
    | v :: .int i :: .ref k :: r => (match m_ob h k, m_ix i with
      | some (t, vs), some j => if 22 ≤ t ∧ t ≤ 26 ∧ j < vs.length ∧ m_asg h t v = true then m_nx (pc + len) lv r (h.set k (t, vs.set j v)) else none
      | _, _ => none)
    | _ => none)
  | .invokevirtual _ => (match st.drop b with
    | .ref k :: r => (match m_ob h k with
      | some (t, _) => if t = m_oc a.toNat ∧ r.length ≤ 4 ∧ b ≤ st.length then (match call a.toNat (.ref k :: (st.take b).reverse) h with
        | some (v, h') => m_nx (pc + len) lv (v.toList ++ r) h'
        | none => none) else none
      | none => none)
    | _ => none)
  | .invokestatic _ => if a.toNat = 9999 then (match st with
    | .int n :: .int dp :: .ref q :: .int sp :: .ref k :: r => (match m_acp h k sp q dp n with
      | some h' => if r.length ≤ 4 then m_nx (pc + len) lv r h' else none
      | none => none)
    | _ => none) else if (st.drop b).length ≤ 4 ∧ b ≤ st.length then (match call a.toNat (st.take b).reverse h with
      | some (v, h') => m_nx (pc + len) lv (v.toList ++ st.drop b) h'
      | none => none) else none
  | .invokespecial _ => if a.toNat = 9998 then (match st with
    | .ref _ :: r => if r.length ≤ 4 then m_nx (pc + len) lv r h else none
    | _ => none) else (match st.drop b with
    | .ref k :: r => if r.length ≤ 4 ∧ b ≤ st.length ∧ k < 1000000 then (match call a.toNat (.ref k :: (st.take b).reverse) h with
        | some (v, h') => m_nx (pc + len) lv (v.toList ++ r) h'
        | none => none) else none
    | _ => none)
  | .ireturn => (match st with
    | [.int x] => if b = 0 ∨ x = 0 ∨ x = 1 then some (.inr (some (.int x), h)) else none
    | _ => none)
  | .areturn => (match st with
    | [.ref x] => some (.inr (some (.ref x), h))
    | [.null] => some (.inr (some .null, h))
    | _ => none)
  | .return_ => (match st with
    | [] => some (.inr (none, h))
    | _ => none)
  | _ => none
def m_exec (X : Nat → List Int32) (call : Nat → List Value → m_H → Option m_R) (code : List (Option m_E)) : Nat → Nat → m_L → List Value → m_H → Option m_R
  | 0, _, _, _, _ => none
  | n + 1, pc, lv, st, h => match m_nth code pc with
    | some (some en) => (match m_stp X call en pc lv st h with
      | some (.inl (pc', lv', st', h')) => m_exec X call code n pc' lv' st' h'
      | some (.inr r) => some r
      | none => none)
    | _ => none
