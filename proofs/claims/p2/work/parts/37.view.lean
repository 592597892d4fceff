/-! THE HEAP AS A SHAPE AND NUMBERS: S has the references (and a number's place), V the numbers as integers -/
abbrev v_V : Type := Nat → Nat → Int
abbrev iv (e : Int) : Value := .int (Int32.ofInt e)
def v_cv (f : Nat → Int) (i : Nat) : Value → Value
  | .int _ => iv (f i)
  | w => w
def v_mc (f : Nat → Int) : Nat → List Value → List Value
  | _, [] => []
  | i, v :: r => v_cv f i v :: v_mc f (i + 1) r
def v_mg (V : v_V) : Nat → m_H → m_H
  | _, [] => []
  | k, c :: r => (c.1, v_mc (V k) 0 c.2) :: v_mg V (k + 1) r
def mkh (S : m_H) (V : v_V) : m_H := v_mg V 0 S
theorem v_mc_nth (f : Nat → Int) : ∀ (vs : List Value) (i0 i : Nat), m_nth (v_mc f i0 vs) i = (m_nth vs i).map (v_cv f (i0 + i))
  | [], _, _ => rfl
  | v :: r, i0, 0 => rfl
  | v :: r, i0, i + 1 => by
    show m_nth (v_mc f (i0 + 1) r) i = _
    rw [v_mc_nth f r (i0 + 1) i, show i0 + 1 + i = i0 + (i + 1) by omega]
    rfl
theorem v_mc_len (f : Nat → Int) : ∀ (vs : List Value) (i0 : Nat), (v_mc f i0 vs).length = vs.length
  | [], _ => rfl
  | v :: r, i0 => by simp [v_mc, v_mc_len f r]
theorem v_mg_nth (V : v_V) : ∀ (S : m_H) (k0 k : Nat), m_nth (v_mg V k0 S) k = (m_nth S k).map (fun c => (c.1, v_mc (V (k0 + k)) 0 c.2))
  | [], _, _ => rfl
  | c :: r, k0, 0 => rfl
  | c :: r, k0, k + 1 => by
    show m_nth (v_mg V (k0 + 1) r) k = _
    rw [v_mg_nth V r (k0 + 1) k, show k0 + 1 + k = k0 + (k + 1) by omega]
    rfl
theorem v_mg_len (V : v_V) : ∀ (S : m_H) (k0 : Nat), (v_mg V k0 S).length = S.length
  | [], _ => rfl
  | c :: r, k0 => by simp [v_mg, v_mg_len V r]
theorem mkh_nth (S : m_H) (V : v_V) (k : Nat) : m_nth (mkh S V) k = (m_nth S k).map (fun c => (c.1, v_mc (V k) 0 c.2)) := by
  unfold mkh
  rw [v_mg_nth, Nat.zero_add]
theorem mkh_len (S : m_H) (V : v_V) : (mkh S V).length = S.length := v_mg_len V S 0
theorem v_list_ext {α : Type} {a b : List α} (h : ∀ k, m_nth a k = m_nth b k) : a = b := by
  apply List.ext_getElem?
  intro k
  rw [← m_nth_eq, ← m_nth_eq, h]
theorem m_nth_set {α : Type} (l : List α) (k : Nat) (a : α) (j : Nat) : m_nth (l.set k a) j = if j = k then (m_nth l k).map (fun _ => a) else m_nth l j := by
  simp only [m_nth_eq]
  by_cases h : j = k
  · subst h
    rw [if_pos rfl]
    by_cases h2 : j < l.length
    · simp [h2]
    · simp [h2]
  · rw [if_neg h, List.getElem?_set_ne (Ne.symm h)]
theorem m_nth_app {α : Type} (l : List α) (a : α) (j : Nat) : m_nth (l ++ [a]) j = if j = l.length then some a else m_nth l j := by
  simp only [m_nth_eq]
  by_cases h : j = l.length
  · subst h
    simp
  · rw [if_neg h]
    by_cases h2 : j < l.length
    · rw [List.getElem?_append_left h2]
    · rw [List.getElem?_append_right (by omega), List.getElem?_eq_none (by simp; omega), List.getElem?_eq_none (by omega)]
/-- a number changed -/
def v_uf (f : Nat → Int) (i : Nat) (x : Int) : Nat → Int := fun j => if j = i then x else f j
def v_ur (V : v_V) (k : Nat) (f : Nat → Int) : v_V := fun j => if j = k then f else V j
def v_up (V : v_V) (k i : Nat) (x : Int) : v_V := v_ur V k (v_uf (V k) i x)
theorem v_uf_eq (f : Nat → Int) (i : Nat) (x : Int) : v_uf f i x i = x := if_pos rfl
theorem v_uf_ne {f : Nat → Int} {i j : Nat} {x : Int} (h : j ≠ i) : v_uf f i x j = f j := if_neg h
theorem v_ur_eq (V : v_V) (k : Nat) (f : Nat → Int) : v_ur V k f k = f := if_pos rfl
theorem v_ur_ne {V : v_V} {k j : Nat} {f : Nat → Int} (h : j ≠ k) : v_ur V k f j = V j := if_neg h
theorem v_ur_ur (V : v_V) (k : Nat) (f g : Nat → Int) : v_ur (v_ur V k f) k g = v_ur V k g := by
  funext j
  unfold v_ur
  split <;> rfl
theorem v_ur_comm (V : v_V) {k k' : Nat} (f g : Nat → Int) (h : k ≠ k') : v_ur (v_ur V k f) k' g = v_ur (v_ur V k' g) k f := by
  funext j
  unfold v_ur
  split
  · rename_i h1
    subst h1
    rw [if_neg (Ne.symm h)]
  · rfl
theorem v_ur_self (V : v_V) (k : Nat) : v_ur V k (V k) = V := by
  funext j
  unfold v_ur
  split
  · rename_i h
    rw [h]
  · rfl
theorem v_uf_self (f : Nat → Int) (i : Nat) : v_uf f i (f i) = f := by
  funext j
  unfold v_uf
  split
  · rename_i h
    rw [h]
  · rfl
theorem v_uf_uf (f : Nat → Int) (i : Nat) (x y : Int) : v_uf (v_uf f i x) i y = v_uf f i y := by
  funext j
  unfold v_uf
  split <;> rfl
theorem v_uf_comm (f : Nat → Int) {i j : Nat} (x y : Int) (h : i ≠ j) : v_uf (v_uf f i x) j y = v_uf (v_uf f j y) i x := by
  funext q
  unfold v_uf
  split
  · rename_i h1
    subst h1
    rw [if_neg (Ne.symm h)]
  · rfl
theorem v_up_eq (V : v_V) (k i : Nat) (x : Int) : v_up V k i x k i = x := by
  unfold v_up
  rw [v_ur_eq, v_uf_eq]
theorem v_up_ni {V : v_V} {k i j : Nat} {x : Int} (h : j ≠ i) : v_up V k i x k j = V k j := by
  unfold v_up
  rw [v_ur_eq, v_uf_ne h]
theorem v_up_ne {V : v_V} {k i q : Nat} {x : Int} (h : q ≠ k) : v_up V k i x q = V q := v_ur_ne h
theorem v_up_row (V : v_V) (k i : Nat) (x : Int) : v_up V k i x k = v_uf (V k) i x := v_ur_eq _ _ _
theorem v_up_ur (V : v_V) (k i : Nat) (x : Int) : v_up V k i x = v_ur V k (v_uf (V k) i x) := rfl
/-- a cell of the shape -/
def ce (S : m_H) (k t : Nat) (vs : List Value) : Prop := k < 1000000 ∧ m_nth S k = some (t, vs)
theorem v_ob {S : m_H} {V : v_V} {k t : Nat} {vs : List Value} (h : ce S k t vs) : m_ob (mkh S V) k = some (t, v_mc (V k) 0 vs) := by
  unfold m_ob
  rw [if_pos h.1, mkh_nth, h.2]
  rfl
theorem v_set_int {S : m_H} {V : v_V} {k t i : Nat} {vs : List Value} {x : Int32} {e : Int} (h : ce S k t vs) (hi : m_nth vs i = some (.int x)) : (mkh S V).set k (t, (v_mc (V k) 0 vs).set i (iv e)) = mkh S (v_up V k i e) := by
  apply v_list_ext
  intro j
  rw [m_nth_set, mkh_nth, mkh_nth, mkh_nth]
  by_cases hj : j = k
  · subst hj
    rw [if_pos rfl, h.2]
    refine congrArg some (congrArg (Prod.mk t) ?_)
    show (v_mc (V j) 0 vs).set i (iv e) = v_mc (v_ur V j (v_uf (V j) i e) j) 0 vs
    rw [v_ur_eq]
    apply v_list_ext
    intro q
    rw [m_nth_set, v_mc_nth, v_mc_nth (v_uf (V j) i e)]
    by_cases hq : q = i
    · subst hq
      rw [if_pos rfl, hi]
      show some _ = some _
      rw [Nat.zero_add]
      simp [v_cv, v_uf]
    · rw [if_neg hq, v_mc_nth]
      cases hv : m_nth vs q with
      | none => rfl
      | some v =>
        show some _ = some _
        rw [Nat.zero_add]
        cases v <;> simp [v_cv, v_uf, hq]
  · rw [if_neg hj, show v_up V k i e j = V j from v_ur_ne hj]
theorem v_mc_set (f : Nat → Int) (vs : List Value) (i0 i : Nat) (w : Value) (hw : ∀ x, w ≠ .int x) : (v_mc f i0 vs).set i w = v_mc f i0 (vs.set i w) := by
  apply v_list_ext
  intro q
  rw [m_nth_set, v_mc_nth, v_mc_nth, v_mc_nth, m_nth_set]
  by_cases hq : q = i
  · subst hq
    rw [if_pos rfl, if_pos rfl]
    cases m_nth vs q with
    | none => rfl
    | some v =>
      show some _ = some _
      cases w <;> first | rfl | (exact absurd rfl (hw _))
  · rw [if_neg hq, if_neg hq]
theorem v_set_ref {S : m_H} {V : v_V} {k t i : Nat} {vs : List Value} {w : Value} (h : ce S k t vs) (hw : ∀ x, w ≠ .int x) : (mkh S V).set k (t, (v_mc (V k) 0 vs).set i w) = mkh (S.set k (t, vs.set i w)) V := by
  apply v_list_ext
  intro j
  rw [m_nth_set, mkh_nth, mkh_nth, mkh_nth, m_nth_set]
  by_cases hj : j = k
  · subst hj
    rw [if_pos rfl, if_pos rfl, h.2]
    show some _ = some _
    rw [v_mc_set _ _ _ _ _ hw]
  · rw [if_neg hj, if_neg hj]
/-- a new cell, all its numbers 0 -/
def v_zer (V : v_V) (k : Nat) : v_V := v_ur V k (fun _ => 0)
theorem v_mc_zero : ∀ (vs : List Value) (i0 : Nat), (∀ v ∈ vs, v = iv 0 ∨ ∀ x, v ≠ .int x) → v_mc (fun _ => 0) i0 vs = vs
  | [], _, _ => rfl
  | v :: r, i0, h => by
    show v_cv _ i0 v :: v_mc _ (i0 + 1) r = _
    rw [v_mc_zero r (i0 + 1) (fun w hw => h w (List.mem_cons_of_mem _ hw))]
    congr 1
    rcases h v List.mem_cons_self with rfl | h2
    · rfl
    · cases v <;> first | rfl | (exact absurd rfl (h2 _))
theorem v_mk_add {S : m_H} {V : v_V} {t : Nat} {vs : List Value} (h : ∀ v ∈ vs, v = iv 0 ∨ ∀ x, v ≠ .int x) : mkh S V ++ [(t, vs)] = mkh (S ++ [(t, vs)]) (v_zer V S.length) := by
  apply v_list_ext
  intro j
  rw [m_nth_app, mkh_len, mkh_nth, mkh_nth, m_nth_app]
  by_cases hj : j = S.length
  · rw [if_pos hj, if_pos hj]
    show some _ = some _
    rw [hj]
    unfold v_zer
    rw [v_ur_eq]
    show _ = some (t, v_mc (fun _ => 0) 0 vs)
    rw [v_mc_zero _ _ h]
  · rw [if_neg hj, if_neg hj]
    unfold v_zer
    rw [v_ur_ne hj]
theorem v_oi (x : Int32) : iv x.toInt = .int x := by
  show Value.int _ = _
  rw [Int32.ofInt_toInt]
theorem v_ti {x : Int} (h1 : -2147483648 ≤ x) (h2 : x < 2147483648) : (Int32.ofInt x).toInt = x := Int32.toInt_ofInt_of_le h1 h2
theorem v_inj {x y : Int} (h1 : -2147483648 ≤ x) (h2 : x < 2147483648) (h3 : -2147483648 ≤ y) (h4 : y < 2147483648) : Int32.ofInt x = Int32.ofInt y ↔ x = y := by
  constructor
  · intro h
    rw [← v_ti h1 h2, h, v_ti h3 h4]
  · rintro rfl
    rfl
theorem v_lt {x y : Int} (h1 : -2147483648 ≤ x) (h2 : x < 2147483648) (h3 : -2147483648 ≤ y) (h4 : y < 2147483648) : Int32.ofInt x < Int32.ofInt y ↔ x < y := by
  rw [Int32.lt_iff_toInt_lt, v_ti h1 h2, v_ti h3 h4]
theorem v_le {x y : Int} (h1 : -2147483648 ≤ x) (h2 : x < 2147483648) (h3 : -2147483648 ≤ y) (h4 : y < 2147483648) : Int32.ofInt x ≤ Int32.ofInt y ↔ x ≤ y := by
  rw [Int32.le_iff_toInt_le, v_ti h1 h2, v_ti h3 h4]
theorem v_ix {e : Int} (h1 : 0 ≤ e) (h2 : e < 2147483648) : m_ix (Int32.ofInt e) = some e.toNat := by
  unfold m_ix
  rw [if_neg (by
    rw [show (0 : Int32) = Int32.ofInt 0 from rfl, v_lt (by omega) (by omega) (by omega) (by omega)]
    omega)]
  congr 1
  show (Int32.ofInt e).toInt.toNat = _
  rw [v_ti (by omega) h2]
