/-! the plain heap and the machine's -/
abbrev m_AE : Type := Nat × (Nat → Nat)
def m_rl (E : m_AE) (k : Nat) : Nat := if k < 1000000 then E.1 + k else E.2 (k - 1000000)
def m_rv (E : m_AE) : Value → Value
  | .ref k => .ref (m_rl E k)
  | v => v
def m_rq (E : m_AE) (q : Nat × Value) : Nat × Value := (q.1, m_rv E q.2)
def m_i1 : Value → Int32
  | .int x => x
  | _ => 0
def m_or (E : m_AE) : Value → Option Nat
  | .ref k => some (m_rl E k)
  | _ => none
def m_cell (E : m_AE) (ty : Nat → ClassId) (c : Nat × List Value) : va_E :=
  if c.1 < 20 then .inr (c.1, c.2.map (m_rv E))
  else if c.1 < 22 then .inl (ty (c.1 - 20), c.2.length, .inl (fun j => m_i1 (c.2.getD j (.int 0))))
  else .inl (ty (c.1 - 20), c.2.length, .inr (.inr (.inr (.inr (fun j => m_or E (c.2.getD j .null))))))
def m_tys (ty : Nat → ClassId) : List (ClassId × FieldType) := [(ty 0, .int), (ty 1, .boolean), (ty 2, .object "WayBoxes$Text"), (ty 3, .object "WayBoxes$Box"), (ty 4, .object "WayBoxes$Packet"), (ty 5, .object "WayBoxes$Memory"), (ty 6, .object "WayBoxes$Watch")]
def m_ws (E : m_AE) (ty : Nat → ClassId) (h : m_H) : va_W := h.mapIdx (fun k c => (E.1 + k, m_cell E ty c))
def m_A (E : m_AE) : Nat → Prop := fun q => E.1 ≤ q
def m_sz (h : m_H) : Nat := (h.map (fun c => c.2.length)).sum
theorem m_ws_get (E : m_AE) (ty : Nat → ClassId) (h : m_H) (k : Nat) : (m_ws E ty h)[k]? = (h[k]?).map (fun c => (E.1 + k, m_cell E ty c)) := by
  simp [m_ws, List.getElem?_mapIdx]
theorem m_ws_at {E : m_AE} {ty : Nat → ClassId} {h : m_H} {k : Nat} {c : Nat × List Value} (hk : m_nth h k = some c) : (m_ws E ty h)[k]? = some (E.1 + k, m_cell E ty c) := by
  rw [m_ws_get, ← m_nth_eq, hk]
  rfl
theorem m_ws_len (E : m_AE) (ty : Nat → ClassId) (h : m_H) : (m_ws E ty h).length = h.length := by simp [m_ws]
theorem m_ws_set (E : m_AE) (ty : Nat → ClassId) (h : m_H) (k : Nat) (c : Nat × List Value) : m_ws E ty (h.set k c) = (m_ws E ty h).set k (E.1 + k, m_cell E ty c) := by
  apply List.ext_getElem?
  intro j
  rw [m_ws_get, List.getElem?_set, List.getElem?_set, m_ws_get, m_ws_len]
  by_cases hk : k = j
  · subst hk
    by_cases hl : k < h.length <;> simp [hl]
  · simp [hk]
theorem m_ws_add (E : m_AE) (ty : Nat → ClassId) (h : m_H) (c : Nat × List Value) : m_ws E ty (h ++ [c]) = m_ws E ty h ++ [(E.1 + h.length, m_cell E ty c)] := by
  apply List.ext_getElem?
  intro j
  rw [m_ws_get, List.getElem?_append, List.getElem?_append, m_ws_get, m_ws_len]
  by_cases hl : j < h.length
  · simp [hl]
  · by_cases h2 : j = h.length
    · subst h2
      simp
    · have h3 : 1 ≤ j - h.length := by omega
      rw [if_neg hl, if_neg hl, List.getElem?_eq_none (by simpa using h3), List.getElem?_eq_none (by simpa using h3)]
      rfl
theorem m_ws_D (E : m_AE) (ty : Nat → ClassId) (h : m_H) : va_D (m_A E) (m_ws E ty h) := by
  refine ⟨fun i j p q hi hj hpq => ?_, fun k q hk => ?_⟩
  · rw [m_ws_get] at hi hj
    obtain ⟨c, -, rfl⟩ := Option.map_eq_some_iff.mp hi
    obtain ⟨c', -, rfl⟩ := Option.map_eq_some_iff.mp hj
    have : E.1 + i = E.1 + j := hpq
    omega
  · rw [m_ws_get] at hk
    obtain ⟨c, -, rfl⟩ := Option.map_eq_some_iff.mp hk
    exact Nat.le_add_right _ _
theorem m_ob_nth {h : m_H} {k : Nat} {c : Nat × List Value} (hk : m_ob h k = some c) : k < 1000000 ∧ m_nth h k = some c := by
  unfold m_ob at hk
  split at hk
  · rename_i h1
    exact ⟨h1, hk⟩
  · cases hk
theorem m_rl_in (E : m_AE) {k : Nat} (h : k < 1000000) : m_rl E k = E.1 + k := if_pos h
theorem m_rv_cat (E : m_AE) (v : Value) : (m_rv E v).category = v.category := by cases v <;> rfl
theorem m_lat {E : m_AE} {ls : Array Slot} {n : Nat} {lv : m_L} {i : Nat} {v : Value} (hl : lv_has ls n (lv.map (m_rq E))) (h : m_lg lv i = some v) : ls[i]? = some (.val (m_rv E v)) :=
  hl.2.2 (i, m_rv E v) (List.mem_map.mpr ⟨(i, v), m_lg_mem h, rfl⟩)
theorem m_lmem {E : m_AE} {lv : m_L} {i : Nat} {v : Value} (h : m_lg lv i = some v) : ∃ k : Nat, (lv.map (m_rq E))[k]? = some (i, m_rv E v) :=
  List.getElem?_of_mem (List.mem_map.mpr ⟨(i, v), m_lg_mem h, rfl⟩)
theorem m_st_map (E : m_AE) (lv : m_L) (i : Nat) (v : Value) : (i, m_rv E v) :: (lv.map (m_rq E)).filter (fun q => !(q.1 == i) && !(q.1 + 1 == i && q.2.category == 2)) = (m_st lv i v).map (m_rq E) := by
  rw [List.filter_map]
  simp only [m_st, List.map_cons]
  have e : ((fun q : Nat × Value => !(q.1 == i) && !(q.1 + 1 == i && q.2.category == 2)) ∘ m_rq E) = fun q : Nat × Value => !(q.1 == i) && !(q.1 + 1 == i && q.2.category == 2) := by
    funext q
    simp [m_rq, m_rv_cat, Function.comp]
  rw [e]
  rfl
theorem m_sz_set {h : m_H} {k t t' : Nat} {us vs : List Value} (hk : m_nth h k = some (t, us)) (hl : vs.length = us.length) : m_sz (h.set k (t', vs)) = m_sz h := by
  induction h generalizing k with
  | nil => rfl
  | cons a r ih =>
    cases k with
    | zero =>
      cases hk
      simp [m_sz, hl]
    | succ k =>
      have := ih (k := k) hk
      simp only [m_sz, List.set_cons_succ, List.map_cons, List.sum_cons] at this ⊢
      rw [this]
theorem m_sz_add (h : m_H) (t : Nat) (vs : List Value) : m_sz (h ++ [(t, vs)]) = m_sz h + vs.length := by simp [m_sz]
theorem m_nth_lt {α : Type} {l : List α} {k : Nat} {a : α} (h : m_nth l k = some a) : k < l.length := by
  rw [m_nth_eq] at h
  exact (List.getElem?_eq_some_iff.mp h).1
/-- what the tables say of the classes, wherever the machine is -/
def m_Kn (D : va_G) (ty : Nat → ClassId) (U : State) : Prop := va_K D vwCl (m_tys ty) U ∧ (∀ w ∈ m_nw, va_Nw w U) ∧ ∀ C ∈ m_ao, va_AO C U
/-- the script and the constant rows -/
def m_Ex (E : m_AE) (X : Nat → List Int32) (U : State) (H : Heap) : Prop := (∀ j, j < 3 → va_T .int (E.2 j) (X j).length (fun k => .int ((X j).getD k 0)) (m_A E) U H) ∧ ∀ j, j = 1 ∨ j = 2 → va_Z m_host (m_sn j) "[I" (.ref (E.2 j)) (m_A E) U H
/-- the machine's heap holds the plain one -/
def m_B (E : m_AE) (D : va_G) (ty : Nat → ClassId) (X : Nat → List Int32) (h : m_H) (U : State) : Prop := U.heap.size = E.1 + h.length ∧ va_P D vwCl (m_ws E ty h) U.heap ∧ m_Kn D ty U ∧ m_Ex E X U U.heap
theorem m_nw_shape {w : Cond} (hw : w ∈ m_nw) : (∃ a i b n d h, w = .fieldLinkNest a i b n d h) ∨ ∃ a i x h, w = .methodLinkNest a i x h := by
  simp only [m_nw, List.mem_append, List.mem_map] at hw
  rcases hw with ((⟨e, -, rfl⟩ | ⟨e, -, rfl⟩) | ⟨e, -, rfl⟩) | ⟨e, -, rfl⟩
  · exact Or.inl ⟨_, _, _, _, _, _, rfl⟩
  · exact Or.inl ⟨_, _, _, _, _, _, rfl⟩
  · exact Or.inr ⟨_, _, _, _, rfl⟩
  · exact Or.inr ⟨_, _, _, _, rfl⟩
theorem m_nw_tab {w : Cond} (hw : w ∈ m_nw) : w.onTables = true := by
  rcases m_nw_shape hw with ⟨a, i, b, n, d, h, rfl⟩ | ⟨a, i, x, h, rfl⟩ <;> rfl
theorem m_Kn.warm {D : va_G} {ty : Nat → ClassId} {s U : State} (h : m_Kn D ty s) (hW : s.WarmedH U.vm) : m_Kn D ty U := by
  refine ⟨va_K.moved hW.alike h.1, fun w hw => ?_, fun C hC => va_AO.moved hW.alike (h.2.2 C hC)⟩
  have h1 := h.2.1 w hw
  rcases m_nw_shape hw with ⟨a, i, b, n, d, h, rfl⟩ | ⟨a, i, x, h, rfl⟩
  · exact va_Nw.warmF hW h1
  · exact va_Nw.warmM hW h1
theorem m_Kn.same {D : va_G} {ty : Nat → ClassId} {u U : State} (h : m_Kn D ty u) (hv : u.vm = U.vm) : m_Kn D ty U := by
  have ha : u.vm.Alike U.vm := by rw [hv]; exact Vm.Alike.refl _
  exact ⟨va_K.moved ha h.1, fun w hw => va_Nw.same (m_nw_tab hw) hv (h.2.1 w hw), fun C hC => va_AO.moved ha (h.2.2 C hC)⟩
theorem m_Ex.kept {E : m_AE} {X : Nat → List Int32} {u U : State} {H H1 : Heap} (h : m_Ex E X u H) (ha : u.vm.Alike U.vm) (hq : ∀ a : Nat, a < H.size → ¬ m_A E a → H1[a]? = H[a]?) : m_Ex E X U H1 :=
  ⟨fun j hj => ((h.1 j hj).moved ha).kept hq, fun j hj => ((h.2 j hj).moved ha).kept hq⟩
