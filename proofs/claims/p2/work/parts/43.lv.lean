/-! locals in another order, or fewer of them -/
def v_free : Instr → Bool
  | .iload_n _ => false
  | .iload _ => false
  | .lload_n _ => false
  | .lload _ => false
  | .aload_n _ => false
  | .aload _ => false
  | .istore_n _ => false
  | .istore _ => false
  | .astore_n _ => false
  | .astore _ => false
  | .iinc _ _ => false
  | _ => true
def v_relv (lv : m_L) : m_C ⊕ m_R → m_C ⊕ m_R
  | .inl (pc, _, st, h) => .inl (pc, lv, st, h)
  | .inr r => .inr r
set_option maxRecDepth 100000 in
set_option maxHeartbeats 8000000 in
theorem v_lvfree {X : Nat → List Int32} {call : Nat → List Value → m_H → Option m_R} {ins : Instr} {len : Nat} {a : Int} {b pc : Nat} {lv : m_L} {st : List Value} {h : m_H} {r : m_C ⊕ m_R} (hf : v_free ins = true) (hs : m_stp X call (ins, len, a, b) pc lv st h = some r) (lv2 : m_L) : m_stp X call (ins, len, a, b) pc lv2 st h = some (v_relv lv2 r) ∧ v_relv lv r = r := by
  unfold m_stp at hs
  dsimp only at hs
  split at hs
  all_goals (repeat' split at hs)
  all_goals first
    | (cases hs; done)
    | (exfalso; revert hf; simp [v_free]; done)
    | (cases hs; exact ⟨rfl, rfl⟩)
    | (cases hs; refine ⟨?_, rfl⟩; unfold m_stp; dsimp only; first | (rw [if_pos (by assumption)]; rfl) | (rw [if_neg (by assumption)]; rfl))
    | (cases hs; refine ⟨?_, rfl⟩; unfold m_stp; dsimp only; rw [if_neg (by assumption)]; simp only [*]; rfl)
    | (cases hs; refine ⟨?_, rfl⟩; unfold m_stp; simp_all [v_relv]; done)
def v_keys : m_L → Bool
  | [] => true
  | (i, _) :: r => r.all (fun q => !(q.1 == i)) && v_keys r
/-- what is known of the locals: some of them, in any order -/
def v_sub (l' l : m_L) : Prop := ∀ i v, m_lg l' i = some v → m_lg l i = some v
theorem v_lg_flt {l : m_L} {f : Nat × Value → Bool} {j : Nat} {w : Value} (h : m_lg l j = some w) (hf : f (j, w) = true) : m_lg (l.filter f) j = some w := by
  induction l with
  | nil => cases h
  | cons q r ih =>
    obtain ⟨i, v⟩ := q
    simp only [m_lg] at h
    by_cases hi : i = j
    · rw [if_pos hi] at h
      cases h
      subst hi
      rw [List.filter_cons_of_pos hf]
      simp [m_lg]
    · rw [if_neg hi] at h
      by_cases hp : f (i, v) = true
      · rw [List.filter_cons_of_pos hp]
        simp only [m_lg, if_neg hi]
        exact ih h
      · rw [List.filter_cons_of_neg hp]
        exact ih h
theorem v_lg_none {l : m_L} {j : Nat} (h : l.all (fun q => !(q.1 == j)) = true) : m_lg l j = none := by
  induction l with
  | nil => rfl
  | cons q r ih =>
    obtain ⟨i, v⟩ := q
    simp only [List.all_cons, Bool.and_eq_true, Bool.not_eq_true', beq_eq_false_iff_ne] at h
    simp only [m_lg, if_neg h.1]
    exact ih h.2
theorem v_all_flt {l : m_L} {f g : Nat × Value → Bool} (h : l.all g = true) : (l.filter f).all g = true := by
  rw [List.all_eq_true] at h ⊢
  intro x hx
  exact h x (List.mem_filter.mp hx).1
theorem v_lg_back {l : m_L} {f : Nat × Value → Bool} {j : Nat} {w : Value} (hk : v_keys l = true) (h : m_lg (l.filter f) j = some w) : m_lg l j = some w ∧ f (j, w) = true := by
  induction l with
  | nil => cases h
  | cons q r ih =>
    obtain ⟨i, v⟩ := q
    simp only [v_keys, Bool.and_eq_true] at hk
    by_cases hp : f (i, v) = true
    · rw [List.filter_cons_of_pos hp] at h
      simp only [m_lg] at h ⊢
      by_cases hi : i = j
      · rw [if_pos hi] at h ⊢
        cases h
        subst hi
        exact ⟨rfl, hp⟩
      · rw [if_neg hi] at h ⊢
        exact ih hk.2 h
    · rw [List.filter_cons_of_neg hp] at h
      have h2 := ih hk.2 h
      by_cases hi : i = j
      · subst hi
        rw [v_lg_none hk.1] at h2
        cases h2.1
      · simp only [m_lg, if_neg hi]
        exact h2
theorem v_keys_flt {l : m_L} {f : Nat × Value → Bool} (hk : v_keys l = true) : v_keys (l.filter f) = true := by
  induction l with
  | nil => rfl
  | cons q r ih =>
    obtain ⟨i, v⟩ := q
    simp only [v_keys, Bool.and_eq_true] at hk
    by_cases hp : f (i, v) = true
    · rw [List.filter_cons_of_pos hp]
      simp only [v_keys, Bool.and_eq_true]
      exact ⟨v_all_flt hk.1, ih hk.2⟩
    · rw [List.filter_cons_of_neg hp]
      exact ih hk.2
theorem v_sub_st {l' l : m_L} (h : v_sub l' l) (hk : v_keys l' = true) (i : Nat) (v : Value) : v_sub (m_st l' i v) (m_st l i v) ∧ v_keys (m_st l' i v) = true := by
  constructor
  · intro j w hj
    unfold m_st at hj ⊢
    simp only [m_lg] at hj ⊢
    by_cases hi : i = j
    · rw [if_pos hi] at hj ⊢
      exact hj
    · rw [if_neg hi] at hj ⊢
      have h2 := v_lg_back hk hj
      exact v_lg_flt (h _ _ h2.1) h2.2
  · unfold m_st
    simp only [v_keys, Bool.and_eq_true]
    refine ⟨?_, v_keys_flt hk⟩
    rw [List.all_eq_true]
    intro x hx
    have := (List.mem_filter.mp hx).2
    simp only [Bool.and_eq_true] at this
    exact this.1
theorem v_exec_lv {X : Nat → List Int32} {call : Nat → List Value → m_H → Option m_R} {code : List (Option m_E)} : ∀ (n pc : Nat) (l' l : m_L) (st : List Value) (h : m_H) (r : m_R), v_keys l' = true → v_sub l' l → m_exec X call code n pc l' st h = some r → m_exec X call code n pc l st h = some r
  | 0, _, _, _, _, _, _, _, _, he => by cases he
  | n + 1, pc, l', l, st, h, r, hk, hs, he => by
    simp only [m_exec] at he ⊢
    split at he
    · rename_i en hc
      obtain ⟨ins, len, a, b⟩ := en
      split at he
      · rename_i pc1 lv1 st1 h1 hx
        have key : ∃ l1, m_stp X call (ins, len, a, b) pc l st h = some (.inl (pc1, l1, st1, h1)) ∧ v_keys lv1 = true ∧ v_sub lv1 l1 := by
          by_cases hf : v_free ins = true
          · obtain ⟨g1, g2⟩ := v_lvfree hf hx l
            cases g2
            exact ⟨l, g1, hk, hs⟩
          · cases ins
            case iload_n k =>
              rw [m_s_iload_n] at hx ⊢
              split at hx
              · rename_i x e
                cases hx
                exact ⟨l, by rw [hs _ _ e], hk, hs⟩
              · cases hx
            case iload k =>
              rw [m_s_iload] at hx ⊢
              split at hx
              · rename_i x e
                cases hx
                exact ⟨l, by rw [hs _ _ e], hk, hs⟩
              · cases hx
            case lload_n k =>
              rw [m_s_lload_n] at hx ⊢
              split at hx
              · rename_i x e
                cases hx
                exact ⟨l, by rw [hs _ _ e], hk, hs⟩
              · cases hx
            case lload k =>
              rw [m_s_lload] at hx ⊢
              split at hx
              · rename_i x e
                cases hx
                exact ⟨l, by rw [hs _ _ e], hk, hs⟩
              · cases hx
            case aload_n k =>
              rw [m_s_aload_n] at hx ⊢
              split at hx
              · rename_i x e
                cases hx
                exact ⟨l, by rw [hs _ _ e], hk, hs⟩
              · rename_i e
                cases hx
                exact ⟨l, by rw [hs _ _ e], hk, hs⟩
              · cases hx
            case aload k =>
              rw [m_s_aload] at hx ⊢
              split at hx
              · rename_i x e
                cases hx
                exact ⟨l, by rw [hs _ _ e], hk, hs⟩
              · rename_i e
                cases hx
                exact ⟨l, by rw [hs _ _ e], hk, hs⟩
              · cases hx
            case istore_n k =>
              rw [m_s_istore_n] at hx ⊢
              split at hx
              · rename_i x r2
                cases hx
                have h3 := v_sub_st hs hk k.val (.int x)
                exact ⟨_, rfl, h3.2, h3.1⟩
              · cases hx
            case istore k =>
              rw [m_s_istore] at hx ⊢
              split at hx
              · rename_i x r2
                cases hx
                have h3 := v_sub_st hs hk k (.int x)
                exact ⟨_, rfl, h3.2, h3.1⟩
              · cases hx
            case astore_n k =>
              rw [m_s_astore_n] at hx ⊢
              split at hx
              · rename_i x r2
                cases hx
                have h3 := v_sub_st hs hk k.val (.ref x)
                exact ⟨_, rfl, h3.2, h3.1⟩
              · cases hx
                have h3 := v_sub_st hs hk k.val .null
                exact ⟨_, rfl, h3.2, h3.1⟩
              · cases hx
            case astore k =>
              rw [m_s_astore] at hx ⊢
              split at hx
              · rename_i x r2
                cases hx
                have h3 := v_sub_st hs hk k (.ref x)
                exact ⟨_, rfl, h3.2, h3.1⟩
              · cases hx
                have h3 := v_sub_st hs hk k .null
                exact ⟨_, rfl, h3.2, h3.1⟩
              · cases hx
            case iinc i k =>
              rw [m_s_iinc] at hx ⊢
              split at hx
              · rename_i x e
                cases hx
                have h3 := v_sub_st hs hk i (.int (x + Int32.ofInt k))
                exact ⟨_, by rw [hs _ _ e], h3.2, h3.1⟩
              · cases hx
            all_goals exact absurd rfl hf
        obtain ⟨l1, k1, k2, k3⟩ := key
        simp only [k1]
        exact v_exec_lv n pc1 lv1 l1 st1 h1 r k2 k3 he
      · rename_i r1 hx
        have hf : v_free ins = true := by
          rcases m_inr hx with rfl | rfl | rfl <;> rfl
        obtain ⟨g1, g2⟩ := v_lvfree hf hx l
        simp only [g1]
        exact he
      · cases he
    · cases he
def v_sb : m_L → m_L → Prop
  | [], _ => True
  | (i, v) :: r, l => m_lg l i = some v ∧ v_sb r l
theorem v_sb_sub {l' l : m_L} (h : v_sb l' l) : v_sub l' l := by
  induction l' with
  | nil => intro i v h; cases h
  | cons q r ih =>
    obtain ⟨j, w⟩ := q
    intro i v hi
    simp only [m_lg] at hi
    by_cases hj : j = i
    · rw [if_pos hj] at hi
      cases hi
      subst hj
      exact h.1
    · rw [if_neg hj] at hi
      exact ih h.2 i v hi
theorem y_lv {X : Nat → List Int32} {D j F u w pc : Nat} {l' l : m_L} {st : List Value} {S : m_H} {V : v_V} {K : v_K} (hk : v_keys l' = true) (hs : v_sb l' l) (k : y_E X D j F u w pc l' st S V K) : y_E X D j F u w pc l st S V K := by
  intro d n h1 h2 h3 h4
  obtain ⟨r, u', w', g1, g2⟩ := k d n h1 h2 h3 h4
  exact ⟨r, u', w', v_exec_lv n pc l' l st _ r hk (v_sb_sub hs) g1, g2⟩
