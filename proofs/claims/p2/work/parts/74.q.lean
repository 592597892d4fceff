/-! E in the reference: how far, how many steps; the contracts of factor, every, some -/
theorem pS_ok {τ : Nat → Int} {z p q : Nat} {r : Option p_Tk} (hp : p ≤ z) (h : pS τ z p = (r, q)) : p ≤ q ∧ q ≤ z ∧ (∀ t, r = some t → p + 3 ≤ q ∧ 120 ≤ t.1 ∧ t.1 ≤ 122 ∧ tcd t.2.1 ∧ tcd t.2.2) := by
  have h1 := pT_le τ z p hp
  have h0 : hr τ z (pT τ z p).2 ≠ -1 → (pT τ z p).2 < z := hr_le
  have c1 := pT_cd τ z p
  unfold pS at h
  split at h
  · cases h
    exact ⟨h1.1, h1.2.1, fun t e => by cases e⟩
  · split at h
    · have h2 := pT_le τ z ((pT τ z p).2 + 1) (by have := h0 (by omega); omega)
      have c2 := pT_cd τ z ((pT τ z p).2 + 1)
      split at h
      · cases h
        exact ⟨by omega, by omega, fun t e => by cases e⟩
      · cases h
        refine ⟨by omega, by omega, fun t e => ?_⟩
        cases e
        have := h1.2.2 (by omega)
        have := h2.2.2 (by omega)
        exact ⟨by omega, by simp only; omega, by simp only; omega, c1 (by omega), c2 (by omega)⟩
    · cases h
      exact ⟨h1.1, h1.2.1, fun t e => by cases e⟩
theorem pX_ok {τ : Nat → Int} {z : Nat} : ∀ (n md o p : Nat) (acc : List p_Tk) (r : Option (List p_Tk)) (q : Nat), md ≤ 4 → p ≤ z → pX τ z n md o p acc = (r, q) → p ≤ q ∧ q ≤ z ∧ ∀ l, r = some l → l.length + p ≤ acc.length + q ∧ (md ≠ 2 → md ≤ 3 → p < q)
  | 0, md, o, p, acc, r, q, hm, hp, h => by
    unfold pX at h
    cases h
    exact ⟨Nat.le_refl _, hp, fun l e => by cases e⟩
  | n + 1, 0, o, p, acc, r, q, hm, hp, h => by
    have h0 : hr τ z p ≠ -1 → p < z := hr_le
    rw [pX_F] at h
    split at h
    · split at h
      · cases h
        exact ⟨Nat.le_refl _, hp, fun l e => by cases e⟩
      · have hlt := h0 (by omega)
        split at h
        · rename_i l1 q1 e1
          have k := pX_ok n 0 (o + 1) (p + 1) acc _ _ (by decide) (by omega) e1
          cases h
          refine ⟨by omega, k.2.1, fun l e => ?_⟩
          cases e
          have := (k.2.2 l1 rfl).1
          exact ⟨by simp; omega, fun _ _ => by omega⟩
        · rename_i q1 e1
          have k := pX_ok n 0 (o + 1) (p + 1) acc _ _ (by decide) (by omega) e1
          cases h
          exact ⟨by omega, k.2.1, fun l e => by cases e⟩
    · split at h
      · split at h
        · cases h
          exact ⟨Nat.le_refl _, hp, fun l e => by cases e⟩
        · have hlt := h0 (by omega)
          split at h
          · rename_i l1 q1 e1
            have k := pX_ok n 3 (o + 1) (p + 1) acc _ _ (by decide) (by omega) e1
            have h3 : hr τ z q1 ≠ -1 → q1 < z := hr_le
            split at h
            · cases h
              have := h3 (by omega)
              refine ⟨by omega, by omega, fun l e => ?_⟩
              cases e
              have := (k.2.2 l1 rfl).1
              exact ⟨by omega, fun _ _ => by omega⟩
            · cases h
              exact ⟨by omega, k.2.1, fun l e => by cases e⟩
          · rename_i q1 e1
            have k := pX_ok n 3 (o + 1) (p + 1) acc _ _ (by decide) (by omega) e1
            cases h
            exact ⟨by omega, k.2.1, fun l e => by cases e⟩
      · split at h
        · rename_i t q1 e1
          have k := pS_ok hp e1
          cases h
          have k3 := (k.2.2 t rfl).1
          refine ⟨k.1, k.2.1, fun l e => ?_⟩
          cases e
          exact ⟨by simp; omega, fun _ _ => by omega⟩
        · rename_i q1 e1
          have k := pS_ok hp e1
          cases h
          exact ⟨k.1, k.2.1, fun l e => by cases e⟩
  | n + 1, 1, o, p, acc, r, q, hm, hp, h => by
    rw [pX_T] at h
    split at h
    · rename_i l1 q1 e1
      have k := pX_ok n 0 o p acc _ _ (by decide) hp e1
      have k2 := pX_ok n 2 o q1 l1 _ _ (by decide) k.2.1 h
      have k3 := k.2.2 l1 rfl
      refine ⟨by omega, k2.2.1, fun l e => ?_⟩
      have k4 := k2.2.2 l e
      have := k3.2 (by decide) (by decide)
      exact ⟨by omega, fun _ _ => by omega⟩
    · rename_i q1 e1
      have k := pX_ok n 0 o p acc _ _ (by decide) hp e1
      cases h
      exact ⟨k.1, k.2.1, fun l e => by cases e⟩
  | n + 1, 2, o, p, acc, r, q, hm, hp, h => by
    have h0 : hr τ z p ≠ -1 → p < z := hr_le
    rw [pX_Tl] at h
    split at h
    · have hlt := h0 (by omega)
      split at h
      · rename_i l1 q1 e1
        have k := pX_ok n 0 o (p + 1) acc _ _ (by decide) (by omega) e1
        have k2 := pX_ok n 2 o q1 _ _ _ (by decide) k.2.1 h
        have k3 := k.2.2 l1 rfl
        refine ⟨by omega, k2.2.1, fun l e => ?_⟩
        have k4 := k2.2.2 l e
        have k5 := k4.1
        rw [List.length_append] at k5
        simp only [List.length_cons, List.length_nil] at k5
        exact ⟨by omega, fun q => absurd rfl q⟩
      · rename_i q1 e1
        have k := pX_ok n 0 o (p + 1) acc _ _ (by decide) (by omega) e1
        cases h
        exact ⟨by omega, k.2.1, fun l e => by cases e⟩
    · cases h
      exact ⟨Nat.le_refl _, hp, fun l e => by cases e; exact ⟨Nat.le_refl _, fun q => absurd rfl q⟩⟩
  | n + 1, 3, o, p, acc, r, q, hm, hp, h => by
    rw [pX_E] at h
    split at h
    · rename_i l1 q1 e1
      have k := pX_ok n 1 o p acc _ _ (by decide) hp e1
      have k2 := pX_ok n 4 o q1 l1 _ _ (by decide) k.2.1 h
      have k3 := k.2.2 l1 rfl
      refine ⟨by omega, k2.2.1, fun l e => ?_⟩
      have k4 := k2.2.2 l e
      have := k3.2 (by decide) (by decide)
      exact ⟨by omega, fun _ _ => by omega⟩
    · rename_i q1 e1
      have k := pX_ok n 1 o p acc _ _ (by decide) hp e1
      cases h
      exact ⟨k.1, k.2.1, fun l e => by cases e⟩
  | n + 1, 4, o, p, acc, r, q, hm, hp, h => by
    have h0 : hr τ z p ≠ -1 → p < z := hr_le
    rw [pX_El] at h
    split at h
    · have hlt := h0 (by omega)
      split at h
      · rename_i l1 q1 e1
        have k := pX_ok n 1 o (p + 1) acc _ _ (by decide) (by omega) e1
        have k2 := pX_ok n 4 o q1 _ _ _ (by decide) k.2.1 h
        have k3 := k.2.2 l1 rfl
        refine ⟨by omega, k2.2.1, fun l e => ?_⟩
        have k5 := (k2.2.2 l e).1
        rw [List.length_append] at k5
        simp only [List.length_cons, List.length_nil] at k5
        exact ⟨by omega, fun _ h => absurd h (by omega)⟩
      · rename_i q1 e1
        have k := pX_ok n 1 o (p + 1) acc _ _ (by decide) (by omega) e1
        cases h
        exact ⟨by omega, k.2.1, fun l e => by cases e⟩
    · cases h
      exact ⟨Nat.le_refl _, hp, fun l e => by cases e; exact ⟨Nat.le_refl _, fun _ h => absurd h (by omega)⟩⟩
  | n + 1, md + 5, o, p, acc, r, q, hm, hp, h => absurd hm (by omega)
theorem mk_bd {ln : Int} {g : Nat → Int} (hln : 0 ≤ ln ∧ ln ≤ 8) (hg : ∀ c, c < 8 → 0 ≤ g c ∧ g c ≤ 10) (t : Int) (b : Bool) (ht : t ≤ 115) : ∀ c, c < 8 → 0 ≤ mk ln g t b c ∧ mk ln g t b c ≤ 10 := by
  intro c hc
  unfold mk
  split
  · unfold v_uf
    split
    · have := hg (t - 108).toNat (by omega)
      split
      · omega
      · split <;> omega
    · exact hg c hc
  · exact hg c hc
/-- tokens whose terms are such -/
def tkO (l : List p_Tk) : Prop := ∀ t ∈ l, t.1 ≤ 122 → 120 ≤ t.1 ∧ tcd t.2.1 ∧ tcd t.2.2
theorem mkT_bd {ln : Int} (hln : 0 ≤ ln ∧ ln ≤ 8) : ∀ (l : List p_Tk) (g : Nat → Int), tkO l → (∀ c, c < 8 → 0 ≤ g c ∧ g c ≤ 10) → ∀ c, c < 8 → 0 ≤ mkT ln g l c ∧ mkT ln g l c ≤ 10
  | [], g, _, hg => hg
  | (c, a, b) :: r, g, ht, hg => by
    unfold mkT
    refine mkT_bd hln r _ (fun t h => ht t (List.mem_cons_of_mem _ h)) ?_
    split
    · rename_i h
      have := ht (c, a, b) List.mem_cons_self h
      have h1 : a ≤ 115 := by have := this.2.1; unfold tcd at this; simp only at this; omega
      have h2 : b ≤ 115 := by have := this.2.2; unfold tcd at this; simp only at this; omega
      exact mk_bd hln (mk_bd hln hg a true h1) b true h2
    · exact hg
theorem pX_tk {τ : Nat → Int} {z : Nat} : ∀ (n md o p : Nat) (acc l : List p_Tk) (q : Nat), md ≤ 4 → p ≤ z → tkO acc → pX τ z n md o p acc = (some l, q) → tkO l
  | 0, md, o, p, acc, l, q, hm, hp, ha, h => by
    unfold pX at h
    cases h
  | n + 1, 0, o, p, acc, l, q, hm, hp, ha, h => by
    have h0 : hr τ z p ≠ -1 → p < z := hr_le
    rw [pX_F] at h
    split at h
    · split at h
      · cases h
      · have hlt := h0 (by omega)
        split at h
        · rename_i l1 q1 e1
          have k := pX_tk n 0 (o + 1) (p + 1) acc _ _ (by decide) (by omega) ha e1
          cases h
          intro t ht
          rcases List.mem_append.mp ht with h2 | h2
          · exact k t h2
          · intro h3
            rw [List.mem_singleton.mp h2] at h3
            exact absurd h3 (by decide)
        · cases h
    · split at h
      · split at h
        · cases h
        · have hlt := h0 (by omega)
          split at h
          · rename_i l1 q1 e1
            have k := pX_tk n 3 (o + 1) (p + 1) acc _ _ (by decide) (by omega) ha e1
            split at h
            · cases h
              exact k
            · cases h
          · cases h
      · split at h
        · rename_i t1 q1 e1
          have k := pS_ok hp e1
          cases h
          intro t ht
          rcases List.mem_append.mp ht with h2 | h2
          · exact ha t h2
          · intro h3
            rw [List.mem_singleton.mp h2]
            have k3 := k.2.2 t1 rfl
            exact ⟨k3.2.1, k3.2.2.2⟩
        · cases h
  | n + 1, 1, o, p, acc, l, q, hm, hp, ha, h => by
    rw [pX_T] at h
    split at h
    · rename_i l1 q1 e1
      have k := pX_tk n 0 o p acc _ _ (by decide) hp ha e1
      exact pX_tk n 2 o q1 l1 _ _ (by decide) (pX_ok n 0 o p acc _ _ (by decide) hp e1).2.1 k h
    · cases h
  | n + 1, 2, o, p, acc, l, q, hm, hp, ha, h => by
    have h0 : hr τ z p ≠ -1 → p < z := hr_le
    rw [pX_Tl] at h
    split at h
    · have hlt := h0 (by omega)
      split at h
      · rename_i l1 q1 e1
        have k := pX_tk n 0 o (p + 1) acc _ _ (by decide) (by omega) ha e1
        refine pX_tk n 2 o q1 _ _ _ (by decide) (pX_ok n 0 o (p + 1) acc _ _ (by decide) (by omega) e1).2.1 ?_ h
        intro t ht
        rcases List.mem_append.mp ht with h2 | h2
        · exact k t h2
        · intro h3
          rw [List.mem_singleton.mp h2] at h3
          exact absurd h3 (by decide)
      · cases h
    · cases h
      exact ha
  | n + 1, 3, o, p, acc, l, q, hm, hp, ha, h => by
    rw [pX_E] at h
    split at h
    · rename_i l1 q1 e1
      have k := pX_tk n 1 o p acc _ _ (by decide) hp ha e1
      exact pX_tk n 4 o q1 l1 _ _ (by decide) (pX_ok n 1 o p acc _ _ (by decide) hp e1).2.1 k h
    · cases h
  | n + 1, 4, o, p, acc, l, q, hm, hp, ha, h => by
    have h0 : hr τ z p ≠ -1 → p < z := hr_le
    rw [pX_El] at h
    split at h
    · have hlt := h0 (by omega)
      split at h
      · rename_i l1 q1 e1
        have k := pX_tk n 1 o (p + 1) acc _ _ (by decide) (by omega) ha e1
        refine pX_tk n 4 o q1 _ _ _ (by decide) (pX_ok n 1 o (p + 1) acc _ _ (by decide) (by omega) e1).2.1 ?_ h
        intro t ht
        rcases List.mem_append.mp ht with h2 | h2
        · exact k t h2
        · intro h3
          rw [List.mem_singleton.mp h2] at h3
          exact absurd h3 (by decide)
      · cases h
    · cases h
      exact ha
  | n + 1, md + 5, o, p, acc, l, q, hm, hp, ha, h => absurd hm (by omega)
/-- what a reading method of the reference does, by pX: mode, the method, its depth of calls, the fuel it wants -/
def qX (X : Nat → List Int32) (S : m_H) (a z : Nat) (τ : Nat → Int) (ln : Int) (st0 : List Int) (g0 : Nat → Int) (md j lev c n : Nat) : Prop :=
  ∀ (V : v_V) (K : v_K) (u w p o D : Nat) (acc : List p_Tk), o ≤ 5 → p ≤ z → 5 * (z - p) + c ≤ n → st0.length + acc.length ≤ p + 2 → 3 * (6 - o) + lev ≤ D → tkO acc →
    MP V a z τ p 0 o ln (st0 ++ encT acc) (mkT ln g0 acc) →
    (∀ l q V', pX τ z n md o p acc = (some l, q) → MP V' a z τ q 0 o ln (st0 ++ encT l) (mkT ln g0 l) → MF a V V' → V' 176 = V 176 → K u w none S V') →
    (∀ q V' st' g', pX τ z n md o p acc = (none, q) → MP V' a z τ q 1 o ln st' g' → MF a V V' → V' 176 = V 176 → K u w none S V') → y_R X D j u w [.ref 170] S V K
