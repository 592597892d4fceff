/-! WHAT A TEXT DOES WITH A PACKET (t h k n), as a function of a MEMORY μ -/
def wr (e : Int) : Int := (Int32.ofInt e).toInt
theorem wr_rg (e : Int) : -2147483648 ≤ wr e ∧ wr e < 2147483648 := by
  have h1 := (Int32.ofInt e).le_toInt
  have h2 := (Int32.ofInt e).toInt_lt
  unfold wr
  omega
theorem wr_iv (e : Int) : iv e = iv (wr e) := (v_oi (Int32.ofInt e)).symm
def eV (μ : Nat → Int) (t h k n c : Int) : Int := if c < 100 then c else if c = 100 then k else if c = 101 then h else if c = 102 then n else μ (z_pl (c - 104) t h).toNat
def eT (μ : Nat → Int) (t h k n c a b : Int) : Bool := if c = 120 then decide (eV μ t h k n a < eV μ t h k n b) else if c = 121 then decide (eV μ t h k n a = eV μ t h k n b) else decide (eV μ t h k n b < eV μ t h k n a)
def eK1 (μ : Nat → Int) (t h k n : Int) : p_Tk → List Bool → List Bool
  | (c, a, b), s => if c ≤ 122 then eT μ t h k n c a b :: s else if c = 123 then (match s with
      | y :: r => (!y) :: r
      | [] => []) else (match s with
      | y :: x :: r => (if c = 124 then (x && y) else (x || y)) :: r
      | r => r)
def eK (μ : Nat → Int) (t h k n : Int) : List p_Tk → List Bool → List Bool
  | [], s => s
  | a :: r, s => eK μ t h k n r (eK1 μ t h k n a s)
def hd1 : List Bool → Bool
  | [] => true
  | b :: _ => b
def eH (μ : Nat → Int) (t h k n : Int) (l : List p_Tk) : Bool := hd1 (eK μ t h k n l [])
def eM (μ : Nat → Int) (t h k n : Int) (x : p_Li) : Bool := (decide (x.1 = 4) || decide (x.1 = k)) && eH μ t h k n x.2.2.1
def eS1 (μ : Nat → Int) (t h k n s x : Int) : Int := if x < 256 then s + eV μ t h k n x else s - eV μ t h k n (x - 256)
def eS (μ : Nat → Int) (t h k n : Int) : Int → List Int → Int
  | s, [] => s
  | s, x :: r => eS μ t h k n (eS1 μ t h k n s x) r
def eA (t h k n : Int) : List p_Ac → (Nat → Int) → Int × (Nat → Int)
  | [], μ => (1, μ)
  | (c, l) :: r, μ => if c = 126 then (1, μ) else if c = 127 then (0, μ) else if c = 128 then (2, z_fl μ (4 * t.toNat) 4 0)
    else eA t h k n r (v_uf μ (z_pl (c - 104) t h).toNat (wr (eS μ t h k n 0 l)))
/-- the first LINE that is for it, counted from i on -/
def eL (μ : Nat → Int) (t h k n : Int) : Nat → List p_Li → Int
  | _, [] => -5
  | i, x :: r => if eM μ t h k n x = true then (i : Int) else eL μ t h k n (i + 1) r
/-- how it ends, and the MEMORY then -/
def eW (t h k n : Int) : List p_Li → (Nat → Int) → Int × (Nat → Int)
  | [], μ => (1, μ)
  | x :: r, μ => if eM μ t h k n x = true then eA t h k n x.2.2.2 μ else eW t h k n r μ
theorem eLW (μ : Nat → Int) (t h k n : Int) : ∀ (l : List p_Li) (i : Nat), (eL μ t h k n i l = -5 ∧ eW t h k n l μ = (1, μ)) ∨ ∃ j x, eL μ t h k n i l = ((i + j : Nat) : Int) ∧ m_nth l j = some x ∧ eW t h k n l μ = eA t h k n x.2.2.2 μ
  | [], i => Or.inl ⟨rfl, rfl⟩
  | x :: r, i => by
    by_cases hx : eM μ t h k n x = true
    · exact Or.inr ⟨0, x, if_pos hx, rfl, if_pos hx⟩
    · have e1 : eL μ t h k n i (x :: r) = eL μ t h k n (i + 1) r := if_neg hx
      have e2 : eW t h k n (x :: r) μ = eW t h k n r μ := if_neg hx
      rw [e1, e2]
      rcases eLW μ t h k n r (i + 1) with ⟨a, b⟩ | ⟨j, y, a, b, c⟩
      · exact Or.inl ⟨a, b⟩
      · exact Or.inr ⟨j + 1, y, by rw [a]; congr 1; omega, b, c⟩
/-- a packet's numbers -/
def pkO (t h k n : Int) : Prop := (0 ≤ t ∧ t < 16) ∧ (0 ≤ h ∧ h < 4) ∧ (0 ≤ k ∧ k < 4) ∧ (0 ≤ n ∧ n ≤ 99)
/-- a MEMORY's numbers -/
def muO (μ : Nat → Int) : Prop := ∀ p : Nat, p < 84 → -2147483648 ≤ μ p ∧ μ p < 2147483648
theorem tcd_pl {c t h k n : Int} (hc : tcd c) (hp : pkO t h k n) (h2 : 102 < c) : 0 ≤ z_pl (c - 104) t h ∧ z_pl (c - 104) t h < 84 := by
  obtain ⟨p1, p2, -, -⟩ := hp
  unfold tcd at hc
  exact z_pl_lt (by omega) (fun _ => p1) (fun _ _ => p2)
theorem eV_congr {μ ν : Nat → Int} {t h k n c : Int} (hm : ∀ p : Nat, p < 84 → μ p = ν p) (hc : tcd c) (hp : pkO t h k n) : eV μ t h k n c = eV ν t h k n c := by
  unfold eV
  by_cases h1 : c < 100
  · rw [if_pos h1, if_pos h1]
  by_cases h2 : c = 100
  · rw [if_neg h1, if_neg h1, if_pos h2, if_pos h2]
  by_cases h3 : c = 101
  · rw [if_neg h1, if_neg h1, if_neg h2, if_neg h2, if_pos h3, if_pos h3]
  by_cases h4 : c = 102
  · rw [if_neg h1, if_neg h1, if_neg h2, if_neg h2, if_neg h3, if_neg h3, if_pos h4, if_pos h4]
  · rw [if_neg h1, if_neg h1, if_neg h2, if_neg h2, if_neg h3, if_neg h3, if_neg h4, if_neg h4]
    have := tcd_pl hc hp (by omega)
    exact hm _ (by omega)
theorem eV_rg {μ : Nat → Int} {t h k n c : Int} (hm : muO μ) (hc : tcd c) (hp : pkO t h k n) : -2147483648 ≤ eV μ t h k n c ∧ eV μ t h k n c < 2147483648 := by
  have hp' := hp
  obtain ⟨p1, p2, p3, p4⟩ := hp'
  unfold eV
  split
  · unfold tcd at hc
    omega
  split
  · omega
  split
  · omega
  split
  · omega
  · have := tcd_pl hc hp (by omega)
    exact hm _ (by omega)
theorem eK_congr {μ ν : Nat → Int} {t h k n : Int} (hm : ∀ p : Nat, p < 84 → μ p = ν p) (hp : pkO t h k n) : ∀ (l : List p_Tk) (s : List Bool), tkO l → eK μ t h k n l s = eK ν t h k n l s
  | [], s, _ => rfl
  | (c, a, b) :: r, s, ho => by
    have e1 : eK1 μ t h k n (c, a, b) s = eK1 ν t h k n (c, a, b) s := by
      show (if c ≤ 122 then eT μ t h k n c a b :: s else _) = (if c ≤ 122 then eT ν t h k n c a b :: s else _)
      by_cases h1 : c ≤ 122
      · rw [if_pos h1, if_pos h1]
        have h2 := ho _ List.mem_cons_self h1
        unfold eT
        rw [eV_congr hm h2.2.1 hp, eV_congr hm h2.2.2 hp]
      · rw [if_neg h1, if_neg h1]
    show eK μ t h k n r (eK1 μ t h k n (c, a, b) s) = eK ν t h k n r (eK1 ν t h k n (c, a, b) s)
    rw [e1]
    exact eK_congr hm hp r _ (fun x hx => ho x (List.mem_cons_of_mem _ hx))
theorem eM_congr {μ ν : Nat → Int} {t h k n : Int} (hm : ∀ p : Nat, p < 84 → μ p = ν p) (hp : pkO t h k n) {x : p_Li} (hx : liO x) : eM μ t h k n x = eM ν t h k n x := by
  unfold eM eH
  rw [eK_congr hm hp _ _ hx.1]
theorem eL_congr {μ ν : Nat → Int} {t h k n : Int} (hm : ∀ p : Nat, p < 84 → μ p = ν p) (hp : pkO t h k n) : ∀ (l : List p_Li) (i : Nat), lsO l → eL μ t h k n i l = eL ν t h k n i l
  | [], _, _ => rfl
  | x :: r, i, ho => by
    unfold eL
    rw [eM_congr hm hp (ho x List.mem_cons_self), eL_congr hm hp r (i + 1) (fun y hy => ho y (List.mem_cons_of_mem _ hy))]
theorem eS_congr {μ ν : Nat → Int} {t h k n : Int} (hm : ∀ p : Nat, p < 84 → μ p = ν p) (hp : pkO t h k n) : ∀ (l : List Int) (s : Int), smO l → eS μ t h k n s l = eS ν t h k n s l
  | [], s, _ => rfl
  | x :: r, s, ho => by
    have h1 := ho x List.mem_cons_self
    have e1 : eS1 μ t h k n s x = eS1 ν t h k n s x := by
      unfold raw at h1
      unfold eS1
      by_cases h2 : x < 256
      · rw [if_pos h2] at h1
        rw [if_pos h2, if_pos h2, eV_congr hm h1 hp]
      · rw [if_neg h2] at h1
        rw [if_neg h2, if_neg h2, eV_congr hm h1 hp]
    show eS μ t h k n (eS1 μ t h k n s x) r = eS ν t h k n (eS1 ν t h k n s x) r
    rw [e1]
    exact eS_congr hm hp r _ (fun y hy => ho y (List.mem_cons_of_mem _ hy))
theorem eA_congr {t h k n : Int} (hp : pkO t h k n) : ∀ (l : List p_Ac) (μ ν : Nat → Int), (∀ p : Nat, p < 84 → μ p = ν p) → acO l → (eA t h k n l μ).1 = (eA t h k n l ν).1 ∧ ∀ p : Nat, p < 84 → (eA t h k n l μ).2 p = (eA t h k n l ν).2 p
  | [], μ, ν, hm, _ => ⟨rfl, hm⟩
  | (c, l) :: r, μ, ν, hm, ho => by
    have hc := ho _ List.mem_cons_self
    unfold eA
    by_cases h1 : c = 126
    · rw [if_pos h1, if_pos h1]
      exact ⟨rfl, hm⟩
    rw [if_neg h1, if_neg h1]
    by_cases h2 : c = 127
    · rw [if_pos h2, if_pos h2]
      exact ⟨rfl, hm⟩
    rw [if_neg h2, if_neg h2]
    by_cases h3 : c = 128
    · rw [if_pos h3, if_pos h3]
      refine ⟨rfl, fun p hp => ?_⟩
      show z_fl μ _ 4 0 p = z_fl ν _ 4 0 p
      unfold z_fl
      split
      · rfl
      · exact hm p hp
    rw [if_neg h3, if_neg h3]
    simp only at hc
    have hc2 : smO l := by
      rcases hc with q | q
      · omega
      · exact q.2.2.1
    refine eA_congr hp r _ _ (fun p hp2 => ?_) (fun y hy => ho y (List.mem_cons_of_mem _ hy))
    rw [eS_congr hm hp l 0 hc2]
    unfold v_uf
    split
    · rfl
    · exact hm p hp2
theorem eA_rg {t h k n : Int} : ∀ (l : List p_Ac) (μ : Nat → Int), muO μ → muO (eA t h k n l μ).2 ∧ 0 ≤ (eA t h k n l μ).1 ∧ (eA t h k n l μ).1 ≤ 2
  | [], μ, hm => ⟨hm, by show (0 : Int) ≤ 1; decide, by show (1 : Int) ≤ 2; decide⟩
  | (c, l) :: r, μ, hm => by
    unfold eA
    split
    · exact ⟨hm, by show (0 : Int) ≤ 1; decide, by show (1 : Int) ≤ 2; decide⟩
    split
    · exact ⟨hm, by show (0 : Int) ≤ 0; decide, by show (0 : Int) ≤ 2; decide⟩
    split
    · refine ⟨fun p hp => ?_, by show (0 : Int) ≤ 2; decide, by show (2 : Int) ≤ 2; decide⟩
      show -2147483648 ≤ z_fl μ _ 4 0 p ∧ z_fl μ _ 4 0 p < 2147483648
      unfold z_fl
      split
      · omega
      · exact hm p hp
    · refine eA_rg r _ (fun p hp => ?_)
      unfold v_uf
      split
      · exact wr_rg _
      · exact hm p hp
theorem eW_rg {t h k n : Int} : ∀ (l : List p_Li) (μ : Nat → Int), muO μ → muO (eW t h k n l μ).2 ∧ 0 ≤ (eW t h k n l μ).1 ∧ (eW t h k n l μ).1 ≤ 2
  | [], μ, hm => ⟨hm, by show (0 : Int) ≤ 1; decide, by show (1 : Int) ≤ 2; decide⟩
  | x :: r, μ, hm => by
    unfold eW
    split
    · exact eA_rg _ _ hm
    · exact eW_rg r μ hm
theorem eW_congr {t h k n : Int} (hp : pkO t h k n) : ∀ (l : List p_Li) (μ ν : Nat → Int), (∀ p : Nat, p < 84 → μ p = ν p) → lsO l → (eW t h k n l μ).1 = (eW t h k n l ν).1 ∧ ∀ p : Nat, p < 84 → (eW t h k n l μ).2 p = (eW t h k n l ν).2 p
  | [], μ, ν, hm, _ => ⟨rfl, hm⟩
  | x :: r, μ, ν, hm, ho => by
    have hx := ho x List.mem_cons_self
    unfold eW
    rw [eM_congr hm hp hx]
    split
    · exact eA_congr hp _ _ _ hm hx.2.1
    · exact eW_congr hp r μ ν hm (fun y hy => ho y (List.mem_cons_of_mem _ hy))
theorem eL_rg (μ : Nat → Int) (t h k n : Int) : ∀ (l : List p_Li) (i : Nat), -5 ≤ eL μ t h k n i l ∧ eL μ t h k n i l < i + l.length
  | [], i => by
    show -5 ≤ (-5 : Int) ∧ (-5 : Int) < i + ([] : List p_Li).length
    omega
  | x :: r, i => by
    have ih := eL_rg μ t h k n r (i + 1)
    unfold eL
    simp only [List.length_cons]
    split <;> omega
/-! the stack of truths: how deep -/
def dpt (D : Nat) : List p_Tk → Nat → Nat → Prop
  | [], k, k' => k = k'
  | (c, _, _) :: r, k, k' => if c ≤ 122 then k < D ∧ dpt D r (k + 1) k' else if c = 123 then 1 ≤ k ∧ dpt D r k k' else (c = 124 ∨ c = 125) ∧ 2 ≤ k ∧ dpt D r (k - 1) k'
theorem dpt_app {D : Nat} : ∀ (l r : List p_Tk) (k j k' : Nat), dpt D l k j → dpt D r j k' → dpt D (l ++ r) k k'
  | [], r, k, j, k', h1, h2 => by
    have h1 : k = j := h1
    subst h1
    exact h2
  | (c, a, b) :: l, r, k, j, k', h1, h2 => by
    unfold dpt at h1
    show dpt D ((c, a, b) :: (l ++ r)) k k'
    unfold dpt
    split at h1
    · rename_i hc
      rw [if_pos hc]
      exact ⟨h1.1, dpt_app l r _ _ _ h1.2 h2⟩
    · rename_i hc
      rw [if_neg hc]
      split at h1
      · rename_i hc2
        rw [if_pos hc2]
        exact ⟨h1.1, dpt_app l r _ _ _ h1.2 h2⟩
      · rename_i hc2
        rw [if_neg hc2]
        exact ⟨h1.1, h1.2.1, dpt_app l r _ _ _ h1.2.2 h2⟩
theorem dpt_1 {D k : Nat} {t : p_Tk} (h : t.1 ≤ 122) (hk : k < D) : dpt D [t] k (k + 1) := by
  obtain ⟨c, a, b⟩ := t
  unfold dpt
  rw [if_pos h]
  exact ⟨hk, rfl⟩
theorem dpt_n {D k : Nat} (hk : 1 ≤ k) : dpt D [(123, 0, 0)] k k := ⟨hk, rfl⟩
theorem dpt_j {D k : Nat} {c : Int} (hc : c = 124 ∨ c = 125) (hk : 1 ≤ k) : dpt D [(c, 0, 0)] (k + 1) k := by
  unfold dpt
  rw [if_neg (by omega), if_neg (by omega)]
  exact ⟨hc, by omega, rfl⟩
/-- what a part of E puts behind the things so far: they go from depth k to j, never above D -/
def dpX (D o : Nat) : Nat → List p_Tk → Prop
  | 0, r => ∀ k, k + (2 * (5 - o) + 1) ≤ D → dpt D r k (k + 1)
  | 1, r => ∀ k, k + (2 * (5 - o) + 2) ≤ D → dpt D r k (k + 1)
  | 2, r => ∀ k, 1 ≤ k → k + (2 * (5 - o) + 1) ≤ D → dpt D r k k
  | 3, r => ∀ k, k + (2 * (5 - o) + 3) ≤ D → dpt D r k (k + 1)
  | _, r => ∀ k, 1 ≤ k → k + (2 * (5 - o) + 2) ≤ D → dpt D r k k
theorem pX_dp {D : Nat} {τ : Nat → Int} {z : Nat} : ∀ (n md o p : Nat) (acc l : List p_Tk) (q : Nat), md ≤ 4 → o ≤ 5 → p ≤ z → pX τ z n md o p acc = (some l, q) → ∃ r, l = acc ++ r ∧ dpX D o md r
  | 0, md, o, p, acc, l, q, hm, ho, hp, h => by
    unfold pX at h
    cases h
  | n + 1, 0, o, p, acc, l, q, hm, ho, hp, h => by
    have h0 : hr τ z p ≠ -1 → p < z := hr_le
    rw [pX_F] at h
    split at h
    · split at h
      · cases h
      · have hlt := h0 (by omega)
        split at h
        · rename_i l1 q1 e1
          obtain ⟨r, e2, k⟩ := pX_dp (D := D) n 0 (o + 1) (p + 1) acc _ _ (by decide) (by omega) (by omega) e1
          cases h
          refine ⟨r ++ [(123, 0, 0)], by rw [e2, List.append_assoc], fun d hd => ?_⟩
          exact dpt_app _ _ _ _ _ (k d (by omega)) (dpt_n (by omega))
        · cases h
    · split at h
      · split at h
        · cases h
        · have hlt := h0 (by omega)
          split at h
          · rename_i l1 q1 e1
            obtain ⟨r, e2, k⟩ := pX_dp (D := D) n 3 (o + 1) (p + 1) acc _ _ (by decide) (by omega) (by omega) e1
            split at h
            · cases h
              exact ⟨r, e2, fun d hd => k d (by omega)⟩
            · cases h
          · cases h
      · split at h
        · rename_i t1 q1 e1
          have k := pS_ok hp e1
          cases h
          refine ⟨[t1], rfl, fun d hd => ?_⟩
          exact dpt_1 (k.2.2 t1 rfl).2.2.1 (by omega)
        · cases h
  | n + 1, 1, o, p, acc, l, q, hm, ho, hp, h => by
    rw [pX_T] at h
    split at h
    · rename_i l1 q1 e1
      obtain ⟨r, e2, k⟩ := pX_dp (D := D) n 0 o p acc _ _ (by decide) ho hp e1
      obtain ⟨r2, e3, k2⟩ := pX_dp (D := D) n 2 o q1 l1 _ _ (by decide) ho (pX_ok n 0 o p acc _ _ (by decide) hp e1).2.1 h
      refine ⟨r ++ r2, by rw [e3, e2, List.append_assoc], fun d hd => ?_⟩
      exact dpt_app _ _ _ _ _ (k d (by omega)) (k2 (d + 1) (by omega) (by omega))
    · cases h
  | n + 1, 2, o, p, acc, l, q, hm, ho, hp, h => by
    have h0 : hr τ z p ≠ -1 → p < z := hr_le
    rw [pX_Tl] at h
    split at h
    · have hlt := h0 (by omega)
      split at h
      · rename_i l1 q1 e1
        obtain ⟨r, e2, k⟩ := pX_dp (D := D) n 0 o (p + 1) acc _ _ (by decide) ho (by omega) e1
        obtain ⟨r2, e3, k2⟩ := pX_dp (D := D) n 2 o q1 _ _ _ (by decide) ho (pX_ok n 0 o (p + 1) acc _ _ (by decide) (by omega) e1).2.1 h
        refine ⟨r ++ ([(124, 0, 0)] ++ r2), by rw [e3, e2]; simp only [List.append_assoc], fun d h1 hd => ?_⟩
        exact dpt_app _ _ _ _ _ (k d hd) (dpt_app _ _ _ _ _ (dpt_j (Or.inl rfl) h1) (k2 d h1 hd))
      · cases h
    · cases h
      exact ⟨[], (List.append_nil _).symm, fun d _ _ => rfl⟩
  | n + 1, 3, o, p, acc, l, q, hm, ho, hp, h => by
    rw [pX_E] at h
    split at h
    · rename_i l1 q1 e1
      obtain ⟨r, e2, k⟩ := pX_dp (D := D) n 1 o p acc _ _ (by decide) ho hp e1
      obtain ⟨r2, e3, k2⟩ := pX_dp (D := D) n 4 o q1 l1 _ _ (by decide) ho (pX_ok n 1 o p acc _ _ (by decide) hp e1).2.1 h
      refine ⟨r ++ r2, by rw [e3, e2, List.append_assoc], fun d hd => ?_⟩
      exact dpt_app _ _ _ _ _ (k d (by omega)) (k2 (d + 1) (by omega) (by omega))
    · cases h
  | n + 1, 4, o, p, acc, l, q, hm, ho, hp, h => by
    have h0 : hr τ z p ≠ -1 → p < z := hr_le
    rw [pX_El] at h
    split at h
    · have hlt := h0 (by omega)
      split at h
      · rename_i l1 q1 e1
        obtain ⟨r, e2, k⟩ := pX_dp (D := D) n 1 o (p + 1) acc _ _ (by decide) ho (by omega) e1
        obtain ⟨r2, e3, k2⟩ := pX_dp (D := D) n 4 o q1 _ _ _ (by decide) ho (pX_ok n 1 o (p + 1) acc _ _ (by decide) (by omega) e1).2.1 h
        refine ⟨r ++ ([(125, 0, 0)] ++ r2), by rw [e3, e2]; simp only [List.append_assoc], fun d h1 hd => ?_⟩
        exact dpt_app _ _ _ _ _ (k d (by omega)) (dpt_app _ _ _ _ _ (dpt_j (Or.inr rfl) h1) (k2 d h1 hd))
      · cases h
    · cases h
      exact ⟨[], (List.append_nil _).symm, fun d _ _ => rfl⟩
  | n + 1, md + 5, o, p, acc, l, q, hm, ho, hp, h => absurd hm (by omega)
/-- a LINE's E: none, or one whose truths come to one -/
def lnO (x : p_Li) : Prop := (x.2.1 = true ∧ dpt 14 x.2.2.1 0 1) ∨ (x.2.1 = false ∧ x.2.2.1 = [])
theorem pL_dp {τ : Nat → Int} {z p q : Nat} {x : p_Li} (hp : p ≤ z) (h : pL τ z p = (some x, q)) : lnO x := by
  have h0 : hr τ z p ≠ -1 → p < z := hr_le
  unfold pL at h
  split at h
  · have hlt := h0 (by omega)
    split at h
    · rename_i e q1 e1
      split at h
      · split at h
        · cases h
          unfold pE at e1
          have h2 : hr τ z (p + 1) ≠ -1 → p + 1 < z := hr_le
          split at e1
          · have hl2 := h2 (by omega)
            split at e1
            · rename_i l1 q2 e2
              split at e1
              · cases e1
                obtain ⟨r, e3, k⟩ := pX_dp (D := 14) 1000 3 1 (p + 1 + 1) [] l1 q2 (by decide) (by decide) (by omega) e2
                refine Or.inl ⟨rfl, ?_⟩
                show dpt 14 l1 0 1
                rw [e3, List.nil_append]
                exact k 0 (by decide)
              · cases e1
            · cases e1
          · cases e1
            exact Or.inr ⟨rfl, rfl⟩
        · cases h
      · cases h
    · cases h
  · cases h
theorem pLs_dp {τ : Nat → Int} {z : Nat} (hz : z ≤ 160) : ∀ (k p : Nat) (acc l : List p_Li) (q : Nat), p ≤ z → (∀ x ∈ acc, lnO x) → pLs τ z k p acc = (some l, q) → ∀ x ∈ l, lnO x
  | 0, p, acc, l, q, hp, ha, h => by
    unfold pLs at h
    cases h
    exact ha
  | k + 1, p, acc, l, q, hp, ha, h => by
    rw [pLs_s] at h
    split at h
    · rename_i a q1 e1
      have k1 := pL_ok hp hz e1
      have h0 : hr τ z q1 ≠ -1 → q1 < z := hr_le
      have h2 : ∀ x ∈ acc ++ [a], lnO x := by
        intro x hx
        rcases List.mem_append.mp hx with h3 | h3
        · exact ha x h3
        · rw [List.mem_singleton.mp h3]
          exact pL_dp hp e1
      split at h
      · have := h0 (by omega)
        exact pLs_dp hz k (q1 + 1) _ l q (by omega) h2 h
      · cases h
        exact h2
    · cases h
theorem pTx_dp {τ : Nat → Int} {z q : Nat} {l : List p_Li} (hz : z ≤ 160) (h : pTx τ z = (some l, q)) : ∀ x ∈ l, lnO x := by
  unfold pTx at h
  split at h
  · rename_i l1 q1 e1
    split at h
    · cases h
      exact pLs_dp hz 8 0 [] _ _ (by omega) (fun x hx => by cases hx) e1
    · cases h
  · cases h
/-! the truths as bits of a number -/
def bB : List Bool → Int
  | [] => 1
  | b :: s => 2 * bB s + (if b = true then 1 else 0)
theorem bB_pos : ∀ s : List Bool, 1 ≤ bB s ∧ bB s < 2 * 2 ^ s.length
  | [] => by decide
  | b :: s => by
    have ih := bB_pos s
    have e : (2 : Int) ^ (b :: s).length = 2 * 2 ^ s.length := by
      rw [List.length_cons, Int.pow_succ, Int.mul_comm]
    unfold bB
    rw [e]
    split <;> omega
theorem bB_bd {s : List Bool} (h : s.length ≤ 14) : 1 ≤ bB s ∧ bB s < 32768 := by
  have h1 := bB_pos s
  have h2 : ∀ i : Nat, i ≤ 14 → (2 : Int) ^ i ≤ 16384 := by
    intro i hi
    have h3 : ∀ i : Nat, i < 15 → (2 : Int) ^ i ≤ 16384 := by decide
    exact h3 i (by omega)
  have h3 := h2 _ h
  omega
theorem bB_hd (s : List Bool) : bB s % 2 = if hd1 s = true then 1 else 0 := by
  cases s with
  | nil => rfl
  | cons b s =>
    show (2 * bB s + (if b = true then 1 else 0)) % 2 = if b = true then 1 else 0
    split <;> omega
theorem n_xor1 (n : Nat) : n ^^^ 1 = n + 1 - 2 * (n % 2) := by
  have h1 : (n ^^^ 1) / 2 = n / 2 := by
    rw [Nat.xor_div_two]
    show n / 2 ^^^ 0 = n / 2
    rw [Nat.xor_zero]
  have h2 : ((n ^^^ 1) % 2 = 1) ↔ ¬ ((n % 2 = 1) ↔ (1 % 2 = 1)) := Nat.xor_mod_two_eq_one
  omega
theorem n_or1 (n : Nat) : n ||| 1 = n + 1 - n % 2 := by
  have h1 : (n ||| 1) / 2 = n / 2 := by
    rw [Nat.or_div_two]
    show n / 2 ||| 0 = n / 2
    rw [Nat.or_zero]
  have h2 : ((n ||| 1) % 2 = 1) ↔ (n % 2 = 1 ∨ 1 % 2 = 1) := Nat.or_mod_two_eq_one
  omega
theorem n_and2 {n : Nat} (h : n < 4294967296) : n &&& 4294967294 = n - n % 2 := by
  have h1 : (n &&& 4294967294) / 2 = n / 2 := by
    rw [Nat.and_div_two]
    show n / 2 &&& 2 ^ 31 - 1 = n / 2
    rw [Nat.and_two_pow_sub_one_eq_mod]
    omega
  have h2 : ((n &&& 4294967294) % 2 = 1) ↔ (n % 2 = 1 ∧ 4294967294 % 2 = 1) := Nat.and_mod_two_eq_one
  omega
theorem v_xor1 {x : Int} (hx : 0 ≤ x) : Int32.ofInt x ^^^ Int32.ofInt 1 = Int32.ofInt (x + 1 - 2 * (x % 2)) := by
  rw [v_xor hx (by decide)]
  congr 1
  show ((x.toNat ^^^ 1 : Nat) : Int) = _
  rw [n_xor1]
  omega
theorem v_or1 {x : Int} (hx : 0 ≤ x) : Int32.ofInt x ||| Int32.ofInt 1 = Int32.ofInt (x + 1 - x % 2) := by
  rw [v_or hx (by decide)]
  congr 1
  show ((x.toNat ||| 1 : Nat) : Int) = _
  rw [n_or1]
  omega
theorem v_or0 {x : Int} (hx : 0 ≤ x) : Int32.ofInt x ||| Int32.ofInt 0 = Int32.ofInt x := by
  rw [v_or hx (by decide)]
  congr 1
  show ((x.toNat ||| 0 : Nat) : Int) = _
  rw [Nat.or_zero]
  omega
theorem v_andm2 {x : Int} (hx : 0 ≤ x ∧ x < 2147483648) : Int32.ofInt x &&& Int32.ofInt (-2) = Int32.ofInt (x - x % 2) := by
  rw [show Int32.ofInt (-2) = Int32.ofInt 4294967294 by decide, v_and hx.1 (by decide)]
  congr 1
  show ((x.toNat &&& 4294967294 : Nat) : Int) = _
  rw [n_and2 (by omega)]
  omega
theorem v_shl2 {x : Int} (hx : 0 ≤ x ∧ x < 1073741824) : Int32.ofInt x <<< (Int32.ofInt 1 &&& 31) = Int32.ofInt (2 * x) := by
  rw [v_Nz hx.1, show Int32.ofInt 1 = nI 1 from rfl, v_sh31 (by decide), pk_shlN _ 1 (v_smod _ (by decide)) (by omega), ← v_N]
  congr 1
  omega
theorem v_shr2 {x : Int} (hx : 0 ≤ x ∧ x < 2147483648) : Int32.ofInt x >>> (Int32.ofInt 1 &&& 31) = Int32.ofInt (x / 2) := by
  rw [v_shr hx (by decide)]
  rfl
theorem bB_not (b : Bool) (s : List Bool) : Int32.ofInt (bB (b :: s)) ^^^ Int32.ofInt 1 = Int32.ofInt (bB ((!b) :: s)) := by
  have h := bB_pos s
  have h2 := bB_pos (b :: s)
  rw [v_xor1 (by omega)]
  congr 1
  cases b
  · show 2 * bB s + 0 + 1 - 2 * ((2 * bB s + 0) % 2) = 2 * bB s + 1
    omega
  · show 2 * bB s + 1 + 1 - 2 * ((2 * bB s + 1) % 2) = 2 * bB s + 0
    omega
theorem bB_a1 (b : Bool) (s : List Bool) : Int32.ofInt (bB (b :: s)) &&& Int32.ofInt 1 = Int32.ofInt (if b = true then 1 else 0) := by
  have h2 := bB_pos (b :: s)
  rw [v_and1 (by omega), bB_hd]
  rfl
theorem bB_sh {b : Bool} {s : List Bool} (h : s.length ≤ 13) : Int32.ofInt (bB (b :: s)) >>> (Int32.ofInt 1 &&& 31) = Int32.ofInt (bB s) := by
  have h1 := bB_bd (s := b :: s) (by simp only [List.length_cons]; omega)
  rw [v_shr2 (by omega)]
  congr 1
  show (2 * bB s + (if b = true then 1 else 0)) / 2 = bB s
  split <;> omega
theorem bB_m2 {b : Bool} {s : List Bool} (h : s.length ≤ 13) : Int32.ofInt (bB (b :: s)) &&& Int32.ofInt (-2) = Int32.ofInt (bB (false :: s)) := by
  have h1 := bB_bd (s := b :: s) (by simp only [List.length_cons]; omega)
  rw [v_andm2 (by omega)]
  congr 1
  show (2 * bB s + (if b = true then 1 else 0)) - (2 * bB s + (if b = true then 1 else 0)) % 2 = 2 * bB s + 0
  split <;> omega
theorem bB_o1 (b : Bool) (s : List Bool) : Int32.ofInt (bB (b :: s)) ||| Int32.ofInt 1 = Int32.ofInt (bB (true :: s)) := by
  have h2 := bB_pos (b :: s)
  rw [v_or1 (by omega)]
  congr 1
  show (2 * bB s + (if b = true then 1 else 0)) + 1 - (2 * bB s + (if b = true then 1 else 0)) % 2 = 2 * bB s + 1
  split <;> omega
theorem bB_sl {s : List Bool} (h : s.length ≤ 14) : Int32.ofInt (bB s) <<< (Int32.ofInt 1 &&& 31) = Int32.ofInt (bB (false :: s)) := by
  have h1 := bB_bd h
  rw [v_shl2 (by omega)]
  congr 1
  show 2 * bB s = 2 * bB s + 0
  omega
theorem bB_o0 (b : Bool) (s : List Bool) : Int32.ofInt (bB (b :: s)) ||| Int32.ofInt 0 = Int32.ofInt (bB (b :: s)) := by
  have h2 := bB_pos (b :: s)
  exact v_or0 (by omega)
section EK
variable {μ : Nat → Int} {t h k n c x y : Int} {r : List p_Tk} {s : List Bool}
theorem encTc_t (hc : c ≤ 122) : encTc ((c, x, y) :: r) = c :: x :: y :: encTc r := by
  show (if c ≤ 122 then [c, x, y] else [c]) ++ encTc r = _
  rw [if_pos hc]
  rfl
theorem encTc_o (hc : ¬ c ≤ 122) : encTc ((c, x, y) :: r) = c :: encTc r := by
  show (if c ≤ 122 then [c, x, y] else [c]) ++ encTc r = _
  rw [if_neg hc]
  rfl
theorem dpt_tt {D k k' : Nat} (hc : c ≤ 122) (hd : dpt D ((c, x, y) :: r) k k') : k < D ∧ dpt D r (k + 1) k' := by
  unfold dpt at hd
  rwa [if_pos hc] at hd
theorem dpt_nn {D k k' : Nat} (hd : dpt D ((123, x, y) :: r) k k') : 1 ≤ k ∧ dpt D r k k' := hd
theorem dpt_jj {D k k' : Nat} (hc : 123 < c) (hd : dpt D ((c, x, y) :: r) k k') : (c = 124 ∨ c = 125) ∧ 2 ≤ k ∧ dpt D r (k - 1) k' := by
  unfold dpt at hd
  rwa [if_neg (by omega), if_neg (by omega)] at hd
theorem eK_t (hc : c ≤ 122) : eK μ t h k n ((c, x, y) :: r) s = eK μ t h k n r (eT μ t h k n c x y :: s) := by
  show eK μ t h k n r (if c ≤ 122 then eT μ t h k n c x y :: s else _) = _
  rw [if_pos hc]
theorem eK_n {b : Bool} : eK μ t h k n ((123, x, y) :: r) (b :: s) = eK μ t h k n r ((!b) :: s) := rfl
theorem eK_a {b b' : Bool} : eK μ t h k n ((124, x, y) :: r) (b' :: b :: s) = eK μ t h k n r ((b && b') :: s) := rfl
theorem eK_o {b b' : Bool} : eK μ t h k n ((125, x, y) :: r) (b' :: b :: s) = eK μ t h k n r ((b || b') :: s) := rfl
theorem eT_0 : eT μ t h k n 120 x y = decide (eV μ t h k n x < eV μ t h k n y) := rfl
theorem eT_1 : eT μ t h k n 121 x y = decide (eV μ t h k n x = eV μ t h k n y) := rfl
theorem eT_2 : eT μ t h k n 122 x y = decide (eV μ t h k n y < eV μ t h k n x) := rfl
theorem encAc_e {l : List Int} {q : List p_Ac} (hc : 126 ≤ c) : encAc ((c, l) :: q) = c :: encAc q := by
  show (if 126 ≤ c then [c] else c :: (l.length : Int) :: l) ++ encAc q = _
  rw [if_pos hc]
  rfl
theorem encAc_c {l : List Int} {q : List p_Ac} (hc : ¬ 126 ≤ c) : encAc ((c, l) :: q) = c :: (l.length : Int) :: (l ++ encAc q) := by
  show (if 126 ≤ c then [c] else c :: (l.length : Int) :: l) ++ encAc q = _
  rw [if_neg hc]
  rfl
theorem eA_p {l : List Int} {q : List p_Ac} : eA t h k n ((126, l) :: q) μ = (1, μ) := rfl
theorem eA_d {l : List Int} {q : List p_Ac} : eA t h k n ((127, l) :: q) μ = (0, μ) := rfl
theorem eA_b {l : List Int} {q : List p_Ac} : eA t h k n ((128, l) :: q) μ = (2, z_fl μ (4 * t.toNat) 4 0) := rfl
theorem eA_c {l : List Int} {q : List p_Ac} (hc : c < 126) : eA t h k n ((c, l) :: q) μ = eA t h k n q (v_uf μ (z_pl (c - 104) t h).toNat (wr (eS μ t h k n 0 l))) := by
  show (if c = 126 then _ else if c = 127 then _ else if c = 128 then _ else _) = _
  rw [if_neg (by omega), if_neg (by omega), if_neg (by omega)]
theorem eL_t {i : Nat} {l : p_Li} {q : List p_Li} (hx : eM μ t h k n l = true) : eL μ t h k n i (l :: q) = (i : Int) := if_pos hx
theorem eL_f {i : Nat} {l : p_Li} {q : List p_Li} (hx : ¬ eM μ t h k n l = true) : eL μ t h k n i (l :: q) = eL μ t h k n (i + 1) q := if_neg hx
theorem eM_i {l : p_Li} : eM μ t h k n l = true ↔ (l.1 = 4 ∨ l.1 = k) ∧ eH μ t h k n l.2.2.1 = true := by
  unfold eM
  simp
end EK
