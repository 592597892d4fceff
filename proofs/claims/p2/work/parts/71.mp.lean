/-! THE REFERENCE'S READING: what it has read so far of TEXT a -/
def mcd (t : Int) : Int := if t < 104 then t else if t < 108 then t + 6 else if t < 112 then t + 12 else t + 18
def mk (ln : Int) (g : Nat → Int) (t : Int) (b : Bool) : Nat → Int := if 108 ≤ t then v_uf g (t - 108).toNat (if 1 < g (t - 108).toNat then g (t - 108).toNat else if b then 2 + ln else 1) else g
def encT : List p_Tk → List Int
  | [] => []
  | (c, a, b) :: r => (if c ≤ 122 then 100000 + 4 * (200 * mcd a + mcd b) + (c - 120) else 122 - c) :: encT r
theorem encT_app (l r : List p_Tk) : encT (l ++ r) = encT l ++ encT r := by
  induction l with
  | nil => rfl
  | cons x l ih =>
    obtain ⟨c, a, b⟩ := x
    simp [encT, ih]
theorem encT_len (l : List p_Tk) : (encT l).length = l.length := by
  induction l with
  | nil => rfl
  | cons x l ih =>
    obtain ⟨c, a, b⟩ := x
    simp [encT, ih]
def mkT (ln : Int) (g : Nat → Int) : List p_Tk → Nat → Int
  | [] => g
  | (c, a, b) :: r => mkT ln (if c ≤ 122 then mk ln (mk ln g a true) b true else g) r
theorem mkT_app (ln : Int) (l r : List p_Tk) (g : Nat → Int) : mkT ln g (l ++ r) = mkT ln (mkT ln g l) r := by
  induction l generalizing g with
  | nil => rfl
  | cons x l ih =>
    obtain ⟨c, a, b⟩ := x
    exact ih _
/-- the tape of z bytes is τ -/
def Tp (τ : Nat → Int) (a z : Nat) : Prop := a < 8 ∧ z ≤ 160 ∧ ∀ i, i < z → 0 ≤ τ i ∧ τ i ≤ 255
def MP (V : v_V) (a z : Nat) (τ : Nat → Int) (p : Nat) (wr o ln : Int) (st : List Int) (g : Nat → Int) : Prop :=
  V 170 9 = a ∧ V 170 10 = p ∧ V 170 11 = z ∧ V 170 12 = wr ∧ V 170 13 = o ∧ V 170 14 = ln ∧ (∀ i, i < z → V 171 (10 + i) = τ i) ∧ V 174 a = st.length ∧ (∀ i x, m_nth st i = some x → V 173 (200 * a + i) = x) ∧ (∀ c, c < 8 → V 177 (8 * a + c) = g c)
/-- what stays as it was -/
def MF (a : Nat) (V V' : v_V) : Prop :=
  (∀ k, k ≠ 170 → k ≠ 173 → k ≠ 174 → k ≠ 176 → k ≠ 177 → V' k = V k) ∧ (∀ i, i ≠ 10 → i ≠ 12 → i ≠ 13 → i ≠ 14 → V' 170 i = V 170 i) ∧
  (∀ i, i < 200 * a ∨ 200 * a + 200 ≤ i → V' 173 i = V 173 i) ∧ (∀ i, i ≠ a → V' 174 i = V 174 i) ∧ (∀ i, i < 8 * a ∨ 8 * a + 8 ≤ i → V' 176 i = V 176 i ∧ V' 177 i = V 177 i)
/-- nor are the counts of ACTS touched -/
def MG (V V' : v_V) : Prop := V' 176 = V 176
theorem MF_rf (a : Nat) (V : v_V) : MF a V V := ⟨fun _ _ _ _ _ _ => rfl, fun _ _ _ _ _ => rfl, fun _ _ => rfl, fun _ _ => rfl, fun _ _ => ⟨rfl, rfl⟩⟩
theorem MF_tr {a : Nat} {V V' V'' : v_V} (h : MF a V V') (h2 : MF a V' V'') : MF a V V'' :=
  ⟨fun k q1 q2 q3 q4 q5 => (h2.1 k q1 q2 q3 q4 q5).trans (h.1 k q1 q2 q3 q4 q5), fun i q1 q2 q3 q4 => (h2.2.1 i q1 q2 q3 q4).trans (h.2.1 i q1 q2 q3 q4), fun i q => (h2.2.2.1 i q).trans (h.2.2.1 i q), fun i q => (h2.2.2.2.1 i q).trans (h.2.2.2.1 i q), fun i q => ⟨(h2.2.2.2.2 i q).1.trans (h.2.2.2.2 i q).1, (h2.2.2.2.2 i q).2.trans (h.2.2.2.2 i q).2⟩⟩
theorem MF_u0 {a i : Nat} {V V' : v_V} {x : Int} (hi : i = 10 ∨ i = 12 ∨ i = 13 ∨ i = 14) (h : MF a V V') : MF a V (v_up V' 170 i x) := by
  refine ⟨fun k q1 q2 q3 q4 q5 => ?_, fun q q1 q2 q3 q4 => ?_, fun q hq => ?_, fun q hq => ?_, fun q hq => ?_⟩
  · rw [v_up_ne q1]
    exact h.1 k q1 q2 q3 q4 q5
  · rw [v_up_ni (by omega)]
    exact h.2.1 q q1 q2 q3 q4
  · rw [v_up_ne (by decide)]
    exact h.2.2.1 q hq
  · rw [v_up_ne (by decide)]
    exact h.2.2.2.1 q hq
  · rw [v_up_ne (by decide), v_up_ne (by decide)]
    exact h.2.2.2.2 q hq
theorem MF_u3 {a i : Nat} {V V' : v_V} {x : Int} (hi : 200 * a ≤ i ∧ i < 200 * a + 200) (h : MF a V V') : MF a V (v_up V' 173 i x) := by
  refine ⟨fun k q1 q2 q3 q4 q5 => ?_, fun q q1 q2 q3 q4 => ?_, fun q hq => ?_, fun q hq => ?_, fun q hq => ?_⟩
  · rw [v_up_ne q2]
    exact h.1 k q1 q2 q3 q4 q5
  · rw [v_up_ne (by decide)]
    exact h.2.1 q q1 q2 q3 q4
  · rw [v_up_ni (by omega)]
    exact h.2.2.1 q hq
  · rw [v_up_ne (by decide)]
    exact h.2.2.2.1 q hq
  · rw [v_up_ne (by decide), v_up_ne (by decide)]
    exact h.2.2.2.2 q hq
theorem MF_u4 {a : Nat} {V V' : v_V} {x : Int} (h : MF a V V') : MF a V (v_up V' 174 a x) := by
  refine ⟨fun k q1 q2 q3 q4 q5 => ?_, fun q q1 q2 q3 q4 => ?_, fun q hq => ?_, fun q hq => ?_, fun q hq => ?_⟩
  · rw [v_up_ne q3]
    exact h.1 k q1 q2 q3 q4 q5
  · rw [v_up_ne (by decide)]
    exact h.2.1 q q1 q2 q3 q4
  · rw [v_up_ne (by decide)]
    exact h.2.2.1 q hq
  · rw [v_up_ni hq]
    exact h.2.2.2.1 q hq
  · rw [v_up_ne (by decide), v_up_ne (by decide)]
    exact h.2.2.2.2 q hq
theorem MF_u7 {a i : Nat} {V V' : v_V} {x : Int} (hi : 8 * a ≤ i ∧ i < 8 * a + 8) (h : MF a V V') : MF a V (v_up V' 177 i x) := by
  refine ⟨fun k q1 q2 q3 q4 q5 => ?_, fun q q1 q2 q3 q4 => ?_, fun q hq => ?_, fun q hq => ?_, fun q hq => ?_⟩
  · rw [v_up_ne q5]
    exact h.1 k q1 q2 q3 q4 q5
  · rw [v_up_ne (by decide)]
    exact h.2.1 q q1 q2 q3 q4
  · rw [v_up_ne (by decide)]
    exact h.2.2.1 q hq
  · rw [v_up_ne (by decide)]
    exact h.2.2.2.1 q hq
  · rw [v_up_ne (by decide), v_up_ni (by omega)]
    exact h.2.2.2.2 q hq
theorem MF_u6 {a i : Nat} {V V' : v_V} {x : Int} (hi : 8 * a ≤ i ∧ i < 8 * a + 8) (h : MF a V V') : MF a V (v_up V' 176 i x) := by
  refine ⟨fun k q1 q2 q3 q4 q5 => ?_, fun q q1 q2 q3 q4 => ?_, fun q hq => ?_, fun q hq => ?_, fun q hq => ?_⟩
  · rw [v_up_ne q4]
    exact h.1 k q1 q2 q3 q4 q5
  · rw [v_up_ne (by decide)]
    exact h.2.1 q q1 q2 q3 q4
  · rw [v_up_ne (by decide)]
    exact h.2.2.1 q hq
  · rw [v_up_ne (by decide)]
    exact h.2.2.2.1 q hq
  · rw [v_up_ni (by omega), v_up_ne (by decide)]
    exact h.2.2.2.2 q hq
/-- the place, the word that it went wrong, how many are open, the line: told anew -/
theorem MP_f {V : v_V} {a z : Nat} {τ : Nat → Int} {p : Nat} {wr o ln : Int} {st : List Int} {g : Nat → Int} (h : MP V a z τ p wr o ln st g) {V' : v_V} {p' : Nat} {wr' o' ln' : Int}
    (h0 : V' 170 9 = V 170 9 ∧ V' 170 11 = V 170 11 ∧ V' 171 = V 171 ∧ V' 173 = V 173 ∧ V' 174 = V 174 ∧ V' 177 = V 177) (h1 : V' 170 10 = p') (h2 : V' 170 12 = wr') (h3 : V' 170 13 = o') (h4 : V' 170 14 = ln') : MP V' a z τ p' wr' o' ln' st g := by
  obtain ⟨a1, a2, a3, a4, a5, a6, a7, a8, a9, a10⟩ := h
  obtain ⟨b1, b2, b3, b4, b5, b6⟩ := h0
  refine ⟨b1.trans a1, h1, b2.trans a3, h2, h3, h4, ?_, ?_, ?_, ?_⟩
  · rw [b3]; exact a7
  · rw [b5]; exact a8
  · rw [b4]; exact a9
  · rw [b6]; exact a10
theorem MP_em {V : v_V} {a z : Nat} {τ : Nat → Int} {p : Nat} {wr o ln x : Int} {st : List Int} {g : Nat → Int} (h : MP V a z τ p wr o ln st g) : MP (v_up (v_up V 173 (200 * a + st.length) x) 174 a (st.length + 1)) a z τ p wr o ln (st ++ [x]) g := by
  obtain ⟨a1, a2, a3, a4, a5, a6, a7, a8, a9, a10⟩ := h
  refine ⟨a1, a2, a3, a4, a5, a6, a7, ?_, ?_, a10⟩
  · rw [v_up_eq, List.length_append]
    rfl
  · intro i y hi
    rw [v_up_ne (by decide)]
    rw [m_nth_app] at hi
    by_cases h2 : i = st.length
    · rw [if_pos h2] at hi
      cases hi
      rw [h2, v_up_eq]
    · rw [if_neg h2] at hi
      rw [v_up_ni (by omega)]
      exact a9 i y hi
theorem MP_mk {V : v_V} {a z : Nat} {τ : Nat → Int} {p : Nat} {wr o ln x : Int} {st : List Int} {g : Nat → Int} {c : Nat} (h : MP V a z τ p wr o ln st g) (hc : c < 8) : MP (v_up V 177 (8 * a + c) x) a z τ p wr o ln st (v_uf g c x) := by
  obtain ⟨a1, a2, a3, a4, a5, a6, a7, a8, a9, a10⟩ := h
  refine ⟨a1, a2, a3, a4, a5, a6, a7, a8, a9, ?_⟩
  intro q hq
  by_cases h2 : q = c
  · rw [h2, v_up_eq, v_uf_eq]
  · rw [v_up_ni (by omega), v_uf_ne h2]
    exact a10 q hq
theorem hr_rg {τ : Nat → Int} {a z : Nat} (h : Tp τ a z) (p : Nat) : -1 ≤ hr τ z p ∧ hr τ z p ≤ 255 := by
  unfold hr
  split
  · rename_i h2
    have := h.2.2 p h2
    omega
  · omega
theorem mcd_rg {t : Int} (h : tcd t) : 0 ≤ mcd t ∧ mcd t ≤ 133 ∧ (108 ≤ t ↔ 120 ≤ mcd t) ∧ (112 ≤ t ↔ 130 ≤ mcd t) ∧ (104 ≤ t ↔ 110 ≤ mcd t) := by
  unfold mcd tcd at *
  by_cases h1 : t < 104
  · rw [if_pos h1]; omega
  rw [if_neg h1]
  by_cases h2 : t < 108
  · rw [if_pos h2]; omega
  rw [if_neg h2]
  by_cases h3 : t < 112
  · rw [if_pos h3]; omega
  rw [if_neg h3]; omega
theorem mcd_hi {t : Int} (h : tcd t) : (120 ≤ mcd t → mcd t < 130 → mcd t = t + 12) ∧ (130 ≤ mcd t → mcd t = t + 18) := by
  unfold mcd tcd at *
  by_cases h1 : t < 104
  · rw [if_pos h1]; omega
  rw [if_neg h1]
  by_cases h2 : t < 108
  · rw [if_pos h2]; omega
  rw [if_neg h2]
  by_cases h3 : t < 112
  · rw [if_pos h3]; omega
  rw [if_neg h3]; omega
theorem mcd_inj {s t : Int} (hs : tcd s) (ht : tcd t) (h : mcd s = mcd t) : s = t := by
  unfold mcd tcd at *
  (repeat' split at h) <;> omega
