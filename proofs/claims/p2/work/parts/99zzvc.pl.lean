/-! ORDERS: the told BOXES, their orders, what is counted of them -/
theorem gd_lt {l r : List Nat} {q : Nat} (h : q < l.length) : (l ++ r).getD q 0 = l.getD q 0 := by
  rw [List.getD_eq_getElem?_getD, List.getD_eq_getElem?_getD, List.getElem?_append_left h]
theorem gd_eq {l : List Nat} {a : Nat} : (l ++ [a]).getD l.length 0 = a := by
  rw [List.getD_eq_getElem?_getD, List.getElem?_append_right (Nat.le_refl _), Nat.sub_self]
  rfl
/-- the told BOXES below j, in order -/
def tdL (x : Int) : Nat → List Nat
  | 0 => []
  | j + 1 => if x / 2 ^ j % 2 = 1 then tdL x j ++ [j] else tdL x j
theorem tdL_len (x : Int) : ∀ j : Nat, ((tdL x j).length : Int) = v_bs x j
  | 0 => rfl
  | j + 1 => by
    have ih := tdL_len x j
    have hb := v_bit01 x j
    unfold tdL
    simp only [v_bs]
    split
    · rw [List.length_append, List.length_singleton]
      omega
    · omega
theorem tdL_lt (x : Int) : ∀ j q : Nat, q < (tdL x j).length → (tdL x j).getD q 0 < j
  | 0, q, h => absurd h (by show ¬ q < 0; omega)
  | j + 1, q, h => by
    have ih := tdL_lt x j
    unfold tdL at h ⊢
    split
    · rename_i hb
      rw [if_pos hb, List.length_append, List.length_singleton] at h
      rcases (show q < (tdL x j).length ∨ q = (tdL x j).length by omega) with h1 | h1
      · rw [gd_lt h1]
        have := ih q h1
        omega
      · rw [h1, gd_eq]
        omega
    · rename_i hb
      rw [if_neg hb] at h
      have := ih q h
      omega
theorem tdL_mono (x : Int) : ∀ j p q : Nat, p < q → q < (tdL x j).length → (tdL x j).getD p 0 < (tdL x j).getD q 0
  | 0, p, q, _, h => absurd h (by show ¬ q < 0; omega)
  | j + 1, p, q, hpq, h => by
    have ih := tdL_mono x j
    have il := tdL_lt x j
    unfold tdL at h ⊢
    split
    · rename_i hb
      rw [if_pos hb, List.length_append, List.length_singleton] at h
      rcases (show q < (tdL x j).length ∨ q = (tdL x j).length by omega) with h1 | h1
      · rw [gd_lt h1, gd_lt (show p < (tdL x j).length by omega)]
        exact ih p q hpq h1
      · rw [h1, gd_eq, gd_lt (show p < (tdL x j).length by omega)]
        exact il p (by omega)
    · rename_i hb
      rw [if_neg hb] at h
      exact ih p q hpq h
/-- the orders as the reference goes through them -/
def arrL (T : Nat) : Nat → List Nat → Int → List (List Nat)
  | 0, p, _ => [p]
  | r + 1, p, us => (List.range T).flatMap (fun i => if us / 2 ^ i % 2 = 0 then arrL T r (p ++ [i]) (v_o2 us i) else [])
def arrI (T r : Nat) (p : List Nat) (us : Int) (n : Nat) : List (List Nat) := (List.range n).flatMap (fun i => if us / 2 ^ i % 2 = 0 then arrL T r (p ++ [i]) (v_o2 us i) else [])
theorem arrI_s (T r : Nat) (p : List Nat) (us : Int) (n : Nat) : arrI T r p us (n + 1) = arrI T r p us n ++ (if us / 2 ^ n % 2 = 0 then arrL T r (p ++ [n]) (v_o2 us n) else []) := by
  unfold arrI
  rw [List.range_succ, List.flatMap_append]
  congr 1
  simp
def plL (T : Nat) : List (List Nat) := arrL T T [] 0
/-- the next order, as the class makes it -/
def nxt : List Nat → Bool × List Nat
  | [a, b] => if b < a then ((false, [a, b])) else (if b < a then (true, [a, b]) else (true, [b, a]))
  | [a, b, c] => if c < b then (if b < a then ((false, [a, b, c])) else (if c < a then if b < a then (true, [a, c, b]) else (true, [b, c, a]) else (true, [c, a, b]))) else (if c < b then (true, [a, b, c]) else (true, [a, c, b]))
  | [a, b, c, d] => if d < c then (if c < b then (if b < a then ((false, [a, b, c, d])) else (if d < a then if c < a then if b < a then (true, [a, d, c, b]) else (true, [b, d, c, a]) else (true, [c, d, a, b]) else (true, [d, a, c, b]))) else (if d < b then if c < b then (true, [a, b, d, c]) else (true, [a, c, d, b]) else (true, [a, d, b, c]))) else (if d < c then (true, [a, b, c, d]) else (true, [a, b, d, c]))
  | l => (false, l)
def chn : List (List Nat) → Bool
  | [] => true
  | [l] => !(nxt l).1
  | l :: l2 :: r => (nxt l == (true, l2)) && chn (l2 :: r)
theorem plL_ok : ∀ T : Nat, T < 5 → 2 ≤ T → chn (plL T) = true ∧ (plL T).all (fun l => l.length == T && l.all (fun a => decide (a < T))) = true ∧ (plL T).length ≤ 24 ∧ (plL T).head? = some (List.range T) := by decide +kernel
theorem chn_t {l : List Nat} {r : List (List Nat)} (h : chn (l :: r) = true) : chn r = true := by
  cases r with
  | nil => rfl
  | cons l2 r =>
    simp only [chn, Bool.and_eq_true] at h
    exact h.2
theorem chn_d : ∀ (dn : List (List Nat)) {r : List (List Nat)}, chn (dn ++ r) = true → chn r = true
  | [], r, h => h
  | l :: dn, r, h => chn_d dn (chn_t h)
/-- the BOXES of an order -/
def bxs (td : List Nat) (l : List Nat) : List Nat := l.map (fun a => td.getD a 0)
theorem bxs_gd {td l : List Nat} {q : Nat} (h : q < l.length) : (bxs td l).getD q 0 = td.getD (l.getD q 0) 0 := by
  unfold bxs
  rw [List.getD_eq_getElem?_getD, List.getElem?_map, List.getD_eq_getElem?_getD (l := l), List.getElem?_eq_getElem h]
  rfl
theorem nxt_map {T : Nat} (td : List Nat) (hT : td.length = T) (hm : ∀ p q, p < q → q < T → td.getD p 0 < td.getD q 0) {l : List Nat} (hl : l.length = T) (hT4 : 2 ≤ T ∧ T ≤ 4) (ha : ∀ a ∈ l, a < T) : nxt (bxs td l) = ((nxt l).1, bxs td (nxt l).2) := by
  have hc : ∀ a b : Nat, a < T → b < T → (td.getD a 0 < td.getD b 0 ↔ a < b) := fun a b h1 h2 => by
    constructor
    · intro h
      rcases Nat.lt_trichotomy a b with q | q | q
      · exact q
      · rw [q] at h
        exact absurd h (Nat.lt_irrefl _)
      · have := hm b a q h1
        omega
    · intro h
      exact hm a b h h2
  match l, hl, ha with
  | [a, b], hl, ha =>
    have a1 := ha a (by simp)
    have a2 := ha b (by simp)
    show nxt [td.getD a 0, td.getD b 0] = _
    simp only [nxt, hc b a a2 a1]
    repeat' split
    all_goals first | rfl | (exfalso; omega)
  | [a, b, c], hl, ha =>
    have a1 := ha a (by simp)
    have a2 := ha b (by simp)
    have a3 := ha c (by simp)
    show nxt [td.getD a 0, td.getD b 0, td.getD c 0] = _
    simp only [nxt, hc b a a2 a1, hc c b a3 a2, hc c a a3 a1]
    repeat' split
    all_goals first | rfl | (exfalso; omega)
  | [a, b, c, d], hl, ha =>
    have a1 := ha a (by simp)
    have a2 := ha b (by simp)
    have a3 := ha c (by simp)
    have a4 := ha d (by simp)
    show nxt [td.getD a 0, td.getD b 0, td.getD c 0, td.getD d 0] = _
    simp only [nxt, hc b a a2 a1, hc c b a3 a2, hc d c a4 a3, hc c a a3 a1, hc d a a4 a1, hc d b a4 a2]
    repeat' split
    all_goals first | rfl | (exfalso; omega)
  | [], hl, _ => exact absurd hl (by simp; omega)
  | [_], hl, _ => exact absurd hl (by simp; omega)
  | _ :: _ :: _ :: _ :: _ :: _, hl, _ => exact absurd hl (by simp; omega)
/-- how many orders keep it, and the first -/
noncomputable def cK (P : List Nat → Prop) : List (List Nat) → Nat
  | [] => 0
  | l :: r => (@ite Nat (P l) (Classical.propDecidable (P l)) 1 0) + cK P r
noncomputable def fK (P : List Nat → Prop) : List (List Nat) → List Nat
  | [] => []
  | l :: r => @ite (List Nat) (P l) (Classical.propDecidable (P l)) l (fK P r)
theorem cK_1 {P : List Nat → Prop} {l : List Nat} (r : List (List Nat)) (h : P l) : cK P (l :: r) = cK P r + 1 := by
  simp only [cK]
  rw [if_pos h, Nat.add_comm]
theorem cK_0 {P : List Nat → Prop} {l : List Nat} (r : List (List Nat)) (h : ¬ P l) : cK P (l :: r) = cK P r := by
  simp only [cK]
  rw [if_neg h, Nat.zero_add]
theorem fK_1 {P : List Nat → Prop} {l : List Nat} (r : List (List Nat)) (h : P l) : fK P (l :: r) = l := by
  simp only [fK]
  rw [if_pos h]
theorem fK_0 {P : List Nat → Prop} {l : List Nat} (r : List (List Nat)) (h : ¬ P l) : fK P (l :: r) = fK P r := by
  simp only [fK]
  rw [if_neg h]
theorem cK_app (P : List Nat → Prop) : ∀ a b : List (List Nat), cK P (a ++ b) = cK P a + cK P b
  | [], b => by rw [List.nil_append]; show _ = 0 + _; omega
  | l :: a, b => by
    have ih := cK_app P a b
    show cK P (l :: (a ++ b)) = _
    by_cases h : P l
    · rw [cK_1 _ h, cK_1 _ h, ih]
      omega
    · rw [cK_0 _ h, cK_0 _ h, ih]
theorem fK_a0 {P : List Nat → Prop} : ∀ (a : List (List Nat)) (b : List (List Nat)), cK P a = 0 → fK P (a ++ b) = fK P b
  | [], b, _ => rfl
  | l :: a, b, h0 => by
    by_cases h : P l
    · rw [cK_1 _ h] at h0
      omega
    · rw [cK_0 _ h] at h0
      show fK P (l :: (a ++ b)) = _
      rw [fK_0 _ h]
      exact fK_a0 a b h0
theorem fK_a1 {P : List Nat → Prop} : ∀ (a : List (List Nat)) (b : List (List Nat)), 0 < cK P a → fK P (a ++ b) = fK P a
  | [], b, h => absurd h (by show ¬ 0 < 0; omega)
  | l :: a, b, h0 => by
    show fK P (l :: (a ++ b)) = _
    by_cases h : P l
    · rw [fK_1 _ h, fK_1 _ h]
    · rw [cK_0 _ h] at h0
      rw [fK_0 _ h, fK_0 _ h]
      exact fK_a1 a b h0
theorem cK_same {P Q : List Nat → Prop} : ∀ (a : List (List Nat)), (∀ l ∈ a, P l ↔ Q l) → cK P a = cK Q a ∧ fK P a = fK Q a
  | [], _ => ⟨rfl, rfl⟩
  | l :: a, h => by
    have ih := cK_same a (fun l2 h2 => h l2 (List.mem_cons_of_mem _ h2))
    have hl := h l List.mem_cons_self
    by_cases hp : P l
    · rw [cK_1 _ hp, fK_1 _ hp, cK_1 _ (hl.mp hp), fK_1 _ (hl.mp hp), ih.1]
      exact ⟨rfl, rfl⟩
    · have hq := mt hl.mpr hp
      rw [cK_0 _ hp, fK_0 _ hp, cK_0 _ hq, fK_0 _ hq]
      exact ih
theorem cK_le (P : List Nat → Prop) : ∀ a : List (List Nat), cK P a ≤ a.length
  | [] => Nat.le_refl 0
  | l :: a => by
    have ih := cK_le P a
    by_cases h : P l
    · rw [cK_1 _ h, List.length_cons]
      omega
    · rw [cK_0 _ h, List.length_cons]
      omega
/-- what orders answers -/
noncomputable def ordA (P : List Nat → Prop) (td : List Nat) (T : Nat) (i : Int) : Int :=
  if i = -1 then (cK P (plL T) : Int) else if 0 < cK P (plL T) ∧ i < T then ((td.getD ((fK P (plL T)).getD i.toNat 0) 0 : Nat) : Int) else -1
theorem ordA_same {P Q : List Nat → Prop} {td : List Nat} {T : Nat} {i : Int} (h : ∀ l ∈ plL T, P l ↔ Q l) : ordA P td T i = ordA Q td T i := by
  have e := cK_same (plL T) h
  unfold ordA
  rw [e.1, e.2]
theorem pl_mem {T : Nat} (hT : 2 ≤ T ∧ T ≤ 4) {l : List Nat} (h : l ∈ plL T) : l.length = T ∧ ∀ a ∈ l, a < T := by
  have h1 := List.all_eq_true.mp (plL_ok T (by omega) hT.1).2.1 l h
  rw [Bool.and_eq_true] at h1
  exact ⟨by simpa using h1.1, fun a ha => by simpa using List.all_eq_true.mp h1.2 a ha⟩
theorem gd_mem {l : List Nat} {q : Nat} (h : q < l.length) : l.getD q 0 ∈ l := by
  rw [List.getD_eq_getElem?_getD, List.getElem?_eq_getElem h]
  exact List.getElem_mem h
