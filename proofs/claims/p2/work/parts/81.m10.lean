/-! a whole TEXT in the reference -/
def encP : Nat → List p_Li → List Int
  | _, [] => []
  | n0, x :: r => encL n0 x ++ encP (n0 + (encL n0 x).length) r
theorem encP_app (x : p_Li) : ∀ (l : List p_Li) (n0 : Nat), encP n0 (l ++ [x]) = encP n0 l ++ encL (n0 + (encP n0 l).length) x
  | [], n0 => by simp [encP]
  | y :: l, n0 => by
    show encL n0 y ++ encP (n0 + (encL n0 y).length) (l ++ [x]) = encL n0 y ++ encP (n0 + (encL n0 y).length) l ++ encL _ x
    rw [encP_app x l, List.append_assoc, show encP n0 (y :: l) = encL n0 y ++ encP (n0 + (encL n0 y).length) l from rfl, List.length_append, Nat.add_assoc]
def mkP : Int → (Nat → Int) → List p_Li → Nat → Int
  | _, g, [] => g
  | ln, g, x :: r => mkP (ln + 1) (mkL ln g x) r
theorem mkP_app (x : p_Li) : ∀ (l : List p_Li) (ln : Int) (g : Nat → Int), mkP ln g (l ++ [x]) = mkL (ln + l.length) (mkP ln g l) x
  | [], ln, g => by simp [mkP]
  | y :: l, ln, g => by
    show mkP (ln + 1) (mkL ln g y) (l ++ [x]) = mkL _ (mkP (ln + 1) (mkL ln g y) l) x
    rw [mkP_app x l, show ln + 1 + (l.length : Int) = ln + ((y :: l).length : Int) by simp; omega]
/-- a LINE that a reading makes -/
def liO (x : p_Li) : Prop := tkO x.2.2.1 ∧ acO x.2.2.2 ∧ 0 ≤ x.1 ∧ x.1 ≤ 4 ∧ x.2.2.2.length ≤ 5
theorem pE_ok {τ : Nat → Int} {z p q : Nat} {r : Option (Bool × List p_Tk)} (hp : p ≤ z) (hz : z ≤ 160) (h : pE τ z p = (r, q)) : p ≤ q ∧ q ≤ z ∧ ∀ e, r = some e → (encT e.2).length + (if e.1 = true then 1 else 0) + p ≤ q ∧ tkO e.2 := by
  have h0 : hr τ z p ≠ -1 → p < z := hr_le
  unfold pE at h
  split at h
  · have := h0 (by omega)
    split at h
    · rename_i l1 q1 e1
      have k := pX_ok _ _ _ _ _ _ _ (by decide) (by omega) e1
      have k2 := k.2.2 l1 rfl
      have k3 := pX_tk _ _ _ _ _ _ _ (by decide) (by omega) (fun t ht => by cases ht) e1
      have h2 : hr τ z q1 ≠ -1 → q1 < z := hr_le
      have k4 := k2.1
      simp only [List.length_nil] at k4
      split at h
      · cases h
        have := h2 (by omega)
        refine ⟨by omega, by omega, fun e he => ?_⟩
        cases he
        refine ⟨?_, k3⟩
        rw [encT_len, if_pos rfl]
        show l1.length + 1 + p ≤ q1 + 1
        omega
      · cases h
        exact ⟨by omega, k.2.1, fun e he => by cases he⟩
    · rename_i q1 e1
      have k := pX_ok _ _ _ _ _ _ _ (by decide) (by omega) e1
      cases h
      exact ⟨by omega, k.2.1, fun e he => by cases he⟩
  · cases h
    refine ⟨Nat.le_refl _, hp, fun e he => ?_⟩
    cases he
    exact ⟨by simp [encT], fun t ht => by cases ht⟩
theorem pL_ok {τ : Nat → Int} {z p q : Nat} {r : Option p_Li} (hp : p ≤ z) (hz : z ≤ 160) (h : pL τ z p = (r, q)) : p ≤ q ∧ q ≤ z ∧ ∀ x, r = some x → (bodyL x).length + 2 + p ≤ q ∧ liO x := by
  have h0 : hr τ z p ≠ -1 → p < z := hr_le
  unfold pL at h
  split at h
  · rename_i hk
    have := h0 (by omega)
    split at h
    · rename_i e q1 e1
      have k := pE_ok (by omega) hz e1
      have k2 := k.2.2 e rfl
      have h2 : hr τ z q1 ≠ -1 → q1 < z := hr_le
      split at h
      · have := h2 (by omega)
        split at h
        · rename_i l q2 e2
          have ka := pAs_ok _ _ _ _ _ (by omega) (fun x hx => by cases hx) e2
          have kb := ka.2.2 l rfl
          cases h
          refine ⟨by omega, ka.2.1, fun x hx => ?_⟩
          cases hx
          have kc := kb.1
          simp only [encA, List.length_nil] at kc
          have kd := kb.2.2
          simp only [List.length_nil] at kd
          refine ⟨?_, k2.2, kb.2.1, ?_, ?_, by show l.length ≤ 5; omega⟩
          · show (encT e.2 ++ ((if e.1 = true then [-4] else []) ++ encA l)).length + 2 + p ≤ q
            have k5 := k2.1
            rw [List.length_append, List.length_append]
            by_cases he : e.1 = true
            · rw [if_pos he] at k5 ⊢
              simp only [List.length_cons, List.length_nil]
              omega
            · rw [if_neg he] at k5 ⊢
              simp only [List.length_nil]
              omega
          · show 0 ≤ (if hr τ z p = 42 then (4 : Int) else hr τ z p - 48)
            split <;> omega
          · show (if hr τ z p = 42 then (4 : Int) else hr τ z p - 48) ≤ 4
            split <;> omega
        · rename_i q2 e2
          have ka := pAs_ok _ _ _ _ _ (by omega) (fun x hx => by cases hx) e2
          cases h
          exact ⟨by omega, ka.2.1, fun e he => by cases he⟩
      · cases h
        exact ⟨by omega, k.2.1, fun e he => by cases he⟩
    · rename_i q1 e1
      have k := pE_ok (by omega) hz e1
      cases h
      exact ⟨by omega, k.2.1, fun e he => by cases he⟩
  · cases h
    exact ⟨Nat.le_refl _, hp, fun e he => by cases he⟩
theorem encL_len (n0 : Nat) (x : p_Li) : (encL n0 x).length = (bodyL x).length + 2 := rfl
def lsO (l : List p_Li) : Prop := ∀ x ∈ l, liO x
theorem lsO_app {l : List p_Li} {x : p_Li} (h : lsO l) (hx : liO x) : lsO (l ++ [x]) := by
  intro y hy
  rcases List.mem_append.mp hy with h2 | h2
  · exact h y h2
  · rw [List.mem_singleton.mp h2]
    exact hx
theorem pLs_ok {τ : Nat → Int} {z : Nat} (hz : z ≤ 160) : ∀ (k p : Nat) (acc : List p_Li) (r : Option (List p_Li)) (q : Nat), p ≤ z → lsO acc → pLs τ z k p acc = (r, q) → p ≤ q ∧ q ≤ z ∧ ∀ l, r = some l → (encP 0 l).length + p ≤ (encP 0 acc).length + q ∧ lsO l ∧ l.length ≤ acc.length + k
  | 0, p, acc, r, q, hp, ha, h => by
    unfold pLs at h
    cases h
    exact ⟨Nat.le_refl _, hp, fun l e => by cases e; exact ⟨by omega, ha, by omega⟩⟩
  | k + 1, p, acc, r, q, hp, ha, h => by
    unfold pLs at h
    split at h
    · rename_i x q1 ee
      have k1 := pL_ok hp hz ee
      have k2 := k1.2.2 x rfl
      have h0 : hr τ z q1 ≠ -1 → q1 < z := hr_le
      have e3 : (encP 0 (acc ++ [x])).length = (encP 0 acc).length + ((bodyL x).length + 2) := by
        rw [encP_app, List.length_append, encL_len]
      split at h
      · have := h0 (by omega)
        have kk := pLs_ok hz k (q1 + 1) (acc ++ [x]) r q (by omega) (lsO_app ha k2.2) h
        refine ⟨by omega, kk.2.1, fun l e => ?_⟩
        have k3 := kk.2.2 l e
        have k4 := k3.1
        have k5 := k3.2.2
        simp only [List.length_append, List.length_cons, List.length_nil] at k5
        exact ⟨by omega, k3.2.1, by omega⟩
      · cases h
        refine ⟨by omega, k1.2.1, fun l e => ?_⟩
        cases e
        simp only [List.length_append, List.length_cons, List.length_nil]
        exact ⟨by omega, lsO_app ha k2.2, by omega⟩
    · rename_i q1 ee
      have k1 := pL_ok hp hz ee
      cases h
      exact ⟨k1.1, k1.2.1, fun l e => by cases e⟩
theorem mkL_bd {ln : Int} (hln : 0 ≤ ln ∧ ln ≤ 8) {g : Nat → Int} {x : p_Li} (hx : liO x) (hg : ∀ c, c < 8 → 0 ≤ g c ∧ g c ≤ 10) : ∀ c, c < 8 → 0 ≤ mkL ln g x c ∧ mkL ln g x c ≤ 10 :=
  mkA_bd hln _ _ hx.2.1 (mkT_bd hln _ _ hx.1 hg)
theorem mkP_bd : ∀ (l : List p_Li) (ln : Int) (g : Nat → Int), 0 ≤ ln → ln + l.length ≤ 8 → lsO l → (∀ c, c < 8 → 0 ≤ g c ∧ g c ≤ 10) → ∀ c, c < 8 → 0 ≤ mkP ln g l c ∧ mkP ln g l c ≤ 10
  | [], ln, g, _, _, _, hg => hg
  | x :: r, ln, g, h1, h2, hl, hg => by
    have e : ((x :: r).length : Int) = r.length + 1 := by simp
    exact mkP_bd r (ln + 1) _ (by omega) (by omega) (fun y hy => hl y (List.mem_cons_of_mem _ hy)) (mkL_bd (by omega) (hl x List.mem_cons_self) hg)
theorem pLs_s {τ : Nat → Int} {z k p : Nat} {acc : List p_Li} : pLs τ z (k + 1) p acc = (match pL τ z p with
    | (some a, q) => if k ≠ 0 ∧ hr τ z q = 59 then pLs τ z k (q + 1) (acc ++ [a]) else (some (acc ++ [a]), q)
    | (none, q) => (none, q)) := rfl
/-- the counts of ACTS of the LINES so far -/
def AM (V : v_V) (a : Nat) (l : List p_Li) : Prop := ∀ i x, m_nth l i = some x → V 176 (8 * a + i) = (x.2.2.2.length : Int)
theorem AM_app {V V' : v_V} {a : Nat} {l : List p_Li} {x : p_Li} (h : AM V a l) (e : V' 176 = v_uf (V 176) (8 * a + l.length) (x.2.2.2.length : Int)) : AM V' a (l ++ [x]) := by
  intro i y hi
  rw [e]
  rw [m_nth_app] at hi
  by_cases h2 : i = l.length
  · rw [if_pos h2] at hi
    cases hi
    rw [h2, v_uf_eq]
  · rw [if_neg h2] at hi
    rw [v_uf_ne (by omega)]
    exact h i y hi
/-- a TEXT as the reference has it -/
def MT (V : v_V) (a : Nat) (l : List p_Li) : Prop := V 174 a = ((encP 0 l).length : Int) ∧ (∀ i x, m_nth (encP 0 l) i = some x → V 173 (200 * a + i) = x) ∧ V 175 a = (l.length : Int) ∧ AM V a l ∧ ∀ c, c < 8 → V 177 (8 * a + c) = mkP 0 (fun _ => 0) l c
section
variable {X : Nat → List Int32} {u w : Nat} {S : m_H} {V : v_V} {K : v_K}
theorem v_zero_up (V : v_V) (r b k : Nat) : v_up (v_ur V r (fun i => if b ≤ i ∧ i < b + k then 0 else V r i)) r (b + k) 0 = v_ur V r (fun i => if b ≤ i ∧ i < b + (k + 1) then 0 else V r i) := by
  rw [v_up_ur, v_ur_ur, v_ur_eq]
  congr 1
  funext j
  unfold v_uf
  by_cases h : j = b + k
  · rw [if_pos h, if_pos (by omega)]
  · rw [if_neg h]
    show (if b ≤ j ∧ j < b + k then 0 else V r j) = _
    by_cases h2 : b ≤ j ∧ j < b + k
    · rw [if_pos h2, if_pos (by omega)]
    · rw [if_neg h2, if_neg (by omega)]
set_option maxRecDepth 100000 in
set_option maxHeartbeats 4000000 in
theorem lp_text0 (hM : MdS S) {a : Nat} (ha : a < 8) (hact : V 170 9 = a) {F : Nat} : ∀ (m : Nat) (k : Nat), 8 - k < m → (k ≤ 8) → (y_E X 22 124 F u w 102 [(0, .ref 170), (1, iv ((8 : Nat) : Int))] [] S (v_ur V 177 (fun i => if 8 * a ≤ i ∧ i < 8 * a + 8 then 0 else V 177 i)) K) → y_E X 22 124 (20 * m + F) u w 75 [(0, .ref 170), (1, iv (k : Int))] [] S (v_ur V 177 (fun i => if 8 * a ≤ i ∧ i < 8 * a + k then 0 else V 177 i)) K := by
  intro m
  induction m with
  | zero => intros; omega
  | succ m ih =>
    intro k hm hI hx
    refine y_mono (F' := (20 * m + F) + 20) ?_ (by omega)
    refine y_ld (x := iv (k : Int)) rfl rfl (fun d => rfl) ?_
    refine y_bi rfl rfl (by decide) ?_
    refine y_jge rfl rfl rfl (by omega) (fun g1 => ?_) (fun g1 => ?_)
    · obtain rfl : k = 8 := by omega
      exact y_mono hx (by omega)
    · refine y_ld (x := .ref 170) rfl rfl (fun d => rfl) ?_
      refine y_gR (i := 8) rfl rfl rfl (md170 hM) rfl ?_
      refine y_bi rfl rfl (by decide) ?_
      refine y_ld (x := .ref 170) rfl rfl (fun d => rfl) ?_
      refine y_gI (i := 9) (e := (a : Int)) rfl rfl rfl (md170 hM) rfl hact ?_
      refine y_mul (z := (8 * (a : Int))) rfl rfl rfl ?_
      refine y_ld (x := iv (k : Int)) rfl rfl (fun d => rfl) ?_
      refine y_add (z := ((8 * (a : Int)) + (k : Int))) rfl rfl rfl ?_
      refine y_ic rfl rfl ?_
      refine y_ist (q := (8 * a + k)) rfl rfl (md177 hM) (by omega) (by decide) (by omega) ?_
      refine y_inc (z := ((k + 1 : Nat) : Int)) (lv' := [(1, iv ((k + 1 : Nat) : Int)), (0, .ref 170)]) rfl rfl rfl (by omega) rfl ?_
      refine y_go rfl rfl ?_
      refine y_lv (l' := [(0, .ref 170), (1, iv ((k + 1 : Nat) : Int))]) rfl ⟨rfl, rfl, trivial⟩ ?_
      refine y_V (V' := v_ur V 177 (fun i => if 8 * a ≤ i ∧ i < 8 * a + (k + 1) then 0 else V 177 i)) ?_ ?_
      · exact v_zero_up V 177 (8 * a) k
      exact y_mono (ih (k + 1) (by omega) (by omega) hx) (by omega)
end
