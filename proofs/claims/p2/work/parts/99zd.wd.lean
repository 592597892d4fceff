/-! rows of THE ALPHABET as numbers: what a row of TEXTS has come to behind them -/
/-- how a packet fares till the i-th TEXT of a row -/
def hwP (t h k n : Int) (ts : Nat → List p_Li) (M : Nat → Nat → Int) : Nat → Int
  | 0 => 1
  | i + 1 => if hwP t h k n ts M i = 1 then (eW t h k n (ts i) (M i)).1 else hwP t h k n ts M i
/-- FORM -1: two TEXTS side by side -/
def stM (form t h k n : Int) (ts : Nat → List p_Li) (M : Nat → Nat → Int) : Nat → Nat → Int := fun i =>
  if form = -1 then (eW t h k n (ts i) (M i)).2 else if hwP t h k n ts M i = 1 then (eW t h k n (ts i) (M i)).2 else M i
def stA (form t h k n : Int) (ts : Nat → List p_Li) (m : Nat) (M : Nat → Nat → Int) (A : Aw) : Aw := if form = -1 then A else awS A t h k n (hwP t h k n ts M m)
def hitP (form N t h k n : Int) (ts : Nat → List p_Li) (m : Nat) (M : Nat → Nat → Int) (A : Aw) : Prop :=
  (form = -1 ∧ ∃ i, i < m ∧ (eW t h k n (ts i) (M i)).1 ≠ (eW t h k n (ts 0) (M 0)).1) ∨ (form ≠ -1 ∧ vioC (awS A t h k n (hwP t h k n ts M m)) t h k (hwP t h k n ts M m) form N)
/-- behind the row of j packets whose number is v (in places of THE ALPHABET of a) -/
def wdS (form : Int) (σ : Nat → Int) (ts : Nat → List p_Li) (m a : Nat) : Nat → Nat → (Nat → Nat → Int) × Aw
  | 0, _ => (fun _ _ => 0, aw0)
  | j + 1, v => (stM form (σ (1770 + 4 * (v % a))) (σ (1770 + 4 * (v % a) + 1)) (σ (1770 + 4 * (v % a) + 2)) (σ (1770 + 4 * (v % a) + 3)) ts (wdS form σ ts m a j (v / a)).1,
      stA form (σ (1770 + 4 * (v % a))) (σ (1770 + 4 * (v % a) + 1)) (σ (1770 + 4 * (v % a) + 2)) (σ (1770 + 4 * (v % a) + 3)) ts m (wdS form σ ts m a j (v / a)).1 (wdS form σ ts m a j (v / a)).2)
def hitV (form N : Int) (σ : Nat → Int) (ts : Nat → List p_Li) (m a : Nat) : Nat → Nat → Prop
  | 0, _ => False
  | j + 1, v => hitP form N (σ (1770 + 4 * (v % a))) (σ (1770 + 4 * (v % a) + 1)) (σ (1770 + 4 * (v % a) + 2)) (σ (1770 + 4 * (v % a) + 3)) ts m (wdS form σ ts m a j (v / a)).1 (wdS form σ ts m a j (v / a)).2
theorem hwP_rg {t h k n : Int} {ts : Nat → List p_Li} {M : Nat → Nat → Int} {m : Nat} (hM : ∀ i, i < m → muO (M i)) : ∀ i, i ≤ m → 0 ≤ hwP t h k n ts M i ∧ hwP t h k n ts M i ≤ 2
  | 0, _ => ⟨by show (0 : Int) ≤ 1; decide, by show (1 : Int) ≤ 2; decide⟩
  | i + 1, hi => by
    have ih := hwP_rg (t := t) (h := h) (k := k) (n := n) (ts := ts) hM i (by omega)
    unfold hwP
    split
    · exact (eW_rg _ _ (hM i (by omega))).2
    · exact ih
theorem wdS_ok {form : Int} {σ : Nat → Int} {ts : Nat → List p_Li} {m a : Nat} (hl : ∀ q : Nat, q < a → pkO (σ (1770 + 4 * q)) (σ (1770 + 4 * q + 1)) (σ (1770 + 4 * q + 2)) (σ (1770 + 4 * q + 3))) (ha : 0 < a) : ∀ (j v : Nat), (∀ i, i < m → muO ((wdS form σ ts m a j v).1 i)) ∧ awO j (wdS form σ ts m a j v).2
  | 0, v => ⟨fun i _ p _ => by show -2147483648 ≤ (0 : Int) ∧ (0 : Int) < 2147483648; decide, fun t _ => by show (0 ≤ (0 : Int) ∧ (0 : Int) ≤ 3) ∧ (0 ≤ (0 : Int) ∧ (0 : Int) ≤ 99) ∧ (0 ≤ (0 : Int) ∧ (0 : Int) ≤ 0); decide⟩
  | j + 1, v => by
    have ih := wdS_ok (form := form) (ts := ts) (m := m) hl ha j (v / a)
    have hp := hl (v % a) (Nat.mod_lt _ ha)
    refine ⟨fun i hi => ?_, ?_⟩
    · show muO (stM form _ _ _ _ ts (wdS form σ ts m a j (v / a)).1 i)
      unfold stM
      split
      · exact (eW_rg _ _ (ih.1 i hi)).1
      · split
        · exact (eW_rg _ _ (ih.1 i hi)).1
        · exact ih.1 i hi
    · show awO (j + 1) (stA form _ _ _ _ ts m (wdS form σ ts m a j (v / a)).1 (wdS form σ ts m a j (v / a)).2)
      unfold stA
      split
      · intro t ht
        have := ih.2 t ht
        exact ⟨this.1, this.2.1, this.2.2.1, by omega⟩
      · exact awO_S ih.2 hp
theorem wd_div {a pv q : Nat} (hq : q < a) : (pv * a + q) / a = pv ∧ (pv * a + q) % a = q := by
  have ha : 0 < a := by omega
  refine ⟨?_, ?_⟩
  · rw [Nat.add_comm, Nat.add_mul_div_right _ _ ha, Nat.div_eq_of_lt hq, Nat.zero_add]
  · rw [Nat.add_comm, Nat.add_mul_mod_self_right, Nat.mod_eq_of_lt hq]
theorem wd_quo {p c v : Nat} (h1 : c * p ≤ v) (h2 : v < (c + 1) * p) : v / p = c := Nat.div_eq_of_lt_le h1 h2
/-- the search of the class: what it is told, its TEXTS, THE ALPHABET -/
def SrC (S : m_H) (V : v_V) (form N : Int) (a m : Nat) (ts : Nat → List p_Li) (σ : Nat → Int) : Prop :=
  ce S 116 4 [.ref 117, .ref 118, .ref 119, .ref 120, .int 0, .ref 7, .int 0, .int 0, .int 0, .ref 121] ∧ (V 116 4 = (m : Int) ∧ V 116 6 = (a : Int) ∧ V 116 7 = form ∧ V 116 8 = N) ∧
  (∃ xs, ce S 119 22 xs ∧ xs.length = 4 ∧ ∀ i : Nat, i < m → ∃ t : Nat, m_nth xs i = some (.ref t) ∧ 193 ≤ t ∧ TxS S t ∧ CT V t (ts i)) ∧
  (∃ la, ce S 7 24 la ∧ la.length = 5 ∧ ∀ q : Nat, q < a → ∃ pk : Nat, m_nth la q = some (.ref pk) ∧ 193 ≤ pk ∧ PkS S V pk (σ (1770 + 4 * q)) (σ (1770 + 4 * q + 1)) (σ (1770 + 4 * q + 2)) (σ (1770 + 4 * q + 3)))
theorem SrC_r {S : m_H} {V V' : v_V} {form N : Int} {a m : Nat} {ts : Nat → List p_Li} {σ : Nat → Int} (h : SrC S V form N a m ts σ) (e : V' 116 = V 116) (hi : ∀ k, 193 ≤ k → V' k = V k) : SrC S V' form N a m ts σ := by
  obtain ⟨h1, h2, ⟨xs, x1, x2, x3⟩, ⟨la, y1, y2, y3⟩⟩ := h
  refine ⟨h1, by rw [e]; exact h2, ⟨xs, x1, x2, fun i him => ?_⟩, ⟨la, y1, y2, fun q hq => ?_⟩⟩
  · obtain ⟨t, t1, t2, t3, t4⟩ := x3 i him
    exact ⟨t, t1, t2, t3, CT_hi hi t2 t4⟩
  · obtain ⟨pk, p1, p2, p3⟩ := y3 q hq
    exact ⟨pk, p1, p2, PkS_r p3 (hi pk p2)⟩
/-- what the search leaves that goes on behind the row of j packets -/
def FrS (j : Nat) (V V' : v_V) : Prop := ∀ k, k ≠ 121 → (k < 123 + 8 * (j + 1) ∨ (154 ≤ k ∧ k < 154 + 4 * (j + 1)) ∨ 170 ≤ k) → V' k = V k
theorem FrS_rf (j : Nat) (V : v_V) : FrS j V V := fun _ _ _ => rfl
theorem FrS_tr {j : Nat} {V V' V'' : v_V} (h : FrS j V V') (h2 : FrS j V' V'') : FrS j V V'' := fun k a b => (h2 k a b).trans (h k a b)
theorem FrS_le {j i : Nat} {V V' : v_V} (h : FrS i V V') (hj : j ≤ i) : FrS j V V' := fun k a b => h k a (by omega)
/-- what stands in the class' stage j -/
def SgC (V : v_V) (j : Nat) (form : Int) (m : Nat) (M : Nat → Nat → Int) (A : Aw) : Prop := (∀ i : Nat, i < m → ∀ p : Nat, p < 84 → V (123 + 2 * (4 * j + i)) p = M i p) ∧ (form ≠ -1 → RWc V j A)
theorem SgC_r {V V' : v_V} {j : Nat} {form : Int} {m : Nat} {M : Nat → Nat → Int} {A : Aw} (h : SgC V j form m M A) (hm : m ≤ 4) (hj : j ≤ 3) (e : FrS j V V') : SgC V' j form m M A := by
  refine ⟨fun i hi p hp => ?_, fun hf => ?_⟩
  · rw [e _ (by omega) (by omega)]
    exact h.1 i hi p hp
  · exact RWc_r (h.2 hf) ⟨by rw [e _ (by omega) (by omega)], by rw [e _ (by omega) (by omega)], by rw [e _ (by omega) (by omega)]⟩ (e _ (by omega) (by omega)) (e _ (by omega) (by omega)) (e _ (by omega) (by omega))
