/-! BETWEEN TWO CALLS: what the class holds and what the reference holds -/
def NT (S : m_H) (k : Nat) (lim : Int) (t : Nat) : Prop := ∀ ta, ce S k 22 ta → ∀ i : Nat, (i : Int) < lim → m_nth ta i ≠ some (.ref t)
/-- the reader: the TEXT that it has at hand is none of those that it gave away -/
def Rd (S : m_H) (l1 l2 : Int) : Prop := ∃ tp tv, ce S 115 3 [tp, .int 0, .int 0, tv] ∧ (tv = .null ∨ ∃ t, tv = .ref t ∧ 193 ≤ t ∧ TxS S t ∧ NT S 3 l1 t ∧ NT S 60 l2 t)
def Se (S : m_H) (V : v_V) : Prop := (∃ lf, ce S 116 4 (S116l lf)) ∧ XsA S ∧ SgC V 0 0 4 (fun _ _ => 0) aw0
/-- the class -/
def RC (S : m_H) (V : v_V) (σ τ : Nat → Int) (tl : Nat → List p_Li) : Prop := ClF S ∧ RS S V 1 σ tl ∧ RS S V 58 τ tl ∧ Rd S (σ 0) (τ 0) ∧ Se S V ∧ (0 ≤ V 8 1 ∧ V 8 1 ≤ 20) ∧ (0 ≤ V 65 1 ∧ V 65 1 ≤ 20) ∧ (V 0 2 = 0 ∨ V 0 2 = 1)
/-- the reference -/
def RM (S : m_H) (V : v_V) (σ τ : Nat → Int) (tl : Nat → List p_Li) (im : Int) : Prop := MdS S ∧ V 171 = σ ∧ V 172 = τ ∧ (∀ i : Nat, (i : Int) < σ 0 → MT V i (tl i)) ∧ (0 ≤ V 170 40 ∧ V 170 40 ≤ 20) ∧ V 170 3 = im
def RP (cnt : Nat) (σ τ : Nat → Int) (tl : Nat → List p_Li) : Prop := SO cnt σ ∧ SO cnt τ ∧ τ 0 ≤ σ 0 ∧ ∀ i : Nat, (i : Int) < σ 0 → TO (tl i)
def RZ (cnt u w : Nat) (S : m_H) : Prop := 193 ≤ S.length ∧ S.length ≤ 193 + 12 * cnt ∧ u ≤ 193 + 12 * cnt ∧ w ≤ 11164 + 400 * cnt
def RR (cnt u w : Nat) (S : m_H) (V : v_V) : Prop := ∃ tl, RC S V (V 171) (V 172) tl ∧ RM S V (V 171) (V 172) tl (V 0 2) ∧ RP cnt (V 171) (V 172) tl ∧ RZ cnt u w S
theorem SO_le {c c2 : Nat} {σ : Nat → Int} (h : SO c σ) (hc : c ≤ c2) : SO c2 σ := by
  obtain ⟨a1, a2, a3, a4, a5, a6, a7⟩ := h
  refine ⟨a1, a2, fun b hb => ?_, a4, a5, a6, a7⟩
  obtain ⟨b1, b2, b3, b4, b5, b6⟩ := a3 b hb
  exact ⟨b1, b2, b3, by omega, b5, b6⟩
theorem RP_le {c c2 : Nat} {σ τ : Nat → Int} {tl : Nat → List p_Li} (h : RP c σ τ tl) (hc : c ≤ c2) : RP c2 σ τ tl := ⟨SO_le h.1 hc, SO_le h.2.1 hc, h.2.2⟩
theorem RZ_le {c c2 u w : Nat} {S : m_H} (h : RZ c u w S) (hc : c ≤ c2) : RZ c2 u w S := by
  unfold RZ at *
  omega
theorem RR_le {c c2 u w : Nat} {S : m_H} {V : v_V} (h : RR c u w S V) (hc : c ≤ c2) : RR c2 u w S V := by
  obtain ⟨tl, h1, h2, h3, h4⟩ := h
  exact ⟨tl, h1, h2, RP_le h3 hc, RZ_le h4 hc⟩
theorem RM_fr {S S' : m_H} {V V' : v_V} {σ τ : Nat → Int} {tl : Nat → List p_Li} {im : Int} (h : RM S V σ τ tl im) (hM : MdS S') (e : ∀ k, 170 ≤ k → k ≤ 192 → V' k = V k) : RM S' V' σ τ tl im := by
  obtain ⟨h1, h2, h3, h4, h5, h6⟩ := h
  exact ⟨hM, (e 171 (by decide) (by decide)).trans h2, (e 172 (by decide) (by decide)).trans h3, fun i hi => MT_x (h4 i hi) (fun k a b => e k (by omega) (by omega)), by rw [e 170 (by decide) (by decide)]; exact h5, by rw [e 170 (by decide) (by decide)]; exact h6⟩
theorem Se_V {S : m_H} {V V' : v_V} (h : Se S V) (e : ∀ k, (123 ≤ k ∧ k < 131) ∨ (154 ≤ k ∧ k < 158) → V' k = V k) : Se S V' := by
  obtain ⟨h1, h2, h3⟩ := h
  refine ⟨h1, h2, fun i hi p hp => ?_, fun hf => ?_⟩
  · rw [e _ (by omega)]
    exact h3.1 i hi p hp
  · exact RWc_r (h3.2 hf) ⟨by rw [e _ (by omega)], by rw [e _ (by omega)], by rw [e _ (by omega)]⟩ (e _ (by omega)) (e _ (by omega)) (e _ (by omega))
theorem RC_fr {S : m_H} {V V' : v_V} {σ τ : Nat → Int} {tl : Nat → List p_Li} (h : RC S V σ τ tl) (e : ∀ k, k < 170 ∨ 193 ≤ k → V' k = V k) : RC S V' σ τ tl := by
  obtain ⟨h1, h2, h3, h4, h5, h6, h7, h8⟩ := h
  exact ⟨h1, RS_fr h2 (Or.inl rfl) (SQ_rf 0 S) (by decide) (fun k _ _ => e k (by omega)) (fun k _ => e k (by omega)), RS_fr h3 (Or.inr rfl) (SQ_rf 0 S) (by decide) (fun k _ _ => e k (by omega)) (fun k _ => e k (by omega)), h4, Se_V h5 (fun k hk => e k (by omega)), by rw [e 8 (by decide)]; exact h6, by rw [e 65 (by decide)]; exact h7, by rw [e 0 (by decide)]; exact h8⟩
/-- a call of the class and then the same call of the reference -/
def PR (X : Nat → List Int32) (eq : Prop) (jc jm : Nat) (cs ms : List Value) (cnt u w : Nat) (S : m_H) (V : v_V) : Prop :=
  ∀ K : v_K, (∀ (x : Int) (u1 w1 : Nat) (S1 : m_H) (V1 : v_V), MdS S1 → (∀ K2 : v_K, (∀ (x2 : Int) (u2 w2 : Nat) (S2 : m_H) (V2 : v_V), RR (cnt + 1) u2 w2 S2 V2 → (eq → x2 = x) → K2 u2 w2 (some (iv x2)) S2 V2) → y_R X 40 jm u1 w1 ms S1 V1 K2) → K u1 w1 (some (iv x)) S1 V1) → y_R X 40 jc u w cs S V K
/-- what a call of the class leaves, and then one of the reference -/
theorem RR_mk {cnt u w : Nat} {S : m_H} {V V2 : v_V} {σ τ : Nat → Int} {tl : Nat → List p_Li} {im : Int} (hC : RC S V σ τ tl) (hM : RM S V2 σ τ tl im) (e : ∀ k, k < 170 ∨ 193 ≤ k → V2 k = V k) (hi : V 0 2 = im) (hP : RP cnt σ τ tl) (hZ : RZ cnt u w S) : RR cnt u w S V2 := by
  obtain ⟨m1, m2, m3, m4, m5, m6⟩ := hM
  refine ⟨tl, ?_, ⟨m1, rfl, rfl, ?_, m5, ?_⟩, ?_, hZ⟩
  · rw [m2, m3]
    exact RC_fr hC e
  · rw [m2]; exact m4
  · rw [m6, e 0 (by decide)]; exact hi.symm
  · rw [m2, m3]; exact hP
