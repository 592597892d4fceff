/-! pairs of calls: orders answers alike -/
theorem KP_same {form N : Int} {σ : Nat → Int} {tl : Nat → List p_Li} {td : List Nat} {T al d : Nat} (hN : 0 ≤ N) (hf : 0 ≤ form ∧ form ≤ 4) (hlt : ∀ q : Nat, q < al → pkO (σ (1770 + 4 * q)) (σ (1770 + 4 * q + 1)) (σ (1770 + 4 * q + 2)) (σ (1770 + 4 * q + 3))) (l : List Nat) : KPc form N σ tl td T al d l ↔ KPm form N σ tl td T al d l := by
  have h := br_no (fun l2 hl hs v hv => brk_iff (ts := fun q => tl (σ (178 + (bxs td l).getD q 0)).toNat) (m := T) hN hf hlt l2 hl hs v hv) (d + 1)
  constructor
  · intro h1 l2 a1 a2
    exact h.mp (fun l' b1 b2 => h1 l' b1 (by omega)) l2 a1 (by omega)
  · intro h1 l2 a1 a2
    exact h.mpr (fun l' b1 b2 => h1 l' b1 (by omega)) l2 a1 (by omega)
section
variable {X : Nat → List Int32} {u w cnt : Nat} {S : m_H} {V : v_V}
set_option maxRecDepth 100000 in
set_option maxHeartbeats 4000000 in
theorem pr_ordersT (hR : RR cnt u w S V) {x : Int} (hx1 : (-2147483648 ≤ x ∧ x < 2147483648)) {y : Int} (hy1 : (-2147483648 ≤ y ∧ y < 2147483648)) {n : Int} (hn1 : (-2147483648 ≤ n ∧ n < 2147483648)) {d : Int} (hd1 : (-2147483648 ≤ d ∧ d < 2147483648)) {i : Int} (hi1 : (-2147483648 ≤ i ∧ i < 2147483648)) : PR X True 90 164 [.ref 0, iv x, iv y, iv n, iv d, iv i] [.ref 170, iv x, iv y, iv n, iv d, iv i] cnt u w S V := by
  have hR2 := RR_le hR (Nat.le_succ cnt)
  obtain ⟨tl, hC, hM, hP, hZ⟩ := hR
  have hC0 := hC
  have hM0 := hM
  have hP0 := hP
  obtain ⟨c1, c2, c3, c4, c5, c6, c7, c8⟩ := hC
  obtain ⟨m1, -, -, m4, m5, m6⟩ := hM
  obtain ⟨p1, p2, p3, p4⟩ := hP
  obtain ⟨n1, n2, n3, n4⟩ := c2.1
  have hsz := p1.1
  obtain ⟨⟨lf, s1⟩, s2, s3⟩ := c5
  intro K hK
  refine y_Rm (D' := 16) (cs_ordersJ c1 c2 p1 p4 s1 s2 s3 hx1 hy1 hn1 hd1 hi1 ?_ ?_ (fun g1 g2 B T al dn g3 g4 g5 g6 S2 V2 hE => ?_)) (by decide)
  · intros
    all_goals refine hK _ _ _ _ _ m1 (fun K2 h2 => y_Rm (D' := 16) (ms_ordersJ m1 p1 p4 m4 hx1 hy1 hn1 hd1 hi1 ?_ ?_ ?_) (by decide))
    all_goals intros
    all_goals first | contradiction | (exfalso; omega) | exact h2 _ _ _ _ _ hR2 (fun _ => by rfl)
  · intros
    all_goals refine hK _ _ _ _ _ m1 (fun K2 h2 => y_Rm (D' := 16) (ms_ordersJ m1 p1 p4 m4 hx1 hy1 hn1 hd1 hi1 ?_ ?_ ?_) (by decide))
    all_goals intros
    all_goals first | contradiction | (exfalso; omega) | exact h2 _ _ _ _ _ hR2 (fun _ => by rfl)
  · have e171 : V2 171 = V 171 := hE.2.2.2 171 (by omega) (by omega) (by omega) (by omega)
    have m1b := MdS_2 m1 hE.1
    refine hK _ _ _ _ V2 m1b (fun K2 h2 => y_Rm (D' := 16) (ms_ordersJ (tl := tl) m1b (by rw [e171]; exact p1) (by rw [e171]; exact p4) (by rw [e171]; exact fun i hi => MT_x (m4 i hi) (fun k a b => hE.2.2.2 k (by omega) (by omega) (by omega) (by omega))) hx1 hy1 hn1 hd1 hi1 ?_ ?_ (fun j1 j2 B2 T2 al2 dn2 j3 j4 j5 j6 V3 hX => ?_)) (by decide))
    · try rw [e171]
      intros; first | contradiction | omega
    · try rw [e171]
      intros; first | contradiction | omega
    · refine h2 _ _ _ _ _ (RR_s hC0 hM0 hP0 hZ hE hX) (fun _ => ?_)
      rw [e171] at j3 j5 ⊢
      obtain rfl : B = B2 := by omega
      obtain rfl : T = T2 := by omega
      obtain rfl : al = al2 := by omega
      obtain rfl : dn = dn2 := by omega
      exact (ordA_same (fun l _ => KP_same (by omega) g1.1 (fun q hq => p1.2.2.2.2.2.2 q (by omega)) l)).symm
end
