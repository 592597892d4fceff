/-! pairs of calls: hold, feed, row -/
theorem v_upR (V : v_V) (k i : Nat) (x : Int) : v_up V k i x k = v_uf (V k) i x := if_pos rfl
theorem z_fd_ne {x : Int64} : ∀ (r q : Nat) (f : Nat → Int) (i : Nat), i < q ∨ q + r ≤ i → z_fd x r q f i = f i
  | 0, q, f, i, _ => rfl
  | r + 1, q, f, i, h => by
    unfold z_fd
    rw [z_fd_ne r (q + 1) _ i (by omega), v_uf_ne (by omega)]
theorem z_fd_sh {x : Int64} : ∀ (r q : Nat) (f g : Nat → Int), (∀ i : Nat, i < 160 → f i = g (10 + i)) → q + r ≤ 160 → ∀ i : Nat, i < 160 → z_fd x r q f i = z_fd x r (10 + q) g (10 + i)
  | 0, q, f, g, h, _, i, hi => h i hi
  | r + 1, q, f, g, h, hq, i, hi => by
    unfold z_fd
    rw [show 10 + q + 1 = 10 + (q + 1) by omega]
    refine z_fd_sh r (q + 1) _ _ (fun j hj => ?_) (by omega) i hi
    by_cases e : j = q
    · rw [e, v_uf_eq, v_uf_eq]
    · rw [v_uf_ne e, v_uf_ne (by omega)]
      exact h j hj
theorem z_fd_rg {x : Int64} : ∀ (r q : Nat) (f : Nat → Int), (∀ i, 0 ≤ f i ∧ f i ≤ 255 ∨ ¬ (10 ≤ i ∧ i < 170)) → ∀ i, 0 ≤ z_fd x r q f i ∧ z_fd x r q f i ≤ 255 ∨ ¬ (10 ≤ i ∧ i < 170)
  | 0, q, f, h, i => h i
  | r + 1, q, f, h, i => by
    unfold z_fd
    refine z_fd_rg r (q + 1) _ (fun j => ?_) i
    by_cases e : j = q
    · rw [e, v_uf_eq]
      have := z_by_r x r
      omega
    · rw [v_uf_ne e]
      exact h j
section
variable {X : Nat → List Int32} {u w cnt : Nat} {S : m_H} {V : v_V}
set_option maxRecDepth 100000 in
set_option maxHeartbeats 4000000 in
theorem pr_hold (hR : RR cnt u w S V) {x : Int} (hx1 : (-2147483648 ≤ x ∧ x < 2147483648)) : PR X True 82 148 [.ref 0, iv x] [.ref 170, iv x] cnt u w S V := by
  have hR2 := RR_le hR (Nat.le_succ cnt)
  obtain ⟨tl, hC, hM, hP, hZ⟩ := hR
  have hC0 := hC
  have hM0 := hM
  have hP0 := hP
  obtain ⟨c1, c2, c3, c4, c5, c6, c7, c8⟩ := hC
  obtain ⟨m1, -, -, m4, m5, m6⟩ := hM
  obtain ⟨p1, p2, p3, p4⟩ := hP
  obtain ⟨n1, n2, n3, n4⟩ := c2.1
  have hsz := p1.1
  intro K hK
  by_cases hx : 0 ≤ x ∧ x ≤ 65535
  · have e10 : V 1 10 = V 171 4 := n1.2.2.2.2.2.1
    have hv := v_oI_lt (a := V 171 4) (b := x) (by omega) hx
    refine y_Rm (D' := 2) (cc_hold c1 hx1 (by omega) ?_) (by decide)
    rw [if_pos hx, if_pos hx, e10, z_bc_eq hv]
    refine hK (v_bs (v_oI (V 171 4) x) 16) _ _ _ _ m1 (fun K2 h2 => y_Rm (D' := 2) (ct_hold m1 hx1 ?_ ?_) (by decide))
    · rw [v_up_ne (by decide)]; omega
    · rw [if_pos hx, if_pos hx, v_up_ne (show (171 : Nat) ≠ 1 by decide)]
      refine h2 _ _ _ _ _ (RR_n (V1 := v_up V 1 10 (v_oI (V 171 4) x)) (σ' := v_uf (V 171) 4 (v_oI (V 171 4) x)) hC0 hM0 hP0 hZ (RN_g c2.1 ⟨n1.1, n1.2.1, n1.2.2.1, n1.2.2.2.1, n1.2.2.2.2.1, rfl, n1.2.2.2.2.2.2⟩ (fun i hi => by rw [v_up_ne (by decide), v_uf_ne (by omega)]; exact n2 i hi) (fun i hi => by rw [v_up_ne (by decide), v_uf_ne (by omega)]; exact n3 i hi) (fun k a b => v_up_ne (by omega)) (fun j a b => v_uf_ne (by omega)) rfl) (SO_le (SO_g p1 ⟨hsz.1, hsz.2.1, hsz.2.2.1, hsz.2.2.2.1, hv, hsz.2.2.2.2.2.1, hsz.2.2.2.2.2.2⟩ (fun i hi => by rw [v_uf_ne (by omega)]; exact p1.2.1 i hi) (fun i hi => by rw [v_uf_ne (by omega)]; exact p1.2.2.2.2.1 i hi) (fun j a b => v_uf_ne (by omega)) rfl rfl rfl rfl) (Nat.le_succ cnt)) (fun k hk => v_up_ne (by omega)) rfl rfl rfl (fun j hj => v_uf_ne (by omega)) ((v_upR _ _ _ _).trans (by rw [v_up_ne (by decide)])) (fun k hk => v_up_ne hk)) (fun _ => rfl)
  · refine y_Rm (D' := 2) (cc_hold c1 hx1 (by omega) ?_) (by decide)
    rw [if_neg hx, if_neg hx]
    refine hK (-2) _ _ _ _ m1 (fun K2 h2 => y_Rm (D' := 2) (ct_hold m1 hx1 (by omega) ?_) (by decide))
    rw [if_neg hx, if_neg hx]
    exact h2 _ _ _ _ _ hR2 (fun _ => rfl)
set_option maxRecDepth 100000 in
set_option maxHeartbeats 4000000 in
theorem pr_row (hR : RR cnt u w S V) {x : Int} (hx1 : (-2147483648 ≤ x ∧ x < 2147483648)) : PR X True 78 142 [.ref 0, iv x] [.ref 170, iv x] cnt u w S V := by
  have hR2 := RR_le hR (Nat.le_succ cnt)
  obtain ⟨tl, hC, hM, hP, hZ⟩ := hR
  have hC0 := hC
  have hM0 := hM
  have hP0 := hP
  obtain ⟨c1, c2, c3, c4, c5, c6, c7, c8⟩ := hC
  obtain ⟨m1, -, -, m4, m5, m6⟩ := hM
  obtain ⟨p1, p2, p3, p4⟩ := hP
  obtain ⟨n1, n2, n3, n4⟩ := c2.1
  have hsz := p1.1
  have e7 : V 1 7 = V 171 2 := n1.2.2.2.1
  have e5 : V 1 5 = V 171 1 := n1.2.2.1
  have hLe : ∀ b : Nat, b < 8 → ∀ t : Nat, t < 16 → V (10 + 6 * b + 1) t = V 171 (1552 + 16 * b + t) := fun b hb t ht => (n4 b hb).2.2.2.2.2.1 t ht
  have hLr : ∀ b : Nat, (b : Int) < V 171 1 → ∀ t : Nat, t < 16 → 0 ≤ V 171 (1552 + 16 * b + t) ∧ V 171 (1552 + 16 * b + t) ≤ 7 := fun b hb t ht => by have := p1.2.2.2.1 b (by omega) t ht; omega
  have hLc : ∀ b : Nat, (b : Int) < V 1 5 → ∀ t : Nat, t < 16 → 0 ≤ V (10 + 6 * b + 1) t ∧ V (10 + 6 * b + 1) t ≤ 7 := fun b hb t ht => by rw [hLe b (by omega) t ht]; exact hLr b (by omega) t ht
  have hEA : (∃ b : Nat, (b : Int) < V 1 5 ∧ (b : Int) ≠ x ∧ ∃ t : Nat, t < 16 ∧ V (10 + 6 * b + 1) t = x) → (∀ b : Nat, (b : Int) < V 171 1 → (b : Int) ≠ x → ∀ t : Nat, t < 16 → V 171 (1552 + 16 * b + t) ≠ x) → False := by
    rintro ⟨b, b1, b2, t, b3, b4⟩ hA
    exact hA b (by omega) b2 t b3 ((hLe b (by omega) t b3).symm.trans b4)
  have hAE : (∀ b : Nat, (b : Int) < V 1 5 → (b : Int) ≠ x → ∀ t : Nat, t < 16 → V (10 + 6 * b + 1) t ≠ x) → (∃ b : Nat, (b : Int) < V 171 1 ∧ (b : Int) ≠ x ∧ ∃ t : Nat, t < 16 ∧ V 171 (1552 + 16 * b + t) = x) → False := by
    rintro hA ⟨b, b1, b2, t, b3, b4⟩
    exact hA b (by omega) b2 t b3 ((hLe b (by omega) t b3).trans b4)
  intro K hK
  refine y_Rm (D' := 3) (cs_row c1 (by omega) hLc hx1 (by omega) (fun g1 g2 => ?_) (fun g1 g2 gX g3 => ?_) (fun g1 g2 gX g3 g4 => ?_) (fun g1 g2 gX g3 g4 => ?_) (fun g1 => ?_)) (by decide)
  · have f171 : V 171 = V 171 := rfl
    refine hK _ _ _ _ _ m1 (fun K2 h2 => y_Rm (D' := 3) (ms_row (V := V) m1 (by rw [f171]; omega) (by rw [f171]; exact hLr) hx1 (by rw [f171]; omega) ?_ ?_ ?_ ?_ ?_) (by decide))
    · intro j1 j2 hX j3; exfalso; clear hEA hAE hLe hLr hLc hX; omega
    · intro j1 j2 hX j3 j4; exfalso; clear hEA hAE hLe hLr hLc hX; omega
    · intro j1 j2 hX j3 j4; exfalso; clear hEA hAE hLe hLr hLc hX; omega
    · intro j1 j2; exact h2 _ _ _ _ _ hR2 (fun _ => by first | rfl | omega)
    · intro j1; exfalso; clear hEA hAE hLe hLr hLc; omega
  · have f171 : V 171 = V 171 := rfl
    refine hK _ _ _ _ _ m1 (fun K2 h2 => y_Rm (D' := 3) (ms_row (V := V) m1 (by rw [f171]; omega) (by rw [f171]; exact hLr) hx1 (by rw [f171]; omega) ?_ ?_ ?_ ?_ ?_) (by decide))
    · intro j1 j2 hX j3; exact h2 _ _ _ _ _ hR2 (fun _ => by first | rfl | omega)
    · intro j1 j2 hX j3 j4; exact (hEA gX hX).elim
    · intro j1 j2 hX j3 j4; exact (hEA gX hX).elim
    · intro j1 j2; exfalso; clear hEA hAE hLe hLr hLc gX; omega
    · intro j1; exfalso; clear hEA hAE hLe hLr hLc gX; omega
  · have f171 : (v_up (v_up V 5 (V 1 7).toNat x) 1 7 (V 1 7 + 1)) 171 = V 171 := (v_up_ne (by decide)).trans (v_up_ne (by decide))
    refine hK _ _ _ _ _ m1 (fun K2 h2 => y_Rm (D' := 3) (ms_row (V := (v_up (v_up V 5 (V 1 7).toNat x) 1 7 (V 1 7 + 1))) m1 (by rw [f171]; omega) (by rw [f171]; exact hLr) hx1 (by rw [f171]; omega) ?_ ?_ ?_ ?_ ?_) (by decide))
    all_goals try rw [f171]
    · intro j1 j2 hX j3; exact (hAE gX hX).elim
    · intro j1 j2 hX j3 j4
      have hi2 : (1680 + V 171 2).toNat = 1680 + (V 171 2).toNat := by omega
      have hq7 : ∀ i : Nat, i < 7 → i ≠ 2 → (v_uf (v_uf (V 171) (1680 + (V 171 2).toNat) x) 2 (V 171 2 + 1)) i = V 171 i := fun i a b => by rw [v_uf_ne b, v_uf_ne (by omega)]
      have hrn : RN (v_up (v_up V 5 (V 1 7).toNat x) 1 7 (V 1 7 + 1)) 1 (v_uf (v_uf (V 171) (1680 + (V 171 2).toNat) x) 2 (V 171 2 + 1)) := by
        refine RN_g c2.1 ⟨n1.1.trans (hq7 6 (by decide) (by decide)).symm, n1.2.1.trans (hq7 0 (by decide) (by decide)).symm, n1.2.2.1.trans (hq7 1 (by decide) (by decide)).symm, by show V 1 7 + 1 = V 171 2 + 1; omega, n1.2.2.2.2.1.trans (hq7 3 (by decide) (by decide)).symm, n1.2.2.2.2.2.1.trans (hq7 4 (by decide) (by decide)).symm, n1.2.2.2.2.2.2.trans (hq7 5 (by decide) (by decide)).symm⟩ (fun i hi => by rw [v_up_ne (by decide), v_up_ne (by decide), v_uf_ne (by omega), v_uf_ne (by omega)]; exact n2 i hi) (fun i hi => ?_) (fun k a b => by rw [v_up_ne (by omega), v_up_ne (by omega)]) (fun j a b => by rw [v_uf_ne (by omega), v_uf_ne (by omega)]) ((v_uf_ne (by decide)).trans (v_uf_ne (by omega)))
        rw [v_up_ne (by decide), v_uf_ne (by omega), e7]
        by_cases hq : i = (V 171 2).toNat
        · rw [hq, v_up_eq, v_uf_eq]
        · rw [v_up_ni hq, v_uf_ne (by omega)]
          exact n3 i hi
      have hso : SO cnt (v_uf (v_uf (V 171) (1680 + (V 171 2).toNat) x) 2 (V 171 2 + 1)) := by
        refine SO_g p1 ⟨by rw [hq7 0 (by decide) (by decide)]; exact hsz.1, by rw [hq7 1 (by decide) (by decide)]; exact hsz.2.1, by show 0 ≤ V 171 2 + 1 ∧ V 171 2 + 1 ≤ 6; omega, by rw [hq7 3 (by decide) (by decide)]; exact hsz.2.2.2.1, by rw [hq7 4 (by decide) (by decide)]; exact hsz.2.2.2.2.1, by rw [hq7 5 (by decide) (by decide)]; exact hsz.2.2.2.2.2.1, by rw [hq7 6 (by decide) (by decide)]; exact hsz.2.2.2.2.2.2⟩ (fun i hi => by rw [v_uf_ne (by omega), v_uf_ne (by omega)]; exact p1.2.1 i hi) (fun i hi => ?_) (fun j a b => by rw [v_uf_ne (by omega), v_uf_ne (by omega)]) ((v_uf_ne (by decide)).trans (v_uf_ne (by omega))) ((v_uf_ne (by decide)).trans (v_uf_ne (by omega))) ((v_uf_ne (by decide)).trans (v_uf_ne (by omega))) ((v_uf_ne (by decide)).trans (v_uf_ne (by omega)))
        rw [v_uf_ne (show 1680 + i ≠ 2 by omega), v_uf_eq, v_uf_ne (show 1 ≠ 2 by decide), v_uf_ne (show 1 ≠ 1680 + (V 171 2).toNat by omega)]
        by_cases hq : i = (V 171 2).toNat
        · rw [hq, v_uf_eq]; omega
        · rw [v_uf_ne (by omega)]
          have := p1.2.2.2.2.1 i hi
          omega
      rw [hi2, ← e7]
      exact h2 _ _ _ _ _ (RR_n (V1 := (v_up (v_up V 5 (V 1 7).toNat x) 1 7 (V 1 7 + 1))) (σ' := (v_uf (v_uf (V 171) (1680 + (V 171 2).toNat) x) 2 (V 171 2 + 1))) hC0 hM0 hP0 hZ hrn (SO_le hso (Nat.le_succ cnt)) (fun k hk => by rw [v_up_ne (by omega), v_up_ne (by omega)]) ((v_uf_ne (by decide)).trans (v_uf_ne (by omega))) ((v_uf_ne (by decide)).trans (v_uf_ne (by omega))) ((v_uf_ne (by decide)).trans (v_uf_ne (by omega))) (fun j hj => by rw [v_uf_ne (by omega), v_uf_ne (by omega)]) ((v_upR _ _ _ _).trans (by rw [v_upR, f171, e7])) (fun k hk => by rw [v_up_ne hk, v_up_ne hk])) (fun _ => rfl)
    · intro j1 j2 hX j3 j4; exfalso; clear hEA hAE hLe hLr hLc gX hX; omega
    · intro j1 j2; exfalso; clear hEA hAE hLe hLr hLc gX; omega
    · intro j1; exfalso; clear hEA hAE hLe hLr hLc gX; omega
  · have f171 : V 171 = V 171 := rfl
    refine hK _ _ _ _ _ m1 (fun K2 h2 => y_Rm (D' := 3) (ms_row (V := V) m1 (by rw [f171]; omega) (by rw [f171]; exact hLr) hx1 (by rw [f171]; omega) ?_ ?_ ?_ ?_ ?_) (by decide))
    · intro j1 j2 hX j3; exact (hAE gX hX).elim
    · intro j1 j2 hX j3 j4; exfalso; clear hEA hAE hLe hLr hLc gX hX; omega
    · intro j1 j2 hX j3 j4; exact h2 _ _ _ _ _ hR2 (fun _ => by first | rfl | omega)
    · intro j1 j2; exfalso; clear hEA hAE hLe hLr hLc gX; omega
    · intro j1; exfalso; clear hEA hAE hLe hLr hLc gX; omega
  · have f171 : (v_up V 1 7 0) 171 = V 171 := v_up_ne (by decide)
    refine hK _ _ _ _ _ m1 (fun K2 h2 => y_Rm (D' := 3) (ms_row (V := (v_up V 1 7 0)) m1 (by rw [f171]; omega) (by rw [f171]; exact hLr) hx1 (by rw [f171]; omega) ?_ ?_ ?_ ?_ ?_) (by decide))
    all_goals try rw [f171]
    · intro j1 j2 hX j3; exfalso; clear hEA hAE hLe hLr hLc hX; omega
    · intro j1 j2 hX j3 j4; exfalso; clear hEA hAE hLe hLr hLc hX; omega
    · intro j1 j2 hX j3 j4; exfalso; clear hEA hAE hLe hLr hLc hX; omega
    · intro j1 j2; exfalso; clear hEA hAE hLe hLr hLc; omega
    · intro j1
      exact h2 _ _ _ _ _ (RR_n (V1 := (v_up V 1 7 0)) (σ' := (v_uf (V 171) 2 0)) hC0 hM0 hP0 hZ (RN_g c2.1 ⟨n1.1, n1.2.1, n1.2.2.1, rfl, n1.2.2.2.2.1, n1.2.2.2.2.2.1, n1.2.2.2.2.2.2⟩ (fun i hi => by rw [v_up_ne (by decide), v_uf_ne (by omega)]; exact n2 i hi) (fun i hi => by rw [v_up_ne (by decide), v_uf_ne (by omega)]; exact n3 i hi) (fun k a b => v_up_ne (by omega)) (fun j a b => v_uf_ne (by omega)) rfl) (SO_le (SO_g p1 ⟨hsz.1, hsz.2.1, by show (0 : Int) ≤ 0 ∧ (0 : Int) ≤ 6; decide, hsz.2.2.2.1, hsz.2.2.2.2.1, hsz.2.2.2.2.2.1, hsz.2.2.2.2.2.2⟩ (fun i hi => by rw [v_uf_ne (by omega)]; exact p1.2.1 i hi) (fun i hi => by rw [v_uf_ne (by omega), v_uf_eq]; have := p1.2.2.2.2.1 i hi; exact ⟨this.1, this.2.1, fun q => absurd q (by omega)⟩) (fun j a b => v_uf_ne (by omega)) rfl rfl rfl rfl) (Nat.le_succ cnt)) (fun k hk => v_up_ne (by omega)) rfl rfl rfl (fun j hj => v_uf_ne (by omega)) ((v_upR _ _ _ _).trans (by rw [f171])) (fun k hk => v_up_ne hk)) (fun _ => rfl)
end
