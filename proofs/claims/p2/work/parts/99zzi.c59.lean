/-! pairs of calls: image, undo -/
theorem RC_cp {S S' : m_H} {V V' V1 : v_V} {B B' : Nat} {σ τ ρ : Nat → Int} {tl : Nat → List p_Li} {ta tb wa wb la lb : List Value} (h : RC S V σ τ tl) (hB : (B = 1 ∧ B' = 58 ∧ ρ = τ) ∨ (B = 58 ∧ B' = 1 ∧ ρ = σ)) (hl : 193 ≤ S.length) (hta : ce S (B' + 2) 22 ta) (htb : ce S (B + 2) 22 tb) (hwa : ce S (B' + 5) 24 wa) (hwb : ce S (B + 5) 24 wb) (hla : ce S (B' + 6) 24 la) (hlb : ce S (B + 6) 24 lb) (e : S' = ((S.set (B + 2) (22, ta)).set (B + 5) (24, wa)).set (B + 6) (24, la)) (hV : CpV B B' V V') (f : ∀ k, k ≠ 0 → V1 k = V' k) (f0 : V1 0 2 = 0 ∨ V1 0 2 = 1) : RC S' V1 ρ ρ tl := by
  obtain ⟨a1, a2, a3, ⟨tp, tv, r1, r2⟩, ⟨⟨lf, s1⟩, ⟨xs, x1, x2, x3⟩, s3⟩, a6, a7, a8⟩ := h
  have hBB : (B = 1 ∧ B' = 58) ∨ (B = 58 ∧ B' = 1) := by omega
  have hR : RS S V B' ρ tl := by
    rcases hB with ⟨-, rfl, rfl⟩ | ⟨-, rfl, rfl⟩
    · exact a3
    · exact a2
  have hRR := RS_cp hR hBB hta htb hwa hwb hla hlb e hV
  have hlo : ∀ k, k < B ∨ B + 57 ≤ k → V' k = V k := hV.2.2.2.2.2.2
  have h5 := hV.2.2.2.2.1
  have hlen : S'.length = S.length := by rw [e, List.length_set, List.length_set, List.length_set]
  have v1 : SV (B + 2) S (S.set (B + 2) (22, ta)) := SV_set _ _ _
  have v2 : SV (B + 5) (S.set (B + 2) (22, ta)) ((S.set (B + 2) (22, ta)).set (B + 5) (24, wa)) := SV_set _ _ _
  have v3 : SV (B + 6) ((S.set (B + 2) (22, ta)).set (B + 5) (24, wa)) S' := by rw [e]; exact SV_set _ _ _
  have hc : ∀ k t vs, k ≠ B + 2 → k ≠ B + 5 → k ≠ B + 6 → ce S k t vs → ce S' k t vs := fun k t vs a b c d => SV_ce v3 c (SV_ce v2 b (SV_ce v1 a d))
  have hC' : ClF S' := by
    refine ClF_v (ClF_v (ClF_v a1 v1 ?_) v2 ?_) v3 ?_
    all_goals rcases hBB with ⟨rfl, -⟩ | ⟨rfl, -⟩ <;> decide
  have eta : ce S' (B + 2) 22 ta := by rw [e]; exact ce_ne (ce_ne (ce_eq htb) (by omega)) (by omega)
  have etb : ce S' (B' + 2) 22 ta := hc _ _ _ (by omega) (by omega) (by omega) hta
  have same : ∀ {k t : Nat} {vs ws : List Value}, ce S' k t vs → ce S' k t ws → vs = ws := by
    intro k t vs ws a b
    have e := a.2.symm.trans b.2
    simp only [Option.some.injEq, Prod.mk.injEq] at e
    exact e.2
  have hx : ∀ B2, (B2 = 1 ∨ B2 = 58) → RS S' V' B2 ρ tl → RS S' V1 B2 ρ tl := fun B2 hb hr => RS_x hr (SQ_rf 0 S') (by omega) (fun k _ _ => f k (by omega)) (fun k _ _ => f k (by omega))
  have hboth : RS S' V' 1 ρ tl ∧ RS S' V' 58 ρ tl := by
    rcases hBB with ⟨rfl, rfl⟩ | ⟨rfl, rfl⟩
    · exact hRR
    · exact ⟨hRR.2, hRR.1⟩
  have hta3 : ∀ ta2, (ce S' 3 22 ta2 ∨ ce S' 60 22 ta2) → ta2 = ta := by
    intro ta2 hh
    rcases hBB with ⟨rfl, rfl⟩ | ⟨rfl, rfl⟩
    · rcases hh with hh | hh
      · exact same hh eta
      · exact same hh etb
    · rcases hh with hh | hh
      · exact same hh etb
      · exact same hh eta
  have hasg : ∀ t v, v_asg S t v → v_asg S' t v := by
    have q1 : SQ (B + 2) S (S.set (B + 2) (22, ta)) := SQ_set htb (by decide)
    have wb1 : ce (S.set (B + 2) (22, ta)) (B + 5) 24 wb := ce_ne hwb (by omega)
    have q2 : SQ (B + 5) (S.set (B + 2) (22, ta)) ((S.set (B + 2) (22, ta)).set (B + 5) (24, wa)) := SQ_set wb1 (by decide)
    have lb1 : ce ((S.set (B + 2) (22, ta)).set (B + 5) (24, wa)) (B + 6) 24 lb := ce_ne (ce_ne hlb (by omega)) (by omega)
    have q3 : SQ (B + 6) ((S.set (B + 2) (22, ta)).set (B + 5) (24, wa)) S' := by rw [e]; exact SQ_set lb1 (by decide)
    exact fun t v hv => q3.2 t v (q2.2 t v (q1.2 t v hv))
  refine ⟨hC', hx 1 (Or.inl rfl) hboth.1, hx 58 (Or.inr rfl) hboth.2, ⟨tp, tv, hc _ _ _ (by omega) (by omega) (by omega) r1, ?_⟩, ⟨⟨lf, hc _ _ _ (by omega) (by omega) (by omega) s1⟩, ⟨xs, hc _ _ _ (by omega) (by omega) (by omega) x1, x2, fun v hv => hasg _ _ (x3 v hv)⟩, ?_⟩, ?_, ?_, f0⟩
  · rcases r2 with r2 | ⟨t, b1, b2, b3, b4, b5⟩
    · exact Or.inl r2
    · have hno : ∀ i : Nat, (i : Int) < ρ 0 → m_nth ta i ≠ some (.ref t) := by
        rcases hB with ⟨rfl, rfl, rfl⟩ | ⟨rfl, rfl, rfl⟩
        · exact b5 ta hta
        · exact b4 ta hta
      refine Or.inr ⟨t, b1, b2, TxS_v v3 (by omega) b2 (TxS_v v2 (by omega) b2 (TxS_v v1 (by omega) b2 b3)), fun ta2 hc2 => ?_, fun ta2 hc2 => ?_⟩
      · rw [hta3 ta2 (Or.inl hc2)]; exact hno
      · rw [hta3 ta2 (Or.inr hc2)]; exact hno
  · exact (Se_V (S := S) ⟨⟨lf, s1⟩, ⟨xs, x1, x2, x3⟩, s3⟩ (fun k hk => (f k (by omega)).trans (hlo k (by omega)))).2.2
  · rw [f 8 (by decide)]
    rcases hBB with ⟨rfl, rfl⟩ | ⟨rfl, rfl⟩
    · rw [show V' 8 1 = V 65 1 from h5]; exact a7
    · rw [hlo 8 (by omega)]; exact a6
  · rw [f 65 (by decide)]
    rcases hBB with ⟨rfl, rfl⟩ | ⟨rfl, rfl⟩
    · rw [hlo 65 (by omega)]; exact a7
    · rw [show V' 65 1 = V 8 1 from h5]; exact a6
section
variable {X : Nat → List Int32} {u w cnt : Nat} {S : m_H} {V : v_V}
set_option maxRecDepth 100000 in
set_option maxHeartbeats 4000000 in
theorem pr_image (hR : RR cnt u w S V)  : PR X True 94 176 [.ref 0] [.ref 170] cnt u w S V := by
  have hR2 := RR_le hR (Nat.le_succ cnt)
  obtain ⟨tl, hC, hM, hP, hZ⟩ := hR
  have hC0 := hC
  have hM0 := hM
  have hP0 := hP
  obtain ⟨c1, c2, c3, c4, c5, c6, c7, c8⟩ := hC
  obtain ⟨m1, -, -, m4, m5, m6⟩ := hM
  obtain ⟨p1, p2, p3, p4⟩ := hP
  obtain ⟨n1, n2, n3, n4⟩ := c2.1
  have hsz := p1.1
  obtain ⟨ta, t1, t2, t3, -⟩ := c2.2.1
  obtain ⟨wa, w1, w2, w3, -⟩ := c2.2.2.1
  obtain ⟨la, l1, l2, l3, -⟩ := c2.2.2.2
  obtain ⟨tb, t1', t2', t3', -⟩ := c3.2.1
  obtain ⟨wb, w1', w2', w3', -⟩ := c3.2.2.1
  obtain ⟨lb, l1', l2', l3', -⟩ := c3.2.2.2
  intro K hK
  refine y_Rm (D' := 4) (cc_image c1 t1 t1' w1 w1' l1 l1' t2 t2' w2 w2' l2 l2' t3 w3 l3 (fun V' hV => ?_)) (by decide)
  have hlo : ∀ k, k < 58 ∨ 58 + 57 ≤ k → V' k = V k := hV.2.2.2.2.2.2
  have hf : ∀ k, k ≠ 0 → v_up V' 0 2 1 k = V' k := fun k hk => v_up_ne hk
  have hC1 := RC_cp (B := 58) (B' := 1) (ρ := V 171) (V1 := v_up V' 0 2 1) hC0 (Or.inr ⟨rfl, rfl, rfl⟩) hZ.1 t1 t1' w1 w1' l1 l1' rfl hV hf (Or.inr (v_up_eq _ _ _ _))
  have m1b : MdS (((S.set 60 (22, ta)).set 63 (24, wa)).set 64 (24, la)) := MdS_v (MdS_v (MdS_v m1 (SV_set 60 _ _) (by decide)) (SV_set 63 _ _) (by decide)) (SV_set 64 _ _) (by decide)
  have g : ∀ k, 115 ≤ k → v_up V' 0 2 1 k = V k := fun k hk => (hf k (by omega)).trans (hlo k (by omega))
  have hM1 := RM_fr hM0 m1b (fun k a b => g k (by omega))
  refine hK _ _ _ _ _ m1b (fun K2 h2 => y_Rm (D' := 1) (ct_image m1b ?_) (by decide))
  have e15 : V' 1 5 = V 171 1 := by rw [hlo 1 (by omega)]; exact n1.2.2.1
  have hM2 : RM (((S.set 60 (22, ta)).set 63 (24, wa)).set 64 (24, la)) (v_up (v_ur (v_up V' 0 2 1) 172 ((v_up V' 0 2 1) 171)) 170 3 1) (V 171) (V 171) tl 1 := by
    obtain ⟨b1, b2, b3, b4, b5, b6⟩ := hM1
    have e : ∀ k, k ≠ 170 → k ≠ 172 → (v_up (v_ur (v_up V' 0 2 1) 172 ((v_up V' 0 2 1) 171)) 170 3 1) k = (v_up V' 0 2 1) k := fun k p q => by rw [v_up_ne p, v_ur_ne q]
    exact ⟨b1, (e 171 (by decide) (by decide)).trans b2, by rw [v_up_ne (by decide), v_ur_eq]; exact b2, fun i hi => MT_x (b4 i hi) (fun k p q => e k (by omega) (by omega)), by rw [v_up_ni (by decide), v_ur_ne (by decide)]; exact b5, v_up_eq _ _ _ _⟩
  exact h2 _ _ _ _ _ (RR_mk hC1 hM2 (fun k hk => by rw [v_up_ne (by omega), v_ur_ne (by omega)]) (v_up_eq _ _ _ _) ⟨SO_le p1 (Nat.le_succ cnt), SO_le p1 (Nat.le_succ cnt), Int.le_refl _, p4⟩ (RZ_x (a := 0) (b := 0) hZ (by rw [List.length_set, List.length_set, List.length_set]; omega) (by decide) (by decide))) (fun _ => by rw [g 171 (by decide)]; exact e15.symm)
set_option maxRecDepth 100000 in
set_option maxHeartbeats 4000000 in
theorem pr_undo (hR : RR cnt u w S V)  : PR X True 95 177 [.ref 0] [.ref 170] cnt u w S V := by
  have hR2 := RR_le hR (Nat.le_succ cnt)
  obtain ⟨tl, hC, hM, hP, hZ⟩ := hR
  have hC0 := hC
  have hM0 := hM
  have hP0 := hP
  obtain ⟨c1, c2, c3, c4, c5, c6, c7, c8⟩ := hC
  obtain ⟨m1, -, -, m4, m5, m6⟩ := hM
  obtain ⟨p1, p2, p3, p4⟩ := hP
  obtain ⟨n1, n2, n3, n4⟩ := c2.1
  have hsz := p1.1
  obtain ⟨ta, t1, t2, t3, -⟩ := c2.2.1
  obtain ⟨wa, w1, w2, w3, -⟩ := c2.2.2.1
  obtain ⟨la, l1, l2, l3, -⟩ := c2.2.2.2
  obtain ⟨tb, t1', t2', t3', -⟩ := c3.2.1
  obtain ⟨wb, w1', w2', w3', -⟩ := c3.2.2.1
  obtain ⟨lb, l1', l2', l3', -⟩ := c3.2.2.2
  intro K hK
  have hi9 : 0 ≤ V 170 3 ∧ V 170 3 ≤ 1 := by omega
  refine y_Rm (D' := 4) (cc_undo c1 t1' t1 w1' w1 l1' l1 t2' t2 w2' w2 l2' l2 t3' w3' l3' (by omega) (fun g1 => ?_) (fun V' g1 hV => ?_)) (by decide)
  · refine hK _ _ _ _ _ m1 (fun K2 h2 => y_Rm (D' := 1) (ct_undo m1 hi9 ?_ ?_) (by decide))
    all_goals intros
    all_goals first | (exfalso; omega) | exact h2 _ _ _ _ _ hR2 (fun _ => rfl)
  · have hlo : ∀ k, k < 1 ∨ 1 + 57 ≤ k → V' k = V k := hV.2.2.2.2.2.2
    have hC1 := RC_cp (B := 1) (B' := 58) (ρ := V 172) (V1 := V') hC0 (Or.inl ⟨rfl, rfl, rfl⟩) hZ.1 t1' t1 w1' w1 l1' l1 rfl hV (fun _ _ => rfl) (by rw [hlo 0 (by omega)]; exact c8)
    have m1b : MdS (((S.set 3 (22, tb)).set 6 (24, wb)).set 7 (24, lb)) := MdS_v (MdS_v (MdS_v m1 (SV_set 3 _ _) (by decide)) (SV_set 6 _ _) (by decide)) (SV_set 7 _ _) (by decide)
    have g : ∀ k, 115 ≤ k → V' k = V k := fun k hk => hlo k (by omega)
    have hM1 := RM_fr hM0 m1b (fun k a b => g k (by omega))
    have g3 : V' 170 3 = V 0 2 := by rw [g 170 (by decide)]; exact m6
    have e15 : V' 1 5 = V 172 1 := (hV.1 5 rfl).trans c3.1.1.2.2.1
    refine hK _ _ _ _ _ m1b (fun K2 h2 => y_Rm (D' := 1) (ct_undo m1b (by rw [g3]; omega) ?_ ?_) (by decide))
    · intro j1; exfalso; omega
    · intro j1
      have hM2 : RM (((S.set 3 (22, tb)).set 6 (24, wb)).set 7 (24, lb)) (v_ur V' 171 (V' 172)) (V 172) (V 172) tl (V 0 2) := by
        obtain ⟨b1, b2, b3, b4, b5, b6⟩ := hM1
        have e : ∀ k, k ≠ 171 → (v_ur V' 171 (V' 172)) k = V' k := fun k p => v_ur_ne p
        exact ⟨b1, (v_ur_eq _ _ _).trans b3, (e 172 (by decide)).trans b3, fun i hi => MT_x (b4 i (by omega)) (fun k p q => e k (by omega)), by rw [e 170 (by decide)]; exact b5, by rw [e 170 (by decide)]; exact b6⟩
      exact h2 _ _ _ _ _ (RR_mk hC1 hM2 (fun k hk => v_ur_ne (by omega)) (by rw [hlo 0 (by omega)]) ⟨SO_le p2 (Nat.le_succ cnt), SO_le p2 (Nat.le_succ cnt), Int.le_refl _, fun i hi => p4 i (by omega)⟩ (RZ_x (a := 0) (b := 0) hZ (by rw [List.length_set, List.length_set, List.length_set]; omega) (by decide) (by decide))) (fun _ => by rw [g 172 (by decide)]; exact e15.symm)
end
