/-! pairs of calls: text -/
section
variable {X : Nat → List Int32} {u w cnt : Nat} {S : m_H} {V : v_V}
set_option maxRecDepth 100000 in
set_option maxHeartbeats 4000000 in
theorem pr_text (hR : RR cnt u w S V) (hcn : cnt < 70)  : PR X True 71 124 [.ref 0] [.ref 170] cnt u w S V := by
  have hR2 := RR_le hR (Nat.le_succ cnt)
  obtain ⟨tl, hC, hM, hP, hZ⟩ := hR
  have hC0 := hC
  have hM0 := hM
  have hP0 := hP
  obtain ⟨c1, c2, c3, c4, c5, c6, c7, c8⟩ := hC
  obtain ⟨m1, -, -, m4, m5, m6⟩ := hM
  obtain ⟨p1, p2, p3, p4⟩ := hP
  obtain ⟨n1, n2, n3, n4⟩ := c2.1
  have hsz := p1.1
  have hsl : S.length ≤ 193 + 12 * cnt ∧ 193 ≤ S.length := ⟨hZ.2.1, hZ.1⟩
  obtain ⟨z, hz⟩ : ∃ z : Nat, V 171 6 = (z : Int) := ⟨(V 171 6).toNat, by omega⟩
  obtain ⟨a, ha⟩ : ∃ a : Nat, V 171 0 = (a : Int) := ⟨(V 171 0).toNat, by omega⟩
  have hz160 : z ≤ 160 := by omega
  have ha8 : a ≤ 8 := by omega
  obtain ⟨ta, t1, t2, t3, t4⟩ := c2.2.1
  obtain ⟨tp, tv, r1, r2⟩ := c4
  have e : pTx (V 2) z = pTx (fun i => V 171 (10 + i)) z := pTx_g9 (fun i hi => n2 i (by omega))
  have hbm : ∀ i, i < z → 0 ≤ V 171 (10 + i) ∧ V 171 (10 + i) ≤ 255 := fun i hi => p1.2.1 i (by omega)
  have hb : ∀ i, i < z → 0 ≤ V 2 i ∧ V 2 i ≤ 255 := fun i hi => by
    have h5 : V 2 i = V 171 (10 + i) := n2 i (by omega)
    rw [h5]
    exact hbm i hi
  have hv : tv = .null ∨ ∃ t, tv = .ref t ∧ 193 ≤ t ∧ TxS S t := by
    rcases r2 with h | ⟨t, b1, b2, b3, -⟩
    · exact Or.inl h
    · exact Or.inr ⟨t, b1, b2, b3⟩
  have hs35 : V 171 3 ≤ 20 ∧ V 171 5 ≤ 5 := by omega
  intro K hK
  refine y_Rm (D' := 24) (cc_text (tc := a) (z := z) c1 t1 t2 (n1.2.1.trans ha) ha8 (n1.1.trans hz) r1 (by omega) hv hz160 hb (fun g1 => ?_) (fun g1 t l S' V' q1 q2 q3 q4 q5 q6 q7 q8 q9 => ?_) (fun g1 t q S' V' q1 q2 q3 q4 q5 q6 q7 q8 q9 => ?_)) (by decide)
  · refine hK _ _ _ _ _ m1 (fun K2 h2 => y_Rm (D' := 23) (ct_text m1 ha ha8 hz hz160 hbm ?_ ?_ ?_) (by decide))
    · intro _
      exact h2 _ _ _ _ _ hR2 (fun _ => rfl)
    · intro l V' j1
      exfalso; omega
    · intro q V' j1
      exfalso; omega
  · obtain ⟨d1, d2, d3, d4, d5, d6, ⟨lf, d7⟩, ⟨xs, x1, x2, x3⟩, d9⟩ := RC_rd hC0 hs35 hZ.1 r1 r2 q4 q5 q9
    have hta : ce S' 3 22 ta := SV_ce d6 (by decide) t1
    have hS3 : SQ 3 S' (S'.set 3 (22, ta.set a (.ref t))) := SQ_set hta (by decide)
    have hTO : TO l := pTx_TO hz160 q1 q3
    have hRN : RN (v_up V' 1 3 ((a : Int) + 1)) 1 (v_uf (v_uf (V 171) 6 0) 0 ((a : Int) + 1)) := RN_g d1.1 ⟨d1.1.1.1, rfl, d1.1.1.2.2.1, d1.1.1.2.2.2.1, d1.1.1.2.2.2.2.1, d1.1.1.2.2.2.2.2.1, d1.1.1.2.2.2.2.2.2⟩ (fun i hi => by rw [v_up_ne (by decide), v_uf_ne (by omega)]; exact d1.1.2.1 i hi) (fun i hi => by rw [v_up_ne (by decide), v_uf_ne (by omega)]; exact d1.1.2.2.1 i hi) (fun k x y => v_up_ne (by omega)) (fun j x y => v_uf_ne (by omega)) rfl
    have hRT : RT (S'.set 3 (22, ta.set a (.ref t))) (v_up V' 1 3 ((a : Int) + 1)) 1 (v_uf (v_uf (V 171) 6 0) 0 ((a : Int) + 1)) (fun i => if i = a then l else tl i) := by
      obtain ⟨ta2, u1, u2, u3, u4⟩ := d1.2.1
      have e9 : ta2 = ta := by
        have e := u1.2.symm.trans hta.2
        simp only [Option.some.injEq, Prod.mk.injEq] at e
        exact e.2
      subst e9
      refine ⟨ta2.set a (.ref t), ce_eq hta, by rw [List.length_set]; exact u2, fun v hv9 => ?_, fun i hi => ?_⟩
      · rcases List.mem_or_eq_of_mem_set hv9 with h7 | h7
        · exact hS3.2 _ _ (u3 v h7)
        · rw [h7]; exact Or.inr ⟨t, _, rfl, (TxS_q hS3 (by decide) q4.1 q6).1⟩
      · have hi2 : (i : Int) < (a : Int) + 1 := hi
        by_cases hia : i = a
        · subst hia
          refine ⟨t, ?_, q4.1, TxS_q hS3 (by decide) q4.1 q6, ?_⟩
          · rw [m_nth_set, if_pos rfl, m_nth_eq, List.getElem?_eq_getElem (by omega)]
            rfl
          · show CT _ t (if i = i then l else tl i)
            rw [if_pos rfl]
            exact CT_hi (fun k hk => v_up_ne (by omega)) q4.1 q2
        · obtain ⟨t', b1, b2, b3, b4⟩ := u4 i (by show (i : Int) < V 171 0; omega)
          refine ⟨t', by rw [m_nth_set, if_neg hia]; exact b1, b2, TxS_q hS3 (by decide) b2 b3, ?_⟩
          show CT _ t' (if i = a then l else tl i)
          rw [if_neg hia]
          exact CT_hi (fun k hk => v_up_ne (by omega)) b2 b4
    have hRS1 : RS (S'.set 3 (22, ta.set a (.ref t))) (v_up V' 1 3 ((a : Int) + 1)) 1 (v_uf (v_uf (V 171) 6 0) 0 ((a : Int) + 1)) (fun i => if i = a then l else tl i) := ⟨hRN, hRT, RW_fr d1.2.2.1 hS3 (by decide) (fun k _ _ _ _ hk _ => v_up_ne (by omega)) (Int.le_refl _) (fun j _ i _ => v_uf_ne (by omega)), RA_fr d1.2.2.2 hS3 (by decide) (fun k _ _ _ _ hk _ => v_up_ne (by omega)) (Int.le_refl _) (fun j _ i _ => v_uf_ne (by omega))⟩
    have hRS2 : RS (S'.set 3 (22, ta.set a (.ref t))) (v_up V' 1 3 ((a : Int) + 1)) 58 (V 172) (fun i => if i = a then l else tl i) := RS_tl (RS_x d2 hS3 (by decide) (fun k _ _ => v_up_ne (by omega)) (fun k _ _ => v_up_ne (by omega))) (fun i hi => if_neg (by omega))
    have f : ∀ k, k ≠ 1 → k < 193 → k ≠ 115 → v_up V' 1 3 ((a : Int) + 1) k = V k := fun k p q r => (v_up_ne p).trans (d9 k p q r)
    have hC1 : RC (S'.set 3 (22, ta.set a (.ref t))) (v_up V' 1 3 ((a : Int) + 1)) (v_uf (v_uf (V 171) 6 0) 0 ((a : Int) + 1)) (V 172) (fun i => if i = a then l else tl i) := ⟨cl_set d5 (by decide), hRS1, hRS2, ⟨_, _, ce_ne q7 (by decide), Or.inl rfl⟩, ⟨⟨lf, ce_ne d7 (by decide)⟩, ⟨xs, ce_ne x1 (by decide), x2, fun v hv => hS3.2 _ _ (x3 v hv)⟩, (Se_V c5 (fun k hk => f k (by omega) (by omega) (by omega))).2.2⟩, by rw [f 8 (by decide) (by decide) (by decide)]; exact c6, by rw [f 65 (by decide) (by decide) (by decide)]; exact c7, by rw [f 0 (by decide) (by decide) (by decide)]; exact c8⟩
    have m1b := MdS_v (MdS_v m1 d6 (by decide)) (SV_set 3 S' (22, ta.set a (.ref t))) (by decide)
    have hM1 := RM_fr hM0 m1b (fun k p q => f k (by omega) (by omega) (by omega))
    have f171 : v_up V' 1 3 ((a : Int) + 1) 171 = V 171 := f 171 (by decide) (by decide) (by decide)
    refine hK _ _ _ _ _ m1b (fun K2 h2 => y_Rm (D' := 23) (ct_text (V := v_up V' 1 3 ((a : Int) + 1)) m1b (by rw [f171]; exact ha) ha8 (by rw [f171]; exact hz) hz160 (by rw [f171]; exact hbm) ?_ ?_ ?_) (by decide))
    · intro j1; exfalso; omega
    · rw [f171]
      intro l2 V2 j1 j2 j3 j4 j5 j6
      have el := q1.symm.trans (e.trans j2)
      simp only [Prod.mk.injEq, Option.some.injEq, and_true] at el
      subst el
      have hM2 : RM (S'.set 3 (22, ta.set a (.ref t))) V2 (v_uf (v_uf (V 171) 6 0) 0 ((a : Int) + 1)) (V 172) (fun i => if i = a then l else tl i) (V 0 2) := by
        obtain ⟨b1, b2, b3, b4, b5, b6⟩ := hM1
        refine ⟨b1, j6, (j5.1 172 (by decide) (by decide) (by decide) (by decide) (by decide) (by decide) (by decide)).trans b3, fun i hi => ?_, by rw [j5.2.1 40 (by decide)]; exact b5, by rw [j5.2.1 3 (by decide)]; exact b6⟩
        have hi2 : (i : Int) < (a : Int) + 1 := hi
        by_cases hia : i = a
        · subst hia
          show MT V2 i (if i = i then l else tl i)
          rw [if_pos rfl]
          exact j3
        · show MT V2 i (if i = a then l else tl i)
          rw [if_neg hia]
          exact MT_TX (b4 i (by omega)) j5 hia (p4 i (by omega))
      have hso : SO cnt (v_uf (v_uf (V 171) 6 0) 0 ((a : Int) + 1)) := SO_t p1 ⟨by show 0 ≤ (a : Int) + 1 ∧ (a : Int) + 1 ≤ 8; omega, hsz.2.1, hsz.2.2.1, hsz.2.2.2.1, hsz.2.2.2.2.1, hsz.2.2.2.2.2.1, by show (0 : Int) ≤ 0 ∧ (0 : Int) ≤ 160; decide⟩ (fun j p q => (v_uf_ne (by omega)).trans (v_uf_ne q)) (by show V 171 0 ≤ (a : Int) + 1; omega)
      have hP9 : RP (cnt + 1) (v_uf (v_uf (V 171) 6 0) 0 ((a : Int) + 1)) (V 172) (fun i => if i = a then l else tl i) := ⟨SO_le hso (Nat.le_succ cnt), SO_le p2 (Nat.le_succ cnt), by show V 172 0 ≤ (a : Int) + 1; omega, fun i hi => by
        have hi2 : (i : Int) < (a : Int) + 1 := hi
        show TO (if i = a then l else tl i)
        split
        · exact hTO
        · exact p4 i (by omega)⟩
      exact h2 _ _ _ _ _ (RR_mk hC1 hM2 (fun k hk => j5.1 k (by omega) (by omega) (by omega) (by omega) (by omega) (by omega) (by omega)) (congrFun (f 0 (by decide) (by decide) (by decide)) 2) hP9 (RZ_x (a := 7) (b := 209) hZ (by rw [List.length_set]; have := d6.2; omega) (by decide) (by decide))) (fun _ => rfl)
    · rw [f171]
      intro q V2 j1 j2
      have el := q1.symm.trans (e.trans j2)
      simp at el
  · obtain ⟨d1, d2, d3, d4, d5, d6, ⟨lf, d7⟩, d8, d9⟩ := RC_rd hC0 hs35 hZ.1 r1 r2 q4 q5 q9
    have f : ∀ k, k ≠ 1 → k < 193 → k ≠ 115 → V' k = V k := d9
    have hC1 : RC S' V' (v_uf (V 171) 6 0) (V 172) tl := ⟨d5, d1, d2, ⟨_, _, q7, Or.inr ⟨t, rfl, q4.1, q6, d3, d4⟩⟩, ⟨⟨lf, d7⟩, d8, (Se_V c5 (fun k hk => f k (by omega) (by omega) (by omega))).2.2⟩, by rw [f 8 (by decide) (by decide) (by decide)]; exact c6, by rw [f 65 (by decide) (by decide) (by decide)]; exact c7, by rw [f 0 (by decide) (by decide) (by decide)]; exact c8⟩
    have m1b := MdS_v m1 d6 (by decide)
    have hM1 := RM_fr hM0 m1b (fun k p q => f k (by omega) (by omega) (by omega))
    have f171 : V' 171 = V 171 := f 171 (by decide) (by decide) (by decide)
    refine hK _ _ _ _ _ m1b (fun K2 h2 => y_Rm (D' := 23) (ct_text (V := V') m1b (by rw [f171]; exact ha) ha8 (by rw [f171]; exact hz) hz160 (by rw [f171]; exact hbm) ?_ ?_ ?_) (by decide))
    · intro j1; exfalso; omega
    · rw [f171]
      intro l2 V2 j1 j2
      have el := q1.symm.trans (e.trans j2)
      simp at el
    · rw [f171]
      intro q9' V2 j1 j2 j5 j6 j7
      have el := q1.symm.trans (e.trans j2)
      simp only [Prod.mk.injEq, true_and] at el
      subst el
      have hM2 : RM S' V2 (v_uf (V 171) 6 0) (V 172) tl (V 0 2) := by
        obtain ⟨b1, b2, b3, b4, b5, b6⟩ := hM1
        refine ⟨b1, j6, (j5.1 172 (by decide) (by decide) (by decide) (by decide) (by decide) (by decide) (by decide)).trans b3, fun i hi => ?_, by rw [j5.2.1 40 (by decide)]; exact b5, by rw [j5.2.1 3 (by decide)]; exact b6⟩
        have hi2 : (i : Int) < V 171 0 := hi
        exact MT_TX (b4 i (by omega)) j5 (by omega) (p4 i (by omega))
      have hso : SO cnt (v_uf (V 171) 6 0) := SO_t p1 ⟨hsz.1, hsz.2.1, hsz.2.2.1, hsz.2.2.2.1, hsz.2.2.2.2.1, hsz.2.2.2.2.2.1, by show (0 : Int) ≤ 0 ∧ (0 : Int) ≤ 160; decide⟩ (fun j p q => v_uf_ne q) (Int.le_refl _)
      exact h2 _ _ _ _ _ (RR_mk hC1 hM2 (fun k hk => j5.1 k (by omega) (by omega) (by omega) (by omega) (by omega) (by omega) (by omega)) (congrFun (f 0 (by decide) (by decide) (by decide)) 2) (RP_x hP0 (SO_le hso (Nat.le_succ cnt)) rfl) (RZ_x (a := 7) (b := 209) hZ (by have := d6.2; omega) (by decide) (by decide))) (fun _ => rfl)
end
