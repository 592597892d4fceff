/-! orders: the class, what it answers -/
section
variable {X : Nat → List Int32} {u w : Nat} {S : m_H} {V : v_V} {K : v_K}
set_option maxRecDepth 100000 in
set_option maxHeartbeats 4000000 in
theorem lp_cordJ {S0 : m_H} {V0 : v_V} {σ : Nat → Int} {tl : Nat → List p_Li} {td : List Nat} {x y n i : Int} {d al T : Nat} (hd : d ≤ 3) (hT : v_bs x 16 = (T : Int)) (hT4 : 2 ≤ T ∧ T ≤ 4) (htd : td.length = T) (hmo : ∀ p q, p < q → q < T → td.getD p 0 < td.getD q 0) (hal5 : al ≤ 5) (hpq : ∀ q : Nat, q < al → pkO (σ (1770 + 4 * q)) (σ (1770 + 4 * q + 1)) (σ (1770 + 4 * q + 2)) (σ (1770 + 4 * q + 3))) (hy : 0 ≤ y ∧ y ≤ 4) (hn : 0 ≤ n ∧ n ≤ 99) (hi : -1 ≤ i ∧ i ≤ 2147483647) (hSg : SgC V0 0 0 4 (fun _ _ => 0) aw0) (k2 : ∀ S2 V2, SrE S0 V0 S2 V2 → K u w (some (iv (ordA (KPc y n σ tl td T al d) td T i))) S2 V2) {F : Nat} : ∀ (m : Nat) (r : Nat) (c f : Int) (dn rs : List (List Nat)) (S2 : m_H) (W : v_V), 25 - r < m → (r ≤ 24) → (plL T = dn ++ rs) → (dn.length = r) → (c = (cK (KPc y n σ tl td T al d) dn : Int)) → (0 ≤ i → cK (KPc y n σ tl td T al d) dn = 0) → ((f = 1 ∧ ∃ l2 r2, rs = l2 :: r2 ∧ SJ S0 V0 y n al σ tl T (fun q => (bxs td l2).getD q 0) S2 W) ∨ (f = 0 ∧ rs = [])) → (SI S0 V0 y n al σ T S2 W) → y_E X 15 90 (120 * m + F) u w 157 [(0, .ref 0), (1, iv x), (2, iv y), (3, iv n), (4, iv (d : Int)), (5, iv i), (6, iv (v_bs x 16)), (7, iv c), (8, iv f), (9, iv (r : Int))] [] S2 W K := by
  intro m
  induction m with
  | zero => intros; omega
  | succ m ih =>
    intro r c f dn rs S2 W hm hr hdn hrl hc hi0 hf hI 
    refine y_mono (F' := (120 * m + F) + 120) ?_ (by omega)
    have hCW : ClF S2 := by obtain ⟨_, _, _, _, _, _, h, _⟩ := hI; exact h
    have hf01 : f = 0 ∨ f = 1 := by rcases hf with h | h; exact Or.inr h.1; exact Or.inl h.1
    have hcl := cK_le (KPc y n σ tl td T al d) dn
    have hE : (24 ≤ r ∨ f = 0) → rs = [] := fun h => by
      rcases hf with ⟨hf1, l0, r0, hrs, -⟩ | hf
      · rcases h with h | h
        · have := (plL_ok T (by omega) hT4.1).2.2.1
          rw [hdn, hrs, List.length_append, List.length_cons] at this
          omega
        · omega
      · exact hf.2
    refine y_ld (x := iv (r : Int)) rfl rfl (fun d => rfl) ?_
    refine y_bi rfl rfl (by decide) ?_
    refine y_jge rfl rfl rfl (by omega) (fun g1 => ?_) (fun g1 => ?_)
    · refine y_ld (x := iv i) rfl rfl (fun d => rfl) ?_
      refine y_ic rfl rfl ?_
      refine y_jne rfl rfl rfl (by omega) (fun g2 => ?_) (fun g2 => ?_)
      · refine y_ic rfl rfl ?_
        refine y_rI rfl (Or.inl rfl) ?_
        have ea : (-1 : Int) = ordA (KPc y n σ tl td T al d) td T i := (ord_e hi.1 hdn (hE (by omega)) hi0).2 (by omega)
        obtain ⟨ts9, c1, c2, c3, c4, c5, c6, c7⟩ := hI
        exact Eq.mpr (congrArg (fun z : Int => K u w (some (iv z)) S2 W) ea) (k2 S2 W ⟨c4, c1.1, c3, c5⟩)
      · refine y_ld (x := iv c) rfl rfl (fun d => rfl) ?_
        refine y_go rfl rfl ?_
        refine y_rI rfl (Or.inl rfl) ?_
        have ea : (c : Int) = ordA (KPc y n σ tl td T al d) td T i := by rw [hc]; exact (ord_e hi.1 hdn (hE (by omega)) hi0).1 (by omega)
        obtain ⟨ts9, c1, c2, c3, c4, c5, c6, c7⟩ := hI
        exact Eq.mpr (congrArg (fun z : Int => K u w (some (iv z)) S2 W) ea) (k2 S2 W ⟨c4, c1.1, c3, c5⟩)
    · refine y_ld (x := iv f) rfl rfl (fun d => rfl) ?_
      refine y_zeq rfl rfl rfl (by omega) (fun g3 => ?_) (fun g3 => ?_)
      · refine y_ld (x := iv i) rfl rfl (fun d => rfl) ?_
        refine y_ic rfl rfl ?_
        refine y_jne rfl rfl rfl (by omega) (fun g4 => ?_) (fun g4 => ?_)
        · refine y_ic rfl rfl ?_
          refine y_rI rfl (Or.inl rfl) ?_
          have ea : (-1 : Int) = ordA (KPc y n σ tl td T al d) td T i := (ord_e hi.1 hdn (hE (by omega)) hi0).2 (by omega)
          obtain ⟨ts9, c1, c2, c3, c4, c5, c6, c7⟩ := hI
          exact Eq.mpr (congrArg (fun z : Int => K u w (some (iv z)) S2 W) ea) (k2 S2 W ⟨c4, c1.1, c3, c5⟩)
        · refine y_ld (x := iv c) rfl rfl (fun d => rfl) ?_
          refine y_go rfl rfl ?_
          refine y_rI rfl (Or.inl rfl) ?_
          have ea : (c : Int) = ordA (KPc y n σ tl td T al d) td T i := by rw [hc]; exact (ord_e hi.1 hdn (hE (by omega)) hi0).1 (by omega)
          obtain ⟨ts9, c1, c2, c3, c4, c5, c6, c7⟩ := hI
          exact Eq.mpr (congrArg (fun z : Int => K u w (some (iv z)) S2 W) ea) (k2 S2 W ⟨c4, c1.1, c3, c5⟩)
      · refine y_ld (x := .ref 0) rfl rfl (fun d => rfl) ?_
        refine y_gR (i := 4) rfl rfl rfl (hCW 0 _ _ rfl) rfl ?_
        refine y_ld (x := iv (d : Int)) rfl rfl (fun d => rfl) ?_
        rcases hf with ⟨hf1, l0, r0, hrs, hJ⟩ | hf
        all_goals try (exact absurd hf.1 (by omega))
        subst hrs
        have hJc := hJ
        obtain ⟨hSr, h2, hX, h4, h5, hC, h7⟩ := hJc
        refine y_cV (as := [.ref 116, iv (d : Int)]) rfl rfl rfl rfl rfl hSr.1 ⟨rfl, (Nat.le_of_ble_eq_true rfl), (Nat.le_of_ble_eq_true rfl)⟩ (by decide) (cc_shortest (mt := T) hC hT4.2 hal5 h2 hpq (by omega) hn hd hSr (SgC_0 hSg h5 hT4.2) (fun l v V4 b1 b2 b3 b4 => ?_) (fun b2 V4 b4 => ?_))
        · have hl1 := b2.1
          have hl3 : l ≤ 3 := by omega
          have hJ4 := SJ_S hJ b4
          have hKP : ¬ (KPc y n σ tl td T al d) l0 := fun h => h l b2.1 b1 v b2.2.1 b2.2.2.1
          refine y_nv ?_
          refine y_zne rfl rfl rfl (by omega) (fun g5 => ?_) (fun g5 => absurd g5 (by omega))
          refine y_ld (x := .ref 0) rfl rfl (fun d => rfl) ?_
          refine y_gR (i := 4) rfl rfl rfl (hCW 0 _ _ rfl) rfl ?_
          refine y_cV (as := [.ref 116]) rfl rfl rfl rfl rfl hSr.1 ⟨rfl, (Nat.le_of_ble_eq_true rfl), (Nat.le_of_ble_eq_true rfl)⟩ (by decide) (cs_turnsJ hT4 hJ4 (fun b L2 S5 V5 e5 hJ5 => ?_))
          refine y_nv ?_
          refine y_st (lv' := [(8, iv (b01 b)), (0, .ref 0), (1, iv x), (2, iv y), (3, iv n), (4, iv (d : Int)), (5, iv i), (6, iv (v_bs x 16)), (7, iv c), (9, iv (r : Int))]) rfl rfl (fun d => rfl) ?_
          refine y_inc (z := ((r + 1 : Nat) : Int)) (lv' := [(9, iv ((r + 1 : Nat) : Int)), (8, iv (b01 b)), (0, .ref 0), (1, iv x), (2, iv y), (3, iv n), (4, iv (d : Int)), (5, iv i), (6, iv (v_bs x 16)), (7, iv c)]) rfl rfl rfl (by omega) rfl ?_
          refine y_go rfl rfl ?_
          refine y_lv (l' := [(0, .ref 0), (1, iv x), (2, iv y), (3, iv n), (4, iv (d : Int)), (5, iv i), (6, iv (v_bs x 16)), (7, iv c), (8, iv (b01 b)), (9, iv ((r + 1 : Nat) : Int))]) rfl ⟨rfl, rfl, rfl, rfl, rfl, rfl, rfl, rfl, rfl, rfl, trivial⟩ ?_
          have hdn2 : plL T = (dn ++ [l0]) ++ r0 := by rw [List.append_assoc]; exact hdn
          have hr2 : (dn ++ [l0]).length = r + 1 := by rw [List.length_append, List.length_singleton]; omega
          have hck : cK (KPc y n σ tl td T al d) (dn ++ [l0]) = cK (KPc y n σ tl td T al d) dn + 0 := by rw [cK_app, cK_0 _ hKP]; rfl
          have hf2 : (b01 b = 1 ∧ ∃ l2 r2, r0 = l2 :: r2 ∧ SJ S0 V0 y n al σ tl T (fun q => (bxs td l2).getD q 0) S5 V5) ∨ (b01 b = 0 ∧ r0 = []) := by
            rcases nxt_step htd hmo hT4 hdn e5 with ⟨a1, a2⟩ | ⟨l3, r3, a1, a2, a3⟩
            · exact Or.inr ⟨by rw [a2]; rfl, a1⟩
            · exact Or.inl ⟨by rw [a2]; rfl, l3, r3, a1, by rw [a3] at hJ5; exact hJ5⟩
          exact y_mono (ih (r + 1) (c) (b01 b) (dn ++ [l0]) r0 S5 V5 (by omega) (by omega) hdn2 hr2 (by rw [hck]; omega) (fun h0 => by have := hi0 h0; rw [hck]; omega) hf2 (SJ_I hJ5)) (by omega)
        · have hJ4 := SJ_S hJ b4
          have hKP : (KPc y n σ tl td T al d) l0 := b2
          refine y_nv ?_
          refine y_zne rfl rfl rfl (by decide) (fun g6 => absurd g6 (by decide)) (fun g6 => ?_)
          refine y_ld (x := iv i) rfl rfl (fun d => rfl) ?_
          refine y_zlt rfl rfl rfl (by omega) (fun g7 => ?_) (fun g7 => ?_)
          · refine y_inc (z := (c + 1)) (lv' := [(7, iv (c + 1)), (0, .ref 0), (1, iv x), (2, iv y), (3, iv n), (4, iv (d : Int)), (5, iv i), (6, iv (v_bs x 16)), (8, iv f), (9, iv (r : Int))]) rfl rfl rfl rfl rfl ?_
            refine y_ld (x := .ref 0) rfl rfl (fun d => rfl) ?_
            refine y_gR (i := 4) rfl rfl rfl (hCW 0 _ _ rfl) rfl ?_
            refine y_cV (as := [.ref 116]) rfl rfl rfl rfl rfl hSr.1 ⟨rfl, (Nat.le_of_ble_eq_true rfl), (Nat.le_of_ble_eq_true rfl)⟩ (by decide) (cs_turnsJ hT4 hJ4 (fun b L2 S5 V5 e5 hJ5 => ?_))
            refine y_nv ?_
            refine y_st (lv' := [(8, iv (b01 b)), (7, iv (c + 1)), (0, .ref 0), (1, iv x), (2, iv y), (3, iv n), (4, iv (d : Int)), (5, iv i), (6, iv (v_bs x 16)), (9, iv (r : Int))]) rfl rfl (fun d => rfl) ?_
            refine y_inc (z := ((r + 1 : Nat) : Int)) (lv' := [(9, iv ((r + 1 : Nat) : Int)), (8, iv (b01 b)), (7, iv (c + 1)), (0, .ref 0), (1, iv x), (2, iv y), (3, iv n), (4, iv (d : Int)), (5, iv i), (6, iv (v_bs x 16))]) rfl rfl rfl (by omega) rfl ?_
            refine y_go rfl rfl ?_
            refine y_lv (l' := [(0, .ref 0), (1, iv x), (2, iv y), (3, iv n), (4, iv (d : Int)), (5, iv i), (6, iv (v_bs x 16)), (7, iv (c + 1)), (8, iv (b01 b)), (9, iv ((r + 1 : Nat) : Int))]) rfl ⟨rfl, rfl, rfl, rfl, rfl, rfl, rfl, rfl, rfl, rfl, trivial⟩ ?_
            have hdn2 : plL T = (dn ++ [l0]) ++ r0 := by rw [List.append_assoc]; exact hdn
            have hr2 : (dn ++ [l0]).length = r + 1 := by rw [List.length_append, List.length_singleton]; omega
            have hck : cK (KPc y n σ tl td T al d) (dn ++ [l0]) = cK (KPc y n σ tl td T al d) dn + 1 := by rw [cK_app, cK_1 _ hKP]; rfl
            have hf2 : (b01 b = 1 ∧ ∃ l2 r2, r0 = l2 :: r2 ∧ SJ S0 V0 y n al σ tl T (fun q => (bxs td l2).getD q 0) S5 V5) ∨ (b01 b = 0 ∧ r0 = []) := by
              rcases nxt_step htd hmo hT4 hdn e5 with ⟨a1, a2⟩ | ⟨l3, r3, a1, a2, a3⟩
              · exact Or.inr ⟨by rw [a2]; rfl, a1⟩
              · exact Or.inl ⟨by rw [a2]; rfl, l3, r3, a1, by rw [a3] at hJ5; exact hJ5⟩
            exact y_mono (ih (r + 1) (c + 1) (b01 b) (dn ++ [l0]) r0 S5 V5 (by omega) (by omega) hdn2 hr2 (by rw [hck]; omega) (fun h0 => by have := hi0 h0; rw [hck]; omega) hf2 (SJ_I hJ5)) (by omega)
          · refine y_ld (x := iv i) rfl rfl (fun d => rfl) ?_
            refine y_ld (x := iv (v_bs x 16)) rfl rfl (fun d => rfl) ?_
            refine y_jge rfl rfl rfl (by omega) (fun g8 => ?_) (fun g8 => ?_)
            · refine y_ic rfl rfl ?_
              refine y_rI rfl (Or.inl rfl) ?_
              have ea : (-1 : Int) = ordA (KPc y n σ tl td T al d) td T i := (ord_f (by omega) hdn (hi0 (by omega)) hKP).2 (by omega)
              obtain ⟨c1, c2, c3, c4, c5, c6, c7⟩ := hJ4
              exact Eq.mpr (congrArg (fun z : Int => K u w (some (iv z)) S2 V4) ea) (k2 S2 V4 ⟨c4, c1.1, c3, c5⟩)
            · refine y_ld (x := .ref 0) rfl rfl (fun d => rfl) ?_
              refine y_gR (i := 4) rfl rfl rfl (hCW 0 _ _ rfl) rfl ?_
              refine y_gR (i := 3) rfl rfl rfl hSr.1 rfl ?_
              refine y_ld (x := iv i) rfl rfl (fun d => rfl) ?_
              refine y_ild (x := (V4 120 i.toNat)) (q := i.toNat) rfl rfl (cl_ia hC (k := 120) (N := 4) rfl) (by omega) (by decide) rfl rfl ?_
              refine y_go rfl rfl ?_
              refine y_rI rfl (Or.inl rfl) ?_
              have ea : (V4 120 i.toNat : Int) = ordA (KPc y n σ tl td T al d) td T i := by have h8 : V4 120 i.toNat = (((bxs td l0).getD i.toNat 0 : Nat) : Int) := (hJ4.2.2.2.2.2.2 i.toNat (by omega)).1; rw [h8, bxs_gd (by have := (pl_mem hT4 (l := l0) (by rw [hdn]; simp)).1; omega)]; exact (ord_f (by omega) hdn (hi0 (by omega)) hKP).1 (by omega)
              obtain ⟨c1, c2, c3, c4, c5, c6, c7⟩ := hJ4
              exact Eq.mpr (congrArg (fun z : Int => K u w (some (iv z)) S2 V4) ea) (k2 S2 V4 ⟨c4, c1.1, c3, c5⟩)
set_option maxRecDepth 100000 in
set_option maxHeartbeats 4000000 in
theorem cs_ordersJ (hC : ClF S) {tl : Nat → List p_Li} {cnt : Nat} {σ : Nat → Int} (hRS : RS S V 1 σ tl) (hSO : SO cnt σ) (hTO : ∀ i : Nat, (i : Int) < σ 0 → TO (tl i)) {lf : Value} (h116 : ce S 116 4 (S116l lf)) (hX : XsA S) (hSg : SgC V 0 0 4 (fun _ _ => 0) aw0) {x : Int} (hx : (-2147483648 ≤ x ∧ x < 2147483648)) {y : Int} (hy : (-2147483648 ≤ y ∧ y < 2147483648)) {n : Int} (hn : (-2147483648 ≤ n ∧ n < 2147483648)) {d : Int} (hd : (-2147483648 ≤ d ∧ d < 2147483648)) {i : Int} (hi : (-2147483648 ≤ i ∧ i < 2147483648)) (k0 : ¬ ((0 ≤ y ∧ y ≤ 4) ∧ -1 ≤ i) → K u w (some (iv (-1))) S V) (k1 : ((0 ≤ y ∧ y ≤ 4) ∧ -1 ≤ i) → ¬ ((0 ≤ x ∧ x ≤ 2 ^ (σ 1).toNat - 1) ∧ (2 ≤ v_bs x 16 ∧ v_bs x 16 ≤ 4) ∧ (0 ≤ n ∧ n ≤ 99) ∧ (1 ≤ d ∧ d ≤ 3)) → K u w (some (iv (-2))) S V) (k2 : ((0 ≤ y ∧ y ≤ 4) ∧ -1 ≤ i) → ((0 ≤ x ∧ x ≤ 2 ^ (σ 1).toNat - 1) ∧ (2 ≤ v_bs x 16 ∧ v_bs x 16 ≤ 4) ∧ (0 ≤ n ∧ n ≤ 99) ∧ (1 ≤ d ∧ d ≤ 3)) → ∀ B T al dn : Nat, σ 1 = (B : Int) → v_bs x 16 = (T : Int) → σ 5 = (al : Int) → d = (dn : Int) → ∀ S2 V2, SrE S V S2 V2 → K u w (some (iv (ordA (KPc y n σ tl (tdL x B) T al dn) (tdL x B) T i))) S2 V2) : y_R X 16 90 u w [.ref 0, iv x, iv y, iv n, iv d, iv i] S V K := by
  obtain ⟨n1, n2, n3, n4⟩ := hRS.1
  have hsz := hSO.1
  obtain ⟨al, hal⟩ : ∃ al : Nat, σ 5 = (al : Int) := ⟨(σ 5).toNat, by omega⟩
  have hal5 : al ≤ 5 := by omega
  have hpq : ∀ q : Nat, q < al → pkO (σ (1770 + 4 * q)) (σ (1770 + 4 * q + 1)) (σ (1770 + 4 * q + 2)) (σ (1770 + 4 * q + 3)) := fun q hq => hSO.2.2.2.2.2.2 q (by omega)
  have e15 : V 1 5 = σ 1 := n1.2.2.1
  obtain ⟨e, e1, e2, e3⟩ := z_us (x := x) (k := V 1 5) (by omega) (by omega)
  rw [e15] at e3
  have hp2 : 1 ≤ (2 ^ (σ 1).toNat : Int) ∧ (2 ^ (σ 1).toNat : Int) ≤ 256 := by
    rcases (show σ 1 = 0 ∨ σ 1 = 1 ∨ σ 1 = 2 ∨ σ 1 = 3 ∨ σ 1 = 4 ∨ σ 1 = 5 ∨ σ 1 = 6 ∨ σ 1 = 7 ∨ σ 1 = 8 by omega) with h | h | h | h | h | h | h | h | h <;> rw [h] <;> decide
  have hv16 := v_bs_le x 16
  refine y_ent (lv' := [(0, .ref 0), (1, iv x), (2, iv y), (3, iv n), (4, iv d), (5, iv i)]) (Nat.le_of_ble_eq_true rfl) rfl ?_
  refine y_ld (x := iv y) rfl rfl (fun d => rfl) ?_
  refine y_cS (as := [iv y]) rfl (by decide) rfl rfl rfl rfl ⟨(Nat.le_of_ble_eq_true rfl), (Nat.le_of_ble_eq_true rfl)⟩ (by decide) (cc_isForm (by omega) ?_)
  refine y_nv ?_
  refine y_beq rfl rfl rfl (fun g1 => ?_) (fun g1 => ?_)
  · refine y_ic rfl rfl ?_
    refine y_rI rfl (Or.inl rfl) ?_
    exact k0 (by omega)
  · refine y_ld (x := iv i) rfl rfl (fun d => rfl) ?_
    refine y_ic rfl rfl ?_
    refine y_jge rfl rfl rfl (by omega) (fun g2 => ?_) (fun g2 => ?_)
    · refine y_ld (x := iv x) rfl rfl (fun d => rfl) ?_
      refine y_cS (as := [iv x]) rfl (by decide) rfl rfl rfl rfl ⟨(Nat.le_of_ble_eq_true rfl), (Nat.le_of_ble_eq_true rfl)⟩ (by decide) (cc_bitCount ?_)
      refine y_nv ?_
      by_cases hx16 : 0 ≤ x ∧ x ≤ 65535
      · refine y_top (v' := iv (v_bs x 16)) (congrArg Value.int (z_bc_eq hx16)) ?_
        refine y_st (lv' := [(6, iv (v_bs x 16)), (0, .ref 0), (1, iv x), (2, iv y), (3, iv n), (4, iv d), (5, iv i)]) rfl rfl (fun d => rfl) ?_
        refine y_ld (x := iv x) rfl rfl (fun d => rfl) ?_
        refine y_ld (x := .ref 0) rfl rfl (fun d => rfl) ?_
        refine y_gR (i := 0) rfl rfl rfl (hC 0 _ _ rfl) rfl ?_
        refine y_gI (i := 5) (e := (V 1 5)) rfl rfl rfl (hC 1 _ _ rfl) rfl rfl ?_
        refine y_op (z := e) rfl rfl (fun d => rfl) e2 ?_
        refine y_zne rfl rfl rfl (by omega) (fun g3 => ?_) (fun g3 => ?_)
        · refine y_bi rfl rfl (by decide) ?_
          refine y_rI rfl (Or.inl rfl) ?_
          exact k1 (by omega) (by omega)
        · refine y_ld (x := iv (v_bs x 16)) rfl rfl (fun d => rfl) ?_
          refine y_ic rfl rfl ?_
          refine y_jlt rfl rfl rfl (by omega) (fun g4 => ?_) (fun g4 => ?_)
          · refine y_bi rfl rfl (by decide) ?_
            refine y_rI rfl (Or.inl rfl) ?_
            exact k1 (by omega) (by omega)
          · refine y_ld (x := iv (v_bs x 16)) rfl rfl (fun d => rfl) ?_
            refine y_ic rfl rfl ?_
            refine y_jle rfl rfl rfl (by omega) (fun g5 => ?_) (fun g5 => ?_)
            · refine y_ld (x := iv n) rfl rfl (fun d => rfl) ?_
              refine y_cS (as := [iv n]) rfl (by decide) rfl rfl rfl rfl ⟨(Nat.le_of_ble_eq_true rfl), (Nat.le_of_ble_eq_true rfl)⟩ (by decide) (cc_isN (by omega) ?_)
              refine y_nv ?_
              refine y_beq rfl rfl rfl (fun g6 => ?_) (fun g6 => ?_)
              · refine y_bi rfl rfl (by decide) ?_
                refine y_rI rfl (Or.inl rfl) ?_
                exact k1 (by omega) (by omega)
              · refine y_ld (x := iv d) rfl rfl (fun d => rfl) ?_
                refine y_cS (as := [iv d]) rfl (by decide) rfl rfl rfl rfl ⟨(Nat.le_of_ble_eq_true rfl), (Nat.le_of_ble_eq_true rfl)⟩ (by decide) (cc_isDepth (by omega) ?_)
                refine y_nv ?_
                refine y_bne rfl rfl rfl (fun g7 => ?_) (fun g7 => ?_)
                · obtain ⟨dn, rfl⟩ : ∃ dn : Nat, d = (dn : Int) := ⟨d.toNat, by omega⟩
                  obtain ⟨B, hB⟩ : ∃ B : Nat, σ 1 = (B : Int) := ⟨(σ 1).toNat, by omega⟩
                  rw [hB, Int.toNat_natCast] at e3 k2 hp2
                  have hbt := v_bs_top x B ⟨by omega, by omega⟩ 16 (by omega)
                  refine y_ld (x := .ref 0) rfl rfl (fun d => rfl) ?_
                  refine y_gR (i := 4) rfl rfl rfl (hC 0 _ _ rfl) rfl ?_
                  refine y_ld (x := .ref 0) rfl rfl (fun d => rfl) ?_
                  refine y_gR (i := 0) rfl rfl rfl (hC 0 _ _ rfl) rfl ?_
                  refine y_gR (i := 11) rfl rfl rfl (hC 1 _ _ rfl) rfl ?_
                  refine y_ld (x := .ref 0) rfl rfl (fun d => rfl) ?_
                  refine y_gR (i := 0) rfl rfl rfl (hC 0 _ _ rfl) rfl ?_
                  refine y_gI (i := 12) (e := (al : Int)) rfl rfl rfl (hC 1 _ _ rfl) rfl (n1.2.2.2.2.2.2.trans hal) ?_
                  refine y_ld (x := iv y) rfl rfl (fun d => rfl) ?_
                  refine y_ld (x := iv n) rfl rfl (fun d => rfl) ?_
                  refine y_cV (as := [.ref 116, .ref 7, iv (al : Int), iv y, iv n]) rfl rfl rfl rfl rfl h116 ⟨rfl, (Nat.le_of_ble_eq_true rfl), (Nat.le_of_ble_eq_true rfl)⟩ (by decide) (cs_begin (form := y) (N := n) (ts := (fun q => tl (σ (178 + (tdL x 0).getD q 0)).toNat)) hC h116 hX hRS hal (fun S1 V1 hSr1 hX1 q1 f1 hC1 => ?_))
                  refine y_n0 ?_
                  refine y_ic rfl rfl ?_
                  refine y_st (lv' := [(7, iv 0), (6, iv (v_bs x 16)), (0, .ref 0), (1, iv x), (2, iv y), (3, iv n), (4, iv (dn : Int)), (5, iv i)]) rfl rfl (fun d => rfl) ?_
                  refine y_lv (l' := [(0, .ref 0), (1, iv x), (2, iv y), (3, iv n), (4, iv (dn : Int)), (5, iv i), (6, iv (v_bs x 16)), (7, iv ((0 : Nat) : Int))]) rfl ⟨rfl, rfl, rfl, rfl, rfl, rfl, rfl, rfl, trivial⟩ ?_
                  refine y_mono (lp_ctoldJ (tl := tl) (F := 100000) hRS hSO hTO (by omega) (by omega) hB 9 0 S1 V1 (by omega) (by omega) ⟨hSr1, fun q hq => absurd hq (by show ¬ q < 0; omega), hX1, q1, f1, hC1, fun q hq => absurd hq (by show ¬ q < 0; omega)⟩ (fun S3 V3 hJ3 => ?_)) (by decide)
                  rw [← hbt] at hJ3
                  obtain ⟨T, hT⟩ : ∃ T : Nat, v_bs x 16 = (T : Int) := ⟨(v_bs x 16).toNat, by omega⟩
                  rw [hT, Int.toNat_natCast] at hJ3
                  refine y_ic rfl rfl ?_
                  refine y_st (lv' := [(7, iv 0), (0, .ref 0), (1, iv x), (2, iv y), (3, iv n), (4, iv (dn : Int)), (5, iv i), (6, iv (v_bs x 16))]) rfl rfl (fun d => rfl) ?_
                  refine y_ic rfl rfl ?_
                  refine y_st (lv' := [(8, iv 1), (7, iv 0), (0, .ref 0), (1, iv x), (2, iv y), (3, iv n), (4, iv (dn : Int)), (5, iv i), (6, iv (v_bs x 16))]) rfl rfl (fun d => rfl) ?_
                  refine y_ic rfl rfl ?_
                  refine y_st (lv' := [(9, iv 0), (8, iv 1), (7, iv 0), (0, .ref 0), (1, iv x), (2, iv y), (3, iv n), (4, iv (dn : Int)), (5, iv i), (6, iv (v_bs x 16))]) rfl rfl (fun d => rfl) ?_
                  refine y_lv (l' := [(0, .ref 0), (1, iv x), (2, iv y), (3, iv n), (4, iv (dn : Int)), (5, iv i), (6, iv (v_bs x 16)), (7, iv 0), (8, iv 1), (9, iv ((0 : Nat) : Int))]) rfl ⟨rfl, rfl, rfl, rfl, rfl, rfl, rfl, rfl, rfl, rfl, trivial⟩ ?_
                  have hT4 : 2 ≤ T ∧ T ≤ 4 := by omega
                  have hln : (tdL x B).length = T := by have := tdL_len x B; omega
                  have hhd := (plL_ok T (by omega) hT4.1).2.2.2
                  obtain ⟨r0, hr0⟩ : ∃ r0, plL T = List.range T :: r0 := by
                    cases hpl : plL T with
                    | nil => rw [hpl] at hhd; exact absurd hhd (by simp)
                    | cons a r => rw [hpl] at hhd; exact ⟨r, by rw [show a = List.range T from Option.some.inj hhd]⟩
                  have hJ0 : SJ S V y n al σ tl T (fun q => (bxs (tdL x B) (List.range T)).getD q 0) S3 V3 := SJ_c hJ3 (fun q hq => by
                    rw [bxs_gd (by rw [List.length_range]; exact hq), List.getD_eq_getElem?_getD (l := List.range T), List.getElem?_range hq]
                    rfl)
                  exact y_mono (lp_cordJ (F := 1000) (td := tdL x B) (tl := tl) (σ := σ) (by omega) hT hT4 hln (fun p q h8 h9 => tdL_mono x B p q h8 (by omega)) hal5 hpq (by omega) (by omega) (by omega) hSg (fun S2 V2 h => k2 (by omega) (by omega) B T al dn rfl hT hal rfl S2 V2 h) 26 0 0 1 [] (plL T) S3 V3 (by omega) (by omega) rfl rfl rfl (fun _ => rfl) (Or.inl ⟨rfl, _, r0, hr0, hJ0⟩) (SJ_I hJ3)) (by decide)
                · refine y_bi rfl rfl (by decide) ?_
                  refine y_rI rfl (Or.inl rfl) ?_
                  exact k1 (by omega) (by omega)
            · refine y_bi rfl rfl (by decide) ?_
              refine y_rI rfl (Or.inl rfl) ?_
              exact k1 (by omega) (by omega)
      · refine y_st (lv' := [(6, .int (z_bc (Int32.ofInt x))), (0, .ref 0), (1, iv x), (2, iv y), (3, iv n), (4, iv d), (5, iv i)]) rfl rfl (fun d => rfl) ?_
        refine y_ld (x := iv x) rfl rfl (fun d => rfl) ?_
        refine y_ld (x := .ref 0) rfl rfl (fun d => rfl) ?_
        refine y_gR (i := 0) rfl rfl rfl (hC 0 _ _ rfl) rfl ?_
        refine y_gI (i := 5) (e := (V 1 5)) rfl rfl rfl (hC 1 _ _ rfl) rfl rfl ?_
        refine y_op (z := e) rfl rfl (fun d => rfl) e2 ?_
        refine y_zne rfl rfl rfl (by omega) (fun g8 => ?_) (fun g8 => absurd g8 (by omega))
        refine y_bi rfl rfl (by decide) ?_
        refine y_rI rfl (Or.inl rfl) ?_
        exact k1 (by omega) (by omega)
    · refine y_ic rfl rfl ?_
      refine y_rI rfl (Or.inl rfl) ?_
      exact k0 (by omega)
end
