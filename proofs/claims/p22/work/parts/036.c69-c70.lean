section
/-! orders: the class, what it answers -/
section
variable {X : Nat → List Int32} {u w : Nat} {S : m_H} {V : v_V} {K : v_K}
set_option maxRecDepth 100000 in
set_option maxHeartbeats 4000000 in
theorem lp_cordJ {S0 : m_H} {V0 : v_V} {σ : Nat → Int} {tl : Nat → List p_Li} {td : List Nat} {x y n i : Int} {d al T : Nat} (hd : d ≤ 3) (hT : v_bs x 16 = (T : Int)) (hT4 : 2 ≤ T ∧ T ≤ 4) (htd : td.length = T) (hmo : ∀ p q, p < q → q < T → td.getD p 0 < td.getD q 0) (hal5 : al ≤ 5) (hpq : ∀ q : Nat, q < al → pkO (σ (1770 + 4 * q)) (σ (1770 + 4 * q + 1)) (σ (1770 + 4 * q + 2)) (σ (1770 + 4 * q + 3))) (hy : 0 ≤ y ∧ y ≤ 4) (hn : 0 ≤ n ∧ n ≤ 99) (hi : -1 ≤ i ∧ i ≤ 2147483647) (hSg : SgC V0 0 0 4 (fun _ _ => 0) aw0) (k2 : ∀ S2 V2, SrE S0 V0 S2 V2 → K u w (some (iv (ordA (KPc y n σ tl td T al d) td T i))) S2 V2) {F : Nat} : ∀ (m : Nat) (r : Nat) (c f : Int) (dn rs : List (List Nat)) (S2 : m_H) (W : v_V), 25 - r < m → (r ≤ 24) → (plL T = dn ++ rs) → (dn.length = r) → (c = (cK (KPc y n σ tl td T al d) dn : Int)) → (0 ≤ i → cK (KPc y n σ tl td T al d) dn = 0) → ((f = 1 ∧ ∃ l2 r2, rs = l2 :: r2 ∧ SJ S0 V0 y n al σ tl T (fun q => (bxs td l2).getD q 0) S2 W) ∨ (f = 0 ∧ rs = [])) → (SI S0 V0 y n al σ T S2 W) → y_E X 15 90 (120 * m + F) u w 157 [(0, .ref 0), (1, iv x), (2, iv y), (3, iv n), (4, iv (d : Int)), (5, iv i), (6, iv (v_bs x 16)), (7, iv c), (8, iv f), (9, iv (r : Int))] [] S2 W K := by
  intro m
  induction m with
  | zero => intros; omega
  | succ m ih =>
    intro r c f dn rs S2 W hm hr hdn hrl hc hi0 hf hI 
    refine y_mono (F' := (120 * m + F) + 120) ?_ (by omega)
    have hCW : ClF S2 := by obtain ⟨_, _, _, _, _, _, h, _⟩ := hI; exact h
    have hf01 : f = 0 ∨ f = 1 := by rcases hf with h | h; exact Or.inr h.1; exact Or.inl h.1
    have hcl := cK_le (KPc y n σ tl td T al d) dn
    have hE : (24 ≤ r ∨ f = 0) → rs = [] := fun h => by
      rcases hf with ⟨hf1, l0, r0, hrs, -⟩ | hf
      · rcases h with h | h
        · have := (plL_ok T (by omega) hT4.1).2.2.1
          rw [hdn, hrs, List.length_append, List.length_cons] at this
          omega
        · omega
      · exact hf.2
    refine y_ld (x := iv (r : Int)) rfl rfl (fun d => rfl) ?_
    refine y_bi rfl rfl (by decide) ?_
    refine y_jge rfl rfl rfl (by omega) (fun g1 => ?_) (fun g1 => ?_)
    · refine y_ld (x := iv i) rfl rfl (fun d => rfl) ?_
      refine y_ic rfl rfl ?_
      refine y_jne rfl rfl rfl (by omega) (fun g2 => ?_) (fun g2 => ?_)
      · refine y_ic rfl rfl ?_
        refine y_rI rfl (Or.inl rfl) ?_
        have ea : (-1 : Int) = ordA (KPc y n σ tl td T al d) td T i := (ord_e hi.1 hdn (hE (by omega)) hi0).2 (by omega)
        obtain ⟨ts9, c1, c2, c3, c4, c5, c6, c7⟩ := hI
        exact Eq.mpr (congrArg (fun z : Int => K u w (some (iv z)) S2 W) ea) (k2 S2 W ⟨c4, c1.1, c3, c5⟩)
      · refine y_ld (x := iv c) rfl rfl (fun d => rfl) ?_
        refine y_go rfl rfl ?_
        refine y_rI rfl (Or.inl rfl) ?_
        have ea : (c : Int) = ordA (KPc y n σ tl td T al d) td T i := by rw [hc]; exact (ord_e hi.1 hdn (hE (by omega)) hi0).1 (by omega)
        obtain ⟨ts9, c1, c2, c3, c4, c5, c6, c7⟩ := hI
        exact Eq.mpr (congrArg (fun z : Int => K u w (some (iv z)) S2 W) ea) (k2 S2 W ⟨c4, c1.1, c3, c5⟩)
    · refine y_ld (x := iv f) rfl rfl (fun d => rfl) ?_
      refine y_zeq rfl rfl rfl (by omega) (fun g3 => ?_) (fun g3 => ?_)
      · refine y_ld (x := iv i) rfl rfl (fun d => rfl) ?_
        refine y_ic rfl rfl ?_
        refine y_jne rfl rfl rfl (by omega) (fun g4 => ?_) (fun g4 => ?_)
        · refine y_ic rfl rfl ?_
          refine y_rI rfl (Or.inl rfl) ?_
          have ea : (-1 : Int) = ordA (KPc y n σ tl td T al d) td T i := (ord_e hi.1 hdn (hE (by omega)) hi0).2 (by omega)
          obtain ⟨ts9, c1, c2, c3, c4, c5, c6, c7⟩ := hI
          exact Eq.mpr (congrArg (fun z : Int => K u w (some (iv z)) S2 W) ea) (k2 S2 W ⟨c4, c1.1, c3, c5⟩)
        · refine y_ld (x := iv c) rfl rfl (fun d => rfl) ?_
          refine y_go rfl rfl ?_
          refine y_rI rfl (Or.inl rfl) ?_
          have ea : (c : Int) = ordA (KPc y n σ tl td T al d) td T i := by rw [hc]; exact (ord_e hi.1 hdn (hE (by omega)) hi0).1 (by omega)
          obtain ⟨ts9, c1, c2, c3, c4, c5, c6, c7⟩ := hI
          exact Eq.mpr (congrArg (fun z : Int => K u w (some (iv z)) S2 W) ea) (k2 S2 W ⟨c4, c1.1, c3, c5⟩)
      · refine y_ld (x := .ref 0) rfl rfl (fun d => rfl) ?_
        refine y_gR (i := 4) rfl rfl rfl (hCW 0 _ _ rfl) rfl ?_
        refine y_ld (x := iv (d : Int)) rfl rfl (fun d => rfl) ?_
        rcases hf with ⟨hf1, l0, r0, hrs, hJ⟩ | hf
        all_goals try (exact absurd hf.1 (by omega))
        subst hrs
        have hJc := hJ
        obtain ⟨hSr, h2, hX, h4, h5, hC, h7⟩ := hJc
        refine y_cV (as := [.ref 116, iv (d : Int)]) rfl rfl rfl rfl rfl hSr.1 ⟨rfl, (Nat.le_of_ble_eq_true rfl), (Nat.le_of_ble_eq_true rfl)⟩ (by decide) (cc_shortest (mt := T) hC hT4.2 hal5 h2 hpq (by omega) hn hd hSr (SgC_0 hSg h5 hT4.2) (fun l v V4 b1 b2 b3 b4 => ?_) (fun b2 V4 b4 => ?_))
        · have hl1 := b2.1
          have hl3 : l ≤ 3 := by omega
          have hJ4 := SJ_S hJ b4
          have hKP : ¬ (KPc y n σ tl td T al d) l0 := fun h => h l b2.1 b1 v b2.2.1 b2.2.2.1
          refine y_nv ?_
          refine y_zne rfl rfl rfl (by omega) (fun g5 => ?_) (fun g5 => absurd g5 (by omega))
          refine y_ld (x := .ref 0) rfl rfl (fun d => rfl) ?_
          refine y_gR (i := 4) rfl rfl rfl (hCW 0 _ _ rfl) rfl ?_
          refine y_cV (as := [.ref 116]) rfl rfl rfl rfl rfl hSr.1 ⟨rfl, (Nat.le_of_ble_eq_true rfl), (Nat.le_of_ble_eq_true rfl)⟩ (by decide) (cs_turnsJ hT4 hJ4 (fun b L2 S5 V5 e5 hJ5 => ?_))
          refine y_nv ?_
          refine y_st (lv' := [(8, iv (b01 b)), (0, .ref 0), (1, iv x), (2, iv y), (3, iv n), (4, iv (d : Int)), (5, iv i), (6, iv (v_bs x 16)), (7, iv c), (9, iv (r : Int))]) rfl rfl (fun d => rfl) ?_
          refine y_inc (z := ((r + 1 : Nat) : Int)) (lv' := [(9, iv ((r + 1 : Nat) : Int)), (8, iv (b01 b)), (0, .ref 0), (1, iv x), (2, iv y), (3, iv n), (4, iv (d : Int)), (5, iv i), (6, iv (v_bs x 16)), (7, iv c)]) rfl rfl rfl (by omega) rfl ?_
          refine y_go rfl rfl ?_
          refine y_lv (l' := [(0, .ref 0), (1, iv x), (2, iv y), (3, iv n), (4, iv (d : Int)), (5, iv i), (6, iv (v_bs x 16)), (7, iv c), (8, iv (b01 b)), (9, iv ((r + 1 : Nat) : Int))]) rfl ⟨rfl, rfl, rfl, rfl, rfl, rfl, rfl, rfl, rfl, rfl, trivial⟩ ?_
          have hdn2 : plL T = (dn ++ [l0]) ++ r0 := by rw [List.append_assoc]; exact hdn
          have hr2 : (dn ++ [l0]).length = r + 1 := by rw [List.length_append, List.length_singleton]; omega
          have hck : cK (KPc y n σ tl td T al d) (dn ++ [l0]) = cK (KPc y n σ tl td T al d) dn + 0 := by rw [cK_app, cK_0 _ hKP]; rfl
          have hf2 : (b01 b = 1 ∧ ∃ l2 r2, r0 = l2 :: r2 ∧ SJ S0 V0 y n al σ tl T (fun q => (bxs td l2).getD q 0) S5 V5) ∨ (b01 b = 0 ∧ r0 = []) := by
            rcases nxt_step htd hmo hT4 hdn e5 with ⟨a1, a2⟩ | ⟨l3, r3, a1, a2, a3⟩
            · exact Or.inr ⟨by rw [a2]; rfl, a1⟩
            · exact Or.inl ⟨by rw [a2]; rfl, l3, r3, a1, by rw [a3] at hJ5; exact hJ5⟩
          exact y_mono (ih (r + 1) (c) (b01 b) (dn ++ [l0]) r0 S5 V5 (by omega) (by omega) hdn2 hr2 (by rw [hck]; omega) (fun h0 => by have := hi0 h0; rw [hck]; omega) hf2 (SJ_I hJ5)) (by omega)
        · have hJ4 := SJ_S hJ b4
          have hKP : (KPc y n σ tl td T al d) l0 := b2
          refine y_nv ?_
          refine y_zne rfl rfl rfl (by decide) (fun g6 => absurd g6 (by decide)) (fun g6 => ?_)
          refine y_ld (x := iv i) rfl rfl (fun d => rfl) ?_
          refine y_zlt rfl rfl rfl (by omega) (fun g7 => ?_) (fun g7 => ?_)
          · refine y_inc (z := (c + 1)) (lv' := [(7, iv (c + 1)), (0, .ref 0), (1, iv x), (2, iv y), (3, iv n), (4, iv (d : Int)), (5, iv i), (6, iv (v_bs x 16)), (8, iv f), (9, iv (r : Int))]) rfl rfl rfl rfl rfl ?_
            refine y_ld (x := .ref 0) rfl rfl (fun d => rfl) ?_
            refine y_gR (i := 4) rfl rfl rfl (hCW 0 _ _ rfl) rfl ?_
            refine y_cV (as := [.ref 116]) rfl rfl rfl rfl rfl hSr.1 ⟨rfl, (Nat.le_of_ble_eq_true rfl), (Nat.le_of_ble_eq_true rfl)⟩ (by decide) (cs_turnsJ hT4 hJ4 (fun b L2 S5 V5 e5 hJ5 => ?_))
            refine y_nv ?_
            refine y_st (lv' := [(8, iv (b01 b)), (7, iv (c + 1)), (0, .ref 0), (1, iv x), (2, iv y), (3, iv n), (4, iv (d : Int)), (5, iv i), (6, iv (v_bs x 16)), (9, iv (r : Int))]) rfl rfl (fun d => rfl) ?_
            refine y_inc (z := ((r + 1 : Nat) : Int)) (lv' := [(9, iv ((r + 1 : Nat) : Int)), (8, iv (b01 b)), (7, iv (c + 1)), (0, .ref 0), (1, iv x), (2, iv y), (3, iv n), (4, iv (d : Int)), (5, iv i), (6, iv (v_bs x 16))]) rfl rfl rfl (by omega) rfl ?_
            refine y_go rfl rfl ?_
            refine y_lv (l' := [(0, .ref 0), (1, iv x), (2, iv y), (3, iv n), (4, iv (d : Int)), (5, iv i), (6, iv (v_bs x 16)), (7, iv (c + 1)), (8, iv (b01 b)), (9, iv ((r + 1 : Nat) : Int))]) rfl ⟨rfl, rfl, rfl, rfl, rfl, rfl, rfl, rfl, rfl, rfl, trivial⟩ ?_
            have hdn2 : plL T = (dn ++ [l0]) ++ r0 := by rw [List.append_assoc]; exact hdn
            have hr2 : (dn ++ [l0]).length = r + 1 := by rw [List.length_append, List.length_singleton]; omega
            have hck : cK (KPc y n σ tl td T al d) (dn ++ [l0]) = cK (KPc y n σ tl td T al d) dn + 1 := by rw [cK_app, cK_1 _ hKP]; rfl
            have hf2 : (b01 b = 1 ∧ ∃ l2 r2, r0 = l2 :: r2 ∧ SJ S0 V0 y n al σ tl T (fun q => (bxs td l2).getD q 0) S5 V5) ∨ (b01 b = 0 ∧ r0 = []) := by
              rcases nxt_step htd hmo hT4 hdn e5 with ⟨a1, a2⟩ | ⟨l3, r3, a1, a2, a3⟩
              · exact Or.inr ⟨by rw [a2]; rfl, a1⟩
              · exact Or.inl ⟨by rw [a2]; rfl, l3, r3, a1, by rw [a3] at hJ5; exact hJ5⟩
            exact y_mono (ih (r + 1) (c + 1) (b01 b) (dn ++ [l0]) r0 S5 V5 (by omega) (by omega) hdn2 hr2 (by rw [hck]; omega) (fun h0 => by have := hi0 h0; rw [hck]; omega) hf2 (SJ_I hJ5)) (by omega)
          · refine y_ld (x := iv i) rfl rfl (fun d => rfl) ?_
            refine y_ld (x := iv (v_bs x 16)) rfl rfl (fun d => rfl) ?_
            refine y_jge rfl rfl rfl (by omega) (fun g8 => ?_) (fun g8 => ?_)
            · refine y_ic rfl rfl ?_
              refine y_rI rfl (Or.inl rfl) ?_
              have ea : (-1 : Int) = ordA (KPc y n σ tl td T al d) td T i := (ord_f (by omega) hdn (hi0 (by omega)) hKP).2 (by omega)
              obtain ⟨c1, c2, c3, c4, c5, c6, c7⟩ := hJ4
              exact Eq.mpr (congrArg (fun z : Int => K u w (some (iv z)) S2 V4) ea) (k2 S2 V4 ⟨c4, c1.1, c3, c5⟩)
            · refine y_ld (x := .ref 0) rfl rfl (fun d => rfl) ?_
              refine y_gR (i := 4) rfl rfl rfl (hCW 0 _ _ rfl) rfl ?_
              refine y_gR (i := 3) rfl rfl rfl hSr.1 rfl ?_
              refine y_ld (x := iv i) rfl rfl (fun d => rfl) ?_
              refine y_ild (x := (V4 120 i.toNat)) (q := i.toNat) rfl rfl (cl_ia hC (k := 120) (N := 4) rfl) (by omega) (by decide) rfl rfl ?_
              refine y_go rfl rfl ?_
              refine y_rI rfl (Or.inl rfl) ?_
              have ea : (V4 120 i.toNat : Int) = ordA (KPc y n σ tl td T al d) td T i := by have h8 : V4 120 i.toNat = (((bxs td l0).getD i.toNat 0 : Nat) : Int) := (hJ4.2.2.2.2.2.2 i.toNat (by omega)).1; rw [h8, bxs_gd (by have := (pl_mem hT4 (l := l0) (by rw [hdn]; simp)).1; omega)]; exact (ord_f (by omega) hdn (hi0 (by omega)) hKP).1 (by omega)
              obtain ⟨c1, c2, c3, c4, c5, c6, c7⟩ := hJ4
              exact Eq.mpr (congrArg (fun z : Int => K u w (some (iv z)) S2 V4) ea) (k2 S2 V4 ⟨c4, c1.1, c3, c5⟩)
set_option maxRecDepth 100000 in
set_option maxHeartbeats 4000000 in
theorem cs_ordersJ (hC : ClF S) {tl : Nat → List p_Li} {cnt : Nat} {σ : Nat → Int} (hRS : RS S V 1 σ tl) (hSO : SO cnt σ) (hTO : ∀ i : Nat, (i : Int) < σ 0 → TO (tl i)) {lf : Value} (h116 : ce S 116 4 (S116l lf)) (hX : XsA S) (hSg : SgC V 0 0 4 (fun _ _ => 0) aw0) {x : Int} (hx : (-2147483648 ≤ x ∧ x < 2147483648)) {y : Int} (hy : (-2147483648 ≤ y ∧ y < 2147483648)) {n : Int} (hn : (-2147483648 ≤ n ∧ n < 2147483648)) {d : Int} (hd : (-2147483648 ≤ d ∧ d < 2147483648)) {i : Int} (hi : (-2147483648 ≤ i ∧ i < 2147483648)) (k0 : ¬ ((0 ≤ y ∧ y ≤ 4) ∧ -1 ≤ i) → K u w (some (iv (-1))) S V) (k1 : ((0 ≤ y ∧ y ≤ 4) ∧ -1 ≤ i) → ¬ ((0 ≤ x ∧ x ≤ 2 ^ (σ 1).toNat - 1) ∧ (2 ≤ v_bs x 16 ∧ v_bs x 16 ≤ 4) ∧ (0 ≤ n ∧ n ≤ 99) ∧ (1 ≤ d ∧ d ≤ 3)) → K u w (some (iv (-2))) S V) (k2 : ((0 ≤ y ∧ y ≤ 4) ∧ -1 ≤ i) → ((0 ≤ x ∧ x ≤ 2 ^ (σ 1).toNat - 1) ∧ (2 ≤ v_bs x 16 ∧ v_bs x 16 ≤ 4) ∧ (0 ≤ n ∧ n ≤ 99) ∧ (1 ≤ d ∧ d ≤ 3)) → ∀ B T al dn : Nat, σ 1 = (B : Int) → v_bs x 16 = (T : Int) → σ 5 = (al : Int) → d = (dn : Int) → ∀ S2 V2, SrE S V S2 V2 → K u w (some (iv (ordA (KPc y n σ tl (tdL x B) T al dn) (tdL x B) T i))) S2 V2) : y_R X 16 90 u w [.ref 0, iv x, iv y, iv n, iv d, iv i] S V K := by
  obtain ⟨n1, n2, n3, n4⟩ := hRS.1
  have hsz := hSO.1
  obtain ⟨al, hal⟩ : ∃ al : Nat, σ 5 = (al : Int) := ⟨(σ 5).toNat, by omega⟩
  have hal5 : al ≤ 5 := by omega
  have hpq : ∀ q : Nat, q < al → pkO (σ (1770 + 4 * q)) (σ (1770 + 4 * q + 1)) (σ (1770 + 4 * q + 2)) (σ (1770 + 4 * q + 3)) := fun q hq => hSO.2.2.2.2.2.2 q (by omega)
  have e15 : V 1 5 = σ 1 := n1.2.2.1
  obtain ⟨e, e1, e2, e3⟩ := z_us (x := x) (k := V 1 5) (by omega) (by omega)
  rw [e15] at e3
  have hp2 : 1 ≤ (2 ^ (σ 1).toNat : Int) ∧ (2 ^ (σ 1).toNat : Int) ≤ 256 := by
    rcases (show σ 1 = 0 ∨ σ 1 = 1 ∨ σ 1 = 2 ∨ σ 1 = 3 ∨ σ 1 = 4 ∨ σ 1 = 5 ∨ σ 1 = 6 ∨ σ 1 = 7 ∨ σ 1 = 8 by omega) with h | h | h | h | h | h | h | h | h <;> rw [h] <;> decide
  have hv16 := v_bs_le x 16
  refine y_ent (lv' := [(0, .ref 0), (1, iv x), (2, iv y), (3, iv n), (4, iv d), (5, iv i)]) (Nat.le_of_ble_eq_true rfl) rfl ?_
  refine y_ld (x := iv y) rfl rfl (fun d => rfl) ?_
  refine y_cS (as := [iv y]) rfl (by decide) rfl rfl rfl rfl ⟨(Nat.le_of_ble_eq_true rfl), (Nat.le_of_ble_eq_true rfl)⟩ (by decide) (cc_isForm (by omega) ?_)
  refine y_nv ?_
  refine y_beq rfl rfl rfl (fun g1 => ?_) (fun g1 => ?_)
  · refine y_ic rfl rfl ?_
    refine y_rI rfl (Or.inl rfl) ?_
    exact k0 (by omega)
  · refine y_ld (x := iv i) rfl rfl (fun d => rfl) ?_
    refine y_ic rfl rfl ?_
    refine y_jge rfl rfl rfl (by omega) (fun g2 => ?_) (fun g2 => ?_)
    · refine y_ld (x := iv x) rfl rfl (fun d => rfl) ?_
      refine y_cS (as := [iv x]) rfl (by decide) rfl rfl rfl rfl ⟨(Nat.le_of_ble_eq_true rfl), (Nat.le_of_ble_eq_true rfl)⟩ (by decide) (cc_bitCount ?_)
      refine y_nv ?_
      by_cases hx16 : 0 ≤ x ∧ x ≤ 65535
      · refine y_top (v' := iv (v_bs x 16)) (congrArg Value.int (z_bc_eq hx16)) ?_
        refine y_st (lv' := [(6, iv (v_bs x 16)), (0, .ref 0), (1, iv x), (2, iv y), (3, iv n), (4, iv d), (5, iv i)]) rfl rfl (fun d => rfl) ?_
        refine y_ld (x := iv x) rfl rfl (fun d => rfl) ?_
        refine y_ld (x := .ref 0) rfl rfl (fun d => rfl) ?_
        refine y_gR (i := 0) rfl rfl rfl (hC 0 _ _ rfl) rfl ?_
        refine y_gI (i := 5) (e := (V 1 5)) rfl rfl rfl (hC 1 _ _ rfl) rfl rfl ?_
        refine y_op (z := e) rfl rfl (fun d => rfl) e2 ?_
        refine y_zne rfl rfl rfl (by omega) (fun g3 => ?_) (fun g3 => ?_)
        · refine y_bi rfl rfl (by decide) ?_
          refine y_rI rfl (Or.inl rfl) ?_
          exact k1 (by omega) (by omega)
        · refine y_ld (x := iv (v_bs x 16)) rfl rfl (fun d => rfl) ?_
          refine y_ic rfl rfl ?_
          refine y_jlt rfl rfl rfl (by omega) (fun g4 => ?_) (fun g4 => ?_)
          · refine y_bi rfl rfl (by decide) ?_
            refine y_rI rfl (Or.inl rfl) ?_
            exact k1 (by omega) (by omega)
          · refine y_ld (x := iv (v_bs x 16)) rfl rfl (fun d => rfl) ?_
            refine y_ic rfl rfl ?_
            refine y_jle rfl rfl rfl (by omega) (fun g5 => ?_) (fun g5 => ?_)
            · refine y_ld (x := iv n) rfl rfl (fun d => rfl) ?_
              refine y_cS (as := [iv n]) rfl (by decide) rfl rfl rfl rfl ⟨(Nat.le_of_ble_eq_true rfl), (Nat.le_of_ble_eq_true rfl)⟩ (by decide) (cc_isN (by omega) ?_)
              refine y_nv ?_
              refine y_beq rfl rfl rfl (fun g6 => ?_) (fun g6 => ?_)
              · refine y_bi rfl rfl (by decide) ?_
                refine y_rI rfl (Or.inl rfl) ?_
                exact k1 (by omega) (by omega)
              · refine y_ld (x := iv d) rfl rfl (fun d => rfl) ?_
                refine y_cS (as := [iv d]) rfl (by decide) rfl rfl rfl rfl ⟨(Nat.le_of_ble_eq_true rfl), (Nat.le_of_ble_eq_true rfl)⟩ (by decide) (cc_isDepth (by omega) ?_)
                refine y_nv ?_
                refine y_bne rfl rfl rfl (fun g7 => ?_) (fun g7 => ?_)
                · obtain ⟨dn, rfl⟩ : ∃ dn : Nat, d = (dn : Int) := ⟨d.toNat, by omega⟩
                  obtain ⟨B, hB⟩ : ∃ B : Nat, σ 1 = (B : Int) := ⟨(σ 1).toNat, by omega⟩
                  rw [hB, Int.toNat_natCast] at e3 k2 hp2
                  have hbt := v_bs_top x B ⟨by omega, by omega⟩ 16 (by omega)
                  refine y_ld (x := .ref 0) rfl rfl (fun d => rfl) ?_
                  refine y_gR (i := 4) rfl rfl rfl (hC 0 _ _ rfl) rfl ?_
                  refine y_ld (x := .ref 0) rfl rfl (fun d => rfl) ?_
                  refine y_gR (i := 0) rfl rfl rfl (hC 0 _ _ rfl) rfl ?_
                  refine y_gR (i := 11) rfl rfl rfl (hC 1 _ _ rfl) rfl ?_
                  refine y_ld (x := .ref 0) rfl rfl (fun d => rfl) ?_
                  refine y_gR (i := 0) rfl rfl rfl (hC 0 _ _ rfl) rfl ?_
                  refine y_gI (i := 12) (e := (al : Int)) rfl rfl rfl (hC 1 _ _ rfl) rfl (n1.2.2.2.2.2.2.trans hal) ?_
                  refine y_ld (x := iv y) rfl rfl (fun d => rfl) ?_
                  refine y_ld (x := iv n) rfl rfl (fun d => rfl) ?_
                  refine y_cV (as := [.ref 116, .ref 7, iv (al : Int), iv y, iv n]) rfl rfl rfl rfl rfl h116 ⟨rfl, (Nat.le_of_ble_eq_true rfl), (Nat.le_of_ble_eq_true rfl)⟩ (by decide) (cs_begin (form := y) (N := n) (ts := (fun q => tl (σ (178 + (tdL x 0).getD q 0)).toNat)) hC h116 hX hRS hal (fun S1 V1 hSr1 hX1 q1 f1 hC1 => ?_))
                  refine y_n0 ?_
                  refine y_ic rfl rfl ?_
                  refine y_st (lv' := [(7, iv 0), (6, iv (v_bs x 16)), (0, .ref 0), (1, iv x), (2, iv y), (3, iv n), (4, iv (dn : Int)), (5, iv i)]) rfl rfl (fun d => rfl) ?_
                  refine y_lv (l' := [(0, .ref 0), (1, iv x), (2, iv y), (3, iv n), (4, iv (dn : Int)), (5, iv i), (6, iv (v_bs x 16)), (7, iv ((0 : Nat) : Int))]) rfl ⟨rfl, rfl, rfl, rfl, rfl, rfl, rfl, rfl, trivial⟩ ?_
                  refine y_mono (lp_ctoldJ (tl := tl) (F := 100000) hRS hSO hTO (by omega) (by omega) hB 9 0 S1 V1 (by omega) (by omega) ⟨hSr1, fun q hq => absurd hq (by show ¬ q < 0; omega), hX1, q1, f1, hC1, fun q hq => absurd hq (by show ¬ q < 0; omega)⟩ (fun S3 V3 hJ3 => ?_)) (by decide)
                  rw [← hbt] at hJ3
                  obtain ⟨T, hT⟩ : ∃ T : Nat, v_bs x 16 = (T : Int) := ⟨(v_bs x 16).toNat, by omega⟩
                  rw [hT, Int.toNat_natCast] at hJ3
                  refine y_ic rfl rfl ?_
                  refine y_st (lv' := [(7, iv 0), (0, .ref 0), (1, iv x), (2, iv y), (3, iv n), (4, iv (dn : Int)), (5, iv i), (6, iv (v_bs x 16))]) rfl rfl (fun d => rfl) ?_
                  refine y_ic rfl rfl ?_
                  refine y_st (lv' := [(8, iv 1), (7, iv 0), (0, .ref 0), (1, iv x), (2, iv y), (3, iv n), (4, iv (dn : Int)), (5, iv i), (6, iv (v_bs x 16))]) rfl rfl (fun d => rfl) ?_
                  refine y_ic rfl rfl ?_
                  refine y_st (lv' := [(9, iv 0), (8, iv 1), (7, iv 0), (0, .ref 0), (1, iv x), (2, iv y), (3, iv n), (4, iv (dn : Int)), (5, iv i), (6, iv (v_bs x 16))]) rfl rfl (fun d => rfl) ?_
                  refine y_lv (l' := [(0, .ref 0), (1, iv x), (2, iv y), (3, iv n), (4, iv (dn : Int)), (5, iv i), (6, iv (v_bs x 16)), (7, iv 0), (8, iv 1), (9, iv ((0 : Nat) : Int))]) rfl ⟨rfl, rfl, rfl, rfl, rfl, rfl, rfl, rfl, rfl, rfl, trivial⟩ ?_
                  have hT4 : 2 ≤ T ∧ T ≤ 4 := by omega
                  have hln : (tdL x B).length = T := by have := tdL_len x B; omega
                  have hhd := (plL_ok T (by omega) hT4.1).2.2.2
                  obtain ⟨r0, hr0⟩ : ∃ r0, plL T = List.range T :: r0 := by
                    cases hpl : plL T with
                    | nil => rw [hpl] at hhd; exact absurd hhd (by simp)
                    | cons a r => rw [hpl] at hhd; exact ⟨r, by rw [show a = List.range T from Option.some.inj hhd]⟩
                  have hJ0 : SJ S V y n al σ tl T (fun q => (bxs (tdL x B) (List.range T)).getD q 0) S3 V3 := SJ_c hJ3 (fun q hq => by
                    rw [bxs_gd (by rw [List.length_range]; exact hq), List.getD_eq_getElem?_getD (l := List.range T), List.getElem?_range hq]
                    rfl)
                  exact y_mono (lp_cordJ (F := 1000) (td := tdL x B) (tl := tl) (σ := σ) (by omega) hT hT4 hln (fun p q h8 h9 => tdL_mono x B p q h8 (by omega)) hal5 hpq (by omega) (by omega) (by omega) hSg (fun S2 V2 h => k2 (by omega) (by omega) B T al dn rfl hT hal rfl S2 V2 h) 26 0 0 1 [] (plL T) S3 V3 (by omega) (by omega) rfl rfl rfl (fun _ => rfl) (Or.inl ⟨rfl, _, r0, hr0, hJ0⟩) (SJ_I hJ3)) (by decide)
                · refine y_bi rfl rfl (by decide) ?_
                  refine y_rI rfl (Or.inl rfl) ?_
                  exact k1 (by omega) (by omega)
            · refine y_bi rfl rfl (by decide) ?_
              refine y_rI rfl (Or.inl rfl) ?_
              exact k1 (by omega) (by omega)
      · refine y_st (lv' := [(6, .int (z_bc (Int32.ofInt x))), (0, .ref 0), (1, iv x), (2, iv y), (3, iv n), (4, iv d), (5, iv i)]) rfl rfl (fun d => rfl) ?_
        refine y_ld (x := iv x) rfl rfl (fun d => rfl) ?_
        refine y_ld (x := .ref 0) rfl rfl (fun d => rfl) ?_
        refine y_gR (i := 0) rfl rfl rfl (hC 0 _ _ rfl) rfl ?_
        refine y_gI (i := 5) (e := (V 1 5)) rfl rfl rfl (hC 1 _ _ rfl) rfl rfl ?_
        refine y_op (z := e) rfl rfl (fun d => rfl) e2 ?_
        refine y_zne rfl rfl rfl (by omega) (fun g8 => ?_) (fun g8 => absurd g8 (by omega))
        refine y_bi rfl rfl (by decide) ?_
        refine y_rI rfl (Or.inl rfl) ?_
        exact k1 (by omega) (by omega)
    · refine y_ic rfl rfl ?_
      refine y_rI rfl (Or.inl rfl) ?_
      exact k0 (by omega)
end
end
section
/-! the orders of BOXES: the reference, what it counts -/
def KPm (form N : Int) (σ : Nat → Int) (tl : Nat → List p_Li) (td : List Nat) (T al d : Nat) (l : List Nat) : Prop := nbP (brkV form N σ (fun q => tl (σ (178 + (bxs td l).getD q 0)).toNat) T al) al d
def AJ (V0 : v_V) (T n : Nat) (td : List Nat) (P : List Nat → Prop) (dn : List (List Nat)) (p : List Nat) (W : v_V) : Prop := FrX V0 W ∧ W 170 37 = (T : Int) ∧ W 170 38 = (cK P dn : Int) ∧ (∀ i : Nat, i < T → W 189 i = ((td.getD i 0 : Nat) : Int)) ∧ (∀ i : Nat, i < n → W 190 i = ((td.getD (p.getD i 0) 0 : Nat) : Int)) ∧ (0 < cK P dn → ∀ i : Nat, i < T → W 191 i = ((td.getD ((fK P dn).getD i 0) 0 : Nat) : Int))
theorem AJ_n {V0 W : v_V} {T n n2 : Nat} {td : List Nat} {P : List Nat → Prop} {dn : List (List Nat)} {p p2 : List Nat} (h : AJ V0 T n td P dn p W) (hc : n2 ≤ n) (he : ∀ i, i < n2 → p2.getD i 0 = p.getD i 0) : AJ V0 T n2 td P dn p2 W := ⟨h.1, h.2.1, h.2.2.1, h.2.2.2.1, fun i hi => by rw [he i hi]; exact h.2.2.2.2.1 i (by omega), h.2.2.2.2.2⟩
theorem arrL_len {T : Nat} (hT : T ≤ 4) : ∀ (r : Nat) (p : List Nat) (us : Int), (arrL T r p us).length ≤ 4 ^ r
  | 0, p, us => Nat.le_refl 1
  | r + 1, p, us => by
    have h : ∀ n : Nat, (arrI T r p us n).length ≤ n * 4 ^ r := fun n => by
      induction n with
      | zero => exact Nat.zero_le _
      | succ n ih =>
        rw [arrI_s, List.length_append, Nat.succ_mul]
        refine Nat.add_le_add ih ?_
        split
        · exact arrL_len hT r _ _
        · exact Nat.zero_le _
    have h2 := h T
    have h3 : T * 4 ^ r ≤ 4 * 4 ^ r := Nat.mul_le_mul_right _ hT
    show (arrI T r p us T).length ≤ _
    rw [Nat.pow_succ, Nat.mul_comm]
    omega
theorem arrI_len {T : Nat} (hT : T ≤ 4) (r : Nat) (p : List Nat) (us : Int) : ∀ n : Nat, (arrI T r p us n).length ≤ n * 4 ^ r := fun n => by
  induction n with
  | zero => exact Nat.zero_le _
  | succ n ih =>
    rw [arrI_s, List.length_append, Nat.succ_mul]
    refine Nat.add_le_add ih ?_
    split
    · exact arrL_len hT r _ _
    · exact Nat.zero_le _
def qJ (X : Nat → List Int32) (S : m_H) (V0 : v_V) (form N d : Int) (T : Nat) (td : List Nat) (P : List Nat → Prop) (r n : Nat) : Prop := ∀ (us : Int) (C : Nat) (dn : List (List Nat)) (p : List Nat) (W : v_V) (K : v_K) (u w : Nat), 0 ≤ us → us < 65536 → p.length = n → (∀ a ∈ p, a < T) → dn.length ≤ C → C + 4 ^ r ≤ 300 → AJ V0 T n td P dn p W → (∀ W2, AJ V0 T n td P (dn ++ arrL T r p us) p W2 → K u w none S W2) → y_R X (11 + r) 163 u w [.ref 170, iv (n : Int), iv us, iv form, iv N, iv d] S W K
section
variable {X : Nat → List Int32} {u w : Nat} {S : m_H} {V : v_V} {K : v_K}
set_option maxRecDepth 100000 in
set_option maxHeartbeats 4000000 in
theorem lp_fstJ (hM : MdS S) {form N us : Int} {d T : Nat} (hT : T ≤ 4) {V1 : v_V} (h37 : V1 170 37 = (T : Int)) (h38 : 0 ≤ V1 170 38 ∧ V1 170 38 ≤ 300) {F : Nat} : ∀ (m : Nat) (i : Nat) (W : v_V), T - i < m → (i ≤ T) → (∀ k, k ≠ 191 → W k = V1 k) → (V1 170 38 ≠ 0 → W 191 = V1 191) → (V1 170 38 = 0 → ∀ q : Nat, q < i → W 191 q = V1 190 q) → (∀ W : v_V, (∀ k, k ≠ 191 → W k = V1 k) → (V1 170 38 ≠ 0 → W 191 = V1 191) → (V1 170 38 = 0 → ∀ q : Nat, q < T → W 191 q = V1 190 q) → y_E X 10 163 F u w 108 [(0, .ref 170), (1, iv (T : Int)), (2, iv us), (3, iv form), (4, iv N), (5, iv (d : Int))] [] S W K) → y_E X 10 163 (40 * m + F) u w 72 [(0, .ref 170), (1, iv (T : Int)), (2, iv us), (3, iv form), (4, iv N), (5, iv (d : Int)), (6, iv (i : Int))] [] S W K := by
  intro m
  induction m with
  | zero => intros; omega
  | succ m ih =>
    intro i W hm hI hQ hQ1 hQ0 hx
    refine y_mono (F' := (40 * m + F) + 40) ?_ (by omega)
    refine y_ld (x := iv (i : Int)) rfl rfl (fun d => rfl) ?_
    have h170 : W 170 = V1 170 := hQ 170 (by decide)
    refine y_ld (x := .ref 170) rfl rfl (fun d => rfl) ?_
    refine y_gI (i := 37) (e := (T : Int)) rfl rfl rfl (md170 hM) rfl (by rw [h170]; exact h37) ?_
    refine y_jge rfl rfl rfl (by omega) (fun g1 => ?_) (fun g1 => ?_)
    · refine y_lv (l' := [(0, .ref 170), (1, iv (T : Int)), (2, iv us), (3, iv form), (4, iv N), (5, iv (d : Int))]) rfl ⟨rfl, rfl, rfl, rfl, rfl, rfl, trivial⟩ ?_
      exact y_mono (hx W hQ hQ1 (fun h0 q hq => hQ0 h0 q (by omega))) (by omega)
    · refine y_ld (x := .ref 170) rfl rfl (fun d => rfl) ?_
      refine y_gI (i := 38) (e := (V1 170 38)) rfl rfl rfl (md170 hM) rfl (by rw [h170]) ?_
      refine y_zne rfl rfl rfl (by omega) (fun g2 => ?_) (fun g2 => ?_)
      · refine y_lv (l' := [(0, .ref 170), (1, iv (T : Int)), (2, iv us), (3, iv form), (4, iv N), (5, iv (d : Int))]) rfl ⟨rfl, rfl, rfl, rfl, rfl, rfl, trivial⟩ ?_
        exact y_mono (hx W hQ hQ1 (fun h0 q hq => hQ0 h0 q (by omega))) (by omega)
      · refine y_ld (x := .ref 170) rfl rfl (fun d => rfl) ?_
        refine y_gR (i := 36) rfl rfl rfl (md170 hM) rfl ?_
        refine y_ld (x := iv (i : Int)) rfl rfl (fun d => rfl) ?_
        refine y_ld (x := .ref 170) rfl rfl (fun d => rfl) ?_
        refine y_gR (i := 35) rfl rfl rfl (md170 hM) rfl ?_
        refine y_ld (x := iv (i : Int)) rfl rfl (fun d => rfl) ?_
        refine y_ild (x := (W 190 i)) (q := i) rfl rfl (md190 hM) (by omega) (by decide) (by omega) rfl ?_
        refine y_ist (q := i) rfl rfl (md191 hM) (by omega) (by decide) (by omega) ?_
        refine y_inc (z := ((i + 1 : Nat) : Int)) (lv' := [(6, iv ((i + 1 : Nat) : Int)), (0, .ref 170), (1, iv (T : Int)), (2, iv us), (3, iv form), (4, iv N), (5, iv (d : Int))]) rfl rfl rfl (by omega) rfl ?_
        refine y_go rfl rfl ?_
        refine y_lv (l' := [(0, .ref 170), (1, iv (T : Int)), (2, iv us), (3, iv form), (4, iv N), (5, iv (d : Int)), (6, iv ((i + 1 : Nat) : Int))]) rfl ⟨rfl, rfl, rfl, rfl, rfl, rfl, rfl, trivial⟩ ?_
        refine y_mono (ih (i + 1) (v_up W 191 i (W 190 i)) (by omega) (by omega) (fun k hk => by rw [v_up_ne hk]; exact hQ k hk) (fun h0 => absurd h0 (by omega)) (fun h0 q hq => ?_) hx) (by omega)
        rcases (show q < i ∨ q = i by omega) with h7 | h7
        · rw [v_up_ni (by omega)]; exact hQ0 h0 q h7
        · rw [h7, v_up_eq]; exact congrFun (hQ 190 (by decide)) i
set_option maxRecDepth 100000 in
set_option maxHeartbeats 4000000 in
theorem lp_thrJ (hM : MdS S) {tl : Nat → List p_Li} {cnt : Nat} (hSO : SO cnt (V 171)) (hTO : ∀ i : Nat, (i : Int) < V 171 0 → TO (tl i)) (hMTs : ∀ i : Nat, (i : Int) < V 171 0 → MT V i (tl i)) {form N : Int} {d : Nat} (hf : 0 ≤ form ∧ form ≤ 4) (hN : 0 ≤ N ∧ N ≤ 99) (hd : d ≤ 3) {T : Nat} (hT : T ≤ 4) {us : Int} {V1 : v_V} (h190o : ∀ q : Nat, q < T → 0 ≤ V1 190 q ∧ V1 190 q < V 171 1) {F : Nat} : ∀ (m : Nat) (i : Nat) (W : v_V), T - i < m → (i ≤ T) → (FrX V W) → (W 170 27 = (T : Int) ∧ W 170 37 = (T : Int) ∧ W 170 38 = V1 170 38) → (W 189 = V1 189) → (W 190 = V1 190) → (W 191 = V1 191) → (∀ q : Nat, q < i → W 182 q = V 171 (178 + (V1 190 q).toNat)) → (∀ W : v_V, FrX V W → (W 170 27 = (T : Int) ∧ W 170 37 = (T : Int) ∧ W 170 38 = V1 170 38) → W 189 = V1 189 → W 190 = V1 190 → (∀ q : Nat, q < T → W 182 q = V 171 (178 + (V1 190 q).toNat)) → W 191 = V1 191 → y_E X 10 163 F u w 57 [(0, .ref 170), (1, iv (T : Int)), (2, iv us), (3, iv form), (4, iv N), (5, iv (d : Int))] [] S W K) → y_E X 10 163 (40 * m + F) u w 19 [(0, .ref 170), (1, iv (T : Int)), (2, iv us), (3, iv form), (4, iv N), (5, iv (d : Int)), (6, iv (i : Int))] [] S W K := by
  intro m
  induction m with
  | zero => intros; omega
  | succ m ih =>
    intro i W hm hI hF h27 h189 h190 h191 h182 hx
    refine y_mono (F' := (40 * m + F) + 40) ?_ (by omega)
    refine y_ld (x := iv (i : Int)) rfl rfl (fun d => rfl) ?_
    refine y_ld (x := .ref 170) rfl rfl (fun d => rfl) ?_
    refine y_gI (i := 37) (e := (T : Int)) rfl rfl rfl (md170 hM) rfl h27.2.1 ?_
    refine y_jge rfl rfl rfl (by omega) (fun g1 => ?_) (fun g1 => ?_)
    · refine y_lv (l' := [(0, .ref 170), (1, iv (T : Int)), (2, iv us), (3, iv form), (4, iv N), (5, iv (d : Int))]) rfl ⟨rfl, rfl, rfl, rfl, rfl, rfl, trivial⟩ ?_
      exact y_mono (hx W hF h27 h189 h190 (fun q hq => h182 q (by omega)) h191) (by omega)
    · have hsz := hSO.1
      have hor := h190o i (by omega)
      have h171 : W 171 = V 171 := hF.1 171 (by omega)
      have e190 : W 190 i = V1 190 i := by rw [h190]
      refine y_ld (x := .ref 170) rfl rfl (fun d => rfl) ?_
      refine y_gR (i := 26) rfl rfl rfl (md170 hM) rfl ?_
      refine y_ld (x := iv (i : Int)) rfl rfl (fun d => rfl) ?_
      refine y_ld (x := .ref 170) rfl rfl (fun d => rfl) ?_
      refine y_gR (i := 1) rfl rfl rfl (md170 hM) rfl ?_
      refine y_si rfl rfl (by decide) ?_
      refine y_ld (x := .ref 170) rfl rfl (fun d => rfl) ?_
      refine y_gR (i := 35) rfl rfl rfl (md170 hM) rfl ?_
      refine y_ld (x := iv (i : Int)) rfl rfl (fun d => rfl) ?_
      refine y_ild (x := (V1 190 i)) (q := i) rfl rfl (md190 hM) (by omega) (by decide) (by omega) e190 ?_
      refine y_add (z := (178 + V1 190 i)) rfl rfl (by omega) ?_
      refine y_ild (x := (V 171 (178 + (V1 190 i).toNat))) (q := (178 + (V1 190 i).toNat)) rfl rfl (md171 hM) (by omega) (by decide) (by omega) (by rw [h171]) ?_
      refine y_ist (q := i) rfl rfl (md182 hM) (by omega) (by decide) (by omega) ?_
      refine y_inc (z := ((i + 1 : Nat) : Int)) (lv' := [(6, iv ((i + 1 : Nat) : Int)), (0, .ref 170), (1, iv (T : Int)), (2, iv us), (3, iv form), (4, iv N), (5, iv (d : Int))]) rfl rfl rfl (by omega) rfl ?_
      refine y_go rfl rfl ?_
      refine y_lv (l' := [(0, .ref 170), (1, iv (T : Int)), (2, iv us), (3, iv form), (4, iv N), (5, iv (d : Int)), (6, iv ((i + 1 : Nat) : Int))]) rfl ⟨rfl, rfl, rfl, rfl, rfl, rfl, rfl, trivial⟩ ?_
      refine y_mono (ih (i + 1) (v_up W 182 i (V 171 (178 + (V1 190 i).toNat))) (by omega) (by omega) (FrX_tr hF ⟨fun k hk => v_up_ne (by omega), fun i2 _ => by rw [v_up_ne (by decide)]⟩) (by rw [v_up_ne (by decide)]; exact h27) (by rw [v_up_ne (by decide)]; exact h189) (by rw [v_up_ne (by decide)]; exact h190) (by rw [v_up_ne (by decide)]; exact h191) (fun q hq => ?_) hx) (by omega)
      rcases (show q < i ∨ q = i by omega) with h7 | h7
      · rw [v_up_ni (by omega)]; exact h182 q h7
      · rw [h7, v_up_eq]
set_option maxRecDepth 100000 in
set_option maxHeartbeats 4000000 in
theorem ct_arrJ0 (hM : MdS S) {tl : Nat → List p_Li} {cnt : Nat} (hSO : SO cnt (V 171)) (hTO : ∀ i : Nat, (i : Int) < V 171 0 → TO (tl i)) (hMTs : ∀ i : Nat, (i : Int) < V 171 0 → MT V i (tl i)) {form N : Int} {d : Nat} (hf : 0 ≤ form ∧ form ≤ 4) (hN : 0 ≤ N ∧ N ≤ 99) (hd : d ≤ 3) {T : Nat} (hT : T ≤ 4) {td : List Nat} (htd : ∀ i : Nat, i < T → (td.getD i 0 : Int) < V 171 1) {al : Nat} (hal : V 171 5 = (al : Int)) {us : Int} {C : Nat} {dn : List (List Nat)} {p : List Nat} (hpl : p.length = T) (hp : ∀ a ∈ p, a < T) (hdC : dn.length ≤ C) (hC3 : C + 1 ≤ 300) {W : v_V} (hA : AJ V T T td (KPm form N (V 171) tl td T al d) dn p W) (k : ∀ W2, AJ V T T td (KPm form N (V 171) tl td T al d) (dn ++ [p]) p W2 → K u w none S W2) : y_R X 11 163 u w [.ref 170, iv (T : Int), iv us, iv form, iv N, iv (d : Int)] S W K := by
  obtain ⟨h1, h2, h3, h4, h5, h6⟩ := hA
  refine y_ent (lv' := [(0, .ref 170), (1, iv (T : Int)), (2, iv us), (3, iv form), (4, iv N), (5, iv (d : Int))]) (Nat.le_of_ble_eq_true rfl) rfl ?_
  refine y_ld (x := iv (T : Int)) rfl rfl (fun d => rfl) ?_
  refine y_ld (x := .ref 170) rfl rfl (fun d => rfl) ?_
  refine y_gI (i := 37) (e := (T : Int)) rfl rfl rfl (md170 hM) rfl h2 ?_
  refine y_jne rfl rfl rfl (by omega) (fun g1 => absurd rfl g1) (fun g1 => ?_)
  refine y_ld (x := .ref 170) rfl rfl (fun d => rfl) ?_
  refine y_ld (x := .ref 170) rfl rfl (fun d => rfl) ?_
  refine y_gI (i := 37) (e := (T : Int)) rfl rfl rfl (md170 hM) rfl h2 ?_
  refine y_pI (i := 27) rfl rfl rfl (md170 hM) rfl rfl ?_
  refine y_ic rfl rfl ?_
  refine y_st (lv' := [(6, iv 0), (0, .ref 170), (1, iv (T : Int)), (2, iv us), (3, iv form), (4, iv N), (5, iv (d : Int))]) rfl rfl (fun d => rfl) ?_
  refine y_lv (l' := [(0, .ref 170), (1, iv (T : Int)), (2, iv us), (3, iv form), (4, iv N), (5, iv (d : Int)), (6, iv ((0 : Nat) : Int))]) rfl ⟨rfl, rfl, rfl, rfl, rfl, rfl, rfl, trivial⟩ ?_
  have hpe : ∀ q : Nat, q < T → p.getD q 0 < T := fun q hq => hp _ (gd_mem (by omega))
  have h5r : ∀ q : Nat, q < T → 0 ≤ W 190 q ∧ W 190 q < V 171 1 := fun q hq => by rw [h5 q hq]; have := htd _ (hpe q hq); omega
  refine y_mono (lp_thrJ (F := 2000) (V1 := W) hM hSO hTO hMTs hf hN hd hT h5r 5 0 (v_up W 170 27 (T : Int)) (by omega) (by omega) (FrX_tr h1 ⟨fun k hk => v_up_ne (by omega), fun i hi => v_up_ni (by omega)⟩) ⟨v_up_eq _ _ _ _, (v_up_ni (by decide)).trans h2, v_up_ni (by decide)⟩ (v_up_ne (by decide)) (v_up_ne (by decide)) (v_up_ne (by decide)) (fun q hq => absurd hq (by omega)) (fun W1 f1 f2 f3 f4 f5 f6 => ?_)) (by decide)
  refine y_ld (x := .ref 170) rfl rfl (fun d => rfl) ?_
  refine y_ld (x := iv form) rfl rfl (fun d => rfl) ?_
  refine y_ld (x := iv N) rfl rfl (fun d => rfl) ?_
  refine y_ld (x := iv (d : Int)) rfl rfl (fun d => rfl) ?_
  have hsz := hSO.1
  have e171 : W1 171 = V 171 := f1.1 171 (by omega)
  have hcl := cK_le (KPm form N (V 171) tl td T al d) dn
  have hbx : ∀ q : Nat, q < T → (bxs td p).getD q 0 = (W 190 q).toNat := fun q hq => by rw [bxs_gd (by omega), h5 q hq, Int.toNat_natCast]
  have hvt : ∀ q : Nat, q < T → 0 ≤ V 171 (178 + (W 190 q).toNat) ∧ V 171 (178 + (W 190 q).toNat) < V 171 0 := fun q hq => by
    have := h5r q hq
    have := hSO.2.2.1 (W 190 q).toNat (by omega)
    exact ⟨this.2.1.1, this.2.1.2.2 (by omega)⟩
  have hth : ThM W1 T (fun q => tl (V 171 (178 + (bxs td p).getD q 0)).toNat) := ⟨f2.1, fun q hq => ⟨(V 171 (178 + (W 190 q).toNat)).toNat, by have := hvt q hq; omega, by rw [f5 q hq]; have := hvt q hq; omega, by dsimp only; rw [hbx q hq]; exact MT_x (hMTs _ (by have := hvt q hq; omega)) (fun k a b => f1.1 k (by omega))⟩⟩
  have hpq : ∀ q : Nat, q < al → pkO (V 171 (1770 + 4 * q)) (V 171 (1770 + 4 * q + 1)) (V 171 (1770 + 4 * q + 2)) (V 171 (1770 + 4 * q + 3)) := fun q hq => hSO.2.2.2.2.2.2 q (by omega)
  refine y_cV (as := [.ref 170, iv form, iv N, iv (d : Int)]) rfl rfl rfl rfl rfl (md170 hM) ⟨rfl, (Nat.le_of_ble_eq_true rfl), (Nat.le_of_ble_eq_true rfl)⟩ (by decide) (ct_breach (V := W1) (al := al) (ts := (fun q => tl (V 171 (178 + (bxs td p).getD q 0)).toNat)) hM hT (fun q hq => by rw [hbx q hq]; exact hTO _ (by have := hvt q hq; omega)) (by omega) (by rw [e171]; exact hpq) (by omega) (by omega) (by rw [e171]; exact hal) hth (by omega) (fun l v V2 q1 q2 q3 q4 => ?_) (fun q2 V2 q4 => ?_))
  · have hl1 := q2.1
    rw [e171] at q2
    have hKP : ¬ (KPm form N (V 171) tl td T al d) p := fun h => h l q2.1 q1 v q2.2.1 q2.2.2.1
    refine y_nv ?_
    refine y_zne rfl rfl rfl (by omega) (fun g2 => ?_) (fun g2 => absurd g2 (by omega))
    refine y_ret rfl (fun d => rfl) ?_
    have hck : cK (KPm form N (V 171) tl td T al d) (dn ++ [p]) = cK (KPm form N (V 171) tl td T al d) dn + 0 := by rw [cK_app, cK_0 _ hKP]; rfl
    have e37 : V2 170 37 = (T : Int) := by rw [q4.2 37 (by decide)]; exact f2.2.1
    have e38 : V2 170 38 = W 170 38 := by rw [q4.2 38 (by decide)]; exact f2.2.2
    have e189 : V2 189 = W 189 := by rw [q4.1 189 (by decide) (by decide) (by decide) (by decide) (by decide)]; exact f3
    have e190 : V2 190 = W 190 := by rw [q4.1 190 (by decide) (by decide) (by decide) (by decide) (by decide)]; exact f4
    have hfx := FrX_tr f1 (FrX_B q4)
    have e191 : V2 191 = W 191 := by rw [q4.1 191 (by decide) (by decide) (by decide) (by decide) (by decide)]; exact f6
    exact k V2 ⟨hfx, e37, by rw [e38, hck]; omega, by rw [e189]; exact h4, by rw [e190]; exact h5, fun h0 => by rw [hck] at h0; rw [fK_a1 _ _ (by omega), e191]; exact h6 (by omega)⟩
  · rw [e171] at q2
    have hKP : (KPm form N (V 171) tl td T al d) p := q2
    refine y_nv ?_
    refine y_zne rfl rfl rfl (by decide) (fun g3 => absurd g3 (by decide)) (fun g3 => ?_)
    refine y_ic rfl rfl ?_
    refine y_st (lv' := [(6, iv 0), (0, .ref 170), (1, iv (T : Int)), (2, iv us), (3, iv form), (4, iv N), (5, iv (d : Int))]) rfl rfl (fun d => rfl) ?_
    have e37 : V2 170 37 = (T : Int) := by rw [q4.2 37 (by decide)]; exact f2.2.1
    have e38 : V2 170 38 = W 170 38 := by rw [q4.2 38 (by decide)]; exact f2.2.2
    have e189 : V2 189 = W 189 := by rw [q4.1 189 (by decide) (by decide) (by decide) (by decide) (by decide)]; exact f3
    have e190 : V2 190 = W 190 := by rw [q4.1 190 (by decide) (by decide) (by decide) (by decide) (by decide)]; exact f4
    have hfx := FrX_tr f1 (FrX_B q4)
    have e191 : V2 191 = W 191 := by rw [q4.1 191 (by decide) (by decide) (by decide) (by decide) (by decide)]; exact f6
    refine y_lv (l' := [(0, .ref 170), (1, iv (T : Int)), (2, iv us), (3, iv form), (4, iv N), (5, iv (d : Int)), (6, iv ((0 : Nat) : Int))]) rfl ⟨rfl, rfl, rfl, rfl, rfl, rfl, rfl, trivial⟩ ?_
    refine y_mono (lp_fstJ (F := 500) (V1 := V2) hM hT e37 (by rw [e38]; omega) 5 0 V2 (by omega) (by omega) (fun k _ => rfl) (fun _ => rfl) (fun _ q hq => absurd hq (by omega)) (fun W2 w1 w2 w3 => ?_)) (by decide)
    refine y_ld (x := .ref 170) rfl rfl (fun d => rfl) ?_
    refine y_in rfl rfl (fun d => rfl) ?_
    refine y_gI (i := 38) (e := (W 170 38)) rfl rfl rfl (md170 hM) rfl (by rw [w1 170 (by decide)]; exact e38) ?_
    refine y_ic rfl rfl ?_
    refine y_add (z := ((W 170 38) + 1)) rfl rfl rfl ?_
    refine y_pI (i := 38) rfl rfl rfl (md170 hM) rfl rfl ?_
    refine y_ret rfl (fun d => rfl) ?_
    have hck : cK (KPm form N (V 171) tl td T al d) (dn ++ [p]) = cK (KPm form N (V 171) tl td T al d) dn + 1 := by rw [cK_app, cK_1 _ hKP]; rfl
    have t170 : ∀ i : Nat, i ≠ 38 → ((v_up W2 170 38 ((W 170 38) + 1))) 170 i = V2 170 i := fun i hi => by rw [v_up_ni hi, w1 170 (by decide)]
    refine k _ ⟨FrX_tr hfx ⟨fun k hk => by rw [v_up_ne (by omega), w1 k (by omega)], fun i hi => t170 i (by omega)⟩, (t170 37 (by decide)).trans e37, by rw [v_up_eq, hck]; omega, by rw [v_up_ne (by decide), w1 189 (by decide), e189]; exact h4, by rw [v_up_ne (by decide), w1 190 (by decide), e190]; exact h5, fun h0 i hi => ?_⟩
    rw [v_up_ne (by decide)]
    by_cases hc0 : cK (KPm form N (V 171) tl td T al d) dn = 0
    · rw [fK_a0 _ _ hc0, fK_1 _ hKP, w3 (by rw [e38]; omega) i hi, e190]; exact h5 i hi
    · rw [fK_a1 _ _ (by omega), w2 (by rw [e38]; omega), e191]; exact h6 (by omega) i hi
set_option maxRecDepth 100000 in
set_option maxHeartbeats 4000000 in
theorem lp_arrJ (hM : MdS S) {tl : Nat → List p_Li} {cnt : Nat} (hSO : SO cnt (V 171)) (hTO : ∀ i : Nat, (i : Int) < V 171 0 → TO (tl i)) (hMTs : ∀ i : Nat, (i : Int) < V 171 0 → MT V i (tl i)) {form N : Int} {d : Nat} (hf : 0 ≤ form ∧ form ≤ 4) (hN : 0 ≤ N ∧ N ≤ 99) (hd : d ≤ 3) {T : Nat} (hT : T ≤ 4) {td : List Nat} (htd : ∀ i : Nat, i < T → (td.getD i 0 : Int) < V 171 1) {al : Nat} (hal : V 171 5 = (al : Int)) {P : List Nat → Prop} {r n C : Nat} (hnT : n + (r + 1) = T) {us : Int} (hus : 0 ≤ us ∧ us < 65536) {dn : List (List Nat)} {p : List Nat} (hpl : p.length = n) (hp : ∀ a ∈ p, a < T) (hdC : dn.length ≤ C) (hC3 : C + 4 * 4 ^ r ≤ 300) (hrec : qJ X S V form N (d : Int) T td P r (n + 1)) (k : ∀ W2, AJ V T n td P (dn ++ arrI T r p us T) p W2 → K u w none S W2) {F : Nat} : ∀ (m : Nat) (i : Nat) (W : v_V), T - i < m → (i ≤ T) → (AJ V T n td P (dn ++ arrI T r p us i) p W) → y_E X (11 + r) 163 (60 * m + F) u w 122 [(0, .ref 170), (1, iv (n : Int)), (2, iv us), (3, iv form), (4, iv N), (5, iv (d : Int)), (6, iv (i : Int))] [] S W K := by
  intro m
  induction m with
  | zero => intros; omega
  | succ m ih =>
    intro i W hm hI hA 
    refine y_mono (F' := (60 * m + F) + 60) ?_ (by omega)
    refine y_ld (x := iv (i : Int)) rfl rfl (fun d => rfl) ?_
    refine y_ld (x := .ref 170) rfl rfl (fun d => rfl) ?_
    refine y_gI (i := 37) (e := (T : Int)) rfl rfl rfl (md170 hM) rfl hA.2.1 ?_
    refine y_jge rfl rfl rfl (by omega) (fun g1 => ?_) (fun g1 => ?_)
    · refine y_ret rfl (fun d => rfl) ?_
      obtain rfl : i = T := by omega
      exact k W hA
    · have hb01 := v_bit01 us i
      have hA0 := hA
      obtain ⟨h1, h2, h3, h4, h5, h6⟩ := hA0
      have h4i := h4 i (by omega)
      have hti := htd i (by omega)
      have hsz := hSO.1
      have hmu : (i + 1) * 4 ^ r = i * 4 ^ r + 4 ^ r := Nat.succ_mul i (4 ^ r)
      have hm4 : (i + 1) * 4 ^ r ≤ 4 * 4 ^ r := Nat.mul_le_mul_right _ (by omega)
      have hil := arrI_len hT r p us i
      have hu2 := v_o2_lt16 hus (c := i) (by omega)
      refine y_ld (x := iv us) rfl rfl (fun d => rfl) ?_
      refine y_ld (x := iv (i : Int)) rfl rfl (fun d => rfl) ?_
      refine y_op (z := (us / 2 ^ i)) rfl rfl (fun d => rfl) (v_shr (by omega) (by omega)) ?_
      refine y_ic rfl rfl ?_
      refine y_op (z := (us / 2 ^ i % 2)) rfl rfl (fun d => rfl) (v_and1 (Int.ediv_nonneg (by omega) (Int.le_of_lt (v_p2 _)))) ?_
      refine y_zne rfl rfl rfl (by omega) (fun g2 => ?_) (fun g2 => ?_)
      · refine y_inc (z := ((i + 1 : Nat) : Int)) (lv' := [(6, iv ((i + 1 : Nat) : Int)), (0, .ref 170), (1, iv (n : Int)), (2, iv us), (3, iv form), (4, iv N), (5, iv (d : Int))]) rfl rfl rfl (by omega) rfl ?_
        refine y_go rfl rfl ?_
        refine y_lv (l' := [(0, .ref 170), (1, iv (n : Int)), (2, iv us), (3, iv form), (4, iv N), (5, iv (d : Int)), (6, iv ((i + 1 : Nat) : Int))]) rfl ⟨rfl, rfl, rfl, rfl, rfl, rfl, rfl, trivial⟩ ?_
        have e8 : dn ++ arrI T r p us (i + 1) = dn ++ arrI T r p us i := by rw [arrI_s, if_neg (by omega), List.append_nil]
        refine y_mono (ih (i + 1) W (by omega) (by omega) (by rw [e8]; exact hA)) (by omega)
      · refine y_ld (x := .ref 170) rfl rfl (fun d => rfl) ?_
        refine y_gR (i := 35) rfl rfl rfl (md170 hM) rfl ?_
        refine y_ld (x := iv (n : Int)) rfl rfl (fun d => rfl) ?_
        refine y_ld (x := .ref 170) rfl rfl (fun d => rfl) ?_
        refine y_gR (i := 34) rfl rfl rfl (md170 hM) rfl ?_
        refine y_ld (x := iv (i : Int)) rfl rfl (fun d => rfl) ?_
        refine y_ild (x := (W 189 i)) (q := i) rfl rfl (md189 hM) (by omega) (by decide) (by omega) rfl ?_
        refine y_ist (q := n) rfl rfl (md190 hM) (by omega) (by decide) (by omega) ?_
        refine y_ld (x := .ref 170) rfl rfl (fun d => rfl) ?_
        refine y_ld (x := iv (n : Int)) rfl rfl (fun d => rfl) ?_
        refine y_ic rfl rfl ?_
        refine y_add (z := ((n + 1 : Nat) : Int)) rfl rfl (by omega) ?_
        refine y_ld (x := iv us) rfl rfl (fun d => rfl) ?_
        refine y_ic rfl rfl ?_
        refine y_ld (x := iv (i : Int)) rfl rfl (fun d => rfl) ?_
        refine y_op (z := (2 ^ i)) rfl rfl (fun d => rfl) (v_shl1 (k := (i : Int)) (by omega)) ?_
        refine y_op (z := (v_o2 us i)) rfl rfl (fun d => rfl) (v_or_o2 (by omega) i) ?_
        refine y_ld (x := iv form) rfl rfl (fun d => rfl) ?_
        refine y_ld (x := iv N) rfl rfl (fun d => rfl) ?_
        refine y_ld (x := iv (d : Int)) rfl rfl (fun d => rfl) ?_
        have hA1 : AJ V T (n + 1) td P (dn ++ arrI T r p us i) (p ++ [i]) (v_up W 190 n (W 189 i)) := ⟨FrX_tr h1 ⟨fun k hk => v_up_ne (by omega), fun i2 _ => by rw [v_up_ne (by decide)]⟩, by rw [v_up_ne (by decide)]; exact h2, by rw [v_up_ne (by decide)]; exact h3, by rw [v_up_ne (by decide)]; exact h4, fun q hq => by
      rcases (show q < n ∨ q = n by omega) with h7 | h7
      · rw [v_up_ni (by omega), gd_lt (by omega)]; exact h5 q h7
      · rw [h7, v_up_eq, ← hpl, gd_eq]; exact h4i, by rw [v_up_ne (by decide)]; exact h6⟩
        refine y_cV (as := [.ref 170, iv ((n + 1 : Nat) : Int), iv (v_o2 us i), iv form, iv N, iv (d : Int)]) rfl rfl rfl rfl rfl (md170 hM) ⟨rfl, (Nat.le_of_ble_eq_true rfl), (Nat.le_of_ble_eq_true rfl)⟩ (by omega) (hrec (v_o2 us i) (C + i * 4 ^ r) (dn ++ arrI T r p us i) (p ++ [i]) _ _ _ _ hu2.1 hu2.2 (by rw [List.length_append, List.length_singleton]; omega) (fun a ha => by rcases List.mem_append.mp ha with h8 | h8; exact hp a h8; rw [List.mem_singleton.mp h8]; omega) (by rw [List.length_append]; omega) (by omega) hA1 (fun W2 a1 => ?_))
        refine y_n0 ?_
        refine y_inc (z := ((i + 1 : Nat) : Int)) (lv' := [(6, iv ((i + 1 : Nat) : Int)), (0, .ref 170), (1, iv (n : Int)), (2, iv us), (3, iv form), (4, iv N), (5, iv (d : Int))]) rfl rfl rfl (by omega) rfl ?_
        refine y_go rfl rfl ?_
        refine y_lv (l' := [(0, .ref 170), (1, iv (n : Int)), (2, iv us), (3, iv form), (4, iv N), (5, iv (d : Int)), (6, iv ((i + 1 : Nat) : Int))]) rfl ⟨rfl, rfl, rfl, rfl, rfl, rfl, rfl, trivial⟩ ?_
        have e8 : dn ++ arrI T r p us (i + 1) = dn ++ arrI T r p us i ++ arrL T r (p ++ [i]) (v_o2 us i) := by rw [arrI_s, if_pos (by omega), List.append_assoc]
        refine y_mono (ih (i + 1) W2 (by omega) (by omega) (by rw [e8]; exact AJ_n a1 (by omega) (fun q hq => (gd_lt (by omega)).symm))) (by omega)
set_option maxRecDepth 100000 in
set_option maxHeartbeats 4000000 in
theorem ct_arrJ (hM : MdS S) {tl : Nat → List p_Li} {cnt : Nat} (hSO : SO cnt (V 171)) (hTO : ∀ i : Nat, (i : Int) < V 171 0 → TO (tl i)) (hMTs : ∀ i : Nat, (i : Int) < V 171 0 → MT V i (tl i)) {form N : Int} {d : Nat} (hf : 0 ≤ form ∧ form ≤ 4) (hN : 0 ≤ N ∧ N ≤ 99) (hd : d ≤ 3) {T : Nat} (hT : T ≤ 4) {td : List Nat} (htd : ∀ i : Nat, i < T → (td.getD i 0 : Int) < V 171 1) {al : Nat} (hal : V 171 5 = (al : Int)) : ∀ (r n : Nat), n + r = T → qJ X S V form N (d : Int) T td (KPm form N (V 171) tl td T al d) r n
  | 0, n, hn => by
    intro us C dn p W K u w h0 h1 hpl hp hdC hC hA k
    obtain rfl : n = T := by omega
    exact ct_arrJ0 hM hSO hTO hMTs hf hN hd hT htd hal hpl hp hdC hC hA k
  | r + 1, n, hn => by
    intro us C dn p W K u w h0 h1 hpl hp hdC hC hA k
    have hrec : qJ X S V form N (d : Int) T td (KPm form N (V 171) tl td T al d) r (n + 1) := ct_arrJ hM hSO hTO hMTs hf hN hd hT htd hal r (n + 1) (by omega)
    have e4 : 4 ^ (r + 1) = 4 * 4 ^ r := by rw [Nat.pow_succ, Nat.mul_comm]
    rw [e4] at hC
    show y_R X (11 + r + 1) 163 u w _ S W K
    refine y_ent (lv' := [(0, .ref 170), (1, iv (n : Int)), (2, iv us), (3, iv form), (4, iv N), (5, iv (d : Int))]) (Nat.le_of_ble_eq_true rfl) rfl ?_
    refine y_ld (x := iv (n : Int)) rfl rfl (fun d => rfl) ?_
    refine y_ld (x := .ref 170) rfl rfl (fun d => rfl) ?_
    refine y_gI (i := 37) (e := (T : Int)) rfl rfl rfl (md170 hM) rfl hA.2.1 ?_
    refine y_jne rfl rfl rfl (by omega) (fun g1 => ?_) (fun g1 => absurd g1 (by omega))
    refine y_ic rfl rfl ?_
    refine y_st (lv' := [(6, iv 0), (0, .ref 170), (1, iv (n : Int)), (2, iv us), (3, iv form), (4, iv N), (5, iv (d : Int))]) rfl rfl (fun d => rfl) ?_
    refine y_lv (l' := [(0, .ref 170), (1, iv (n : Int)), (2, iv us), (3, iv form), (4, iv N), (5, iv (d : Int)), (6, iv ((0 : Nat) : Int))]) rfl ⟨rfl, rfl, rfl, rfl, rfl, rfl, rfl, trivial⟩ ?_
    exact y_mono (lp_arrJ (F := 100) hM hSO hTO hMTs hf hN hd hT htd hal hn ⟨h0, h1⟩ hpl hp hdC hC hrec (fun W2 h => k W2 h) 5 0 W (by omega) (by omega) (by rw [show arrI T r p us 0 = [] from rfl, List.append_nil]; exact hA)) (by decide)
end
end
section
/-! orders: the reference, what it answers -/
section
variable {X : Nat → List Int32} {u w : Nat} {S : m_H} {V : v_V} {K : v_K}
set_option maxRecDepth 100000 in
set_option maxHeartbeats 4000000 in
theorem lp_toldJ (hM : MdS S) {x y n i : Int} {d B : Nat} (hx0 : 0 ≤ x ∧ x < 65536) (hbs : v_bs x 16 ≤ 4) (hB : V 171 1 = (B : Int)) (hB8 : B ≤ 8) {F : Nat} : ∀ (m : Nat) (j : Nat) (W : v_V), B - j < m → (j ≤ B) → (FrX V W) → (W 170 37 = v_bs x j) → (∀ q : Nat, q < (tdL x j).length → W 189 q = (((tdL x j).getD q 0 : Nat) : Int)) → (∀ W : v_V, FrX V W → W 170 37 = v_bs x B → (∀ q : Nat, q < (tdL x B).length → W 189 q = (((tdL x B).getD q 0 : Nat) : Int)) → y_E X 15 164 F u w 126 [(0, .ref 170), (1, iv x), (2, iv y), (3, iv n), (4, iv (d : Int)), (5, iv i)] [] S W K) → y_E X 15 164 (60 * m + F) u w 78 [(0, .ref 170), (1, iv x), (2, iv y), (3, iv n), (4, iv (d : Int)), (5, iv i), (6, iv (j : Int))] [] S W K := by
  intro m
  induction m with
  | zero => intros; omega
  | succ m ih =>
    intro j W hm hI hF h37 htd hx
    refine y_mono (F' := (60 * m + F) + 60) ?_ (by omega)
    refine y_ld (x := iv (j : Int)) rfl rfl (fun d => rfl) ?_
    refine y_ld (x := .ref 170) rfl rfl (fun d => rfl) ?_
    refine y_gR (i := 1) rfl rfl rfl (md170 hM) rfl ?_
    refine y_ic rfl rfl ?_
    refine y_ild (x := (B : Int)) (q := 1) rfl rfl (md171 hM) (by decide) (by decide) rfl (by rw [hF.1 171 (by omega)]; exact hB) ?_
    refine y_jge rfl rfl rfl (by omega) (fun g1 => ?_) (fun g1 => ?_)
    · obtain rfl : j = B := by omega
      refine y_lv (l' := [(0, .ref 170), (1, iv x), (2, iv y), (3, iv n), (4, iv (d : Int)), (5, iv i)]) rfl ⟨rfl, rfl, rfl, rfl, rfl, rfl, trivial⟩ ?_
      exact y_mono (hx W hF h37 htd) (by omega)
    · have hb01 := v_bit01 x j
      have hle := v_bs_le x j
      have e1 : v_bs x (j + 1) = v_bs x j + x / 2 ^ j % 2 := rfl
      have hmo := v_bs_mono x (j + 1) 16 (by omega)
      have eln := tdL_len x j
      refine y_ld (x := iv x) rfl rfl (fun d => rfl) ?_
      refine y_ld (x := iv (j : Int)) rfl rfl (fun d => rfl) ?_
      refine y_op (z := (x / 2 ^ j)) rfl rfl (fun d => rfl) (v_shr (by omega) (by omega)) ?_
      refine y_ic rfl rfl ?_
      refine y_op (z := (x / 2 ^ j % 2)) rfl rfl (fun d => rfl) (v_and1 (Int.ediv_nonneg (by omega) (Int.le_of_lt (v_p2 _)))) ?_
      refine y_ic rfl rfl ?_
      refine y_jne rfl rfl rfl (by omega) (fun g2 => ?_) (fun g2 => ?_)
      · refine y_inc (z := ((j + 1 : Nat) : Int)) (lv' := [(6, iv ((j + 1 : Nat) : Int)), (0, .ref 170), (1, iv x), (2, iv y), (3, iv n), (4, iv (d : Int)), (5, iv i)]) rfl rfl rfl (by omega) rfl ?_
        refine y_go rfl rfl ?_
        refine y_lv (l' := [(0, .ref 170), (1, iv x), (2, iv y), (3, iv n), (4, iv (d : Int)), (5, iv i), (6, iv ((j + 1 : Nat) : Int))]) rfl ⟨rfl, rfl, rfl, rfl, rfl, rfl, rfl, trivial⟩ ?_
        have etd : tdL x (j + 1) = tdL x j := if_neg (by omega)
        exact y_mono (ih (j + 1) W (by omega) (by omega) hF (by rw [e1]; omega) (by rw [etd]; exact htd) hx) (by omega)
      · refine y_ld (x := .ref 170) rfl rfl (fun d => rfl) ?_
        refine y_gR (i := 34) rfl rfl rfl (md170 hM) rfl ?_
        refine y_ld (x := .ref 170) rfl rfl (fun d => rfl) ?_
        refine y_gI (i := 37) (e := (v_bs x j)) rfl rfl rfl (md170 hM) rfl h37 ?_
        refine y_ld (x := iv (j : Int)) rfl rfl (fun d => rfl) ?_
        refine y_ist (q := ((v_bs x j).toNat)) rfl rfl (md189 hM) (by omega) (by decide) (by omega) ?_
        refine y_ld (x := .ref 170) rfl rfl (fun d => rfl) ?_
        refine y_in rfl rfl (fun d => rfl) ?_
        refine y_gI (i := 37) (e := (v_bs x j)) rfl rfl rfl (md170 hM) rfl (by rw [v_up_ne (by decide)]; exact h37) ?_
        refine y_ic rfl rfl ?_
        refine y_add (z := ((v_bs x j) + 1)) rfl rfl rfl ?_
        refine y_pI (i := 37) rfl rfl rfl (md170 hM) rfl rfl ?_
        refine y_inc (z := ((j + 1 : Nat) : Int)) (lv' := [(6, iv ((j + 1 : Nat) : Int)), (0, .ref 170), (1, iv x), (2, iv y), (3, iv n), (4, iv (d : Int)), (5, iv i)]) rfl rfl rfl (by omega) rfl ?_
        refine y_go rfl rfl ?_
        refine y_lv (l' := [(0, .ref 170), (1, iv x), (2, iv y), (3, iv n), (4, iv (d : Int)), (5, iv i), (6, iv ((j + 1 : Nat) : Int))]) rfl ⟨rfl, rfl, rfl, rfl, rfl, rfl, rfl, trivial⟩ ?_
        have etd : tdL x (j + 1) = tdL x j ++ [j] := if_pos (by omega)
        refine y_mono (ih (j + 1) (v_up (v_up W 189 ((v_bs x j).toNat) (j : Int)) 170 37 ((v_bs x j) + 1)) (by omega) (by omega) (FrX_tr hF ⟨fun k hk => by rw [v_up_ne (by omega), v_up_ne (by omega)], fun i2 hi => by rw [v_up_ni (by omega), v_up_ne (by decide)]⟩) (by rw [v_up_eq, e1]; omega) (fun q hq => ?_) hx) (by omega)
        rw [etd, List.length_append, List.length_singleton] at hq
        rw [v_up_ne (by decide), etd]
        rcases (show q < (tdL x j).length ∨ q = (tdL x j).length by omega) with h7 | h7
        · rw [v_up_ni (by omega), gd_lt h7]; exact htd q h7
        · rw [h7, gd_eq, show (v_bs x j).toNat = (tdL x j).length by omega, v_up_eq]
set_option maxRecDepth 100000 in
set_option maxHeartbeats 4000000 in
theorem ms_ordersJ (hM : MdS S) {tl : Nat → List p_Li} {cnt : Nat} (hSO : SO cnt (V 171)) (hTO : ∀ i : Nat, (i : Int) < V 171 0 → TO (tl i)) (hMTs : ∀ i : Nat, (i : Int) < V 171 0 → MT V i (tl i)) {x : Int} (hx : (-2147483648 ≤ x ∧ x < 2147483648)) {y : Int} (hy : (-2147483648 ≤ y ∧ y < 2147483648)) {n : Int} (hn : (-2147483648 ≤ n ∧ n < 2147483648)) {d : Int} (hd : (-2147483648 ≤ d ∧ d < 2147483648)) {i : Int} (hi : (-2147483648 ≤ i ∧ i < 2147483648)) (k0 : ¬ ((0 ≤ y ∧ y ≤ 4) ∧ -1 ≤ i) → K u w (some (iv (-1))) S V) (k1 : ((0 ≤ y ∧ y ≤ 4) ∧ -1 ≤ i) → ¬ ((0 ≤ x ∧ x ≤ 2 ^ (V 171 1).toNat - 1) ∧ (2 ≤ v_bs x 16 ∧ v_bs x 16 ≤ 4) ∧ (0 ≤ n ∧ n ≤ 99) ∧ (1 ≤ d ∧ d ≤ 3)) → K u w (some (iv (-2))) S V) (k2 : ((0 ≤ y ∧ y ≤ 4) ∧ -1 ≤ i) → ((0 ≤ x ∧ x ≤ 2 ^ (V 171 1).toNat - 1) ∧ (2 ≤ v_bs x 16 ∧ v_bs x 16 ≤ 4) ∧ (0 ≤ n ∧ n ≤ 99) ∧ (1 ≤ d ∧ d ≤ 3)) → ∀ B T al dn : Nat, V 171 1 = (B : Int) → v_bs x 16 = (T : Int) → V 171 5 = (al : Int) → d = (dn : Int) → ∀ V2, FrX V V2 → K u w (some (iv (ordA (KPm y n (V 171) tl (tdL x B) T al dn) (tdL x B) T i))) S V2) : y_R X 16 164 u w [.ref 170, iv x, iv y, iv n, iv d, iv i] S V K := by
  have hsz := hSO.1
  have hp2 : 1 ≤ (2 ^ (V 171 1).toNat : Int) ∧ (2 ^ (V 171 1).toNat : Int) ≤ 256 := by
    rcases (show V 171 1 = 0 ∨ V 171 1 = 1 ∨ V 171 1 = 2 ∨ V 171 1 = 3 ∨ V 171 1 = 4 ∨ V 171 1 = 5 ∨ V 171 1 = 6 ∨ V 171 1 = 7 ∨ V 171 1 = 8 by omega) with h | h | h | h | h | h | h | h | h <;> rw [h] <;> decide
  have hv16 := v_bs_le x 16
  refine y_ent (lv' := [(0, .ref 170), (1, iv x), (2, iv y), (3, iv n), (4, iv d), (5, iv i)]) (Nat.le_of_ble_eq_true rfl) rfl ?_
  refine y_ld (x := iv y) rfl rfl (fun d => rfl) ?_
  refine y_ic rfl rfl ?_
  refine y_ic rfl rfl ?_
  refine y_cS (as := [iv y, iv 0, iv 4]) rfl (by decide) rfl rfl rfl rfl ⟨(Nat.le_of_ble_eq_true rfl), (Nat.le_of_ble_eq_true rfl)⟩ (by omega) (ct_in (by omega) ?_)
  refine y_nv ?_
  refine y_beq rfl rfl rfl (fun g1 => ?_) (fun g1 => ?_)
  · refine y_ic rfl rfl ?_
    refine y_rI rfl (Or.inl rfl) ?_
    exact k0 (by omega)
  · refine y_ld (x := iv i) rfl rfl (fun d => rfl) ?_
    refine y_ic rfl rfl ?_
    refine y_jge rfl rfl rfl (by omega) (fun g2 => ?_) (fun g2 => ?_)
    · refine y_ld (x := iv x) rfl rfl (fun d => rfl) ?_
      refine y_ic rfl rfl ?_
      refine y_ic rfl rfl ?_
      refine y_ld (x := .ref 170) rfl rfl (fun d => rfl) ?_
      refine y_gR (i := 1) rfl rfl rfl (md170 hM) rfl ?_
      refine y_ic rfl rfl ?_
      refine y_ild (x := (V 171 1)) (q := 1) rfl rfl (md171 hM) (by decide) (by decide) rfl rfl ?_
      refine y_op (z := (2 ^ (V 171 1).toNat)) rfl rfl (fun d => rfl) (v_shl1 (k := V 171 1) (by omega)) ?_
      refine y_ic rfl rfl ?_
      refine y_sub (z := ((2 ^ (V 171 1).toNat) - 1)) rfl rfl rfl ?_
      refine y_cS (as := [iv x, iv 0, iv ((2 ^ (V 171 1).toNat) - 1)]) rfl (by decide) rfl rfl rfl rfl ⟨(Nat.le_of_ble_eq_true rfl), (Nat.le_of_ble_eq_true rfl)⟩ (by omega) (ct_in (by omega) ?_)
      refine y_nv ?_
      refine y_beq rfl rfl rfl (fun g3 => ?_) (fun g3 => ?_)
      · refine y_bi rfl rfl (by decide) ?_
        refine y_rI rfl (Or.inl rfl) ?_
        exact k1 (by omega) (by omega)
      · refine y_ld (x := iv x) rfl rfl (fun d => rfl) ?_
        refine y_cS (as := [iv x]) rfl (by decide) rfl rfl rfl rfl ⟨(Nat.le_of_ble_eq_true rfl), (Nat.le_of_ble_eq_true rfl)⟩ (by omega) (ct_count1 (by omega) ?_)
        refine y_nv ?_
        refine y_ic rfl rfl ?_
        refine y_ic rfl rfl ?_
        refine y_cS (as := [iv (v_bs x 16), iv 2, iv 4]) rfl (by decide) rfl rfl rfl rfl ⟨(Nat.le_of_ble_eq_true rfl), (Nat.le_of_ble_eq_true rfl)⟩ (by omega) (ct_in (by omega) ?_)
        refine y_nv ?_
        refine y_beq rfl rfl rfl (fun g4 => ?_) (fun g4 => ?_)
        · refine y_bi rfl rfl (by decide) ?_
          refine y_rI rfl (Or.inl rfl) ?_
          exact k1 (by omega) (by omega)
        · refine y_ld (x := iv n) rfl rfl (fun d => rfl) ?_
          refine y_ic rfl rfl ?_
          refine y_bi rfl rfl (by decide) ?_
          refine y_cS (as := [iv n, iv 0, iv 99]) rfl (by decide) rfl rfl rfl rfl ⟨(Nat.le_of_ble_eq_true rfl), (Nat.le_of_ble_eq_true rfl)⟩ (by omega) (ct_in (by omega) ?_)
          refine y_nv ?_
          refine y_beq rfl rfl rfl (fun g5 => ?_) (fun g5 => ?_)
          · refine y_bi rfl rfl (by decide) ?_
            refine y_rI rfl (Or.inl rfl) ?_
            exact k1 (by omega) (by omega)
          · refine y_ld (x := iv d) rfl rfl (fun d => rfl) ?_
            refine y_ic rfl rfl ?_
            refine y_ic rfl rfl ?_
            refine y_cS (as := [iv d, iv 1, iv 3]) rfl (by decide) rfl rfl rfl rfl ⟨(Nat.le_of_ble_eq_true rfl), (Nat.le_of_ble_eq_true rfl)⟩ (by omega) (ct_in (by omega) ?_)
            refine y_nv ?_
            refine y_bne rfl rfl rfl (fun g6 => ?_) (fun g6 => ?_)
            · obtain ⟨dn, rfl⟩ : ∃ dn : Nat, d = (dn : Int) := ⟨d.toNat, by omega⟩
              obtain ⟨B, hBn⟩ : ∃ B : Nat, V 171 1 = (B : Int) := ⟨(V 171 1).toNat, by omega⟩
              obtain ⟨al, hal⟩ : ∃ al : Nat, V 171 5 = (al : Int) := ⟨(V 171 5).toNat, by omega⟩
              refine y_ld (x := .ref 170) rfl rfl (fun d => rfl) ?_
              refine y_ic rfl rfl ?_
              refine y_pI (i := 37) rfl rfl rfl (md170 hM) rfl rfl ?_
              refine y_ic rfl rfl ?_
              refine y_st (lv' := [(6, iv 0), (0, .ref 170), (1, iv x), (2, iv y), (3, iv n), (4, iv (dn : Int)), (5, iv i)]) rfl rfl (fun d => rfl) ?_
              refine y_lv (l' := [(0, .ref 170), (1, iv x), (2, iv y), (3, iv n), (4, iv (dn : Int)), (5, iv i), (6, iv ((0 : Nat) : Int))]) rfl ⟨rfl, rfl, rfl, rfl, rfl, rfl, rfl, trivial⟩ ?_
              refine y_mono (lp_toldJ (F := 2000) (d := dn) hM (by omega) (by omega) hBn (by omega) 9 0 (v_up V 170 37 0) (by omega) (by omega) ⟨fun k hk => v_up_ne (by omega), fun i2 hi => v_up_ni (by omega)⟩ (v_up_eq _ _ _ _) (fun q hq => absurd hq (by show ¬ q < 0; omega)) (fun W1 f1 f2 f3 => ?_)) (by decide)
              refine y_ld (x := .ref 170) rfl rfl (fun d => rfl) ?_
              refine y_ic rfl rfl ?_
              refine y_pI (i := 38) rfl rfl rfl (md170 hM) rfl rfl ?_
              refine y_ld (x := .ref 170) rfl rfl (fun d => rfl) ?_
              refine y_ic rfl rfl ?_
              refine y_ic rfl rfl ?_
              refine y_ld (x := iv y) rfl rfl (fun d => rfl) ?_
              refine y_ld (x := iv n) rfl rfl (fun d => rfl) ?_
              refine y_ld (x := iv (dn : Int)) rfl rfl (fun d => rfl) ?_
              have hle := v_bs_le x B
              have hmo := v_bs_mono x B 16 (by omega)
              have hxB : x < 2 ^ B := by
                have h9 : (V 171 1).toNat = B := by omega
                rw [← h9]
                omega
              have hbt := v_bs_top x B ⟨by omega, hxB⟩ 16 (by omega)
              obtain ⟨T, hT⟩ : ∃ T : Nat, v_bs x B = (T : Int) := ⟨(v_bs x B).toNat, by omega⟩
              have hln : (tdL x B).length = T := by have := tdL_len x B; omega
              rw [hT] at f2
              have hT4 : T ≤ 4 := by omega
              have hp4 : 4 ^ T ≤ 256 := by
                have := Nat.pow_le_pow_right (show 0 < 4 by decide) hT4
                omega
              have hA1 : AJ V T 0 (tdL x B) (KPm y n (V 171) tl (tdL x B) T al dn) [] [] (v_up W1 170 38 0) := ⟨FrX_tr f1 ⟨fun k hk => v_up_ne (by omega), fun i2 hi => v_up_ni (by omega)⟩, by rw [v_up_ni (by decide)]; exact f2, by rw [v_up_eq]; rfl, by rw [v_up_ne (by decide)]; exact fun q hq => f3 q (by omega), fun q hq => absurd hq (by omega), fun h0 => absurd h0 (by show ¬ 0 < 0; omega)⟩
              refine y_cV (as := [.ref 170, iv ((0 : Nat) : Int), iv 0, iv y, iv n, iv (dn : Int)]) rfl rfl rfl rfl rfl (md170 hM) ⟨rfl, (Nat.le_of_ble_eq_true rfl), (Nat.le_of_ble_eq_true rfl)⟩ (by omega) (ct_arrJ hM hSO hTO hMTs (by omega) (by omega) (by omega) hT4 (fun q hq => by have := tdL_lt x B q (by omega); omega) hal T 0 (by omega) 0 0 [] [] _ _ _ _ (by decide) (by decide) rfl (fun a ha => absurd ha List.not_mem_nil) (Nat.le_refl 0) (by omega) hA1 (fun W2 a1 => ?_))
              obtain ⟨b1, b2, b3, b4, b5, b6⟩ := a1
              rw [List.nil_append] at b3 b6
              have hk2 := k2 (by omega) (by omega) B T al dn hBn (hbt.trans hT) hal rfl
              have hplE : arrL T T [] 0 = plL T := rfl
              rw [hplE] at b3 b6
              have hcl := cK_le (KPm y n (V 171) tl (tdL x B) T al dn) (plL T)
              have hpl4 : (plL T).length ≤ 4 ^ T := arrL_len hT4 T [] 0
              refine y_n0 ?_
              refine y_ld (x := iv i) rfl rfl (fun d => rfl) ?_
              refine y_ic rfl rfl ?_
              refine y_jne rfl rfl rfl (by omega) (fun g7 => ?_) (fun g7 => ?_)
              · refine y_ld (x := .ref 170) rfl rfl (fun d => rfl) ?_
                refine y_gI (i := 38) (e := (W2 170 38)) rfl rfl rfl (md170 hM) rfl rfl ?_
                refine y_zle rfl rfl rfl (by omega) (fun g8 => ?_) (fun g8 => ?_)
                · refine y_ic rfl rfl ?_
                  refine y_rI rfl (Or.inl rfl) ?_
                  have ea : (-1 : Int) = ordA (KPm y n (V 171) tl (tdL x B) T al dn) (tdL x B) T i := by unfold ordA; rw [if_neg (by omega), if_neg (by omega)]
                  exact Eq.mpr (congrArg (fun z : Int => K u w (some (iv z)) S W2) ea) (hk2 W2 b1)
                · refine y_ld (x := iv i) rfl rfl (fun d => rfl) ?_
                  refine y_ld (x := .ref 170) rfl rfl (fun d => rfl) ?_
                  refine y_gI (i := 37) (e := (T : Int)) rfl rfl rfl (md170 hM) rfl b2 ?_
                  refine y_jge rfl rfl rfl (by omega) (fun g9 => ?_) (fun g9 => ?_)
                  · refine y_ic rfl rfl ?_
                    refine y_rI rfl (Or.inl rfl) ?_
                    have ea : (-1 : Int) = ordA (KPm y n (V 171) tl (tdL x B) T al dn) (tdL x B) T i := by unfold ordA; rw [if_neg (by omega), if_neg (by omega)]
                    exact Eq.mpr (congrArg (fun z : Int => K u w (some (iv z)) S W2) ea) (hk2 W2 b1)
                  · refine y_ld (x := .ref 170) rfl rfl (fun d => rfl) ?_
                    refine y_gR (i := 36) rfl rfl rfl (md170 hM) rfl ?_
                    refine y_ld (x := iv i) rfl rfl (fun d => rfl) ?_
                    refine y_ild (x := (W2 191 i.toNat)) (q := i.toNat) rfl rfl (md191 hM) (by omega) (by decide) (by omega) rfl ?_
                    refine y_go rfl rfl ?_
                    refine y_rI rfl (Or.inl rfl) ?_
                    have ea : (W2 191 i.toNat : Int) = ordA (KPm y n (V 171) tl (tdL x B) T al dn) (tdL x B) T i := by unfold ordA; rw [if_neg (by omega), if_pos (by omega)]; exact b6 (by omega) i.toNat (by omega)
                    exact Eq.mpr (congrArg (fun z : Int => K u w (some (iv z)) S W2) ea) (hk2 W2 b1)
              · refine y_ld (x := .ref 170) rfl rfl (fun d => rfl) ?_
                refine y_gI (i := 38) (e := (W2 170 38)) rfl rfl rfl (md170 hM) rfl rfl ?_
                refine y_rI rfl (Or.inl rfl) ?_
                have ea : (W2 170 38 : Int) = ordA (KPm y n (V 171) tl (tdL x B) T al dn) (tdL x B) T i := by unfold ordA; rw [if_pos (by omega)]; exact b3
                exact Eq.mpr (congrArg (fun z : Int => K u w (some (iv z)) S W2) ea) (hk2 W2 b1)
            · refine y_bi rfl rfl (by decide) ?_
              refine y_rI rfl (Or.inl rfl) ?_
              exact k1 (by omega) (by omega)
    · refine y_ic rfl rfl ?_
      refine y_rI rfl (Or.inl rfl) ?_
      exact k0 (by omega)
end
end
section
/-! pairs of calls: orders answers alike -/
theorem KP_same {form N : Int} {σ : Nat → Int} {tl : Nat → List p_Li} {td : List Nat} {T al d : Nat} (hN : 0 ≤ N) (hf : 0 ≤ form ∧ form ≤ 4) (hlt : ∀ q : Nat, q < al → pkO (σ (1770 + 4 * q)) (σ (1770 + 4 * q + 1)) (σ (1770 + 4 * q + 2)) (σ (1770 + 4 * q + 3))) (l : List Nat) : KPc form N σ tl td T al d l ↔ KPm form N σ tl td T al d l := by
  have h := br_no (fun l2 hl hs v hv => brk_iff (ts := fun q => tl (σ (178 + (bxs td l).getD q 0)).toNat) (m := T) hN hf hlt l2 hl hs v hv) (d + 1)
  constructor
  · intro h1 l2 a1 a2
    exact h.mp (fun l' b1 b2 => h1 l' b1 (by omega)) l2 a1 (by omega)
  · intro h1 l2 a1 a2
    exact h.mpr (fun l' b1 b2 => h1 l' b1 (by omega)) l2 a1 (by omega)
section
variable {X : Nat → List Int32} {u w cnt : Nat} {S : m_H} {V : v_V}
set_option maxRecDepth 100000 in
set_option maxHeartbeats 4000000 in
theorem pr_ordersT (hR : RR cnt u w S V) {x : Int} (hx1 : (-2147483648 ≤ x ∧ x < 2147483648)) {y : Int} (hy1 : (-2147483648 ≤ y ∧ y < 2147483648)) {n : Int} (hn1 : (-2147483648 ≤ n ∧ n < 2147483648)) {d : Int} (hd1 : (-2147483648 ≤ d ∧ d < 2147483648)) {i : Int} (hi1 : (-2147483648 ≤ i ∧ i < 2147483648)) : PR X True 90 164 [.ref 0, iv x, iv y, iv n, iv d, iv i] [.ref 170, iv x, iv y, iv n, iv d, iv i] cnt u w S V := by
  have hR2 := RR_le hR (Nat.le_succ cnt)
  obtain ⟨tl, hC, hM, hP, hZ⟩ := hR
  have hC0 := hC
  have hM0 := hM
  have hP0 := hP
  obtain ⟨c1, c2, c3, c4, c5, c6, c7, c8⟩ := hC
  obtain ⟨m1, -, -, m4, m5, m6⟩ := hM
  obtain ⟨p1, p2, p3, p4⟩ := hP
  obtain ⟨n1, n2, n3, n4⟩ := c2.1
  have hsz := p1.1
  obtain ⟨⟨lf, s1⟩, s2, s3⟩ := c5
  intro K hK
  refine y_Rm (D' := 16) (cs_ordersJ c1 c2 p1 p4 s1 s2 s3 hx1 hy1 hn1 hd1 hi1 ?_ ?_ (fun g1 g2 B T al dn g3 g4 g5 g6 S2 V2 hE => ?_)) (by decide)
  · intros
    all_goals refine hK _ _ _ _ _ m1 (fun K2 h2 => y_Rm (D' := 16) (ms_ordersJ m1 p1 p4 m4 hx1 hy1 hn1 hd1 hi1 ?_ ?_ ?_) (by decide))
    all_goals intros
    all_goals first | contradiction | (exfalso; omega) | exact h2 _ _ _ _ _ hR2 (fun _ => by rfl)
  · intros
    all_goals refine hK _ _ _ _ _ m1 (fun K2 h2 => y_Rm (D' := 16) (ms_ordersJ m1 p1 p4 m4 hx1 hy1 hn1 hd1 hi1 ?_ ?_ ?_) (by decide))
    all_goals intros
    all_goals first | contradiction | (exfalso; omega) | exact h2 _ _ _ _ _ hR2 (fun _ => by rfl)
  · have e171 : V2 171 = V 171 := hE.2.2.2 171 (by omega) (by omega) (by omega) (by omega)
    have m1b := MdS_2 m1 hE.1
    refine hK _ _ _ _ V2 m1b (fun K2 h2 => y_Rm (D' := 16) (ms_ordersJ (tl := tl) m1b (by rw [e171]; exact p1) (by rw [e171]; exact p4) (by rw [e171]; exact fun i hi => MT_x (m4 i hi) (fun k a b => hE.2.2.2 k (by omega) (by omega) (by omega) (by omega))) hx1 hy1 hn1 hd1 hi1 ?_ ?_ (fun j1 j2 B2 T2 al2 dn2 j3 j4 j5 j6 V3 hX => ?_)) (by decide))
    · try rw [e171]
      intros; first | contradiction | omega
    · try rw [e171]
      intros; first | contradiction | omega
    · refine h2 _ _ _ _ _ (RR_s hC0 hM0 hP0 hZ hE hX) (fun _ => ?_)
      rw [e171] at j3 j5 ⊢
      obtain rfl : B = B2 := by omega
      obtain rfl : T = T2 := by omega
      obtain rfl : al = al2 := by omega
      obtain rfl : dn = dn2 := by omega
      exact (ordA_same (fun l _ => KP_same (by omega) g1.1 (fun q hq => p1.2.2.2.2.2.2 q (by omega)) l)).symm
end
end
