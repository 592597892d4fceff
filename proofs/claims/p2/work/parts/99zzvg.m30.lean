/-! orders: the reference, what it answers -/
section
variable {X : Nat → List Int32} {u w : Nat} {S : m_H} {V : v_V} {K : v_K}
set_option maxRecDepth 100000 in
set_option maxHeartbeats 4000000 in
theorem lp_toldJ (hM : MdS S) {x y n i : Int} {d B : Nat} (hx0 : 0 ≤ x ∧ x < 65536) (hbs : v_bs x 16 ≤ 4) (hB : V 171 1 = (B : Int)) (hB8 : B ≤ 8) {F : Nat} : ∀ (m : Nat) (j : Nat) (W : v_V), B - j < m → (j ≤ B) → (FrX V W) → (W 170 37 = v_bs x j) → (∀ q : Nat, q < (tdL x j).length → W 189 q = (((tdL x j).getD q 0 : Nat) : Int)) → (∀ W : v_V, FrX V W → W 170 37 = v_bs x B → (∀ q : Nat, q < (tdL x B).length → W 189 q = (((tdL x B).getD q 0 : Nat) : Int)) → y_E X 15 164 F u w 126 [(0, .ref 170), (1, iv x), (2, iv y), (3, iv n), (4, iv (d : Int)), (5, iv i)] [] S W K) → y_E X 15 164 (60 * m + F) u w 78 [(0, .ref 170), (1, iv x), (2, iv y), (3, iv n), (4, iv (d : Int)), (5, iv i), (6, iv (j : Int))] [] S W K := by
  intro m
  induction m with
  | zero => intros; omega
  | succ m ih =>
    intro j W hm hI hF h37 htd hx
    refine y_mono (F' := (60 * m + F) + 60) ?_ (by omega)
    refine y_ld (x := iv (j : Int)) rfl rfl (fun d => rfl) ?_
    refine y_ld (x := .ref 170) rfl rfl (fun d => rfl) ?_
    refine y_gR (i := 1) rfl rfl rfl (md170 hM) rfl ?_
    refine y_ic rfl rfl ?_
    refine y_ild (x := (B : Int)) (q := 1) rfl rfl (md171 hM) (by decide) (by decide) rfl (by rw [hF.1 171 (by omega)]; exact hB) ?_
    refine y_jge rfl rfl rfl (by omega) (fun g1 => ?_) (fun g1 => ?_)
    · obtain rfl : j = B := by omega
      refine y_lv (l' := [(0, .ref 170), (1, iv x), (2, iv y), (3, iv n), (4, iv (d : Int)), (5, iv i)]) rfl ⟨rfl, rfl, rfl, rfl, rfl, rfl, trivial⟩ ?_
      exact y_mono (hx W hF h37 htd) (by omega)
    · have hb01 := v_bit01 x j
      have hle := v_bs_le x j
      have e1 : v_bs x (j + 1) = v_bs x j + x / 2 ^ j % 2 := rfl
      have hmo := v_bs_mono x (j + 1) 16 (by omega)
      have eln := tdL_len x j
      refine y_ld (x := iv x) rfl rfl (fun d => rfl) ?_
      refine y_ld (x := iv (j : Int)) rfl rfl (fun d => rfl) ?_
      refine y_op (z := (x / 2 ^ j)) rfl rfl (fun d => rfl) (v_shr (by omega) (by omega)) ?_
      refine y_ic rfl rfl ?_
      refine y_op (z := (x / 2 ^ j % 2)) rfl rfl (fun d => rfl) (v_and1 (Int.ediv_nonneg (by omega) (Int.le_of_lt (v_p2 _)))) ?_
      refine y_ic rfl rfl ?_
      refine y_jne rfl rfl rfl (by omega) (fun g2 => ?_) (fun g2 => ?_)
      · refine y_inc (z := ((j + 1 : Nat) : Int)) (lv' := [(6, iv ((j + 1 : Nat) : Int)), (0, .ref 170), (1, iv x), (2, iv y), (3, iv n), (4, iv (d : Int)), (5, iv i)]) rfl rfl rfl (by omega) rfl ?_
        refine y_go rfl rfl ?_
        refine y_lv (l' := [(0, .ref 170), (1, iv x), (2, iv y), (3, iv n), (4, iv (d : Int)), (5, iv i), (6, iv ((j + 1 : Nat) : Int))]) rfl ⟨rfl, rfl, rfl, rfl, rfl, rfl, rfl, trivial⟩ ?_
        have etd : tdL x (j + 1) = tdL x j := if_neg (by omega)
        exact y_mono (ih (j + 1) W (by omega) (by omega) hF (by rw [e1]; omega) (by rw [etd]; exact htd) hx) (by omega)
      · refine y_ld (x := .ref 170) rfl rfl (fun d => rfl) ?_
        refine y_gR (i := 34) rfl rfl rfl (md170 hM) rfl ?_
        refine y_ld (x := .ref 170) rfl rfl (fun d => rfl) ?_
        refine y_gI (i := 37) (e := (v_bs x j)) rfl rfl rfl (md170 hM) rfl h37 ?_
        refine y_ld (x := iv (j : Int)) rfl rfl (fun d => rfl) ?_
        refine y_ist (q := ((v_bs x j).toNat)) rfl rfl (md189 hM) (by omega) (by decide) (by omega) ?_
        refine y_ld (x := .ref 170) rfl rfl (fun d => rfl) ?_
        refine y_in rfl rfl (fun d => rfl) ?_
        refine y_gI (i := 37) (e := (v_bs x j)) rfl rfl rfl (md170 hM) rfl (by rw [v_up_ne (by decide)]; exact h37) ?_
        refine y_ic rfl rfl ?_
        refine y_add (z := ((v_bs x j) + 1)) rfl rfl rfl ?_
        refine y_pI (i := 37) rfl rfl rfl (md170 hM) rfl rfl ?_
        refine y_inc (z := ((j + 1 : Nat) : Int)) (lv' := [(6, iv ((j + 1 : Nat) : Int)), (0, .ref 170), (1, iv x), (2, iv y), (3, iv n), (4, iv (d : Int)), (5, iv i)]) rfl rfl rfl (by omega) rfl ?_
        refine y_go rfl rfl ?_
        refine y_lv (l' := [(0, .ref 170), (1, iv x), (2, iv y), (3, iv n), (4, iv (d : Int)), (5, iv i), (6, iv ((j + 1 : Nat) : Int))]) rfl ⟨rfl, rfl, rfl, rfl, rfl, rfl, rfl, trivial⟩ ?_
        have etd : tdL x (j + 1) = tdL x j ++ [j] := if_pos (by omega)
        refine y_mono (ih (j + 1) (v_up (v_up W 189 ((v_bs x j).toNat) (j : Int)) 170 37 ((v_bs x j) + 1)) (by omega) (by omega) (FrX_tr hF ⟨fun k hk => by rw [v_up_ne (by omega), v_up_ne (by omega)], fun i2 hi => by rw [v_up_ni (by omega), v_up_ne (by decide)]⟩) (by rw [v_up_eq, e1]; omega) (fun q hq => ?_) hx) (by omega)
        rw [etd, List.length_append, List.length_singleton] at hq
        rw [v_up_ne (by decide), etd]
        rcases (show q < (tdL x j).length ∨ q = (tdL x j).length by omega) with h7 | h7
        · rw [v_up_ni (by omega), gd_lt h7]; exact htd q h7
        · rw [h7, gd_eq, show (v_bs x j).toNat = (tdL x j).length by omega, v_up_eq]
set_option maxRecDepth 100000 in
set_option maxHeartbeats 4000000 in
theorem ms_ordersJ (hM : MdS S) {tl : Nat → List p_Li} {cnt : Nat} (hSO : SO cnt (V 171)) (hTO : ∀ i : Nat, (i : Int) < V 171 0 → TO (tl i)) (hMTs : ∀ i : Nat, (i : Int) < V 171 0 → MT V i (tl i)) {x : Int} (hx : (-2147483648 ≤ x ∧ x < 2147483648)) {y : Int} (hy : (-2147483648 ≤ y ∧ y < 2147483648)) {n : Int} (hn : (-2147483648 ≤ n ∧ n < 2147483648)) {d : Int} (hd : (-2147483648 ≤ d ∧ d < 2147483648)) {i : Int} (hi : (-2147483648 ≤ i ∧ i < 2147483648)) (k0 : ¬ ((0 ≤ y ∧ y ≤ 4) ∧ -1 ≤ i) → K u w (some (iv (-1))) S V) (k1 : ((0 ≤ y ∧ y ≤ 4) ∧ -1 ≤ i) → ¬ ((0 ≤ x ∧ x ≤ 2 ^ (V 171 1).toNat - 1) ∧ (2 ≤ v_bs x 16 ∧ v_bs x 16 ≤ 4) ∧ (0 ≤ n ∧ n ≤ 99) ∧ (1 ≤ d ∧ d ≤ 3)) → K u w (some (iv (-2))) S V) (k2 : ((0 ≤ y ∧ y ≤ 4) ∧ -1 ≤ i) → ((0 ≤ x ∧ x ≤ 2 ^ (V 171 1).toNat - 1) ∧ (2 ≤ v_bs x 16 ∧ v_bs x 16 ≤ 4) ∧ (0 ≤ n ∧ n ≤ 99) ∧ (1 ≤ d ∧ d ≤ 3)) → ∀ B T al dn : Nat, V 171 1 = (B : Int) → v_bs x 16 = (T : Int) → V 171 5 = (al : Int) → d = (dn : Int) → ∀ V2, FrX V V2 → K u w (some (iv (ordA (KPm y n (V 171) tl (tdL x B) T al dn) (tdL x B) T i))) S V2) : y_R X 16 164 u w [.ref 170, iv x, iv y, iv n, iv d, iv i] S V K := by
  have hsz := hSO.1
  have hp2 : 1 ≤ (2 ^ (V 171 1).toNat : Int) ∧ (2 ^ (V 171 1).toNat : Int) ≤ 256 := by
    rcases (show V 171 1 = 0 ∨ V 171 1 = 1 ∨ V 171 1 = 2 ∨ V 171 1 = 3 ∨ V 171 1 = 4 ∨ V 171 1 = 5 ∨ V 171 1 = 6 ∨ V 171 1 = 7 ∨ V 171 1 = 8 by omega) with h | h | h | h | h | h | h | h | h <;> rw [h] <;> decide
  have hv16 := v_bs_le x 16
  refine y_ent (lv' := [(0, .ref 170), (1, iv x), (2, iv y), (3, iv n), (4, iv d), (5, iv i)]) (Nat.le_of_ble_eq_true rfl) rfl ?_
  refine y_ld (x := iv y) rfl rfl (fun d => rfl) ?_
  refine y_ic rfl rfl ?_
  refine y_ic rfl rfl ?_
  refine y_cS (as := [iv y, iv 0, iv 4]) rfl (by decide) rfl rfl rfl rfl ⟨(Nat.le_of_ble_eq_true rfl), (Nat.le_of_ble_eq_true rfl)⟩ (by omega) (ct_in (by omega) ?_)
  refine y_nv ?_
  refine y_beq rfl rfl rfl (fun g1 => ?_) (fun g1 => ?_)
  · refine y_ic rfl rfl ?_
    refine y_rI rfl (Or.inl rfl) ?_
    exact k0 (by omega)
  · refine y_ld (x := iv i) rfl rfl (fun d => rfl) ?_
    refine y_ic rfl rfl ?_
    refine y_jge rfl rfl rfl (by omega) (fun g2 => ?_) (fun g2 => ?_)
    · refine y_ld (x := iv x) rfl rfl (fun d => rfl) ?_
      refine y_ic rfl rfl ?_
      refine y_ic rfl rfl ?_
      refine y_ld (x := .ref 170) rfl rfl (fun d => rfl) ?_
      refine y_gR (i := 1) rfl rfl rfl (md170 hM) rfl ?_
      refine y_ic rfl rfl ?_
      refine y_ild (x := (V 171 1)) (q := 1) rfl rfl (md171 hM) (by decide) (by decide) rfl rfl ?_
      refine y_op (z := (2 ^ (V 171 1).toNat)) rfl rfl (fun d => rfl) (v_shl1 (k := V 171 1) (by omega)) ?_
      refine y_ic rfl rfl ?_
      refine y_sub (z := ((2 ^ (V 171 1).toNat) - 1)) rfl rfl rfl ?_
      refine y_cS (as := [iv x, iv 0, iv ((2 ^ (V 171 1).toNat) - 1)]) rfl (by decide) rfl rfl rfl rfl ⟨(Nat.le_of_ble_eq_true rfl), (Nat.le_of_ble_eq_true rfl)⟩ (by omega) (ct_in (by omega) ?_)
      refine y_nv ?_
      refine y_beq rfl rfl rfl (fun g3 => ?_) (fun g3 => ?_)
      · refine y_bi rfl rfl (by decide) ?_
        refine y_rI rfl (Or.inl rfl) ?_
        exact k1 (by omega) (by omega)
      · refine y_ld (x := iv x) rfl rfl (fun d => rfl) ?_
        refine y_cS (as := [iv x]) rfl (by decide) rfl rfl rfl rfl ⟨(Nat.le_of_ble_eq_true rfl), (Nat.le_of_ble_eq_true rfl)⟩ (by omega) (ct_count1 (by omega) ?_)
        refine y_nv ?_
        refine y_ic rfl rfl ?_
        refine y_ic rfl rfl ?_
        refine y_cS (as := [iv (v_bs x 16), iv 2, iv 4]) rfl (by decide) rfl rfl rfl rfl ⟨(Nat.le_of_ble_eq_true rfl), (Nat.le_of_ble_eq_true rfl)⟩ (by omega) (ct_in (by omega) ?_)
        refine y_nv ?_
        refine y_beq rfl rfl rfl (fun g4 => ?_) (fun g4 => ?_)
        · refine y_bi rfl rfl (by decide) ?_
          refine y_rI rfl (Or.inl rfl) ?_
          exact k1 (by omega) (by omega)
        · refine y_ld (x := iv n) rfl rfl (fun d => rfl) ?_
          refine y_ic rfl rfl ?_
          refine y_bi rfl rfl (by decide) ?_
          refine y_cS (as := [iv n, iv 0, iv 99]) rfl (by decide) rfl rfl rfl rfl ⟨(Nat.le_of_ble_eq_true rfl), (Nat.le_of_ble_eq_true rfl)⟩ (by omega) (ct_in (by omega) ?_)
          refine y_nv ?_
          refine y_beq rfl rfl rfl (fun g5 => ?_) (fun g5 => ?_)
          · refine y_bi rfl rfl (by decide) ?_
            refine y_rI rfl (Or.inl rfl) ?_
            exact k1 (by omega) (by omega)
          · refine y_ld (x := iv d) rfl rfl (fun d => rfl) ?_
            refine y_ic rfl rfl ?_
            refine y_ic rfl rfl ?_
            refine y_cS (as := [iv d, iv 1, iv 3]) rfl (by decide) rfl rfl rfl rfl ⟨(Nat.le_of_ble_eq_true rfl), (Nat.le_of_ble_eq_true rfl)⟩ (by omega) (ct_in (by omega) ?_)
            refine y_nv ?_
            refine y_bne rfl rfl rfl (fun g6 => ?_) (fun g6 => ?_)
            · obtain ⟨dn, rfl⟩ : ∃ dn : Nat, d = (dn : Int) := ⟨d.toNat, by omega⟩
              obtain ⟨B, hBn⟩ : ∃ B : Nat, V 171 1 = (B : Int) := ⟨(V 171 1).toNat, by omega⟩
              obtain ⟨al, hal⟩ : ∃ al : Nat, V 171 5 = (al : Int) := ⟨(V 171 5).toNat, by omega⟩
              refine y_ld (x := .ref 170) rfl rfl (fun d => rfl) ?_
              refine y_ic rfl rfl ?_
              refine y_pI (i := 37) rfl rfl rfl (md170 hM) rfl rfl ?_
              refine y_ic rfl rfl ?_
              refine y_st (lv' := [(6, iv 0), (0, .ref 170), (1, iv x), (2, iv y), (3, iv n), (4, iv (dn : Int)), (5, iv i)]) rfl rfl (fun d => rfl) ?_
              refine y_lv (l' := [(0, .ref 170), (1, iv x), (2, iv y), (3, iv n), (4, iv (dn : Int)), (5, iv i), (6, iv ((0 : Nat) : Int))]) rfl ⟨rfl, rfl, rfl, rfl, rfl, rfl, rfl, trivial⟩ ?_
              refine y_mono (lp_toldJ (F := 2000) (d := dn) hM (by omega) (by omega) hBn (by omega) 9 0 (v_up V 170 37 0) (by omega) (by omega) ⟨fun k hk => v_up_ne (by omega), fun i2 hi => v_up_ni (by omega)⟩ (v_up_eq _ _ _ _) (fun q hq => absurd hq (by show ¬ q < 0; omega)) (fun W1 f1 f2 f3 => ?_)) (by decide)
              refine y_ld (x := .ref 170) rfl rfl (fun d => rfl) ?_
              refine y_ic rfl rfl ?_
              refine y_pI (i := 38) rfl rfl rfl (md170 hM) rfl rfl ?_
              refine y_ld (x := .ref 170) rfl rfl (fun d => rfl) ?_
              refine y_ic rfl rfl ?_
              refine y_ic rfl rfl ?_
              refine y_ld (x := iv y) rfl rfl (fun d => rfl) ?_
              refine y_ld (x := iv n) rfl rfl (fun d => rfl) ?_
              refine y_ld (x := iv (dn : Int)) rfl rfl (fun d => rfl) ?_
              have hle := v_bs_le x B
              have hmo := v_bs_mono x B 16 (by omega)
              have hxB : x < 2 ^ B := by
                have h9 : (V 171 1).toNat = B := by omega
                rw [← h9]
                omega
              have hbt := v_bs_top x B ⟨by omega, hxB⟩ 16 (by omega)
              obtain ⟨T, hT⟩ : ∃ T : Nat, v_bs x B = (T : Int) := ⟨(v_bs x B).toNat, by omega⟩
              have hln : (tdL x B).length = T := by have := tdL_len x B; omega
              rw [hT] at f2
              have hT4 : T ≤ 4 := by omega
              have hp4 : 4 ^ T ≤ 256 := by
                have := Nat.pow_le_pow_right (show 0 < 4 by decide) hT4
                omega
              have hA1 : AJ V T 0 (tdL x B) (KPm y n (V 171) tl (tdL x B) T al dn) [] [] (v_up W1 170 38 0) := ⟨FrX_tr f1 ⟨fun k hk => v_up_ne (by omega), fun i2 hi => v_up_ni (by omega)⟩, by rw [v_up_ni (by decide)]; exact f2, by rw [v_up_eq]; rfl, by rw [v_up_ne (by decide)]; exact fun q hq => f3 q (by omega), fun q hq => absurd hq (by omega), fun h0 => absurd h0 (by show ¬ 0 < 0; omega)⟩
              refine y_cV (as := [.ref 170, iv ((0 : Nat) : Int), iv 0, iv y, iv n, iv (dn : Int)]) rfl rfl rfl rfl rfl (md170 hM) ⟨rfl, (Nat.le_of_ble_eq_true rfl), (Nat.le_of_ble_eq_true rfl)⟩ (by omega) (ct_arrJ hM hSO hTO hMTs (by omega) (by omega) (by omega) hT4 (fun q hq => by have := tdL_lt x B q (by omega); omega) hal T 0 (by omega) 0 0 [] [] _ _ _ _ (by decide) (by decide) rfl (fun a ha => absurd ha List.not_mem_nil) (Nat.le_refl 0) (by omega) hA1 (fun W2 a1 => ?_))
              obtain ⟨b1, b2, b3, b4, b5, b6⟩ := a1
              rw [List.nil_append] at b3 b6
              have hk2 := k2 (by omega) (by omega) B T al dn hBn (hbt.trans hT) hal rfl
              have hplE : arrL T T [] 0 = plL T := rfl
              rw [hplE] at b3 b6
              have hcl := cK_le (KPm y n (V 171) tl (tdL x B) T al dn) (plL T)
              have hpl4 : (plL T).length ≤ 4 ^ T := arrL_len hT4 T [] 0
              refine y_n0 ?_
              refine y_ld (x := iv i) rfl rfl (fun d => rfl) ?_
              refine y_ic rfl rfl ?_
              refine y_jne rfl rfl rfl (by omega) (fun g7 => ?_) (fun g7 => ?_)
              · refine y_ld (x := .ref 170) rfl rfl (fun d => rfl) ?_
                refine y_gI (i := 38) (e := (W2 170 38)) rfl rfl rfl (md170 hM) rfl rfl ?_
                refine y_zle rfl rfl rfl (by omega) (fun g8 => ?_) (fun g8 => ?_)
                · refine y_ic rfl rfl ?_
                  refine y_rI rfl (Or.inl rfl) ?_
                  have ea : (-1 : Int) = ordA (KPm y n (V 171) tl (tdL x B) T al dn) (tdL x B) T i := by unfold ordA; rw [if_neg (by omega), if_neg (by omega)]
                  exact Eq.mpr (congrArg (fun z : Int => K u w (some (iv z)) S W2) ea) (hk2 W2 b1)
                · refine y_ld (x := iv i) rfl rfl (fun d => rfl) ?_
                  refine y_ld (x := .ref 170) rfl rfl (fun d => rfl) ?_
                  refine y_gI (i := 37) (e := (T : Int)) rfl rfl rfl (md170 hM) rfl b2 ?_
                  refine y_jge rfl rfl rfl (by omega) (fun g9 => ?_) (fun g9 => ?_)
                  · refine y_ic rfl rfl ?_
                    refine y_rI rfl (Or.inl rfl) ?_
                    have ea : (-1 : Int) = ordA (KPm y n (V 171) tl (tdL x B) T al dn) (tdL x B) T i := by unfold ordA; rw [if_neg (by omega), if_neg (by omega)]
                    exact Eq.mpr (congrArg (fun z : Int => K u w (some (iv z)) S W2) ea) (hk2 W2 b1)
                  · refine y_ld (x := .ref 170) rfl rfl (fun d => rfl) ?_
                    refine y_gR (i := 36) rfl rfl rfl (md170 hM) rfl ?_
                    refine y_ld (x := iv i) rfl rfl (fun d => rfl) ?_
                    refine y_ild (x := (W2 191 i.toNat)) (q := i.toNat) rfl rfl (md191 hM) (by omega) (by decide) (by omega) rfl ?_
                    refine y_go rfl rfl ?_
                    refine y_rI rfl (Or.inl rfl) ?_
                    have ea : (W2 191 i.toNat : Int) = ordA (KPm y n (V 171) tl (tdL x B) T al dn) (tdL x B) T i := by unfold ordA; rw [if_neg (by omega), if_pos (by omega)]; exact b6 (by omega) i.toNat (by omega)
                    exact Eq.mpr (congrArg (fun z : Int => K u w (some (iv z)) S W2) ea) (hk2 W2 b1)
              · refine y_ld (x := .ref 170) rfl rfl (fun d => rfl) ?_
                refine y_gI (i := 38) (e := (W2 170 38)) rfl rfl rfl (md170 hM) rfl rfl ?_
                refine y_rI rfl (Or.inl rfl) ?_
                have ea : (W2 170 38 : Int) = ordA (KPm y n (V 171) tl (tdL x B) T al dn) (tdL x B) T i := by unfold ordA; rw [if_pos (by omega)]; exact b3
                exact Eq.mpr (congrArg (fun z : Int => K u w (some (iv z)) S W2) ea) (hk2 W2 b1)
            · refine y_bi rfl rfl (by decide) ?_
              refine y_rI rfl (Or.inl rfl) ?_
              exact k1 (by omega) (by omega)
    · refine y_ic rfl rfl ?_
      refine y_rI rfl (Or.inl rfl) ?_
      exact k0 (by omega)
end
