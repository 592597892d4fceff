/-! orders: the class, what it answers (its rows of BOXES) -/
def SJ (S0 : m_H) (V0 : v_V) (form N : Int) (al : Nat) (σ : Nat → Int) (tl : Nat → List p_Li) (m : Nat) (f : Nat → Nat) (S : m_H) (V : v_V) : Prop := SrC S V form N al m (fun q => tl (σ (178 + f q)).toNat) σ ∧ (∀ q, q < m → TO (tl (σ (178 + f q)).toNat)) ∧ XsA S ∧ SQ2 S0 S ∧ FrV V0 V ∧ ClF S ∧ ∀ q, q < m → V 120 q = ((f q : Nat) : Int) ∧ f q ≤ 8
theorem SJ_I {S0 S : m_H} {V0 V : v_V} {form N : Int} {al : Nat} {σ : Nat → Int} {tl : Nat → List p_Li} {m : Nat} {f : Nat → Nat} (h : SJ S0 V0 form N al σ tl m f S V) : SI S0 V0 form N al σ m S V := ⟨_, h.1, h.2.1, h.2.2.1, h.2.2.2.1, h.2.2.2.2.1, h.2.2.2.2.2.1, fun q hq => by have := h.2.2.2.2.2.2 q hq; omega⟩
theorem SrC_ts {S : m_H} {V : v_V} {form N : Int} {a m : Nat} {ts ts2 : Nat → List p_Li} {σ : Nat → Int} (h : SrC S V form N a m ts σ) (e : ∀ i, i < m → ts2 i = ts i) : SrC S V form N a m ts2 σ := by
  obtain ⟨h1, h2, ⟨xs, x1, x2, x3⟩, h4⟩ := h
  refine ⟨h1, h2, ⟨xs, x1, x2, fun i hi => ?_⟩, h4⟩
  rw [e i hi]
  exact x3 i hi
theorem SJ_c {S0 S : m_H} {V0 V : v_V} {form N : Int} {al : Nat} {σ : Nat → Int} {tl : Nat → List p_Li} {m : Nat} {f f2 : Nat → Nat} (h : SJ S0 V0 form N al σ tl m f S V) (e : ∀ q, q < m → f2 q = f q) : SJ S0 V0 form N al σ tl m f2 S V := by
  obtain ⟨h1, h2, h3, h4, h5, h6, h7⟩ := h
  refine ⟨SrC_ts h1 (fun i hi => by rw [e i hi]), fun q hq => ?_, h3, h4, h5, h6, fun q hq => ?_⟩
  · rw [e q hq]
    exact h2 q hq
  · rw [e q hq]
    exact h7 q hq
theorem SJ_S {S0 S : m_H} {V0 V V' : v_V} {form N : Int} {al : Nat} {σ : Nat → Int} {tl : Nat → List p_Li} {m : Nat} {f : Nat → Nat} (h : SJ S0 V0 form N al σ tl m f S V) (e : FrS 0 V V') : SJ S0 V0 form N al σ tl m f S V' := by
  obtain ⟨hSr, h2, hX, h4, h5, hC, h7⟩ := h
  exact ⟨SrC_r hSr (e 116 (by decide) (by decide)) (fun k hk => e k (by omega) (by omega)), h2, hX, h4, FrV_tr h5 (FrV_S e), hC, fun q hq => by rw [e 120 (by decide) (by decide)]; exact h7 q hq⟩
def KPc (form N : Int) (σ : Nat → Int) (tl : Nat → List p_Li) (td : List Nat) (T al d : Nat) (l : List Nat) : Prop := nbP (hitV form N σ (fun q => tl (σ (178 + (bxs td l).getD q 0)).toNat) T al) al d
theorem rg_map {l : List Nat} {T : Nat} (h : l.length = T) : (List.range T).map (fun q => l.getD q 0) = l := by
  subst h
  apply List.ext_getElem?
  intro k
  rw [List.getElem?_map]
  by_cases hk : k < l.length
  · rw [List.getElem?_range hk, List.getElem?_eq_getElem hk]
    show some (l.getD k 0) = _
    rw [List.getD_eq_getElem?_getD, List.getElem?_eq_getElem hk]
    rfl
  · rw [List.getElem?_eq_none (by rw [List.length_range]; omega), List.getElem?_eq_none (by omega)]
    rfl
theorem nxt_step {T : Nat} {td : List Nat} (hT : td.length = T) (hm : ∀ p q, p < q → q < T → td.getD p 0 < td.getD q 0) (hT4 : 2 ≤ T ∧ T ≤ 4) {dn r2 : List (List Nat)} {l L2 : List Nat} {b : Bool} (hpl : plL T = dn ++ l :: r2) (e5 : nxt ((List.range T).map (fun q => (bxs td l).getD q 0)) = (b, L2)) :
    (r2 = [] ∧ b = false) ∨ ∃ l3 r3, r2 = l3 :: r3 ∧ b = true ∧ L2 = bxs td l3 := by
  obtain ⟨g1, g2⟩ := pl_mem hT4 (l := l) (by rw [hpl]; simp)
  rw [rg_map (by unfold bxs; rw [List.length_map]; exact g1), nxt_map td hT hm g1 hT4 g2] at e5
  have hch := (plL_ok T (by omega) hT4.1).1
  rw [hpl] at hch
  have h1 := chn_d dn hch
  cases r2 with
  | nil =>
    refine Or.inl ⟨rfl, ?_⟩
    have h2 : (!(nxt l).1) = true := h1
    have h3 : (nxt l).1 = b := congrArg Prod.fst e5
    rw [h3] at h2
    cases b
    · rfl
    · exact absurd h2 (by decide)
  | cons l3 r3 =>
    simp only [chn, Bool.and_eq_true, beq_iff_eq] at h1
    rw [h1.1] at e5
    exact Or.inr ⟨l3, r3, rfl, (congrArg Prod.fst e5).symm, (congrArg Prod.snd e5).symm⟩
theorem ord_e {P : List Nat → Prop} {td : List Nat} {T : Nat} {i : Int} (hi : -1 ≤ i) {dn rs : List (List Nat)} (hpl : plL T = dn ++ rs) (hrs : rs = []) (h0 : 0 ≤ i → cK P dn = 0) : (i = -1 → (cK P dn : Int) = ordA P td T i) ∧ (i ≠ -1 → (-1 : Int) = ordA P td T i) := by
  rw [hrs, List.append_nil] at hpl
  unfold ordA
  rw [hpl]
  refine ⟨fun e => ?_, fun e => ?_⟩
  · rw [if_pos e]
  · rw [if_neg e, if_neg (by have := h0 (by omega); omega)]
theorem ord_f {P : List Nat → Prop} {td : List Nat} {T : Nat} {i : Int} {dn r2 : List (List Nat)} {l : List Nat} (hi : 0 ≤ i) (hpl : plL T = dn ++ l :: r2) (h0 : cK P dn = 0) (hP : P l) : (i < T → ((td.getD (l.getD i.toNat 0) 0 : Nat) : Int) = ordA P td T i) ∧ (¬ i < T → (-1 : Int) = ordA P td T i) := by
  have e1 : fK P (plL T) = l := by
    rw [hpl, fK_a0 _ _ h0, fK_1 _ hP]
  have e2 : 0 < cK P (plL T) := by
    rw [hpl, cK_app, cK_1 _ hP]
    omega
  unfold ordA
  rw [if_neg (by omega), e1]
  exact ⟨fun h => by rw [if_pos ⟨e2, h⟩], fun h => by rw [if_neg (fun q => h q.2)]⟩
section
variable {X : Nat → List Int32} {u w : Nat} {S : m_H} {V : v_V} {K : v_K}
set_option maxRecDepth 100000 in
set_option maxHeartbeats 4000000 in
theorem cs_swapJ {S0 : m_H} {V0 : v_V} {form N : Int} {al : Nat} {σ : Nat → Int} {tl : Nat → List p_Li} {f : Nat → Nat} {m : Nat} (hm : m ≤ 4) (hI : SJ S0 V0 form N al σ tl m f S V) {a b : Int} (ha : 0 ≤ a ∧ a < m) (hb : 0 ≤ b ∧ b < m) (k : ∀ S2 V2, SJ S0 V0 form N al σ tl m (fun q => if q = b.toNat then f a.toNat else if q = a.toNat then f b.toNat else f q) S2 V2 → K u w none S2 V2) : y_R X 1 40 u w [.ref 116, iv a, iv b] S V K := by
  obtain ⟨hSr, h2, hX, h4, h5, hC, h7⟩ := hI
  obtain ⟨xs, x1, x2, x3⟩ := hSr.2.2.1
  obtain ⟨zs, z1, z2, z3⟩ := hX
  have ezs : zs = xs := by
    have e := z1.2.symm.trans x1.2
    simp only [Option.some.injEq, Prod.mk.injEq] at e
    exact e.2
  subst ezs
  have x4 := z3
  obtain ⟨ta, a1, a2, a3, a4⟩ := x3 a.toNat (by omega)
  obtain ⟨tb, b1, b2, b3, b4⟩ := x3 b.toNat (by omega)
  refine y_ent (lv' := [(0, .ref 116), (1, iv a), (2, iv b)]) (Nat.le_of_ble_eq_true rfl) rfl ?_
  refine y_ld (x := .ref 116) rfl rfl (fun d => rfl) ?_
  refine y_gR (i := 3) rfl rfl rfl hSr.1 rfl ?_
  refine y_ld (x := iv a) rfl rfl (fun d => rfl) ?_
  refine y_ild (x := (V 120 a.toNat)) (q := a.toNat) rfl rfl (cl_ia hC (k := 120) (N := 4) rfl) (by omega) (by decide) rfl rfl ?_
  refine y_st (lv' := [(3, iv (V 120 a.toNat)), (0, .ref 116), (1, iv a), (2, iv b)]) rfl rfl (fun d => rfl) ?_
  refine y_ld (x := .ref 116) rfl rfl (fun d => rfl) ?_
  refine y_gR (i := 3) rfl rfl rfl hSr.1 rfl ?_
  refine y_ld (x := iv a) rfl rfl (fun d => rfl) ?_
  refine y_ld (x := .ref 116) rfl rfl (fun d => rfl) ?_
  refine y_gR (i := 3) rfl rfl rfl hSr.1 rfl ?_
  refine y_ld (x := iv b) rfl rfl (fun d => rfl) ?_
  refine y_ild (x := (V 120 b.toNat)) (q := b.toNat) rfl rfl (cl_ia hC (k := 120) (N := 4) rfl) (by omega) (by decide) rfl rfl ?_
  refine y_ist (q := a.toNat) rfl rfl (cl_ia hC (k := 120) (N := 4) rfl) (by omega) (by decide) rfl ?_
  refine y_ld (x := .ref 116) rfl rfl (fun d => rfl) ?_
  refine y_gR (i := 3) rfl rfl rfl hSr.1 rfl ?_
  refine y_ld (x := iv b) rfl rfl (fun d => rfl) ?_
  refine y_ld (x := iv (V 120 a.toNat)) rfl rfl (fun d => rfl) ?_
  refine y_ist (q := b.toNat) rfl rfl (cl_ia hC (k := 120) (N := 4) rfl) (by omega) (by decide) rfl ?_
  refine y_ld (x := .ref 116) rfl rfl (fun d => rfl) ?_
  refine y_gR (i := 2) rfl rfl rfl hSr.1 rfl ?_
  refine y_ld (x := iv a) rfl rfl (fun d => rfl) ?_
  refine y_rld (i := a.toNat) (x := ta) rfl rfl x1 (by decide) (by omega) (by omega) a1 ?_
  refine y_st (lv' := [(4, .ref ta), (3, iv (V 120 a.toNat)), (0, .ref 116), (1, iv a), (2, iv b)]) rfl rfl (fun d => rfl) ?_
  refine y_ld (x := .ref 116) rfl rfl (fun d => rfl) ?_
  refine y_gR (i := 2) rfl rfl rfl hSr.1 rfl ?_
  refine y_ld (x := iv a) rfl rfl (fun d => rfl) ?_
  refine y_ld (x := .ref 116) rfl rfl (fun d => rfl) ?_
  refine y_gR (i := 2) rfl rfl rfl hSr.1 rfl ?_
  refine y_ld (x := iv b) rfl rfl (fun d => rfl) ?_
  refine y_rld (i := b.toNat) (x := tb) rfl rfl x1 (by decide) (by omega) (by omega) b1 ?_
  refine y_rst (i := a.toNat) rfl rfl x1 (by decide) (by omega) (by omega) (by omega) (Or.inr ⟨tb, _, rfl, b3.1⟩) ?_
  have hq := SQ2_set (vs' := zs.set a.toNat (.ref tb)) x1 (Or.inr rfl)
  have hs1 : ce (S.set 119 (22, zs.set a.toNat (.ref tb))) 116 4 (S116l (.ref 7)) := ce_ne hSr.1 (by decide)
  have x1b : ce (S.set 119 (22, zs.set a.toNat (.ref tb))) 119 22 (zs.set a.toNat (.ref tb)) := ce_eq x1
  have x2b : (zs.set a.toNat (.ref tb)).length = 4 := by rw [List.length_set]; exact x2
  refine y_ld (x := .ref 116) rfl rfl (fun d => rfl) ?_
  refine y_gR (i := 2) rfl rfl rfl hs1 rfl ?_
  refine y_ld (x := iv b) rfl rfl (fun d => rfl) ?_
  refine y_ld (x := .ref ta) rfl rfl (fun d => rfl) ?_
  refine y_rst (i := b.toNat) rfl rfl x1b (by decide) (by omega) (by omega) (by omega) (Or.inr ⟨ta, _, rfl, (TxS_2 a2 a3 hq).1⟩) ?_
  have hq2 := SQ2_tr hq (SQ2_set (vs' := (zs.set a.toNat (.ref tb)).set b.toNat (.ref ta)) x1b (Or.inr rfl))
  refine y_ret rfl (fun d => rfl) ?_
  have hhi : ∀ k, 193 ≤ k → (v_up (v_up V 120 a.toNat (V 120 b.toNat)) 120 b.toNat (V 120 a.toNat)) k = V k := fun k hk => by rw [v_up_ne (by omega), v_up_ne (by omega)]
  have e116 : (v_up (v_up V 120 a.toNat (V 120 b.toNat)) 120 b.toNat (V 120 a.toNat)) 116 = V 116 := by rw [v_up_ne (by decide), v_up_ne (by decide)]
  obtain ⟨la, y1, y2, y3⟩ := hSr.2.2.2
  have hx3 : ce ((S.set 119 (22, zs.set a.toNat (.ref tb))).set 119 (22, (zs.set a.toNat (.ref tb)).set b.toNat (.ref ta))) 119 22 ((zs.set a.toNat (.ref tb)).set b.toNat (.ref ta)) := ce_eq x1b
  have hnb : ∀ (l : List Value) (c : Nat) (v : Value), c < l.length → m_nth (l.set c v) c = some v := fun l c v hc => by rw [m_nth_set, if_pos rfl, m_nth_eq, List.getElem?_eq_getElem hc]; rfl
  refine k _ _ ⟨⟨ce_ne hs1 (by decide), by rw [e116]; exact hSr.2.1, ⟨_, hx3, by rw [List.length_set]; exact x2b, fun q hqm => ?_⟩, la, ce_ne (ce_ne y1 (by decide)) (by decide), y2, fun q hqm => ?_⟩, fun q hqm => ?_, ⟨_, hx3, by rw [List.length_set]; exact x2b, fun v hv => ?_⟩, SQ2_tr h4 hq2, FrV_tr h5 (fun k _ h7 _ _ => by rw [v_up_ne h7, v_up_ne h7]), ClF_2 hC hq2, fun q hqm => ?_⟩
  · dsimp only
    by_cases hqb : q = b.toNat
    · rw [hqb, hnb _ _ _ (by omega), if_pos rfl]
      exact ⟨ta, rfl, a2, TxS_2 a2 a3 hq2, CT_hi hhi a2 a4⟩
    · rw [m_nth_set, if_neg hqb, if_neg hqb]
      by_cases hqa : q = a.toNat
      · rw [hqa, hnb _ _ _ (by omega), if_pos rfl]
        exact ⟨tb, rfl, b2, TxS_2 b2 b3 hq2, CT_hi hhi b2 b4⟩
      · rw [m_nth_set, if_neg hqa, if_neg hqa]
        obtain ⟨t, c1, c2, c3, c4⟩ := x3 q hqm
        exact ⟨t, c1, c2, TxS_2 c2 c3 hq2, CT_hi hhi c2 c4⟩
  · obtain ⟨pk, p1, p2, p3⟩ := y3 q hqm
    have p4 := PkS_r p3 (hhi pk p2)
    exact ⟨pk, p1, p2, ce_ne (ce_ne p4.1 (by omega)) (by omega), p4.2⟩
  · dsimp only
    split
    · exact h2 _ (by omega)
    · split
      · exact h2 _ (by omega)
      · exact h2 q hqm
  · rcases List.mem_or_eq_of_mem_set hv with h7 | h7
    · rcases List.mem_or_eq_of_mem_set h7 with h8 | h8
      · exact hq2.2.1 _ _ (x4 v h8)
      · rw [h8]; exact Or.inr ⟨tb, _, rfl, (TxS_2 b2 b3 hq2).1⟩
    · rw [h7]; exact Or.inr ⟨ta, _, rfl, (TxS_2 a2 a3 hq2).1⟩
  · dsimp only
    by_cases hqb : q = b.toNat
    · rw [hqb, v_up_eq, if_pos rfl]; exact h7 _ (by omega)
    · rw [v_up_ni hqb, if_neg hqb]
      by_cases hqa : q = a.toNat
      · rw [hqa, v_up_eq, if_pos rfl]; exact h7 _ (by omega)
      · rw [v_up_ni hqa, if_neg hqa]; exact h7 q hqm
set_option maxRecDepth 100000 in
set_option maxHeartbeats 4000000 in
theorem cs_turnsJ {S0 : m_H} {V0 : v_V} {form N : Int} {al : Nat} {σ : Nat → Int} {tl : Nat → List p_Li} {f : Nat → Nat} {m : Nat} (hm : 2 ≤ m ∧ m ≤ 4) (hI : SJ S0 V0 form N al σ tl m f S V) (k : ∀ (b : Bool) (L2 : List Nat) S2 V2, nxt ((List.range m).map f) = (b, L2) → SJ S0 V0 form N al σ tl m (fun q => L2.getD q 0) S2 V2 → K u w (some (iv (b01 b))) S2 V2) : y_R X 2 39 u w [.ref 116] S V K := by
  rcases (show m = 2 ∨ m = 3 ∨ m = 4 by omega) with rfl | rfl | rfl
  all_goals have hIc := hI
  all_goals obtain ⟨hSr, h2, hX, h4, h5, hC, h7⟩ := hIc
  all_goals refine y_ent (lv' := [(0, .ref 116)]) (Nat.le_of_ble_eq_true rfl) rfl ?_
  · have o0 := h7 0 (by decide)
    have o1 := h7 1 (by decide)
    refine y_ld (x := .ref 116) rfl rfl (fun d => rfl) ?_
    refine y_gI (i := 4) (e := 2) rfl rfl rfl hSr.1 rfl hSr.2.1.1 ?_
    refine y_ic rfl rfl ?_
    refine y_sub (z := 0) rfl rfl rfl ?_
    refine y_st (lv' := [(1, iv 0), (0, .ref 116)]) rfl rfl (fun d => rfl) ?_
    refine y_ld (x := iv 0) rfl rfl (fun d => rfl) ?_
    refine y_zlt rfl rfl rfl (by decide) (fun g1 => absurd g1 (by decide)) (fun g1 => ?_)
    refine y_ld (x := .ref 116) rfl rfl (fun d => rfl) ?_
    refine y_gR (i := 3) rfl rfl rfl hSr.1 rfl ?_
    refine y_ld (x := iv 0) rfl rfl (fun d => rfl) ?_
    refine y_ild (x := (V 120 0)) (q := 0) rfl rfl (cl_ia hC (k := 120) (N := 4) rfl) (by decide) (by decide) rfl rfl ?_
    refine y_ld (x := .ref 116) rfl rfl (fun d => rfl) ?_
    refine y_gR (i := 3) rfl rfl rfl hSr.1 rfl ?_
    refine y_ld (x := iv 0) rfl rfl (fun d => rfl) ?_
    refine y_ic rfl rfl ?_
    refine y_add (z := 1) rfl rfl rfl ?_
    refine y_ild (x := (V 120 1)) (q := 1) rfl rfl (cl_ia hC (k := 120) (N := 4) rfl) (by decide) (by decide) rfl rfl ?_
    refine y_jle rfl rfl rfl (by omega) (fun g2 => ?_) (fun g2 => ?_)
    · refine y_ld (x := iv 0) rfl rfl (fun d => rfl) ?_
      refine y_zge rfl rfl rfl (by decide) (fun g3 => ?_) (fun g3 => absurd g3 (by decide))
      refine y_ld (x := .ref 116) rfl rfl (fun d => rfl) ?_
      refine y_gI (i := 4) (e := 2) rfl rfl rfl hSr.1 rfl hSr.2.1.1 ?_
      refine y_ic rfl rfl ?_
      refine y_sub (z := 1) rfl rfl rfl ?_
      refine y_st (lv' := [(2, iv 1), (1, iv 0), (0, .ref 116)]) rfl rfl (fun d => rfl) ?_
      refine y_ld (x := iv 1) rfl rfl (fun d => rfl) ?_
      refine y_ld (x := iv 0) rfl rfl (fun d => rfl) ?_
      refine y_jle rfl rfl rfl (by decide) (fun g4 => absurd g4 (by decide)) (fun g4 => ?_)
      refine y_ld (x := .ref 116) rfl rfl (fun d => rfl) ?_
      refine y_gR (i := 3) rfl rfl rfl hSr.1 rfl ?_
      refine y_ld (x := iv 1) rfl rfl (fun d => rfl) ?_
      refine y_ild (x := (V 120 1)) (q := 1) rfl rfl (cl_ia hC (k := 120) (N := 4) rfl) (by decide) (by decide) rfl rfl ?_
      refine y_ld (x := .ref 116) rfl rfl (fun d => rfl) ?_
      refine y_gR (i := 3) rfl rfl rfl hSr.1 rfl ?_
      refine y_ld (x := iv 0) rfl rfl (fun d => rfl) ?_
      refine y_ild (x := (V 120 0)) (q := 0) rfl rfl (cl_ia hC (k := 120) (N := 4) rfl) (by decide) (by decide) rfl rfl ?_
      refine y_jge rfl rfl rfl (by omega) (fun g5 => ?_) (fun g5 => ?_)
      · refine y_ld (x := .ref 116) rfl rfl (fun d => rfl) ?_
        refine y_ld (x := iv 0) rfl rfl (fun d => rfl) ?_
        refine y_ld (x := iv 1) rfl rfl (fun d => rfl) ?_
        refine y_cV (as := [.ref 116, iv 0, iv 1]) rfl rfl rfl rfl rfl hSr.1 ⟨rfl, (Nat.le_of_ble_eq_true rfl), (Nat.le_of_ble_eq_true rfl)⟩ (by decide) (cs_swapJ (by decide) hI (by decide) (by decide) (fun S11 V11 hI1 => ?_))
        have hI1c := hI1
        obtain ⟨hSr1, h21, hX1, h41, h51, hC1, h71⟩ := hI1c
        refine y_n0 ?_
        refine y_ld (x := iv 0) rfl rfl (fun d => rfl) ?_
        refine y_ic rfl rfl ?_
        refine y_add (z := 1) rfl rfl rfl ?_
        refine y_st (lv' := [(3, iv 1), (2, iv 1), (1, iv 0), (0, .ref 116)]) rfl rfl (fun d => rfl) ?_
        refine y_ld (x := .ref 116) rfl rfl (fun d => rfl) ?_
        refine y_gI (i := 4) (e := 2) rfl rfl rfl hSr1.1 rfl hSr1.2.1.1 ?_
        refine y_ic rfl rfl ?_
        refine y_sub (z := 1) rfl rfl rfl ?_
        refine y_st (lv' := [(4, iv 1), (3, iv 1), (2, iv 1), (1, iv 0), (0, .ref 116)]) rfl rfl (fun d => rfl) ?_
        refine y_ld (x := iv 1) rfl rfl (fun d => rfl) ?_
        refine y_ld (x := iv 1) rfl rfl (fun d => rfl) ?_
        refine y_jge rfl rfl rfl (by decide) (fun g6 => ?_) (fun g6 => absurd g6 (by decide))
        refine y_ic rfl rfl ?_
        refine y_rI rfl (by decide) ?_
        exact k true [f 1, f 0] S11 V11 (by show nxt [f 0, f 1] = _; simp only [nxt]; (repeat' split); all_goals first | rfl | (exfalso; omega)) (SJ_c hI1 (fun q hq => by rcases (show q = 0 ∨ q = 1 by omega) with rfl | rfl <;> rfl))
      · refine y_inc (z := 0) (lv' := [(2, iv 0), (1, iv 0), (0, .ref 116)]) rfl rfl rfl rfl rfl ?_
        refine y_go rfl rfl ?_
        refine y_ld (x := iv 0) rfl rfl (fun d => rfl) ?_
        refine y_ld (x := iv 0) rfl rfl (fun d => rfl) ?_
        refine y_jle rfl rfl rfl (by decide) (fun g7 => ?_) (fun g7 => absurd g7 (by decide))
        refine y_ld (x := .ref 116) rfl rfl (fun d => rfl) ?_
        refine y_ld (x := iv 0) rfl rfl (fun d => rfl) ?_
        refine y_ld (x := iv 0) rfl rfl (fun d => rfl) ?_
        refine y_cV (as := [.ref 116, iv 0, iv 0]) rfl rfl rfl rfl rfl hSr.1 ⟨rfl, (Nat.le_of_ble_eq_true rfl), (Nat.le_of_ble_eq_true rfl)⟩ (by decide) (cs_swapJ (by decide) hI (by decide) (by decide) (fun S11 V11 hI1 => ?_))
        have hI1c := hI1
        obtain ⟨hSr1, h21, hX1, h41, h51, hC1, h71⟩ := hI1c
        refine y_n0 ?_
        refine y_ld (x := iv 0) rfl rfl (fun d => rfl) ?_
        refine y_ic rfl rfl ?_
        refine y_add (z := 1) rfl rfl rfl ?_
        refine y_st (lv' := [(3, iv 1), (2, iv 0), (1, iv 0), (0, .ref 116)]) rfl rfl (fun d => rfl) ?_
        refine y_ld (x := .ref 116) rfl rfl (fun d => rfl) ?_
        refine y_gI (i := 4) (e := 2) rfl rfl rfl hSr1.1 rfl hSr1.2.1.1 ?_
        refine y_ic rfl rfl ?_
        refine y_sub (z := 1) rfl rfl rfl ?_
        refine y_st (lv' := [(4, iv 1), (3, iv 1), (2, iv 0), (1, iv 0), (0, .ref 116)]) rfl rfl (fun d => rfl) ?_
        refine y_ld (x := iv 1) rfl rfl (fun d => rfl) ?_
        refine y_ld (x := iv 1) rfl rfl (fun d => rfl) ?_
        refine y_jge rfl rfl rfl (by decide) (fun g8 => ?_) (fun g8 => absurd g8 (by decide))
        refine y_ic rfl rfl ?_
        refine y_rI rfl (by decide) ?_
        exact k true [f 0, f 1] S11 V11 (by show nxt [f 0, f 1] = _; simp only [nxt]; (repeat' split); all_goals first | rfl | (exfalso; omega)) (SJ_c hI1 (fun q hq => by rcases (show q = 0 ∨ q = 1 by omega) with rfl | rfl <;> rfl))
    · refine y_inc (z := (-1)) (lv' := [(1, iv (-1)), (0, .ref 116)]) rfl rfl rfl rfl rfl ?_
      refine y_go rfl rfl ?_
      refine y_ld (x := iv (-1)) rfl rfl (fun d => rfl) ?_
      refine y_zlt rfl rfl rfl (by decide) (fun g9 => ?_) (fun g9 => absurd g9 (by decide))
      refine y_ld (x := iv (-1)) rfl rfl (fun d => rfl) ?_
      refine y_zge rfl rfl rfl (by decide) (fun g10 => absurd g10 (by decide)) (fun g10 => ?_)
      refine y_ic rfl rfl ?_
      refine y_rI rfl (by decide) ?_
      exact k false [f 0, f 1] S V (by show nxt [f 0, f 1] = _; simp only [nxt]; (repeat' split); all_goals first | rfl | (exfalso; omega)) (SJ_c hI (fun q hq => by rcases (show q = 0 ∨ q = 1 by omega) with rfl | rfl <;> rfl))
  · have o0 := h7 0 (by decide)
    have o1 := h7 1 (by decide)
    have o2 := h7 2 (by decide)
    refine y_ld (x := .ref 116) rfl rfl (fun d => rfl) ?_
    refine y_gI (i := 4) (e := 3) rfl rfl rfl hSr.1 rfl hSr.2.1.1 ?_
    refine y_ic rfl rfl ?_
    refine y_sub (z := 1) rfl rfl rfl ?_
    refine y_st (lv' := [(1, iv 1), (0, .ref 116)]) rfl rfl (fun d => rfl) ?_
    refine y_ld (x := iv 1) rfl rfl (fun d => rfl) ?_
    refine y_zlt rfl rfl rfl (by decide) (fun g11 => absurd g11 (by decide)) (fun g11 => ?_)
    refine y_ld (x := .ref 116) rfl rfl (fun d => rfl) ?_
    refine y_gR (i := 3) rfl rfl rfl hSr.1 rfl ?_
    refine y_ld (x := iv 1) rfl rfl (fun d => rfl) ?_
    refine y_ild (x := (V 120 1)) (q := 1) rfl rfl (cl_ia hC (k := 120) (N := 4) rfl) (by decide) (by decide) rfl rfl ?_
    refine y_ld (x := .ref 116) rfl rfl (fun d => rfl) ?_
    refine y_gR (i := 3) rfl rfl rfl hSr.1 rfl ?_
    refine y_ld (x := iv 1) rfl rfl (fun d => rfl) ?_
    refine y_ic rfl rfl ?_
    refine y_add (z := 2) rfl rfl rfl ?_
    refine y_ild (x := (V 120 2)) (q := 2) rfl rfl (cl_ia hC (k := 120) (N := 4) rfl) (by decide) (by decide) rfl rfl ?_
    refine y_jle rfl rfl rfl (by omega) (fun g12 => ?_) (fun g12 => ?_)
    · refine y_ld (x := iv 1) rfl rfl (fun d => rfl) ?_
      refine y_zge rfl rfl rfl (by decide) (fun g13 => ?_) (fun g13 => absurd g13 (by decide))
      refine y_ld (x := .ref 116) rfl rfl (fun d => rfl) ?_
      refine y_gI (i := 4) (e := 3) rfl rfl rfl hSr.1 rfl hSr.2.1.1 ?_
      refine y_ic rfl rfl ?_
      refine y_sub (z := 2) rfl rfl rfl ?_
      refine y_st (lv' := [(2, iv 2), (1, iv 1), (0, .ref 116)]) rfl rfl (fun d => rfl) ?_
      refine y_ld (x := iv 2) rfl rfl (fun d => rfl) ?_
      refine y_ld (x := iv 1) rfl rfl (fun d => rfl) ?_
      refine y_jle rfl rfl rfl (by decide) (fun g14 => absurd g14 (by decide)) (fun g14 => ?_)
      refine y_ld (x := .ref 116) rfl rfl (fun d => rfl) ?_
      refine y_gR (i := 3) rfl rfl rfl hSr.1 rfl ?_
      refine y_ld (x := iv 2) rfl rfl (fun d => rfl) ?_
      refine y_ild (x := (V 120 2)) (q := 2) rfl rfl (cl_ia hC (k := 120) (N := 4) rfl) (by decide) (by decide) rfl rfl ?_
      refine y_ld (x := .ref 116) rfl rfl (fun d => rfl) ?_
      refine y_gR (i := 3) rfl rfl rfl hSr.1 rfl ?_
      refine y_ld (x := iv 1) rfl rfl (fun d => rfl) ?_
      refine y_ild (x := (V 120 1)) (q := 1) rfl rfl (cl_ia hC (k := 120) (N := 4) rfl) (by decide) (by decide) rfl rfl ?_
      refine y_jge rfl rfl rfl (by omega) (fun g15 => ?_) (fun g15 => ?_)
      · refine y_ld (x := .ref 116) rfl rfl (fun d => rfl) ?_
        refine y_ld (x := iv 1) rfl rfl (fun d => rfl) ?_
        refine y_ld (x := iv 2) rfl rfl (fun d => rfl) ?_
        refine y_cV (as := [.ref 116, iv 1, iv 2]) rfl rfl rfl rfl rfl hSr.1 ⟨rfl, (Nat.le_of_ble_eq_true rfl), (Nat.le_of_ble_eq_true rfl)⟩ (by decide) (cs_swapJ (by decide) hI (by decide) (by decide) (fun S11 V11 hI1 => ?_))
        have hI1c := hI1
        obtain ⟨hSr1, h21, hX1, h41, h51, hC1, h71⟩ := hI1c
        refine y_n0 ?_
        refine y_ld (x := iv 1) rfl rfl (fun d => rfl) ?_
        refine y_ic rfl rfl ?_
        refine y_add (z := 2) rfl rfl rfl ?_
        refine y_st (lv' := [(3, iv 2), (2, iv 2), (1, iv 1), (0, .ref 116)]) rfl rfl (fun d => rfl) ?_
        refine y_ld (x := .ref 116) rfl rfl (fun d => rfl) ?_
        refine y_gI (i := 4) (e := 3) rfl rfl rfl hSr1.1 rfl hSr1.2.1.1 ?_
        refine y_ic rfl rfl ?_
        refine y_sub (z := 2) rfl rfl rfl ?_
        refine y_st (lv' := [(4, iv 2), (3, iv 2), (2, iv 2), (1, iv 1), (0, .ref 116)]) rfl rfl (fun d => rfl) ?_
        refine y_ld (x := iv 2) rfl rfl (fun d => rfl) ?_
        refine y_ld (x := iv 2) rfl rfl (fun d => rfl) ?_
        refine y_jge rfl rfl rfl (by decide) (fun g16 => ?_) (fun g16 => absurd g16 (by decide))
        refine y_ic rfl rfl ?_
        refine y_rI rfl (by decide) ?_
        exact k true [f 0, f 2, f 1] S11 V11 (by show nxt [f 0, f 1, f 2] = _; simp only [nxt]; (repeat' split); all_goals first | rfl | (exfalso; omega)) (SJ_c hI1 (fun q hq => by rcases (show q = 0 ∨ q = 1 ∨ q = 2 by omega) with rfl | rfl | rfl <;> rfl))
      · refine y_inc (z := 1) (lv' := [(2, iv 1), (1, iv 1), (0, .ref 116)]) rfl rfl rfl rfl rfl ?_
        refine y_go rfl rfl ?_
        refine y_ld (x := iv 1) rfl rfl (fun d => rfl) ?_
        refine y_ld (x := iv 1) rfl rfl (fun d => rfl) ?_
        refine y_jle rfl rfl rfl (by decide) (fun g17 => ?_) (fun g17 => absurd g17 (by decide))
        refine y_ld (x := .ref 116) rfl rfl (fun d => rfl) ?_
        refine y_ld (x := iv 1) rfl rfl (fun d => rfl) ?_
        refine y_ld (x := iv 1) rfl rfl (fun d => rfl) ?_
        refine y_cV (as := [.ref 116, iv 1, iv 1]) rfl rfl rfl rfl rfl hSr.1 ⟨rfl, (Nat.le_of_ble_eq_true rfl), (Nat.le_of_ble_eq_true rfl)⟩ (by decide) (cs_swapJ (by decide) hI (by decide) (by decide) (fun S11 V11 hI1 => ?_))
        have hI1c := hI1
        obtain ⟨hSr1, h21, hX1, h41, h51, hC1, h71⟩ := hI1c
        refine y_n0 ?_
        refine y_ld (x := iv 1) rfl rfl (fun d => rfl) ?_
        refine y_ic rfl rfl ?_
        refine y_add (z := 2) rfl rfl rfl ?_
        refine y_st (lv' := [(3, iv 2), (2, iv 1), (1, iv 1), (0, .ref 116)]) rfl rfl (fun d => rfl) ?_
        refine y_ld (x := .ref 116) rfl rfl (fun d => rfl) ?_
        refine y_gI (i := 4) (e := 3) rfl rfl rfl hSr1.1 rfl hSr1.2.1.1 ?_
        refine y_ic rfl rfl ?_
        refine y_sub (z := 2) rfl rfl rfl ?_
        refine y_st (lv' := [(4, iv 2), (3, iv 2), (2, iv 1), (1, iv 1), (0, .ref 116)]) rfl rfl (fun d => rfl) ?_
        refine y_ld (x := iv 2) rfl rfl (fun d => rfl) ?_
        refine y_ld (x := iv 2) rfl rfl (fun d => rfl) ?_
        refine y_jge rfl rfl rfl (by decide) (fun g18 => ?_) (fun g18 => absurd g18 (by decide))
        refine y_ic rfl rfl ?_
        refine y_rI rfl (by decide) ?_
        exact k true [f 0, f 1, f 2] S11 V11 (by show nxt [f 0, f 1, f 2] = _; simp only [nxt]; (repeat' split); all_goals first | rfl | (exfalso; omega)) (SJ_c hI1 (fun q hq => by rcases (show q = 0 ∨ q = 1 ∨ q = 2 by omega) with rfl | rfl | rfl <;> rfl))
    · refine y_inc (z := 0) (lv' := [(1, iv 0), (0, .ref 116)]) rfl rfl rfl rfl rfl ?_
      refine y_go rfl rfl ?_
      refine y_ld (x := iv 0) rfl rfl (fun d => rfl) ?_
      refine y_zlt rfl rfl rfl (by decide) (fun g19 => absurd g19 (by decide)) (fun g19 => ?_)
      refine y_ld (x := .ref 116) rfl rfl (fun d => rfl) ?_
      refine y_gR (i := 3) rfl rfl rfl hSr.1 rfl ?_
      refine y_ld (x := iv 0) rfl rfl (fun d => rfl) ?_
      refine y_ild (x := (V 120 0)) (q := 0) rfl rfl (cl_ia hC (k := 120) (N := 4) rfl) (by decide) (by decide) rfl rfl ?_
      refine y_ld (x := .ref 116) rfl rfl (fun d => rfl) ?_
      refine y_gR (i := 3) rfl rfl rfl hSr.1 rfl ?_
      refine y_ld (x := iv 0) rfl rfl (fun d => rfl) ?_
      refine y_ic rfl rfl ?_
      refine y_add (z := 1) rfl rfl rfl ?_
      refine y_ild (x := (V 120 1)) (q := 1) rfl rfl (cl_ia hC (k := 120) (N := 4) rfl) (by decide) (by decide) rfl rfl ?_
      refine y_jle rfl rfl rfl (by omega) (fun g20 => ?_) (fun g20 => ?_)
      · refine y_ld (x := iv 0) rfl rfl (fun d => rfl) ?_
        refine y_zge rfl rfl rfl (by decide) (fun g21 => ?_) (fun g21 => absurd g21 (by decide))
        refine y_ld (x := .ref 116) rfl rfl (fun d => rfl) ?_
        refine y_gI (i := 4) (e := 3) rfl rfl rfl hSr.1 rfl hSr.2.1.1 ?_
        refine y_ic rfl rfl ?_
        refine y_sub (z := 2) rfl rfl rfl ?_
        refine y_st (lv' := [(2, iv 2), (1, iv 0), (0, .ref 116)]) rfl rfl (fun d => rfl) ?_
        refine y_ld (x := iv 2) rfl rfl (fun d => rfl) ?_
        refine y_ld (x := iv 0) rfl rfl (fun d => rfl) ?_
        refine y_jle rfl rfl rfl (by decide) (fun g22 => absurd g22 (by decide)) (fun g22 => ?_)
        refine y_ld (x := .ref 116) rfl rfl (fun d => rfl) ?_
        refine y_gR (i := 3) rfl rfl rfl hSr.1 rfl ?_
        refine y_ld (x := iv 2) rfl rfl (fun d => rfl) ?_
        refine y_ild (x := (V 120 2)) (q := 2) rfl rfl (cl_ia hC (k := 120) (N := 4) rfl) (by decide) (by decide) rfl rfl ?_
        refine y_ld (x := .ref 116) rfl rfl (fun d => rfl) ?_
        refine y_gR (i := 3) rfl rfl rfl hSr.1 rfl ?_
        refine y_ld (x := iv 0) rfl rfl (fun d => rfl) ?_
        refine y_ild (x := (V 120 0)) (q := 0) rfl rfl (cl_ia hC (k := 120) (N := 4) rfl) (by decide) (by decide) rfl rfl ?_
        refine y_jge rfl rfl rfl (by omega) (fun g23 => ?_) (fun g23 => ?_)
        · refine y_ld (x := .ref 116) rfl rfl (fun d => rfl) ?_
          refine y_ld (x := iv 0) rfl rfl (fun d => rfl) ?_
          refine y_ld (x := iv 2) rfl rfl (fun d => rfl) ?_
          refine y_cV (as := [.ref 116, iv 0, iv 2]) rfl rfl rfl rfl rfl hSr.1 ⟨rfl, (Nat.le_of_ble_eq_true rfl), (Nat.le_of_ble_eq_true rfl)⟩ (by decide) (cs_swapJ (by decide) hI (by decide) (by decide) (fun S11 V11 hI1 => ?_))
          have hI1c := hI1
          obtain ⟨hSr1, h21, hX1, h41, h51, hC1, h71⟩ := hI1c
          refine y_n0 ?_
          refine y_ld (x := iv 0) rfl rfl (fun d => rfl) ?_
          refine y_ic rfl rfl ?_
          refine y_add (z := 1) rfl rfl rfl ?_
          refine y_st (lv' := [(3, iv 1), (2, iv 2), (1, iv 0), (0, .ref 116)]) rfl rfl (fun d => rfl) ?_
          refine y_ld (x := .ref 116) rfl rfl (fun d => rfl) ?_
          refine y_gI (i := 4) (e := 3) rfl rfl rfl hSr1.1 rfl hSr1.2.1.1 ?_
          refine y_ic rfl rfl ?_
          refine y_sub (z := 2) rfl rfl rfl ?_
          refine y_st (lv' := [(4, iv 2), (3, iv 1), (2, iv 2), (1, iv 0), (0, .ref 116)]) rfl rfl (fun d => rfl) ?_
          refine y_ld (x := iv 1) rfl rfl (fun d => rfl) ?_
          refine y_ld (x := iv 2) rfl rfl (fun d => rfl) ?_
          refine y_jge rfl rfl rfl (by decide) (fun g24 => absurd g24 (by decide)) (fun g24 => ?_)
          refine y_ld (x := .ref 116) rfl rfl (fun d => rfl) ?_
          refine y_ld (x := iv 1) rfl rfl (fun d => rfl) ?_
          refine y_ld (x := iv 2) rfl rfl (fun d => rfl) ?_
          refine y_cV (as := [.ref 116, iv 1, iv 2]) rfl rfl rfl rfl rfl hSr1.1 ⟨rfl, (Nat.le_of_ble_eq_true rfl), (Nat.le_of_ble_eq_true rfl)⟩ (by decide) (cs_swapJ (by decide) hI1 (by decide) (by decide) (fun S12 V12 hI2 => ?_))
          have hI2c := hI2
          obtain ⟨hSr2, h22, hX2, h42, h52, hC2, h72⟩ := hI2c
          refine y_n0 ?_
          refine y_inc (z := 2) (lv' := [(3, iv 2), (4, iv 2), (2, iv 2), (1, iv 0), (0, .ref 116)]) rfl rfl rfl rfl rfl ?_
          refine y_inc (z := 1) (lv' := [(4, iv 1), (3, iv 2), (2, iv 2), (1, iv 0), (0, .ref 116)]) rfl rfl rfl rfl rfl ?_
          refine y_go rfl rfl ?_
          refine y_ld (x := iv 2) rfl rfl (fun d => rfl) ?_
          refine y_ld (x := iv 1) rfl rfl (fun d => rfl) ?_
          refine y_jge rfl rfl rfl (by decide) (fun g25 => ?_) (fun g25 => absurd g25 (by decide))
          refine y_ic rfl rfl ?_
          refine y_rI rfl (by decide) ?_
          exact k true [f 2, f 0, f 1] S12 V12 (by show nxt [f 0, f 1, f 2] = _; simp only [nxt]; (repeat' split); all_goals first | rfl | (exfalso; omega)) (SJ_c hI2 (fun q hq => by rcases (show q = 0 ∨ q = 1 ∨ q = 2 by omega) with rfl | rfl | rfl <;> rfl))
        · refine y_inc (z := 1) (lv' := [(2, iv 1), (1, iv 0), (0, .ref 116)]) rfl rfl rfl rfl rfl ?_
          refine y_go rfl rfl ?_
          refine y_ld (x := iv 1) rfl rfl (fun d => rfl) ?_
          refine y_ld (x := iv 0) rfl rfl (fun d => rfl) ?_
          refine y_jle rfl rfl rfl (by decide) (fun g26 => absurd g26 (by decide)) (fun g26 => ?_)
          refine y_ld (x := .ref 116) rfl rfl (fun d => rfl) ?_
          refine y_gR (i := 3) rfl rfl rfl hSr.1 rfl ?_
          refine y_ld (x := iv 1) rfl rfl (fun d => rfl) ?_
          refine y_ild (x := (V 120 1)) (q := 1) rfl rfl (cl_ia hC (k := 120) (N := 4) rfl) (by decide) (by decide) rfl rfl ?_
          refine y_ld (x := .ref 116) rfl rfl (fun d => rfl) ?_
          refine y_gR (i := 3) rfl rfl rfl hSr.1 rfl ?_
          refine y_ld (x := iv 0) rfl rfl (fun d => rfl) ?_
          refine y_ild (x := (V 120 0)) (q := 0) rfl rfl (cl_ia hC (k := 120) (N := 4) rfl) (by decide) (by decide) rfl rfl ?_
          refine y_jge rfl rfl rfl (by omega) (fun g27 => ?_) (fun g27 => ?_)
          · refine y_ld (x := .ref 116) rfl rfl (fun d => rfl) ?_
            refine y_ld (x := iv 0) rfl rfl (fun d => rfl) ?_
            refine y_ld (x := iv 1) rfl rfl (fun d => rfl) ?_
            refine y_cV (as := [.ref 116, iv 0, iv 1]) rfl rfl rfl rfl rfl hSr.1 ⟨rfl, (Nat.le_of_ble_eq_true rfl), (Nat.le_of_ble_eq_true rfl)⟩ (by decide) (cs_swapJ (by decide) hI (by decide) (by decide) (fun S11 V11 hI1 => ?_))
            have hI1c := hI1
            obtain ⟨hSr1, h21, hX1, h41, h51, hC1, h71⟩ := hI1c
            refine y_n0 ?_
            refine y_ld (x := iv 0) rfl rfl (fun d => rfl) ?_
            refine y_ic rfl rfl ?_
            refine y_add (z := 1) rfl rfl rfl ?_
            refine y_st (lv' := [(3, iv 1), (2, iv 1), (1, iv 0), (0, .ref 116)]) rfl rfl (fun d => rfl) ?_
            refine y_ld (x := .ref 116) rfl rfl (fun d => rfl) ?_
            refine y_gI (i := 4) (e := 3) rfl rfl rfl hSr1.1 rfl hSr1.2.1.1 ?_
            refine y_ic rfl rfl ?_
            refine y_sub (z := 2) rfl rfl rfl ?_
            refine y_st (lv' := [(4, iv 2), (3, iv 1), (2, iv 1), (1, iv 0), (0, .ref 116)]) rfl rfl (fun d => rfl) ?_
            refine y_ld (x := iv 1) rfl rfl (fun d => rfl) ?_
            refine y_ld (x := iv 2) rfl rfl (fun d => rfl) ?_
            refine y_jge rfl rfl rfl (by decide) (fun g28 => absurd g28 (by decide)) (fun g28 => ?_)
            refine y_ld (x := .ref 116) rfl rfl (fun d => rfl) ?_
            refine y_ld (x := iv 1) rfl rfl (fun d => rfl) ?_
            refine y_ld (x := iv 2) rfl rfl (fun d => rfl) ?_
            refine y_cV (as := [.ref 116, iv 1, iv 2]) rfl rfl rfl rfl rfl hSr1.1 ⟨rfl, (Nat.le_of_ble_eq_true rfl), (Nat.le_of_ble_eq_true rfl)⟩ (by decide) (cs_swapJ (by decide) hI1 (by decide) (by decide) (fun S12 V12 hI2 => ?_))
            have hI2c := hI2
            obtain ⟨hSr2, h22, hX2, h42, h52, hC2, h72⟩ := hI2c
            refine y_n0 ?_
            refine y_inc (z := 2) (lv' := [(3, iv 2), (4, iv 2), (2, iv 1), (1, iv 0), (0, .ref 116)]) rfl rfl rfl rfl rfl ?_
            refine y_inc (z := 1) (lv' := [(4, iv 1), (3, iv 2), (2, iv 1), (1, iv 0), (0, .ref 116)]) rfl rfl rfl rfl rfl ?_
            refine y_go rfl rfl ?_
            refine y_ld (x := iv 2) rfl rfl (fun d => rfl) ?_
            refine y_ld (x := iv 1) rfl rfl (fun d => rfl) ?_
            refine y_jge rfl rfl rfl (by decide) (fun g29 => ?_) (fun g29 => absurd g29 (by decide))
            refine y_ic rfl rfl ?_
            refine y_rI rfl (by decide) ?_
            exact k true [f 1, f 2, f 0] S12 V12 (by show nxt [f 0, f 1, f 2] = _; simp only [nxt]; (repeat' split); all_goals first | rfl | (exfalso; omega)) (SJ_c hI2 (fun q hq => by rcases (show q = 0 ∨ q = 1 ∨ q = 2 by omega) with rfl | rfl | rfl <;> rfl))
          · refine y_inc (z := 0) (lv' := [(2, iv 0), (1, iv 0), (0, .ref 116)]) rfl rfl rfl rfl rfl ?_
            refine y_go rfl rfl ?_
            refine y_ld (x := iv 0) rfl rfl (fun d => rfl) ?_
            refine y_ld (x := iv 0) rfl rfl (fun d => rfl) ?_
            refine y_jle rfl rfl rfl (by decide) (fun g30 => ?_) (fun g30 => absurd g30 (by decide))
            refine y_ld (x := .ref 116) rfl rfl (fun d => rfl) ?_
            refine y_ld (x := iv 0) rfl rfl (fun d => rfl) ?_
            refine y_ld (x := iv 0) rfl rfl (fun d => rfl) ?_
            refine y_cV (as := [.ref 116, iv 0, iv 0]) rfl rfl rfl rfl rfl hSr.1 ⟨rfl, (Nat.le_of_ble_eq_true rfl), (Nat.le_of_ble_eq_true rfl)⟩ (by decide) (cs_swapJ (by decide) hI (by decide) (by decide) (fun S11 V11 hI1 => ?_))
            have hI1c := hI1
            obtain ⟨hSr1, h21, hX1, h41, h51, hC1, h71⟩ := hI1c
            refine y_n0 ?_
            refine y_ld (x := iv 0) rfl rfl (fun d => rfl) ?_
            refine y_ic rfl rfl ?_
            refine y_add (z := 1) rfl rfl rfl ?_
            refine y_st (lv' := [(3, iv 1), (2, iv 0), (1, iv 0), (0, .ref 116)]) rfl rfl (fun d => rfl) ?_
            refine y_ld (x := .ref 116) rfl rfl (fun d => rfl) ?_
            refine y_gI (i := 4) (e := 3) rfl rfl rfl hSr1.1 rfl hSr1.2.1.1 ?_
            refine y_ic rfl rfl ?_
            refine y_sub (z := 2) rfl rfl rfl ?_
            refine y_st (lv' := [(4, iv 2), (3, iv 1), (2, iv 0), (1, iv 0), (0, .ref 116)]) rfl rfl (fun d => rfl) ?_
            refine y_ld (x := iv 1) rfl rfl (fun d => rfl) ?_
            refine y_ld (x := iv 2) rfl rfl (fun d => rfl) ?_
            refine y_jge rfl rfl rfl (by decide) (fun g31 => absurd g31 (by decide)) (fun g31 => ?_)
            refine y_ld (x := .ref 116) rfl rfl (fun d => rfl) ?_
            refine y_ld (x := iv 1) rfl rfl (fun d => rfl) ?_
            refine y_ld (x := iv 2) rfl rfl (fun d => rfl) ?_
            refine y_cV (as := [.ref 116, iv 1, iv 2]) rfl rfl rfl rfl rfl hSr1.1 ⟨rfl, (Nat.le_of_ble_eq_true rfl), (Nat.le_of_ble_eq_true rfl)⟩ (by decide) (cs_swapJ (by decide) hI1 (by decide) (by decide) (fun S12 V12 hI2 => ?_))
            have hI2c := hI2
            obtain ⟨hSr2, h22, hX2, h42, h52, hC2, h72⟩ := hI2c
            refine y_n0 ?_
            refine y_inc (z := 2) (lv' := [(3, iv 2), (4, iv 2), (2, iv 0), (1, iv 0), (0, .ref 116)]) rfl rfl rfl rfl rfl ?_
            refine y_inc (z := 1) (lv' := [(4, iv 1), (3, iv 2), (2, iv 0), (1, iv 0), (0, .ref 116)]) rfl rfl rfl rfl rfl ?_
            refine y_go rfl rfl ?_
            refine y_ld (x := iv 2) rfl rfl (fun d => rfl) ?_
            refine y_ld (x := iv 1) rfl rfl (fun d => rfl) ?_
            refine y_jge rfl rfl rfl (by decide) (fun g32 => ?_) (fun g32 => absurd g32 (by decide))
            refine y_ic rfl rfl ?_
            refine y_rI rfl (by decide) ?_
            exact k true [f 0, f 2, f 1] S12 V12 (by show nxt [f 0, f 1, f 2] = _; simp only [nxt]; (repeat' split); all_goals first | rfl | (exfalso; omega)) (SJ_c hI2 (fun q hq => by rcases (show q = 0 ∨ q = 1 ∨ q = 2 by omega) with rfl | rfl | rfl <;> rfl))
      · refine y_inc (z := (-1)) (lv' := [(1, iv (-1)), (0, .ref 116)]) rfl rfl rfl rfl rfl ?_
        refine y_go rfl rfl ?_
        refine y_ld (x := iv (-1)) rfl rfl (fun d => rfl) ?_
        refine y_zlt rfl rfl rfl (by decide) (fun g33 => ?_) (fun g33 => absurd g33 (by decide))
        refine y_ld (x := iv (-1)) rfl rfl (fun d => rfl) ?_
        refine y_zge rfl rfl rfl (by decide) (fun g34 => absurd g34 (by decide)) (fun g34 => ?_)
        refine y_ic rfl rfl ?_
        refine y_rI rfl (by decide) ?_
        exact k false [f 0, f 1, f 2] S V (by show nxt [f 0, f 1, f 2] = _; simp only [nxt]; (repeat' split); all_goals first | rfl | (exfalso; omega)) (SJ_c hI (fun q hq => by rcases (show q = 0 ∨ q = 1 ∨ q = 2 by omega) with rfl | rfl | rfl <;> rfl))
  · have o0 := h7 0 (by decide)
    have o1 := h7 1 (by decide)
    have o2 := h7 2 (by decide)
    have o3 := h7 3 (by decide)
    refine y_ld (x := .ref 116) rfl rfl (fun d => rfl) ?_
    refine y_gI (i := 4) (e := 4) rfl rfl rfl hSr.1 rfl hSr.2.1.1 ?_
    refine y_ic rfl rfl ?_
    refine y_sub (z := 2) rfl rfl rfl ?_
    refine y_st (lv' := [(1, iv 2), (0, .ref 116)]) rfl rfl (fun d => rfl) ?_
    refine y_ld (x := iv 2) rfl rfl (fun d => rfl) ?_
    refine y_zlt rfl rfl rfl (by decide) (fun g35 => absurd g35 (by decide)) (fun g35 => ?_)
    refine y_ld (x := .ref 116) rfl rfl (fun d => rfl) ?_
    refine y_gR (i := 3) rfl rfl rfl hSr.1 rfl ?_
    refine y_ld (x := iv 2) rfl rfl (fun d => rfl) ?_
    refine y_ild (x := (V 120 2)) (q := 2) rfl rfl (cl_ia hC (k := 120) (N := 4) rfl) (by decide) (by decide) rfl rfl ?_
    refine y_ld (x := .ref 116) rfl rfl (fun d => rfl) ?_
    refine y_gR (i := 3) rfl rfl rfl hSr.1 rfl ?_
    refine y_ld (x := iv 2) rfl rfl (fun d => rfl) ?_
    refine y_ic rfl rfl ?_
    refine y_add (z := 3) rfl rfl rfl ?_
    refine y_ild (x := (V 120 3)) (q := 3) rfl rfl (cl_ia hC (k := 120) (N := 4) rfl) (by decide) (by decide) rfl rfl ?_
    refine y_jle rfl rfl rfl (by omega) (fun g36 => ?_) (fun g36 => ?_)
    · refine y_ld (x := iv 2) rfl rfl (fun d => rfl) ?_
      refine y_zge rfl rfl rfl (by decide) (fun g37 => ?_) (fun g37 => absurd g37 (by decide))
      refine y_ld (x := .ref 116) rfl rfl (fun d => rfl) ?_
      refine y_gI (i := 4) (e := 4) rfl rfl rfl hSr.1 rfl hSr.2.1.1 ?_
      refine y_ic rfl rfl ?_
      refine y_sub (z := 3) rfl rfl rfl ?_
      refine y_st (lv' := [(2, iv 3), (1, iv 2), (0, .ref 116)]) rfl rfl (fun d => rfl) ?_
      refine y_ld (x := iv 3) rfl rfl (fun d => rfl) ?_
      refine y_ld (x := iv 2) rfl rfl (fun d => rfl) ?_
      refine y_jle rfl rfl rfl (by decide) (fun g38 => absurd g38 (by decide)) (fun g38 => ?_)
      refine y_ld (x := .ref 116) rfl rfl (fun d => rfl) ?_
      refine y_gR (i := 3) rfl rfl rfl hSr.1 rfl ?_
      refine y_ld (x := iv 3) rfl rfl (fun d => rfl) ?_
      refine y_ild (x := (V 120 3)) (q := 3) rfl rfl (cl_ia hC (k := 120) (N := 4) rfl) (by decide) (by decide) rfl rfl ?_
      refine y_ld (x := .ref 116) rfl rfl (fun d => rfl) ?_
      refine y_gR (i := 3) rfl rfl rfl hSr.1 rfl ?_
      refine y_ld (x := iv 2) rfl rfl (fun d => rfl) ?_
      refine y_ild (x := (V 120 2)) (q := 2) rfl rfl (cl_ia hC (k := 120) (N := 4) rfl) (by decide) (by decide) rfl rfl ?_
      refine y_jge rfl rfl rfl (by omega) (fun g39 => ?_) (fun g39 => ?_)
      · refine y_ld (x := .ref 116) rfl rfl (fun d => rfl) ?_
        refine y_ld (x := iv 2) rfl rfl (fun d => rfl) ?_
        refine y_ld (x := iv 3) rfl rfl (fun d => rfl) ?_
        refine y_cV (as := [.ref 116, iv 2, iv 3]) rfl rfl rfl rfl rfl hSr.1 ⟨rfl, (Nat.le_of_ble_eq_true rfl), (Nat.le_of_ble_eq_true rfl)⟩ (by decide) (cs_swapJ (by decide) hI (by decide) (by decide) (fun S11 V11 hI1 => ?_))
        have hI1c := hI1
        obtain ⟨hSr1, h21, hX1, h41, h51, hC1, h71⟩ := hI1c
        refine y_n0 ?_
        refine y_ld (x := iv 2) rfl rfl (fun d => rfl) ?_
        refine y_ic rfl rfl ?_
        refine y_add (z := 3) rfl rfl rfl ?_
        refine y_st (lv' := [(3, iv 3), (2, iv 3), (1, iv 2), (0, .ref 116)]) rfl rfl (fun d => rfl) ?_
        refine y_ld (x := .ref 116) rfl rfl (fun d => rfl) ?_
        refine y_gI (i := 4) (e := 4) rfl rfl rfl hSr1.1 rfl hSr1.2.1.1 ?_
        refine y_ic rfl rfl ?_
        refine y_sub (z := 3) rfl rfl rfl ?_
        refine y_st (lv' := [(4, iv 3), (3, iv 3), (2, iv 3), (1, iv 2), (0, .ref 116)]) rfl rfl (fun d => rfl) ?_
        refine y_ld (x := iv 3) rfl rfl (fun d => rfl) ?_
        refine y_ld (x := iv 3) rfl rfl (fun d => rfl) ?_
        refine y_jge rfl rfl rfl (by decide) (fun g40 => ?_) (fun g40 => absurd g40 (by decide))
        refine y_ic rfl rfl ?_
        refine y_rI rfl (by decide) ?_
        exact k true [f 0, f 1, f 3, f 2] S11 V11 (by show nxt [f 0, f 1, f 2, f 3] = _; simp only [nxt]; (repeat' split); all_goals first | rfl | (exfalso; omega)) (SJ_c hI1 (fun q hq => by rcases (show q = 0 ∨ q = 1 ∨ q = 2 ∨ q = 3 by omega) with rfl | rfl | rfl | rfl <;> rfl))
      · refine y_inc (z := 2) (lv' := [(2, iv 2), (1, iv 2), (0, .ref 116)]) rfl rfl rfl rfl rfl ?_
        refine y_go rfl rfl ?_
        refine y_ld (x := iv 2) rfl rfl (fun d => rfl) ?_
        refine y_ld (x := iv 2) rfl rfl (fun d => rfl) ?_
        refine y_jle rfl rfl rfl (by decide) (fun g41 => ?_) (fun g41 => absurd g41 (by decide))
        refine y_ld (x := .ref 116) rfl rfl (fun d => rfl) ?_
        refine y_ld (x := iv 2) rfl rfl (fun d => rfl) ?_
        refine y_ld (x := iv 2) rfl rfl (fun d => rfl) ?_
        refine y_cV (as := [.ref 116, iv 2, iv 2]) rfl rfl rfl rfl rfl hSr.1 ⟨rfl, (Nat.le_of_ble_eq_true rfl), (Nat.le_of_ble_eq_true rfl)⟩ (by decide) (cs_swapJ (by decide) hI (by decide) (by decide) (fun S11 V11 hI1 => ?_))
        have hI1c := hI1
        obtain ⟨hSr1, h21, hX1, h41, h51, hC1, h71⟩ := hI1c
        refine y_n0 ?_
        refine y_ld (x := iv 2) rfl rfl (fun d => rfl) ?_
        refine y_ic rfl rfl ?_
        refine y_add (z := 3) rfl rfl rfl ?_
        refine y_st (lv' := [(3, iv 3), (2, iv 2), (1, iv 2), (0, .ref 116)]) rfl rfl (fun d => rfl) ?_
        refine y_ld (x := .ref 116) rfl rfl (fun d => rfl) ?_
        refine y_gI (i := 4) (e := 4) rfl rfl rfl hSr1.1 rfl hSr1.2.1.1 ?_
        refine y_ic rfl rfl ?_
        refine y_sub (z := 3) rfl rfl rfl ?_
        refine y_st (lv' := [(4, iv 3), (3, iv 3), (2, iv 2), (1, iv 2), (0, .ref 116)]) rfl rfl (fun d => rfl) ?_
        refine y_ld (x := iv 3) rfl rfl (fun d => rfl) ?_
        refine y_ld (x := iv 3) rfl rfl (fun d => rfl) ?_
        refine y_jge rfl rfl rfl (by decide) (fun g42 => ?_) (fun g42 => absurd g42 (by decide))
        refine y_ic rfl rfl ?_
        refine y_rI rfl (by decide) ?_
        exact k true [f 0, f 1, f 2, f 3] S11 V11 (by show nxt [f 0, f 1, f 2, f 3] = _; simp only [nxt]; (repeat' split); all_goals first | rfl | (exfalso; omega)) (SJ_c hI1 (fun q hq => by rcases (show q = 0 ∨ q = 1 ∨ q = 2 ∨ q = 3 by omega) with rfl | rfl | rfl | rfl <;> rfl))
    · refine y_inc (z := 1) (lv' := [(1, iv 1), (0, .ref 116)]) rfl rfl rfl rfl rfl ?_
      refine y_go rfl rfl ?_
      refine y_ld (x := iv 1) rfl rfl (fun d => rfl) ?_
      refine y_zlt rfl rfl rfl (by decide) (fun g43 => absurd g43 (by decide)) (fun g43 => ?_)
      refine y_ld (x := .ref 116) rfl rfl (fun d => rfl) ?_
      refine y_gR (i := 3) rfl rfl rfl hSr.1 rfl ?_
      refine y_ld (x := iv 1) rfl rfl (fun d => rfl) ?_
      refine y_ild (x := (V 120 1)) (q := 1) rfl rfl (cl_ia hC (k := 120) (N := 4) rfl) (by decide) (by decide) rfl rfl ?_
      refine y_ld (x := .ref 116) rfl rfl (fun d => rfl) ?_
      refine y_gR (i := 3) rfl rfl rfl hSr.1 rfl ?_
      refine y_ld (x := iv 1) rfl rfl (fun d => rfl) ?_
      refine y_ic rfl rfl ?_
      refine y_add (z := 2) rfl rfl rfl ?_
      refine y_ild (x := (V 120 2)) (q := 2) rfl rfl (cl_ia hC (k := 120) (N := 4) rfl) (by decide) (by decide) rfl rfl ?_
      refine y_jle rfl rfl rfl (by omega) (fun g44 => ?_) (fun g44 => ?_)
      · refine y_ld (x := iv 1) rfl rfl (fun d => rfl) ?_
        refine y_zge rfl rfl rfl (by decide) (fun g45 => ?_) (fun g45 => absurd g45 (by decide))
        refine y_ld (x := .ref 116) rfl rfl (fun d => rfl) ?_
        refine y_gI (i := 4) (e := 4) rfl rfl rfl hSr.1 rfl hSr.2.1.1 ?_
        refine y_ic rfl rfl ?_
        refine y_sub (z := 3) rfl rfl rfl ?_
        refine y_st (lv' := [(2, iv 3), (1, iv 1), (0, .ref 116)]) rfl rfl (fun d => rfl) ?_
        refine y_ld (x := iv 3) rfl rfl (fun d => rfl) ?_
        refine y_ld (x := iv 1) rfl rfl (fun d => rfl) ?_
        refine y_jle rfl rfl rfl (by decide) (fun g46 => absurd g46 (by decide)) (fun g46 => ?_)
        refine y_ld (x := .ref 116) rfl rfl (fun d => rfl) ?_
        refine y_gR (i := 3) rfl rfl rfl hSr.1 rfl ?_
        refine y_ld (x := iv 3) rfl rfl (fun d => rfl) ?_
        refine y_ild (x := (V 120 3)) (q := 3) rfl rfl (cl_ia hC (k := 120) (N := 4) rfl) (by decide) (by decide) rfl rfl ?_
        refine y_ld (x := .ref 116) rfl rfl (fun d => rfl) ?_
        refine y_gR (i := 3) rfl rfl rfl hSr.1 rfl ?_
        refine y_ld (x := iv 1) rfl rfl (fun d => rfl) ?_
        refine y_ild (x := (V 120 1)) (q := 1) rfl rfl (cl_ia hC (k := 120) (N := 4) rfl) (by decide) (by decide) rfl rfl ?_
        refine y_jge rfl rfl rfl (by omega) (fun g47 => ?_) (fun g47 => ?_)
        · refine y_ld (x := .ref 116) rfl rfl (fun d => rfl) ?_
          refine y_ld (x := iv 1) rfl rfl (fun d => rfl) ?_
          refine y_ld (x := iv 3) rfl rfl (fun d => rfl) ?_
          refine y_cV (as := [.ref 116, iv 1, iv 3]) rfl rfl rfl rfl rfl hSr.1 ⟨rfl, (Nat.le_of_ble_eq_true rfl), (Nat.le_of_ble_eq_true rfl)⟩ (by decide) (cs_swapJ (by decide) hI (by decide) (by decide) (fun S11 V11 hI1 => ?_))
          have hI1c := hI1
          obtain ⟨hSr1, h21, hX1, h41, h51, hC1, h71⟩ := hI1c
          refine y_n0 ?_
          refine y_ld (x := iv 1) rfl rfl (fun d => rfl) ?_
          refine y_ic rfl rfl ?_
          refine y_add (z := 2) rfl rfl rfl ?_
          refine y_st (lv' := [(3, iv 2), (2, iv 3), (1, iv 1), (0, .ref 116)]) rfl rfl (fun d => rfl) ?_
          refine y_ld (x := .ref 116) rfl rfl (fun d => rfl) ?_
          refine y_gI (i := 4) (e := 4) rfl rfl rfl hSr1.1 rfl hSr1.2.1.1 ?_
          refine y_ic rfl rfl ?_
          refine y_sub (z := 3) rfl rfl rfl ?_
          refine y_st (lv' := [(4, iv 3), (3, iv 2), (2, iv 3), (1, iv 1), (0, .ref 116)]) rfl rfl (fun d => rfl) ?_
          refine y_ld (x := iv 2) rfl rfl (fun d => rfl) ?_
          refine y_ld (x := iv 3) rfl rfl (fun d => rfl) ?_
          refine y_jge rfl rfl rfl (by decide) (fun g48 => absurd g48 (by decide)) (fun g48 => ?_)
          refine y_ld (x := .ref 116) rfl rfl (fun d => rfl) ?_
          refine y_ld (x := iv 2) rfl rfl (fun d => rfl) ?_
          refine y_ld (x := iv 3) rfl rfl (fun d => rfl) ?_
          refine y_cV (as := [.ref 116, iv 2, iv 3]) rfl rfl rfl rfl rfl hSr1.1 ⟨rfl, (Nat.le_of_ble_eq_true rfl), (Nat.le_of_ble_eq_true rfl)⟩ (by decide) (cs_swapJ (by decide) hI1 (by decide) (by decide) (fun S12 V12 hI2 => ?_))
          have hI2c := hI2
          obtain ⟨hSr2, h22, hX2, h42, h52, hC2, h72⟩ := hI2c
          refine y_n0 ?_
          refine y_inc (z := 3) (lv' := [(3, iv 3), (4, iv 3), (2, iv 3), (1, iv 1), (0, .ref 116)]) rfl rfl rfl rfl rfl ?_
          refine y_inc (z := 2) (lv' := [(4, iv 2), (3, iv 3), (2, iv 3), (1, iv 1), (0, .ref 116)]) rfl rfl rfl rfl rfl ?_
          refine y_go rfl rfl ?_
          refine y_ld (x := iv 3) rfl rfl (fun d => rfl) ?_
          refine y_ld (x := iv 2) rfl rfl (fun d => rfl) ?_
          refine y_jge rfl rfl rfl (by decide) (fun g49 => ?_) (fun g49 => absurd g49 (by decide))
          refine y_ic rfl rfl ?_
          refine y_rI rfl (by decide) ?_
          exact k true [f 0, f 3, f 1, f 2] S12 V12 (by show nxt [f 0, f 1, f 2, f 3] = _; simp only [nxt]; (repeat' split); all_goals first | rfl | (exfalso; omega)) (SJ_c hI2 (fun q hq => by rcases (show q = 0 ∨ q = 1 ∨ q = 2 ∨ q = 3 by omega) with rfl | rfl | rfl | rfl <;> rfl))
        · refine y_inc (z := 2) (lv' := [(2, iv 2), (1, iv 1), (0, .ref 116)]) rfl rfl rfl rfl rfl ?_
          refine y_go rfl rfl ?_
          refine y_ld (x := iv 2) rfl rfl (fun d => rfl) ?_
          refine y_ld (x := iv 1) rfl rfl (fun d => rfl) ?_
          refine y_jle rfl rfl rfl (by decide) (fun g50 => absurd g50 (by decide)) (fun g50 => ?_)
          refine y_ld (x := .ref 116) rfl rfl (fun d => rfl) ?_
          refine y_gR (i := 3) rfl rfl rfl hSr.1 rfl ?_
          refine y_ld (x := iv 2) rfl rfl (fun d => rfl) ?_
          refine y_ild (x := (V 120 2)) (q := 2) rfl rfl (cl_ia hC (k := 120) (N := 4) rfl) (by decide) (by decide) rfl rfl ?_
          refine y_ld (x := .ref 116) rfl rfl (fun d => rfl) ?_
          refine y_gR (i := 3) rfl rfl rfl hSr.1 rfl ?_
          refine y_ld (x := iv 1) rfl rfl (fun d => rfl) ?_
          refine y_ild (x := (V 120 1)) (q := 1) rfl rfl (cl_ia hC (k := 120) (N := 4) rfl) (by decide) (by decide) rfl rfl ?_
          refine y_jge rfl rfl rfl (by omega) (fun g51 => ?_) (fun g51 => ?_)
          · refine y_ld (x := .ref 116) rfl rfl (fun d => rfl) ?_
            refine y_ld (x := iv 1) rfl rfl (fun d => rfl) ?_
            refine y_ld (x := iv 2) rfl rfl (fun d => rfl) ?_
            refine y_cV (as := [.ref 116, iv 1, iv 2]) rfl rfl rfl rfl rfl hSr.1 ⟨rfl, (Nat.le_of_ble_eq_true rfl), (Nat.le_of_ble_eq_true rfl)⟩ (by decide) (cs_swapJ (by decide) hI (by decide) (by decide) (fun S11 V11 hI1 => ?_))
            have hI1c := hI1
            obtain ⟨hSr1, h21, hX1, h41, h51, hC1, h71⟩ := hI1c
            refine y_n0 ?_
            refine y_ld (x := iv 1) rfl rfl (fun d => rfl) ?_
            refine y_ic rfl rfl ?_
            refine y_add (z := 2) rfl rfl rfl ?_
            refine y_st (lv' := [(3, iv 2), (2, iv 2), (1, iv 1), (0, .ref 116)]) rfl rfl (fun d => rfl) ?_
            refine y_ld (x := .ref 116) rfl rfl (fun d => rfl) ?_
            refine y_gI (i := 4) (e := 4) rfl rfl rfl hSr1.1 rfl hSr1.2.1.1 ?_
            refine y_ic rfl rfl ?_
            refine y_sub (z := 3) rfl rfl rfl ?_
            refine y_st (lv' := [(4, iv 3), (3, iv 2), (2, iv 2), (1, iv 1), (0, .ref 116)]) rfl rfl (fun d => rfl) ?_
            refine y_ld (x := iv 2) rfl rfl (fun d => rfl) ?_
            refine y_ld (x := iv 3) rfl rfl (fun d => rfl) ?_
            refine y_jge rfl rfl rfl (by decide) (fun g52 => absurd g52 (by decide)) (fun g52 => ?_)
            refine y_ld (x := .ref 116) rfl rfl (fun d => rfl) ?_
            refine y_ld (x := iv 2) rfl rfl (fun d => rfl) ?_
            refine y_ld (x := iv 3) rfl rfl (fun d => rfl) ?_
            refine y_cV (as := [.ref 116, iv 2, iv 3]) rfl rfl rfl rfl rfl hSr1.1 ⟨rfl, (Nat.le_of_ble_eq_true rfl), (Nat.le_of_ble_eq_true rfl)⟩ (by decide) (cs_swapJ (by decide) hI1 (by decide) (by decide) (fun S12 V12 hI2 => ?_))
            have hI2c := hI2
            obtain ⟨hSr2, h22, hX2, h42, h52, hC2, h72⟩ := hI2c
            refine y_n0 ?_
            refine y_inc (z := 3) (lv' := [(3, iv 3), (4, iv 3), (2, iv 2), (1, iv 1), (0, .ref 116)]) rfl rfl rfl rfl rfl ?_
            refine y_inc (z := 2) (lv' := [(4, iv 2), (3, iv 3), (2, iv 2), (1, iv 1), (0, .ref 116)]) rfl rfl rfl rfl rfl ?_
            refine y_go rfl rfl ?_
            refine y_ld (x := iv 3) rfl rfl (fun d => rfl) ?_
            refine y_ld (x := iv 2) rfl rfl (fun d => rfl) ?_
            refine y_jge rfl rfl rfl (by decide) (fun g53 => ?_) (fun g53 => absurd g53 (by decide))
            refine y_ic rfl rfl ?_
            refine y_rI rfl (by decide) ?_
            exact k true [f 0, f 2, f 3, f 1] S12 V12 (by show nxt [f 0, f 1, f 2, f 3] = _; simp only [nxt]; (repeat' split); all_goals first | rfl | (exfalso; omega)) (SJ_c hI2 (fun q hq => by rcases (show q = 0 ∨ q = 1 ∨ q = 2 ∨ q = 3 by omega) with rfl | rfl | rfl | rfl <;> rfl))
          · refine y_inc (z := 1) (lv' := [(2, iv 1), (1, iv 1), (0, .ref 116)]) rfl rfl rfl rfl rfl ?_
            refine y_go rfl rfl ?_
            refine y_ld (x := iv 1) rfl rfl (fun d => rfl) ?_
            refine y_ld (x := iv 1) rfl rfl (fun d => rfl) ?_
            refine y_jle rfl rfl rfl (by decide) (fun g54 => ?_) (fun g54 => absurd g54 (by decide))
            refine y_ld (x := .ref 116) rfl rfl (fun d => rfl) ?_
            refine y_ld (x := iv 1) rfl rfl (fun d => rfl) ?_
            refine y_ld (x := iv 1) rfl rfl (fun d => rfl) ?_
            refine y_cV (as := [.ref 116, iv 1, iv 1]) rfl rfl rfl rfl rfl hSr.1 ⟨rfl, (Nat.le_of_ble_eq_true rfl), (Nat.le_of_ble_eq_true rfl)⟩ (by decide) (cs_swapJ (by decide) hI (by decide) (by decide) (fun S11 V11 hI1 => ?_))
            have hI1c := hI1
            obtain ⟨hSr1, h21, hX1, h41, h51, hC1, h71⟩ := hI1c
            refine y_n0 ?_
            refine y_ld (x := iv 1) rfl rfl (fun d => rfl) ?_
            refine y_ic rfl rfl ?_
            refine y_add (z := 2) rfl rfl rfl ?_
            refine y_st (lv' := [(3, iv 2), (2, iv 1), (1, iv 1), (0, .ref 116)]) rfl rfl (fun d => rfl) ?_
            refine y_ld (x := .ref 116) rfl rfl (fun d => rfl) ?_
            refine y_gI (i := 4) (e := 4) rfl rfl rfl hSr1.1 rfl hSr1.2.1.1 ?_
            refine y_ic rfl rfl ?_
            refine y_sub (z := 3) rfl rfl rfl ?_
            refine y_st (lv' := [(4, iv 3), (3, iv 2), (2, iv 1), (1, iv 1), (0, .ref 116)]) rfl rfl (fun d => rfl) ?_
            refine y_ld (x := iv 2) rfl rfl (fun d => rfl) ?_
            refine y_ld (x := iv 3) rfl rfl (fun d => rfl) ?_
            refine y_jge rfl rfl rfl (by decide) (fun g55 => absurd g55 (by decide)) (fun g55 => ?_)
            refine y_ld (x := .ref 116) rfl rfl (fun d => rfl) ?_
            refine y_ld (x := iv 2) rfl rfl (fun d => rfl) ?_
            refine y_ld (x := iv 3) rfl rfl (fun d => rfl) ?_
            refine y_cV (as := [.ref 116, iv 2, iv 3]) rfl rfl rfl rfl rfl hSr1.1 ⟨rfl, (Nat.le_of_ble_eq_true rfl), (Nat.le_of_ble_eq_true rfl)⟩ (by decide) (cs_swapJ (by decide) hI1 (by decide) (by decide) (fun S12 V12 hI2 => ?_))
            have hI2c := hI2
            obtain ⟨hSr2, h22, hX2, h42, h52, hC2, h72⟩ := hI2c
            refine y_n0 ?_
            refine y_inc (z := 3) (lv' := [(3, iv 3), (4, iv 3), (2, iv 1), (1, iv 1), (0, .ref 116)]) rfl rfl rfl rfl rfl ?_
            refine y_inc (z := 2) (lv' := [(4, iv 2), (3, iv 3), (2, iv 1), (1, iv 1), (0, .ref 116)]) rfl rfl rfl rfl rfl ?_
            refine y_go rfl rfl ?_
            refine y_ld (x := iv 3) rfl rfl (fun d => rfl) ?_
            refine y_ld (x := iv 2) rfl rfl (fun d => rfl) ?_
            refine y_jge rfl rfl rfl (by decide) (fun g56 => ?_) (fun g56 => absurd g56 (by decide))
            refine y_ic rfl rfl ?_
            refine y_rI rfl (by decide) ?_
            exact k true [f 0, f 1, f 3, f 2] S12 V12 (by show nxt [f 0, f 1, f 2, f 3] = _; simp only [nxt]; (repeat' split); all_goals first | rfl | (exfalso; omega)) (SJ_c hI2 (fun q hq => by rcases (show q = 0 ∨ q = 1 ∨ q = 2 ∨ q = 3 by omega) with rfl | rfl | rfl | rfl <;> rfl))
      · refine y_inc (z := 0) (lv' := [(1, iv 0), (0, .ref 116)]) rfl rfl rfl rfl rfl ?_
        refine y_go rfl rfl ?_
        refine y_ld (x := iv 0) rfl rfl (fun d => rfl) ?_
        refine y_zlt rfl rfl rfl (by decide) (fun g57 => absurd g57 (by decide)) (fun g57 => ?_)
        refine y_ld (x := .ref 116) rfl rfl (fun d => rfl) ?_
        refine y_gR (i := 3) rfl rfl rfl hSr.1 rfl ?_
        refine y_ld (x := iv 0) rfl rfl (fun d => rfl) ?_
        refine y_ild (x := (V 120 0)) (q := 0) rfl rfl (cl_ia hC (k := 120) (N := 4) rfl) (by decide) (by decide) rfl rfl ?_
        refine y_ld (x := .ref 116) rfl rfl (fun d => rfl) ?_
        refine y_gR (i := 3) rfl rfl rfl hSr.1 rfl ?_
        refine y_ld (x := iv 0) rfl rfl (fun d => rfl) ?_
        refine y_ic rfl rfl ?_
        refine y_add (z := 1) rfl rfl rfl ?_
        refine y_ild (x := (V 120 1)) (q := 1) rfl rfl (cl_ia hC (k := 120) (N := 4) rfl) (by decide) (by decide) rfl rfl ?_
        refine y_jle rfl rfl rfl (by omega) (fun g58 => ?_) (fun g58 => ?_)
        · refine y_ld (x := iv 0) rfl rfl (fun d => rfl) ?_
          refine y_zge rfl rfl rfl (by decide) (fun g59 => ?_) (fun g59 => absurd g59 (by decide))
          refine y_ld (x := .ref 116) rfl rfl (fun d => rfl) ?_
          refine y_gI (i := 4) (e := 4) rfl rfl rfl hSr.1 rfl hSr.2.1.1 ?_
          refine y_ic rfl rfl ?_
          refine y_sub (z := 3) rfl rfl rfl ?_
          refine y_st (lv' := [(2, iv 3), (1, iv 0), (0, .ref 116)]) rfl rfl (fun d => rfl) ?_
          refine y_ld (x := iv 3) rfl rfl (fun d => rfl) ?_
          refine y_ld (x := iv 0) rfl rfl (fun d => rfl) ?_
          refine y_jle rfl rfl rfl (by decide) (fun g60 => absurd g60 (by decide)) (fun g60 => ?_)
          refine y_ld (x := .ref 116) rfl rfl (fun d => rfl) ?_
          refine y_gR (i := 3) rfl rfl rfl hSr.1 rfl ?_
          refine y_ld (x := iv 3) rfl rfl (fun d => rfl) ?_
          refine y_ild (x := (V 120 3)) (q := 3) rfl rfl (cl_ia hC (k := 120) (N := 4) rfl) (by decide) (by decide) rfl rfl ?_
          refine y_ld (x := .ref 116) rfl rfl (fun d => rfl) ?_
          refine y_gR (i := 3) rfl rfl rfl hSr.1 rfl ?_
          refine y_ld (x := iv 0) rfl rfl (fun d => rfl) ?_
          refine y_ild (x := (V 120 0)) (q := 0) rfl rfl (cl_ia hC (k := 120) (N := 4) rfl) (by decide) (by decide) rfl rfl ?_
          refine y_jge rfl rfl rfl (by omega) (fun g61 => ?_) (fun g61 => ?_)
          · refine y_ld (x := .ref 116) rfl rfl (fun d => rfl) ?_
            refine y_ld (x := iv 0) rfl rfl (fun d => rfl) ?_
            refine y_ld (x := iv 3) rfl rfl (fun d => rfl) ?_
            refine y_cV (as := [.ref 116, iv 0, iv 3]) rfl rfl rfl rfl rfl hSr.1 ⟨rfl, (Nat.le_of_ble_eq_true rfl), (Nat.le_of_ble_eq_true rfl)⟩ (by decide) (cs_swapJ (by decide) hI (by decide) (by decide) (fun S11 V11 hI1 => ?_))
            have hI1c := hI1
            obtain ⟨hSr1, h21, hX1, h41, h51, hC1, h71⟩ := hI1c
            refine y_n0 ?_
            refine y_ld (x := iv 0) rfl rfl (fun d => rfl) ?_
            refine y_ic rfl rfl ?_
            refine y_add (z := 1) rfl rfl rfl ?_
            refine y_st (lv' := [(3, iv 1), (2, iv 3), (1, iv 0), (0, .ref 116)]) rfl rfl (fun d => rfl) ?_
            refine y_ld (x := .ref 116) rfl rfl (fun d => rfl) ?_
            refine y_gI (i := 4) (e := 4) rfl rfl rfl hSr1.1 rfl hSr1.2.1.1 ?_
            refine y_ic rfl rfl ?_
            refine y_sub (z := 3) rfl rfl rfl ?_
            refine y_st (lv' := [(4, iv 3), (3, iv 1), (2, iv 3), (1, iv 0), (0, .ref 116)]) rfl rfl (fun d => rfl) ?_
            refine y_ld (x := iv 1) rfl rfl (fun d => rfl) ?_
            refine y_ld (x := iv 3) rfl rfl (fun d => rfl) ?_
            refine y_jge rfl rfl rfl (by decide) (fun g62 => absurd g62 (by decide)) (fun g62 => ?_)
            refine y_ld (x := .ref 116) rfl rfl (fun d => rfl) ?_
            refine y_ld (x := iv 1) rfl rfl (fun d => rfl) ?_
            refine y_ld (x := iv 3) rfl rfl (fun d => rfl) ?_
            refine y_cV (as := [.ref 116, iv 1, iv 3]) rfl rfl rfl rfl rfl hSr1.1 ⟨rfl, (Nat.le_of_ble_eq_true rfl), (Nat.le_of_ble_eq_true rfl)⟩ (by decide) (cs_swapJ (by decide) hI1 (by decide) (by decide) (fun S12 V12 hI2 => ?_))
            have hI2c := hI2
            obtain ⟨hSr2, h22, hX2, h42, h52, hC2, h72⟩ := hI2c
            refine y_n0 ?_
            refine y_inc (z := 2) (lv' := [(3, iv 2), (4, iv 3), (2, iv 3), (1, iv 0), (0, .ref 116)]) rfl rfl rfl rfl rfl ?_
            refine y_inc (z := 2) (lv' := [(4, iv 2), (3, iv 2), (2, iv 3), (1, iv 0), (0, .ref 116)]) rfl rfl rfl rfl rfl ?_
            refine y_go rfl rfl ?_
            refine y_ld (x := iv 2) rfl rfl (fun d => rfl) ?_
            refine y_ld (x := iv 2) rfl rfl (fun d => rfl) ?_
            refine y_jge rfl rfl rfl (by decide) (fun g63 => ?_) (fun g63 => absurd g63 (by decide))
            refine y_ic rfl rfl ?_
            refine y_rI rfl (by decide) ?_
            exact k true [f 3, f 0, f 2, f 1] S12 V12 (by show nxt [f 0, f 1, f 2, f 3] = _; simp only [nxt]; (repeat' split); all_goals first | rfl | (exfalso; omega)) (SJ_c hI2 (fun q hq => by rcases (show q = 0 ∨ q = 1 ∨ q = 2 ∨ q = 3 by omega) with rfl | rfl | rfl | rfl <;> rfl))
          · refine y_inc (z := 2) (lv' := [(2, iv 2), (1, iv 0), (0, .ref 116)]) rfl rfl rfl rfl rfl ?_
            refine y_go rfl rfl ?_
            refine y_ld (x := iv 2) rfl rfl (fun d => rfl) ?_
            refine y_ld (x := iv 0) rfl rfl (fun d => rfl) ?_
            refine y_jle rfl rfl rfl (by decide) (fun g64 => absurd g64 (by decide)) (fun g64 => ?_)
            refine y_ld (x := .ref 116) rfl rfl (fun d => rfl) ?_
            refine y_gR (i := 3) rfl rfl rfl hSr.1 rfl ?_
            refine y_ld (x := iv 2) rfl rfl (fun d => rfl) ?_
            refine y_ild (x := (V 120 2)) (q := 2) rfl rfl (cl_ia hC (k := 120) (N := 4) rfl) (by decide) (by decide) rfl rfl ?_
            refine y_ld (x := .ref 116) rfl rfl (fun d => rfl) ?_
            refine y_gR (i := 3) rfl rfl rfl hSr.1 rfl ?_
            refine y_ld (x := iv 0) rfl rfl (fun d => rfl) ?_
            refine y_ild (x := (V 120 0)) (q := 0) rfl rfl (cl_ia hC (k := 120) (N := 4) rfl) (by decide) (by decide) rfl rfl ?_
            refine y_jge rfl rfl rfl (by omega) (fun g65 => ?_) (fun g65 => ?_)
            · refine y_ld (x := .ref 116) rfl rfl (fun d => rfl) ?_
              refine y_ld (x := iv 0) rfl rfl (fun d => rfl) ?_
              refine y_ld (x := iv 2) rfl rfl (fun d => rfl) ?_
              refine y_cV (as := [.ref 116, iv 0, iv 2]) rfl rfl rfl rfl rfl hSr.1 ⟨rfl, (Nat.le_of_ble_eq_true rfl), (Nat.le_of_ble_eq_true rfl)⟩ (by decide) (cs_swapJ (by decide) hI (by decide) (by decide) (fun S11 V11 hI1 => ?_))
              have hI1c := hI1
              obtain ⟨hSr1, h21, hX1, h41, h51, hC1, h71⟩ := hI1c
              refine y_n0 ?_
              refine y_ld (x := iv 0) rfl rfl (fun d => rfl) ?_
              refine y_ic rfl rfl ?_
              refine y_add (z := 1) rfl rfl rfl ?_
              refine y_st (lv' := [(3, iv 1), (2, iv 2), (1, iv 0), (0, .ref 116)]) rfl rfl (fun d => rfl) ?_
              refine y_ld (x := .ref 116) rfl rfl (fun d => rfl) ?_
              refine y_gI (i := 4) (e := 4) rfl rfl rfl hSr1.1 rfl hSr1.2.1.1 ?_
              refine y_ic rfl rfl ?_
              refine y_sub (z := 3) rfl rfl rfl ?_
              refine y_st (lv' := [(4, iv 3), (3, iv 1), (2, iv 2), (1, iv 0), (0, .ref 116)]) rfl rfl (fun d => rfl) ?_
              refine y_ld (x := iv 1) rfl rfl (fun d => rfl) ?_
              refine y_ld (x := iv 3) rfl rfl (fun d => rfl) ?_
              refine y_jge rfl rfl rfl (by decide) (fun g66 => absurd g66 (by decide)) (fun g66 => ?_)
              refine y_ld (x := .ref 116) rfl rfl (fun d => rfl) ?_
              refine y_ld (x := iv 1) rfl rfl (fun d => rfl) ?_
              refine y_ld (x := iv 3) rfl rfl (fun d => rfl) ?_
              refine y_cV (as := [.ref 116, iv 1, iv 3]) rfl rfl rfl rfl rfl hSr1.1 ⟨rfl, (Nat.le_of_ble_eq_true rfl), (Nat.le_of_ble_eq_true rfl)⟩ (by decide) (cs_swapJ (by decide) hI1 (by decide) (by decide) (fun S12 V12 hI2 => ?_))
              have hI2c := hI2
              obtain ⟨hSr2, h22, hX2, h42, h52, hC2, h72⟩ := hI2c
              refine y_n0 ?_
              refine y_inc (z := 2) (lv' := [(3, iv 2), (4, iv 3), (2, iv 2), (1, iv 0), (0, .ref 116)]) rfl rfl rfl rfl rfl ?_
              refine y_inc (z := 2) (lv' := [(4, iv 2), (3, iv 2), (2, iv 2), (1, iv 0), (0, .ref 116)]) rfl rfl rfl rfl rfl ?_
              refine y_go rfl rfl ?_
              refine y_ld (x := iv 2) rfl rfl (fun d => rfl) ?_
              refine y_ld (x := iv 2) rfl rfl (fun d => rfl) ?_
              refine y_jge rfl rfl rfl (by decide) (fun g67 => ?_) (fun g67 => absurd g67 (by decide))
              refine y_ic rfl rfl ?_
              refine y_rI rfl (by decide) ?_
              exact k true [f 2, f 3, f 0, f 1] S12 V12 (by show nxt [f 0, f 1, f 2, f 3] = _; simp only [nxt]; (repeat' split); all_goals first | rfl | (exfalso; omega)) (SJ_c hI2 (fun q hq => by rcases (show q = 0 ∨ q = 1 ∨ q = 2 ∨ q = 3 by omega) with rfl | rfl | rfl | rfl <;> rfl))
            · refine y_inc (z := 1) (lv' := [(2, iv 1), (1, iv 0), (0, .ref 116)]) rfl rfl rfl rfl rfl ?_
              refine y_go rfl rfl ?_
              refine y_ld (x := iv 1) rfl rfl (fun d => rfl) ?_
              refine y_ld (x := iv 0) rfl rfl (fun d => rfl) ?_
              refine y_jle rfl rfl rfl (by decide) (fun g68 => absurd g68 (by decide)) (fun g68 => ?_)
              refine y_ld (x := .ref 116) rfl rfl (fun d => rfl) ?_
              refine y_gR (i := 3) rfl rfl rfl hSr.1 rfl ?_
              refine y_ld (x := iv 1) rfl rfl (fun d => rfl) ?_
              refine y_ild (x := (V 120 1)) (q := 1) rfl rfl (cl_ia hC (k := 120) (N := 4) rfl) (by decide) (by decide) rfl rfl ?_
              refine y_ld (x := .ref 116) rfl rfl (fun d => rfl) ?_
              refine y_gR (i := 3) rfl rfl rfl hSr.1 rfl ?_
              refine y_ld (x := iv 0) rfl rfl (fun d => rfl) ?_
              refine y_ild (x := (V 120 0)) (q := 0) rfl rfl (cl_ia hC (k := 120) (N := 4) rfl) (by decide) (by decide) rfl rfl ?_
              refine y_jge rfl rfl rfl (by omega) (fun g69 => ?_) (fun g69 => ?_)
              · refine y_ld (x := .ref 116) rfl rfl (fun d => rfl) ?_
                refine y_ld (x := iv 0) rfl rfl (fun d => rfl) ?_
                refine y_ld (x := iv 1) rfl rfl (fun d => rfl) ?_
                refine y_cV (as := [.ref 116, iv 0, iv 1]) rfl rfl rfl rfl rfl hSr.1 ⟨rfl, (Nat.le_of_ble_eq_true rfl), (Nat.le_of_ble_eq_true rfl)⟩ (by decide) (cs_swapJ (by decide) hI (by decide) (by decide) (fun S11 V11 hI1 => ?_))
                have hI1c := hI1
                obtain ⟨hSr1, h21, hX1, h41, h51, hC1, h71⟩ := hI1c
                refine y_n0 ?_
                refine y_ld (x := iv 0) rfl rfl (fun d => rfl) ?_
                refine y_ic rfl rfl ?_
                refine y_add (z := 1) rfl rfl rfl ?_
                refine y_st (lv' := [(3, iv 1), (2, iv 1), (1, iv 0), (0, .ref 116)]) rfl rfl (fun d => rfl) ?_
                refine y_ld (x := .ref 116) rfl rfl (fun d => rfl) ?_
                refine y_gI (i := 4) (e := 4) rfl rfl rfl hSr1.1 rfl hSr1.2.1.1 ?_
                refine y_ic rfl rfl ?_
                refine y_sub (z := 3) rfl rfl rfl ?_
                refine y_st (lv' := [(4, iv 3), (3, iv 1), (2, iv 1), (1, iv 0), (0, .ref 116)]) rfl rfl (fun d => rfl) ?_
                refine y_ld (x := iv 1) rfl rfl (fun d => rfl) ?_
                refine y_ld (x := iv 3) rfl rfl (fun d => rfl) ?_
                refine y_jge rfl rfl rfl (by decide) (fun g70 => absurd g70 (by decide)) (fun g70 => ?_)
                refine y_ld (x := .ref 116) rfl rfl (fun d => rfl) ?_
                refine y_ld (x := iv 1) rfl rfl (fun d => rfl) ?_
                refine y_ld (x := iv 3) rfl rfl (fun d => rfl) ?_
                refine y_cV (as := [.ref 116, iv 1, iv 3]) rfl rfl rfl rfl rfl hSr1.1 ⟨rfl, (Nat.le_of_ble_eq_true rfl), (Nat.le_of_ble_eq_true rfl)⟩ (by decide) (cs_swapJ (by decide) hI1 (by decide) (by decide) (fun S12 V12 hI2 => ?_))
                have hI2c := hI2
                obtain ⟨hSr2, h22, hX2, h42, h52, hC2, h72⟩ := hI2c
                refine y_n0 ?_
                refine y_inc (z := 2) (lv' := [(3, iv 2), (4, iv 3), (2, iv 1), (1, iv 0), (0, .ref 116)]) rfl rfl rfl rfl rfl ?_
                refine y_inc (z := 2) (lv' := [(4, iv 2), (3, iv 2), (2, iv 1), (1, iv 0), (0, .ref 116)]) rfl rfl rfl rfl rfl ?_
                refine y_go rfl rfl ?_
                refine y_ld (x := iv 2) rfl rfl (fun d => rfl) ?_
                refine y_ld (x := iv 2) rfl rfl (fun d => rfl) ?_
                refine y_jge rfl rfl rfl (by decide) (fun g71 => ?_) (fun g71 => absurd g71 (by decide))
                refine y_ic rfl rfl ?_
                refine y_rI rfl (by decide) ?_
                exact k true [f 1, f 3, f 2, f 0] S12 V12 (by show nxt [f 0, f 1, f 2, f 3] = _; simp only [nxt]; (repeat' split); all_goals first | rfl | (exfalso; omega)) (SJ_c hI2 (fun q hq => by rcases (show q = 0 ∨ q = 1 ∨ q = 2 ∨ q = 3 by omega) with rfl | rfl | rfl | rfl <;> rfl))
              · refine y_inc (z := 0) (lv' := [(2, iv 0), (1, iv 0), (0, .ref 116)]) rfl rfl rfl rfl rfl ?_
                refine y_go rfl rfl ?_
                refine y_ld (x := iv 0) rfl rfl (fun d => rfl) ?_
                refine y_ld (x := iv 0) rfl rfl (fun d => rfl) ?_
                refine y_jle rfl rfl rfl (by decide) (fun g72 => ?_) (fun g72 => absurd g72 (by decide))
                refine y_ld (x := .ref 116) rfl rfl (fun d => rfl) ?_
                refine y_ld (x := iv 0) rfl rfl (fun d => rfl) ?_
                refine y_ld (x := iv 0) rfl rfl (fun d => rfl) ?_
                refine y_cV (as := [.ref 116, iv 0, iv 0]) rfl rfl rfl rfl rfl hSr.1 ⟨rfl, (Nat.le_of_ble_eq_true rfl), (Nat.le_of_ble_eq_true rfl)⟩ (by decide) (cs_swapJ (by decide) hI (by decide) (by decide) (fun S11 V11 hI1 => ?_))
                have hI1c := hI1
                obtain ⟨hSr1, h21, hX1, h41, h51, hC1, h71⟩ := hI1c
                refine y_n0 ?_
                refine y_ld (x := iv 0) rfl rfl (fun d => rfl) ?_
                refine y_ic rfl rfl ?_
                refine y_add (z := 1) rfl rfl rfl ?_
                refine y_st (lv' := [(3, iv 1), (2, iv 0), (1, iv 0), (0, .ref 116)]) rfl rfl (fun d => rfl) ?_
                refine y_ld (x := .ref 116) rfl rfl (fun d => rfl) ?_
                refine y_gI (i := 4) (e := 4) rfl rfl rfl hSr1.1 rfl hSr1.2.1.1 ?_
                refine y_ic rfl rfl ?_
                refine y_sub (z := 3) rfl rfl rfl ?_
                refine y_st (lv' := [(4, iv 3), (3, iv 1), (2, iv 0), (1, iv 0), (0, .ref 116)]) rfl rfl (fun d => rfl) ?_
                refine y_ld (x := iv 1) rfl rfl (fun d => rfl) ?_
                refine y_ld (x := iv 3) rfl rfl (fun d => rfl) ?_
                refine y_jge rfl rfl rfl (by decide) (fun g73 => absurd g73 (by decide)) (fun g73 => ?_)
                refine y_ld (x := .ref 116) rfl rfl (fun d => rfl) ?_
                refine y_ld (x := iv 1) rfl rfl (fun d => rfl) ?_
                refine y_ld (x := iv 3) rfl rfl (fun d => rfl) ?_
                refine y_cV (as := [.ref 116, iv 1, iv 3]) rfl rfl rfl rfl rfl hSr1.1 ⟨rfl, (Nat.le_of_ble_eq_true rfl), (Nat.le_of_ble_eq_true rfl)⟩ (by decide) (cs_swapJ (by decide) hI1 (by decide) (by decide) (fun S12 V12 hI2 => ?_))
                have hI2c := hI2
                obtain ⟨hSr2, h22, hX2, h42, h52, hC2, h72⟩ := hI2c
                refine y_n0 ?_
                refine y_inc (z := 2) (lv' := [(3, iv 2), (4, iv 3), (2, iv 0), (1, iv 0), (0, .ref 116)]) rfl rfl rfl rfl rfl ?_
                refine y_inc (z := 2) (lv' := [(4, iv 2), (3, iv 2), (2, iv 0), (1, iv 0), (0, .ref 116)]) rfl rfl rfl rfl rfl ?_
                refine y_go rfl rfl ?_
                refine y_ld (x := iv 2) rfl rfl (fun d => rfl) ?_
                refine y_ld (x := iv 2) rfl rfl (fun d => rfl) ?_
                refine y_jge rfl rfl rfl (by decide) (fun g74 => ?_) (fun g74 => absurd g74 (by decide))
                refine y_ic rfl rfl ?_
                refine y_rI rfl (by decide) ?_
                exact k true [f 0, f 3, f 2, f 1] S12 V12 (by show nxt [f 0, f 1, f 2, f 3] = _; simp only [nxt]; (repeat' split); all_goals first | rfl | (exfalso; omega)) (SJ_c hI2 (fun q hq => by rcases (show q = 0 ∨ q = 1 ∨ q = 2 ∨ q = 3 by omega) with rfl | rfl | rfl | rfl <;> rfl))
        · refine y_inc (z := (-1)) (lv' := [(1, iv (-1)), (0, .ref 116)]) rfl rfl rfl rfl rfl ?_
          refine y_go rfl rfl ?_
          refine y_ld (x := iv (-1)) rfl rfl (fun d => rfl) ?_
          refine y_zlt rfl rfl rfl (by decide) (fun g75 => ?_) (fun g75 => absurd g75 (by decide))
          refine y_ld (x := iv (-1)) rfl rfl (fun d => rfl) ?_
          refine y_zge rfl rfl rfl (by decide) (fun g76 => absurd g76 (by decide)) (fun g76 => ?_)
          refine y_ic rfl rfl ?_
          refine y_rI rfl (by decide) ?_
          exact k false [f 0, f 1, f 2, f 3] S V (by show nxt [f 0, f 1, f 2, f 3] = _; simp only [nxt]; (repeat' split); all_goals first | rfl | (exfalso; omega)) (SJ_c hI (fun q hq => by rcases (show q = 0 ∨ q = 1 ∨ q = 2 ∨ q = 3 by omega) with rfl | rfl | rfl | rfl <;> rfl))
set_option maxRecDepth 100000 in
set_option maxHeartbeats 4000000 in
theorem lp_ctoldJ {S0 : m_H} {V0 : v_V} {tl : Nat → List p_Li} {cnt : Nat} {σ : Nat → Int} (hRS : RS S0 V0 1 σ tl) (hSO : SO cnt σ) (hTO : ∀ i : Nat, (i : Int) < σ 0 → TO (tl i)) {x y n d i : Int} {al : Nat} (hx0 : 0 ≤ x ∧ x < 256) (hbs : v_bs x 16 ≤ 4) {B : Nat} (hB : σ 1 = (B : Int)) {F : Nat} : ∀ (m : Nat) (j : Nat) (S2 : m_H) (W : v_V), B - j < m → (j ≤ B) → (SJ S0 V0 y n al σ tl (v_bs x j).toNat (fun q => (tdL x j).getD q 0) S2 W) → (∀ (S2 : m_H) (W : v_V), SJ S0 V0 y n al σ tl (v_bs x B).toNat (fun q => (tdL x B).getD q 0) S2 W → y_E X 15 90 F u w 148 [(0, .ref 0), (1, iv x), (2, iv y), (3, iv n), (4, iv d), (5, iv i), (6, iv (v_bs x 16))] [] S2 W K) → y_E X 15 90 (90 * m + F) u w 92 [(0, .ref 0), (1, iv x), (2, iv y), (3, iv n), (4, iv d), (5, iv i), (6, iv (v_bs x 16)), (7, iv (j : Int))] [] S2 W K := by
  intro m
  induction m with
  | zero => intros; omega
  | succ m ih =>
    intro j S2 W hm hI hI2 hx
    refine y_mono (F' := (90 * m + F) + 90) ?_ (by omega)
    have hsz := hSO.1
    have hI2c := hI2
    have hCW : ClF S2 := hI2.2.2.2.2.2.1
    have hWB : W 1 5 = (B : Int) := by
      rw [← hB]; exact (RS_2 hRS (Or.inl rfl) hI2.2.2.2.1 hI2.2.2.2.2.1).1.1.2.2.1
    refine y_ld (x := iv (j : Int)) rfl rfl (fun d => rfl) ?_
    refine y_ld (x := .ref 0) rfl rfl (fun d => rfl) ?_
    refine y_gR (i := 0) rfl rfl rfl (hCW 0 _ _ rfl) rfl ?_
    refine y_gI (i := 5) (e := (B : Int)) rfl rfl rfl (hCW 1 _ _ rfl) rfl (by exact hWB) ?_
    refine y_jge rfl rfl rfl (by omega) (fun g1 => ?_) (fun g1 => ?_)
    · obtain rfl : j = B := by omega
      refine y_lv (l' := [(0, .ref 0), (1, iv x), (2, iv y), (3, iv n), (4, iv d), (5, iv i), (6, iv (v_bs x 16))]) rfl ⟨rfl, rfl, rfl, rfl, rfl, rfl, rfl, trivial⟩ ?_
      exact y_mono (hx S2 W hI2c) (by omega)
    · have hb2 := z_b2 x hx0.1 j (by omega)
      have hle := v_bs_le x j
      have e1 : v_bs x (j + 1) = v_bs x j + x / 2 ^ j % 2 := rfl
      have hmo := v_bs_mono x (j + 1) 16 (by omega)
      have eln : (tdL x j).length = (v_bs x j).toNat := by have := tdL_len x j; omega
      obtain ⟨hSr, h2, hX, h4, h5, hC, h7⟩ := hI2
      have hRS1 := RS_2 hRS (Or.inl rfl) h4 h5
      have n1 := hRS1.1.1
      have n4 := hRS1.1.2.2.2
      obtain ⟨ta, hT, hTt⟩ := TAx_RT hRS1.2.1 hRS1.1 hSO
      have b1 := n4 j (by omega)
      have htx := (hSO.2.2.1 j (by omega)).2.1
      have hty := htx.2.2 (by omega)
      obtain ⟨vs4, hb1, hb2x⟩ := bx_ref hC (i := j) (by omega)
      refine y_ld (x := iv x) rfl rfl (fun d => rfl) ?_
      refine y_ic rfl rfl ?_
      refine y_ld (x := iv (j : Int)) rfl rfl (fun d => rfl) ?_
      refine y_op (z := (2 ^ j)) rfl rfl (fun d => rfl) (v_shl1 (k := (j : Int)) (by omega)) ?_
      refine y_op (z := (2 ^ j * (x / 2 ^ j % 2))) rfl rfl (fun d => rfl) (v_and2 (by omega) (by omega)) ?_
      refine y_zeq rfl rfl rfl (by omega) (fun g2 => ?_) (fun g2 => ?_)
      · refine y_inc (z := ((j + 1 : Nat) : Int)) (lv' := [(7, iv ((j + 1 : Nat) : Int)), (0, .ref 0), (1, iv x), (2, iv y), (3, iv n), (4, iv d), (5, iv i), (6, iv (v_bs x 16))]) rfl rfl rfl (by omega) rfl ?_
        refine y_go rfl rfl ?_
        refine y_lv (l' := [(0, .ref 0), (1, iv x), (2, iv y), (3, iv n), (4, iv d), (5, iv i), (6, iv (v_bs x 16)), (7, iv ((j + 1 : Nat) : Int))]) rfl ⟨rfl, rfl, rfl, rfl, rfl, rfl, rfl, rfl, trivial⟩ ?_
        have etd : tdL x (j + 1) = tdL x j := if_neg (by omega)
        exact y_mono (ih (j + 1) S2 W (by omega) (by omega) (by rw [show (v_bs x (j + 1)).toNat = (v_bs x j).toNat by omega, etd]; exact hI2c) hx) (by omega)
      · refine y_ld (x := .ref 0) rfl rfl (fun d => rfl) ?_
        refine y_gR (i := 4) rfl rfl rfl (hCW 0 _ _ rfl) rfl ?_
        refine y_ld (x := .ref 0) rfl rfl (fun d => rfl) ?_
        refine y_gR (i := 0) rfl rfl rfl (hCW 0 _ _ rfl) rfl ?_
        refine y_ld (x := .ref 0) rfl rfl (fun d => rfl) ?_
        refine y_gR (i := 0) rfl rfl rfl (hCW 0 _ _ rfl) rfl ?_
        refine y_gR (i := 4) rfl rfl rfl (hCW 1 _ _ rfl) rfl ?_
        refine y_ld (x := iv (j : Int)) rfl rfl (fun d => rfl) ?_
        refine y_rld (i := j) (x := 10 + 6 * j) rfl rfl hb1 (by decide) (by omega) (by omega) hb2x ?_
        refine y_gI (i := 2) (e := (σ (178 + j))) rfl rfl rfl (bx_ob hC (i := j) (by omega)) rfl b1.2.2.1 ?_
        refine y_cV (as := [.ref 1, iv (σ (178 + j))]) rfl rfl rfl rfl rfl (hCW 1 _ _ rfl) ⟨rfl, (Nat.le_of_ble_eq_true rfl), (Nat.le_of_ble_eq_true rfl)⟩ (by decide) (cb_textAt (x := σ (178 + j)) hC hT (by omega) (fun hno => absurd (show 0 ≤ σ (178 + j) ∧ σ (178 + j) < W 1 3 by omega) hno) (fun (t : Nat) gT ht1 ht2 ht3 => ?_))
        obtain ⟨-, -, hct⟩ := hTt _ t (by omega) ht1
        refine y_nv ?_
        refine y_ld (x := iv (j : Int)) rfl rfl (fun d => rfl) ?_
        refine y_cV (as := [.ref 116, .ref t, iv (j : Int)]) rfl rfl rfl rfl rfl hSr.1 ⟨rfl, (Nat.le_of_ble_eq_true rfl), (Nat.le_of_ble_eq_true rfl)⟩ (by decide) (cs_add (ts2 := fun q => if q = (v_bs x j).toNat then tl (σ (178 + j)).toNat else tl (σ (178 + (tdL x j).getD q 0)).toNat) hC hSr hX (by omega) ht2 ht3 hct (if_pos rfl) (fun q hq => if_neg (by omega)) (fun S3 V3 hSr3 hX3 q3 f3 hC3 o3 => ?_))
        refine y_n0 ?_
        refine y_inc (z := ((j + 1 : Nat) : Int)) (lv' := [(7, iv ((j + 1 : Nat) : Int)), (0, .ref 0), (1, iv x), (2, iv y), (3, iv n), (4, iv d), (5, iv i), (6, iv (v_bs x 16))]) rfl rfl rfl (by omega) rfl ?_
        refine y_go rfl rfl ?_
        refine y_lv (l' := [(0, .ref 0), (1, iv x), (2, iv y), (3, iv n), (4, iv d), (5, iv i), (6, iv (v_bs x 16)), (7, iv ((j + 1 : Nat) : Int))]) rfl ⟨rfl, rfl, rfl, rfl, rfl, rfl, rfl, rfl, trivial⟩ ?_
        have etd : tdL x (j + 1) = tdL x j ++ [j] := if_pos (by omega)
        have etq : ∀ q, q < (v_bs x j).toNat + 1 → (tdL x (j + 1)).getD q 0 = if q = (v_bs x j).toNat then j else (tdL x j).getD q 0 := fun q hq => by
          rw [etd]
          by_cases h8 : q = (v_bs x j).toNat
          · rw [if_pos h8, h8, ← eln, gd_eq]
          · rw [if_neg h8, gd_lt (by omega)]
        refine y_mono (ih (j + 1) S3 V3 (by omega) (by omega) ?_ hx) (by omega)
        rw [show (v_bs x (j + 1)).toNat = (v_bs x j).toNat + 1 by omega]
        refine ⟨SrC_ts hSr3 (fun q hq => ?_), fun q hq => ?_, hX3, SQ2_tr h4 q3, FrV_tr h5 f3, hC3, fun q hq => ?_⟩
        · dsimp only
          rw [etq q hq]
          split
          · rfl
          · rfl
        · dsimp only
          rw [etq q hq]
          split
          · exact hTO _ (by omega)
          · exact h2 q (by omega)
        · dsimp only
          rw [etq q hq]
          by_cases h8 : q = (v_bs x j).toNat
          · rw [if_pos h8, h8, o3.1]; exact ⟨rfl, by omega⟩
          · rw [if_neg h8, o3.2 q h8]; exact h7 q (by omega)
end
