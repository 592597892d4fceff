/-! the orders of BOXES: the class (that it ends, and what it leaves as it was) -/
theorem z_us0 (x : Int) (hx : 0 ≤ x ∧ x < 2147483648) : ∀ k : Nat, k ≤ 8 → (x ≤ 2 ^ k - 1 ∧ x / 2 ^ k = 0) ∨ (¬ x ≤ 2 ^ k - 1 ∧ x / 2 ^ k ≠ 0) := by
  intro k hk
  rcases (show k = 0 ∨ k = 1 ∨ k = 2 ∨ k = 3 ∨ k = 4 ∨ k = 5 ∨ k = 6 ∨ k = 7 ∨ k = 8 by omega) with rfl | rfl | rfl | rfl | rfl | rfl | rfl | rfl | rfl <;> omega
theorem z_us1 (n : Nat) (hn : 2147483648 ≤ n ∧ n < 4294967296) : ∀ k : Nat, k ≤ 8 → ∃ e : Int, e ≠ 0 ∧ (-2147483648 ≤ e ∧ e < 2147483648) ∧ nI (n / 2 ^ k) = Int32.ofInt e := by
  intro k hk
  rcases (show k = 0 ∨ k = 1 ∨ k = 2 ∨ k = 3 ∨ k = 4 ∨ k = 5 ∨ k = 6 ∨ k = 7 ∨ k = 8 by omega) with rfl | rfl | rfl | rfl | rfl | rfl | rfl | rfl | rfl
  · refine ⟨(n : Int) - 4294967296, by omega, by omega, ?_⟩
    rw [Nat.pow_zero, Nat.div_one]
    apply Int32.toBitVec_inj.mp
    show BitVec.ofNat 32 n = BitVec.ofInt 32 ((n : Int) - 4294967296)
    rw [← BitVec.ofInt_natCast]
    apply BitVec.eq_of_toInt_eq
    rw [BitVec.toInt_ofInt, BitVec.toInt_ofInt]
    have e : (n : Int) = ((n : Int) - 4294967296) + ((2 ^ 32 : Nat) : Int) := by omega
    rw [e, Int.add_bmod_right]
    congr 1
    omega
  all_goals
    exact ⟨((n / 2 ^ _ : Nat) : Int), by omega, by omega, (v_N _).symm⟩
theorem z_us {x k : Int} (hx : -2147483648 ≤ x ∧ x < 2147483648) (hk : 0 ≤ k ∧ k ≤ 8) : ∃ e : Int, (-2147483648 ≤ e ∧ e < 2147483648) ∧ ((Int32.ofInt x).toUInt32 >>> ((Int32.ofInt k).toUInt32 &&& Int32.toUInt32 31)).toInt32 = Int32.ofInt e ∧ ((0 ≤ x ∧ x ≤ 2 ^ k.toNat - 1 ∧ e = 0) ∨ (¬ (0 ≤ x ∧ x ≤ 2 ^ k.toNat - 1) ∧ e ≠ 0)) := by
  by_cases h0 : 0 ≤ x
  · have h1 := z_us0 x ⟨h0, hx.2⟩ k.toNat (by omega)
    have h2 : 0 ≤ x / 2 ^ k.toNat := Int.ediv_nonneg h0 (Int.le_of_lt (v_p2 _))
    have h3 : x / 2 ^ k.toNat ≤ x := Int.ediv_le_self _ h0
    exact ⟨x / 2 ^ k.toNat, by omega, v_ushr ⟨h0, hx.2⟩ (by omega), by omega⟩
  · obtain ⟨n, hn⟩ : ∃ n : Nat, (n : Int) = x + 4294967296 := ⟨(x + 4294967296).toNat, by omega⟩
    obtain ⟨e, e1, e2, e3⟩ := z_us1 n (by omega) k.toNat (by omega)
    have e4 : Int32.ofInt x = nI n := by
      rw [← v_N, hn]
      apply Int32.toBitVec_inj.mp
      show BitVec.ofInt 32 x = BitVec.ofInt 32 (x + 4294967296)
      apply BitVec.eq_of_toInt_eq
      rw [BitVec.toInt_ofInt, BitVec.toInt_ofInt, show x + 4294967296 = x + ((2 ^ 32 : Nat) : Int) by omega, Int.add_bmod_right]
    have h : ∀ k : Nat, k < 32 → (((nI k).toUInt32 &&& Int32.toUInt32 31).toBitVec % 32).toNat = k := by decide
    refine ⟨e, e2, ?_, Or.inr ⟨fun q => h0 q.1, e1⟩⟩
    rw [e4, v_Nz hk.1, pk_ushrN (by omega) _ k.toNat (h _ (by omega))]
    exact e3
theorem z_b2 (x : Int) (hx : 0 ≤ x) : ∀ i : Nat, i < 8 → (x / 2 ^ i % 2 = 0 ∧ (2 : Int) ^ i * (x / 2 ^ i % 2) = 0) ∨ (x / 2 ^ i % 2 = 1 ∧ 0 < (2 : Int) ^ i * (x / 2 ^ i % 2) ∧ (2 : Int) ^ i * (x / 2 ^ i % 2) < 256) := by
  intro i hi
  rcases (show i = 0 ∨ i = 1 ∨ i = 2 ∨ i = 3 ∨ i = 4 ∨ i = 5 ∨ i = 6 ∨ i = 7 by omega) with rfl | rfl | rfl | rfl | rfl | rfl | rfl | rfl <;> omega
/-- a search that has been told m TEXTS -/
def SI (S0 : m_H) (V0 : v_V) (form N : Int) (al : Nat) (σ : Nat → Int) (m : Nat) (S : m_H) (V : v_V) : Prop := ∃ ts, SrC S V form N al m ts σ ∧ (∀ q, q < m → TO (ts q)) ∧ XsA S ∧ SQ2 S0 S ∧ FrV V0 V ∧ ClF S ∧ ∀ q, q < m → 0 ≤ V 120 q ∧ V 120 q ≤ 8
section
variable {X : Nat → List Int32} {u w : Nat} {S : m_H} {V : v_V} {K : v_K}
set_option maxRecDepth 100000 in
set_option maxHeartbeats 4000000 in
theorem cs_swap {S0 : m_H} {V0 : v_V} {form N : Int} {al : Nat} {σ : Nat → Int} {m : Nat} (hm : m ≤ 4) (hI : SI S0 V0 form N al σ m S V) {a b : Int} (ha : 0 ≤ a ∧ a < m) (hb : 0 ≤ b ∧ b < m) (k : ∀ S2 V2, SI S0 V0 form N al σ m S2 V2 → K u w none S2 V2) : y_R X 1 40 u w [.ref 116, iv a, iv b] S V K := by
  obtain ⟨ts, hSr, h2, hX, h4, h5, hC, h7⟩ := hI
  obtain ⟨xs, x1, x2, x3⟩ := hSr.2.2.1
  obtain ⟨zs, z1, z2, z3⟩ := hX
  have ezs : zs = xs := by
    have e := z1.2.symm.trans x1.2
    simp only [Option.some.injEq, Prod.mk.injEq] at e
    exact e.2
  subst ezs
  have x4 := z3
  obtain ⟨ta, a1, a2, a3, a4⟩ := x3 a.toNat (by omega)
  obtain ⟨tb, b1, b2, b3, b4⟩ := x3 b.toNat (by omega)
  refine y_ent (lv' := [(0, .ref 116), (1, iv a), (2, iv b)]) (Nat.le_of_ble_eq_true rfl) rfl ?_
  refine y_ld (x := .ref 116) rfl rfl (fun d => rfl) ?_
  refine y_gR (i := 3) rfl rfl rfl hSr.1 rfl ?_
  refine y_ld (x := iv a) rfl rfl (fun d => rfl) ?_
  refine y_ild (x := (V 120 a.toNat)) (q := a.toNat) rfl rfl (cl_ia hC (k := 120) (N := 4) rfl) (by omega) (by decide) rfl rfl ?_
  refine y_st (lv' := [(3, iv (V 120 a.toNat)), (0, .ref 116), (1, iv a), (2, iv b)]) rfl rfl (fun d => rfl) ?_
  refine y_ld (x := .ref 116) rfl rfl (fun d => rfl) ?_
  refine y_gR (i := 3) rfl rfl rfl hSr.1 rfl ?_
  refine y_ld (x := iv a) rfl rfl (fun d => rfl) ?_
  refine y_ld (x := .ref 116) rfl rfl (fun d => rfl) ?_
  refine y_gR (i := 3) rfl rfl rfl hSr.1 rfl ?_
  refine y_ld (x := iv b) rfl rfl (fun d => rfl) ?_
  refine y_ild (x := (V 120 b.toNat)) (q := b.toNat) rfl rfl (cl_ia hC (k := 120) (N := 4) rfl) (by omega) (by decide) rfl rfl ?_
  refine y_ist (q := a.toNat) rfl rfl (cl_ia hC (k := 120) (N := 4) rfl) (by omega) (by decide) rfl ?_
  refine y_ld (x := .ref 116) rfl rfl (fun d => rfl) ?_
  refine y_gR (i := 3) rfl rfl rfl hSr.1 rfl ?_
  refine y_ld (x := iv b) rfl rfl (fun d => rfl) ?_
  refine y_ld (x := iv (V 120 a.toNat)) rfl rfl (fun d => rfl) ?_
  refine y_ist (q := b.toNat) rfl rfl (cl_ia hC (k := 120) (N := 4) rfl) (by omega) (by decide) rfl ?_
  refine y_ld (x := .ref 116) rfl rfl (fun d => rfl) ?_
  refine y_gR (i := 2) rfl rfl rfl hSr.1 rfl ?_
  refine y_ld (x := iv a) rfl rfl (fun d => rfl) ?_
  refine y_rld (i := a.toNat) (x := ta) rfl rfl x1 (by decide) (by omega) (by omega) a1 ?_
  refine y_st (lv' := [(4, .ref ta), (3, iv (V 120 a.toNat)), (0, .ref 116), (1, iv a), (2, iv b)]) rfl rfl (fun d => rfl) ?_
  refine y_ld (x := .ref 116) rfl rfl (fun d => rfl) ?_
  refine y_gR (i := 2) rfl rfl rfl hSr.1 rfl ?_
  refine y_ld (x := iv a) rfl rfl (fun d => rfl) ?_
  refine y_ld (x := .ref 116) rfl rfl (fun d => rfl) ?_
  refine y_gR (i := 2) rfl rfl rfl hSr.1 rfl ?_
  refine y_ld (x := iv b) rfl rfl (fun d => rfl) ?_
  refine y_rld (i := b.toNat) (x := tb) rfl rfl x1 (by decide) (by omega) (by omega) b1 ?_
  refine y_rst (i := a.toNat) rfl rfl x1 (by decide) (by omega) (by omega) (by omega) (Or.inr ⟨tb, _, rfl, b3.1⟩) ?_
  have hq := SQ2_set (vs' := zs.set a.toNat (.ref tb)) x1 (Or.inr rfl)
  have hs1 : ce (S.set 119 (22, zs.set a.toNat (.ref tb))) 116 4 (S116l (.ref 7)) := ce_ne hSr.1 (by decide)
  have x1b : ce (S.set 119 (22, zs.set a.toNat (.ref tb))) 119 22 (zs.set a.toNat (.ref tb)) := ce_eq x1
  have x2b : (zs.set a.toNat (.ref tb)).length = 4 := by rw [List.length_set]; exact x2
  refine y_ld (x := .ref 116) rfl rfl (fun d => rfl) ?_
  refine y_gR (i := 2) rfl rfl rfl hs1 rfl ?_
  refine y_ld (x := iv b) rfl rfl (fun d => rfl) ?_
  refine y_ld (x := .ref ta) rfl rfl (fun d => rfl) ?_
  refine y_rst (i := b.toNat) rfl rfl x1b (by decide) (by omega) (by omega) (by omega) (Or.inr ⟨ta, _, rfl, (TxS_2 a2 a3 hq).1⟩) ?_
  have hq2 := SQ2_tr hq (SQ2_set (vs' := (zs.set a.toNat (.ref tb)).set b.toNat (.ref ta)) x1b (Or.inr rfl))
  refine y_ret rfl (fun d => rfl) ?_
  have hhi : ∀ k, 193 ≤ k → (v_up (v_up V 120 a.toNat (V 120 b.toNat)) 120 b.toNat (V 120 a.toNat)) k = V k := fun k hk => by rw [v_up_ne (by omega), v_up_ne (by omega)]
  have e116 : (v_up (v_up V 120 a.toNat (V 120 b.toNat)) 120 b.toNat (V 120 a.toNat)) 116 = V 116 := by rw [v_up_ne (by decide), v_up_ne (by decide)]
  obtain ⟨la, y1, y2, y3⟩ := hSr.2.2.2
  have hx3 : ce ((S.set 119 (22, zs.set a.toNat (.ref tb))).set 119 (22, (zs.set a.toNat (.ref tb)).set b.toNat (.ref ta))) 119 22 ((zs.set a.toNat (.ref tb)).set b.toNat (.ref ta)) := ce_eq x1b
  have hnb : ∀ (l : List Value) (c : Nat) (v : Value), c < l.length → m_nth (l.set c v) c = some v := fun l c v hc => by rw [m_nth_set, if_pos rfl, m_nth_eq, List.getElem?_eq_getElem hc]; rfl
  refine k _ _ ⟨fun q => if q = b.toNat then ts a.toNat else if q = a.toNat then ts b.toNat else ts q, ⟨ce_ne hs1 (by decide), by rw [e116]; exact hSr.2.1, ⟨_, hx3, by rw [List.length_set]; exact x2b, fun q hqm => ?_⟩, la, ce_ne (ce_ne y1 (by decide)) (by decide), y2, fun q hqm => ?_⟩, fun q hqm => ?_, ⟨_, hx3, by rw [List.length_set]; exact x2b, fun v hv => ?_⟩, SQ2_tr h4 hq2, FrV_tr h5 (fun k _ h7 _ _ => by rw [v_up_ne h7, v_up_ne h7]), ClF_2 hC hq2, fun q hqm => ?_⟩
  · dsimp only
    by_cases hqb : q = b.toNat
    · rw [hqb, hnb _ _ _ (by omega), if_pos rfl]
      exact ⟨ta, rfl, a2, TxS_2 a2 a3 hq2, CT_hi hhi a2 a4⟩
    · rw [m_nth_set, if_neg hqb, if_neg hqb]
      by_cases hqa : q = a.toNat
      · rw [hqa, hnb _ _ _ (by omega), if_pos rfl]
        exact ⟨tb, rfl, b2, TxS_2 b2 b3 hq2, CT_hi hhi b2 b4⟩
      · rw [m_nth_set, if_neg hqa, if_neg hqa]
        obtain ⟨t, c1, c2, c3, c4⟩ := x3 q hqm
        exact ⟨t, c1, c2, TxS_2 c2 c3 hq2, CT_hi hhi c2 c4⟩
  · obtain ⟨pk, p1, p2, p3⟩ := y3 q hqm
    have p4 := PkS_r p3 (hhi pk p2)
    exact ⟨pk, p1, p2, ce_ne (ce_ne p4.1 (by omega)) (by omega), p4.2⟩
  · show TO (if q = b.toNat then ts a.toNat else if q = a.toNat then ts b.toNat else ts q)
    split
    · exact h2 _ (by omega)
    · split
      · exact h2 _ (by omega)
      · exact h2 q hqm
  · rcases List.mem_or_eq_of_mem_set hv with h7 | h7
    · rcases List.mem_or_eq_of_mem_set h7 with h8 | h8
      · exact hq2.2.1 _ _ (x4 v h8)
      · rw [h8]; exact Or.inr ⟨tb, _, rfl, (TxS_2 b2 b3 hq2).1⟩
    · rw [h7]; exact Or.inr ⟨ta, _, rfl, (TxS_2 a2 a3 hq2).1⟩
  · by_cases hqb : q = b.toNat
    · rw [hqb, v_up_eq]; exact h7 _ (by omega)
    · rw [v_up_ni hqb]
      by_cases hqa : q = a.toNat
      · rw [hqa, v_up_eq]; exact h7 _ (by omega)
      · rw [v_up_ni hqa]; exact h7 q hqm
end
