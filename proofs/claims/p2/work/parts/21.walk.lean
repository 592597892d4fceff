/-! walking the small machine, row by row; a and b bound how large the heap is -/
def x_E (X : Nat → List Int32) (d j u w n pc : Nat) (lv : m_L) (st : List Value) (h : m_H) (K : Nat → Nat → m_R → Prop) : Prop :=
  h.length ≤ u → m_sz h ≤ w → ∃ (r : m_R) (u' w' : Nat), m_exec X (m_run X d) (m_code j) n pc lv st h = some r ∧ r.2.length ≤ u' ∧ m_sz r.2 ≤ w' ∧ K u' w' r
def x_R (X : Nat → List Int32) (d j u w : Nat) (as : List Value) (h : m_H) (K : Nat → Nat → m_R → Prop) : Prop :=
  h.length ≤ u → m_sz h ≤ w → ∃ (r : m_R) (u' w' : Nat), m_run X d j as h = some r ∧ r.2.length ≤ u' ∧ m_sz r.2 ≤ w' ∧ K u' w' r
def x_pure : Instr → Bool
  | .new _ => false
  | .newarray _ => false
  | .anewarray _ => false
  | .invokevirtual _ => false
  | .invokespecial _ => false
  | _ => true
def x_noStatic (en : m_E) : Bool := match en.1 with
  | .invokestatic _ => en.2.2.1.toNat == 9999
  | .invokespecial _ => en.2.2.1.toNat == 9998
  | i => x_pure i
section WALK
variable {X : Nat → List Int32} {d j u w n pc : Nat} {lv : m_L} {st : List Value} {h : m_H} {K : Nat → Nat → m_R → Prop} {en : m_E}
theorem x_same_set {h : m_H} {k t t' : Nat} {us vs : List Value} (ho : m_ob h k = some (t, us)) (hl : vs.length = us.length) : (h.set k (t', vs)).length = h.length ∧ m_sz (h.set k (t', vs)) = m_sz h :=
  ⟨List.length_set, m_sz_set (m_ob_nth ho).2 hl⟩
theorem x_same_se {h h' : m_H} {t x : Nat} {y : Int32} {v : Value} (ha : m_se h t x y v = some h') : h'.length = h.length ∧ m_sz h' = m_sz h := by
  obtain ⟨j, vs, -, h1, g1, -, rfl⟩ := m_se_sp ha
  refine x_same_set (t := t) (us := vs) ?_ (by simp)
  unfold m_ob
  rw [if_pos h1]
  exact g1
theorem x_same_acp {h h' : m_H} {x q : Nat} {sp dp n : Int32} (ha : m_acp h x sp q dp n = some h') : h'.length = h.length ∧ m_sz h' = m_sz h := by
  obtain ⟨i, j, w, us, vs, -, -, -, -, -, f6, f7, f8, f9, rfl⟩ := m_acp_sp ha
  refine x_same_set (t := 20) (us := vs) ?_ (m_cpy_len f8 f9)
  unfold m_ob
  rw [if_pos f6]
  exact f7
set_option maxHeartbeats 4000000 in
theorem x_same {call : Nat → List Value → m_H → Option m_R} {C : m_C} (ha : x_noStatic en = true) (hs : m_stp X call en pc lv st h = some (.inl C)) : C.2.2.2.length = h.length ∧ m_sz C.2.2.2 = m_sz h := by
  obtain ⟨ins, len, a, b⟩ := en
  unfold m_stp at hs
  dsimp only at hs
  split at hs
  all_goals (repeat' split at hs)
  all_goals first
    | (cases hs; done)
    | (cases hs; exact ⟨rfl, rfl⟩)
    | (cases hs; exact x_same_se (by assumption))
    | (cases hs; exact x_same_acp (by assumption))
    | (cases hs; exact x_same_set (by assumption) (by simp))
    | (exfalso; simp_all [x_noStatic, x_pure]; done)
theorem x_in {pc' : Nat} {lv' : m_L} {st' : List Value} {h' : m_H} (hc : m_nth (m_code j) pc = some (some en)) (ha : x_noStatic en = true) (hs : m_stp X (m_run X d) en pc lv st h = m_nx pc' lv' st' h') (k : x_E X d j u w n pc' lv' st' h' K) : x_E X d j u w (n + 1) pc lv st h K := by
  intro h1 h2
  obtain ⟨g1, g2⟩ := x_same ha hs
  dsimp only at g1 g2
  obtain ⟨r, u', w', k1, k2⟩ := k (by rw [g1]; exact h1) (by rw [g2]; exact h2)
  refine ⟨r, u', w', ?_, k2⟩
  simp only [m_exec, hc, hs]
  exact k1
theorem x_br {c : Prop} {i : Decidable c} {p1 p2 : Nat} {st' : List Value} (hc : m_nth (m_code j) pc = some (some en)) (hs : m_stp X (m_run X d) en pc lv st h = @ite _ c i (m_nx p1 lv st' h) (m_nx p2 lv st' h))
    (k1 : c → x_E X d j u w n p1 lv st' h K) (k2 : ¬ c → x_E X d j u w n p2 lv st' h K) : x_E X d j u w (n + 1) pc lv st h K := by
  intro h1 h2
  by_cases hcc : c
  · obtain ⟨r, u', w', k3, k4⟩ := k1 hcc h1 h2
    refine ⟨r, u', w', ?_, k4⟩
    rw [if_pos hcc] at hs
    simp only [m_exec, hc, hs]
    exact k3
  · obtain ⟨r, u', w', k3, k4⟩ := k2 hcc h1 h2
    refine ⟨r, u', w', ?_, k4⟩
    rw [if_neg hcc] at hs
    simp only [m_exec, hc, hs]
    exact k3
theorem x_bT {c : Prop} {i : Decidable c} {p1 p2 : Nat} {st' : List Value} (hc : m_nth (m_code j) pc = some (some en)) (hs : m_stp X (m_run X d) en pc lv st h = @ite _ c i (m_nx p1 lv st' h) (m_nx p2 lv st' h))
    (hp : c) (k1 : x_E X d j u w n p1 lv st' h K) : x_E X d j u w (n + 1) pc lv st h K := x_br hc hs (fun _ => k1) (fun q => absurd hp q)
theorem x_bF {c : Prop} {i : Decidable c} {p1 p2 : Nat} {st' : List Value} (hc : m_nth (m_code j) pc = some (some en)) (hs : m_stp X (m_run X d) en pc lv st h = @ite _ c i (m_nx p1 lv st' h) (m_nx p2 lv st' h))
    (hp : ¬ c) (k2 : x_E X d j u w n p2 lv st' h K) : x_E X d j u w (n + 1) pc lv st h K := x_br hc hs (fun q => absurd q hp) (fun _ => k2)
theorem x_top {v v' : Value} {r : List Value} (e : v = v') (k : x_E X d j u w n pc lv (v' :: r) h K) : x_E X d j u w n pc lv (v :: r) h K := e ▸ k
theorem x_gen {v : Int32} {r : List Value} (k : ∀ y : Int32, x_E X d j u w n pc lv (.int y :: r) h K) : x_E X d j u w n pc lv (.int v :: r) h K := k v
theorem x_iinc {q : Nat} {x z : Int32} {k : Int} {len b : Nat} {a : Int} (hc : m_nth (m_code j) pc = some (some (.iinc q k, len, a, b))) (hl : m_lg lv q = some (.int x)) (hz : x + Int32.ofInt k = z) (kk : x_E X d j u w n (pc + len) (m_st lv q (.int z)) st h K) : x_E X d j u w (n + 1) pc lv st h K := by
  subst hz
  refine x_in hc rfl ?_ kk
  rw [m_s_iinc, hl]
theorem x_al {t : Nat} {vs : List Value} {z : Nat} {pc' : Nat} {st' : List Value} (hc : m_nth (m_code j) pc = some (some en)) (hs : m_stp X (m_run X d) en pc lv st h = m_nx pc' lv st' (h ++ [(t, vs)])) (hz : vs.length = z) (k : x_E X d j (u + 1) (w + z) n pc' lv st' (h ++ [(t, vs)]) K) : x_E X d j u w (n + 1) pc lv st h K := by
  intro h1 h2
  obtain ⟨r, u', w', k1, k2⟩ := k (by simp; exact h1) (by rw [m_sz_add, hz]; omega)
  refine ⟨r, u', w', ?_, k2⟩
  simp only [m_exec, hc, hs]
  exact k1
theorem x_ret {v : Option Value} (hc : m_nth (m_code j) pc = some (some en)) (hs : m_stp X (m_run X d) en pc lv st h = some (.inr (v, h))) (k : K u w (v, h)) : x_E X d j u w (n + 1) pc lv st h K := by
  intro h1 h2
  refine ⟨(v, h), u, w, ?_, h1, h2, k⟩
  simp only [m_exec, hc, hs]
theorem x_enter {as : List Value} (hlg : (lg_sl as).length ≤ m_nl j) (k : x_E X d j u w 1000000 0 (lv_args 0 as) [] h K) : x_R X (d + 1) j u w as h K := by
  intro h1 h2
  obtain ⟨r, u', w', k1, k2⟩ := k h1 h2
  refine ⟨r, u', w', ?_, k2⟩
  simp only [m_run, if_pos hlg]
  exact k1
theorem x_back {j' pc' : Nat} {as rst : List Value} (hcall : ∀ v h', m_run X d j' as h = some (v, h') → m_exec X (m_run X d) (m_code j) (n + 1) pc lv st h = m_exec X (m_run X d) (m_code j) n pc' lv (v.toList ++ rst) h')
    (kk : x_R X d j' u w as h (fun u' w' r => x_E X d j u' w' n pc' lv (r.1.toList ++ rst) r.2 K)) : x_E X d j u w (n + 1) pc lv st h K := by
  intro h1 h2
  obtain ⟨⟨v, h'⟩, u', w', k1, k2, k3, k4⟩ := kk h1 h2
  obtain ⟨r, u'', w'', g1, g2⟩ := k4 k2 k3
  refine ⟨r, u'', w'', ?_, g2⟩
  rw [hcall v h' k1]
  exact g1
theorem x_cV {q len b : Nat} {a : Int} {k t : Nat} {vs rst : List Value} (hc : m_nth (m_code j) pc = some (some (.invokevirtual q, len, a, b))) (e1 : st.drop b = .ref k :: rst) (ho : m_ob h k = some (t, vs)) (e2 : (Value.ref k :: (st.take b).reverse) = (Value.ref k :: (st.take b).reverse)) (ht : t = m_oc a.toNat ∧ rst.length ≤ 4 ∧ b ≤ st.length)
    (kk : x_R X d a.toNat u w (.ref k :: (st.take b).reverse) h (fun u' w' r => x_E X d j u' w' n (pc + len) lv (r.1.toList ++ rst) r.2 K)) : x_E X d j u w (n + 1) pc lv st h K := by
  refine x_back (fun v h' e => ?_) kk
  simp only [m_exec, hc, m_s_invokevirtual, e1, ho, if_pos ht, e]
theorem x_cS {q len b : Nat} {a : Int} {rst : List Value} (hc : m_nth (m_code j) pc = some (some (.invokestatic q, len, a, b))) (h9 : ¬ a.toNat = 9999) (e1 : st.drop b = rst) (e2 : (st.take b).reverse = (st.take b).reverse) (ht : (st.drop b).length ≤ 4 ∧ b ≤ st.length)
    (kk : x_R X d a.toNat u w (st.take b).reverse h (fun u' w' r => x_E X d j u' w' n (pc + len) lv (r.1.toList ++ rst) r.2 K)) : x_E X d j u w (n + 1) pc lv st h K := by
  subst e1
  refine x_back (fun v h' e => ?_) kk
  simp only [m_exec, hc, m_s_invokestatic, if_neg h9, if_pos ht, e]
theorem x_cI {q len b : Nat} {a : Int} {k : Nat} {rst : List Value} (hc : m_nth (m_code j) pc = some (some (.invokespecial q, len, a, b))) (h9 : ¬ a.toNat = 9998) (e1 : st.drop b = .ref k :: rst) (e2 : (st.take b).reverse = (st.take b).reverse) (ht : rst.length ≤ 4 ∧ b ≤ st.length ∧ k < 1000000)
    (kk : x_R X d a.toNat u w (.ref k :: (st.take b).reverse) h (fun u' w' r => x_E X d j u' w' n (pc + len) lv (r.1.toList ++ rst) r.2 K)) : x_E X d j u w (n + 1) pc lv st h K := by
  refine x_back (fun v h' e => ?_) kk
  simp only [m_exec, hc, m_s_invokespecial, if_neg h9, e1, if_pos ht, e]
theorem x_swD {q lo hi : Int} {offs : Array Int} {len b t : Nat} {a : Int} {x : Int32} {r : List Value} (hc : m_nth (m_code j) pc = some (some (.tableswitch q lo hi offs, len, a, b))) (hx : x.toInt < lo ∨ hi < x.toInt) (hg : m_go pc q = some t) (k : x_E X d j u w n t lv r h K) : x_E X d j u w (n + 1) pc lv (.int x :: r) h K := by
  refine x_in (en := (.tableswitch q lo hi offs, len, a, b)) hc rfl ?_ k
  rw [m_s_tableswitch]
  simp only [if_pos hx, hg]
theorem x_new {q len b L z : Nat} {a : Int} (hc : m_nth (m_code j) pc = some (some (.new q, len, a, b))) (hL : h.length = L) (hb : L < 1000000) (hz : (m_dfl b).length = z) (k : x_E X d j (u + 1) (w + z) n (pc + len) lv (.ref L :: st) (h ++ [(b, m_dfl b)]) K) : x_E X d j u w (n + 1) pc lv st h K := by
  subst hL
  refine x_al hc ?_ hz k
  rw [m_s_new]
  unfold m_add
  rw [if_pos hb]
theorem x_hs0 {g : m_H} {k : Nat} {c1 c2 : Nat × List Value} (kk : x_E X d j u w n pc lv st (g.set k c2) K) : x_E X d j u w n pc lv st ((g.set k c1).set k c2) K := by
  rw [List.set_set]
  exact kk
theorem x_hs1 {g : m_H} {k k1 : Nat} {c1 c2 e1 : Nat × List Value} (h1 : k ≠ k1) (kk : x_E X d j u w n pc lv st ((g.set k c2).set k1 e1) K) : x_E X d j u w n pc lv st (((g.set k c1).set k1 e1).set k c2) K := by
  rw [List.set_comm _ _ (Ne.symm h1), List.set_set]
  exact kk
theorem x_hs2 {g : m_H} {k k1 k2 : Nat} {c1 c2 e1 e2 : Nat × List Value} (h1 : k ≠ k1) (h2 : k ≠ k2) (kk : x_E X d j u w n pc lv st (((g.set k c2).set k1 e1).set k2 e2) K) : x_E X d j u w n pc lv st ((((g.set k c1).set k1 e1).set k2 e2).set k c2) K := by
  rw [List.set_comm _ _ (Ne.symm h2), List.set_comm _ _ (Ne.symm h1), List.set_set]
  exact kk
theorem x_hs3 {g : m_H} {k k1 k2 k3 : Nat} {c1 c2 e1 e2 e3 : Nat × List Value} (h1 : k ≠ k1) (h2 : k ≠ k2) (h3 : k ≠ k3) (kk : x_E X d j u w n pc lv st ((((g.set k c2).set k1 e1).set k2 e2).set k3 e3) K) : x_E X d j u w n pc lv st (((((g.set k c1).set k1 e1).set k2 e2).set k3 e3).set k c2) K := by
  rw [List.set_comm _ _ (Ne.symm h3), List.set_comm _ _ (Ne.symm h2), List.set_comm _ _ (Ne.symm h1), List.set_set]
  exact kk
/-- a call that was computed -/
theorem x_done {as : List Value} {r : m_R} {u' w' : Nat} (hr : m_run X d j as h = some r) (hb : h.length ≤ u → m_sz h ≤ w → r.2.length ≤ u' ∧ m_sz r.2 ≤ w') (k : K u' w' r) : x_R X d j u w as h K := fun h1 h2 => ⟨r, u', w', hr, (hb h1 h2).1, (hb h1 h2).2, k⟩
end WALK
theorem z_1 {x c : Int32} (k : Int) (hk : c.toInt = k) : x < c ↔ x.toInt < k := by rw [Int32.lt_iff_toInt_lt, hk]
theorem z_2 {x c : Int32} (k : Int) (hk : c.toInt = k) : c < x ↔ k < x.toInt := by rw [Int32.lt_iff_toInt_lt, hk]
theorem z_3 {x c : Int32} (k : Int) (hk : c.toInt = k) : x ≤ c ↔ x.toInt ≤ k := by rw [Int32.le_iff_toInt_le, hk]
theorem z_4 {x c : Int32} (k : Int) (hk : c.toInt = k) : c ≤ x ↔ k ≤ x.toInt := by rw [Int32.le_iff_toInt_le, hk]
theorem z_5 {x c : Int32} (k : Int) (hk : c.toInt = k) : x = c ↔ x.toInt = k := by rw [← hk, Int32.toInt_inj]
theorem z_6 {x c : Int32} (k : Int) (hk : c.toInt = k) : c = x ↔ x.toInt = k := by rw [← hk, ← Int32.toInt_inj, eq_comm]
theorem z_ush0 (x : Int32) : (x.toUInt32 >>> (((0 : Int32)).toUInt32 &&& Int32.toUInt32 31)).toInt32 = x := by
  apply Int32.toBitVec_inj.mp
  simp
