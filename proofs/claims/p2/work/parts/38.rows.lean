/-! ROWS OF THE WALK over shape and numbers; D bounds the depth of calls, F the steps, from above -/
abbrev v_K : Type := Nat → Nat → Option Value → m_H → v_V → Prop
def v_k (K : v_K) : Nat → Nat → m_R → Prop := fun u w r => ∃ S V, r.2 = mkh S V ∧ K u w r.1 S V
def y_E (X : Nat → List Int32) (D j F u w pc : Nat) (lv : m_L) (st : List Value) (S : m_H) (V : v_V) (K : v_K) : Prop :=
  ∀ d n, D ≤ d → F ≤ n → x_E X d j u w n pc lv st (mkh S V) (v_k K)
def y_R (X : Nat → List Int32) (D j u w : Nat) (as : List Value) (S : m_H) (V : v_V) (K : v_K) : Prop :=
  ∀ d, D ≤ d → x_R X d j u w as (mkh S V) (v_k K)
section ROWS
variable {X : Nat → List Int32} {D j F u w pc : Nat} {lv : m_L} {st : List Value} {S : m_H} {V : v_V} {K : v_K} {en : m_E}
theorem y_mono {F' : Nat} (k : y_E X D j F' u w pc lv st S V K) (h : F' ≤ F) : y_E X D j F u w pc lv st S V K := fun d n h1 h2 => k d n h1 (Nat.le_trans h h2)
theorem y_up {u' w' : Nat} (k : y_E X D j F u' w' pc lv st S V K) (h1 : u ≤ u') (h2 : w ≤ w') : y_E X D j F u w pc lv st S V K := fun d n g1 g2 g3 g4 => k d n g1 g2 (Nat.le_trans g3 h1) (Nat.le_trans g4 h2)
theorem y_V {V' : v_V} (e : V = V') (k : y_E X D j F u w pc lv st S V' K) : y_E X D j F u w pc lv st S V K := e ▸ k
theorem y_S {S' : m_H} (e : S = S') (k : y_E X D j F u w pc lv st S' V K) : y_E X D j F u w pc lv st S V K := e ▸ k
theorem y_in {pc' : Nat} {lv' : m_L} {st' : List Value} (hc : m_nth (m_code j) pc = some (some en)) (ha : x_noStatic en = true) (hs : ∀ d, m_stp X (m_run X d) en pc lv st (mkh S V) = m_nx pc' lv' st' (mkh S V)) (k : y_E X D j F u w pc' lv' st' S V K) : y_E X D j (F + 1) u w pc lv st S V K := by
  intro d n h1 h2
  obtain ⟨n, rfl⟩ : ∃ q, n = q + 1 := ⟨n - 1, by omega⟩
  exact x_in hc ha (hs d) (k d n h1 (by omega))
theorem y_wr {pc' : Nat} {lv' : m_L} {st' : List Value} {S' : m_H} {V' : v_V} (hc : m_nth (m_code j) pc = some (some en)) (ha : x_noStatic en = true) (hs : ∀ d, m_stp X (m_run X d) en pc lv st (mkh S V) = m_nx pc' lv' st' (mkh S' V')) (k : y_E X D j F u w pc' lv' st' S' V' K) : y_E X D j (F + 1) u w pc lv st S V K := by
  intro d n h1 h2
  obtain ⟨n, rfl⟩ : ∃ q, n = q + 1 := ⟨n - 1, by omega⟩
  exact x_in hc ha (hs d) (k d n h1 (by omega))
theorem y_br {c : Prop} {i : Decidable c} {p1 p2 : Nat} {st' : List Value} (hc : m_nth (m_code j) pc = some (some en)) (hs : ∀ d, m_stp X (m_run X d) en pc lv st (mkh S V) = @ite _ c i (m_nx p1 lv st' (mkh S V)) (m_nx p2 lv st' (mkh S V)))
    (k1 : c → y_E X D j F u w p1 lv st' S V K) (k2 : ¬ c → y_E X D j F u w p2 lv st' S V K) : y_E X D j (F + 1) u w pc lv st S V K := by
  intro d n h1 h2
  obtain ⟨n, rfl⟩ : ∃ q, n = q + 1 := ⟨n - 1, by omega⟩
  exact x_br hc (hs d) (fun q => k1 q d n h1 (by omega)) (fun q => k2 q d n h1 (by omega))
theorem y_ret {v : Option Value} (hc : m_nth (m_code j) pc = some (some en)) (hs : ∀ d, m_stp X (m_run X d) en pc lv st (mkh S V) = some (.inr (v, mkh S V))) (k : K u w v S V) : y_E X D j (F + 1) u w pc lv st S V K := by
  intro d n h1 h2
  obtain ⟨n, rfl⟩ : ∃ q, n = q + 1 := ⟨n - 1, by omega⟩
  exact x_ret hc (hs d) ⟨S, V, rfl, k⟩
theorem y_enter {as : List Value} (hlg : (lg_sl as).length ≤ m_nl j) (k : y_E X D j 1000000 u w 0 (lv_args 0 as) [] S V K) : y_R X (D + 1) j u w as S V K := by
  intro d h1
  obtain ⟨d, rfl⟩ : ∃ q, d = q + 1 := ⟨d - 1, by omega⟩
  exact x_enter hlg (k d 1000000 (by omega) (Nat.le_refl _))
theorem y_Rm {D' : Nat} {as : List Value} (k : y_R X D' j u w as S V K) (h : D' ≤ D) : y_R X D j u w as S V K := fun d h1 => k d (Nat.le_trans h h1)
theorem y_Rk {as : List Value} {K' : v_K} (k : y_R X D j u w as S V K') (h : ∀ u w v S V, K' u w v S V → K u w v S V) : y_R X D j u w as S V K := by
  intro d h1 h2 h3
  obtain ⟨r, u', w', g1, g2, g3, S', V', g4, g5⟩ := k d h1 h2 h3
  exact ⟨r, u', w', g1, g2, g3, S', V', g4, h _ _ _ _ _ g5⟩
theorem y_bk {D' j' : Nat} {as rst : List Value} {pc' : Nat} (hD : D' ≤ D) (hcall : ∀ d n v h', m_run X d j' as (mkh S V) = some (v, h') → m_exec X (m_run X d) (m_code j) (n + 1) pc lv st (mkh S V) = m_exec X (m_run X d) (m_code j) n pc' lv (v.toList ++ rst) h')
    (kk : y_R X D' j' u w as S V (fun u' w' v S' V' => y_E X D j F u' w' pc' lv (v.toList ++ rst) S' V' K)) : y_E X D j (F + 1) u w pc lv st S V K := by
  intro d n h1 h2 h3 h4
  obtain ⟨n, rfl⟩ : ∃ q, n = q + 1 := ⟨n - 1, by omega⟩
  obtain ⟨⟨v, h'⟩, u', w', k1, k2, k3, S', V', k4, k5⟩ := kk d (Nat.le_trans hD h1) h3 h4
  dsimp only at k1 k2 k3 k4 k5
  subst k4
  obtain ⟨r, u'', w'', g1, g2⟩ := k5 d n h1 (by omega) k2 k3
  refine ⟨r, u'', w'', ?_, g2⟩
  rw [hcall d n v _ k1]
  exact g1
theorem y_cV {D' q len b J pc' : Nat} {a : Int} {k t : Nat} {vs rst as : List Value} (hc : m_nth (m_code j) pc = some (some (.invokevirtual q, len, a, b))) (e1 : st.drop b = .ref k :: rst) (e2 : (Value.ref k :: (st.take b).reverse) = as) (hJ : a.toNat = J) (hp : pc + len = pc') (hs : ce S k t vs) (ht : t = m_oc a.toNat ∧ rst.length ≤ 4 ∧ b ≤ st.length) (hD : D' ≤ D)
    (kk : y_R X D' J u w as S V (fun u' w' v S' V' => y_E X D j F u' w' pc' lv (v.toList ++ rst) S' V' K)) : y_E X D j (F + 1) u w pc lv st S V K := by
  subst hJ hp e2
  refine y_bk hD (fun d n v h' e => ?_) kk
  simp only [m_exec, hc, m_s_invokevirtual, e1, v_ob hs, if_pos ht, e]
theorem y_cS {D' q len b J pc' : Nat} {a : Int} {rst as : List Value} (hc : m_nth (m_code j) pc = some (some (.invokestatic q, len, a, b))) (h9 : ¬ a.toNat = 9999) (e1 : st.drop b = rst) (e2 : (st.take b).reverse = as) (hJ : a.toNat = J) (hp : pc + len = pc') (ht : (st.drop b).length ≤ 4 ∧ b ≤ st.length) (hD : D' ≤ D)
    (kk : y_R X D' J u w as S V (fun u' w' v S' V' => y_E X D j F u' w' pc' lv (v.toList ++ rst) S' V' K)) : y_E X D j (F + 1) u w pc lv st S V K := by
  subst hJ hp e1 e2
  refine y_bk hD (fun d n v h' e => ?_) kk
  simp only [m_exec, hc, m_s_invokestatic, if_neg h9, if_pos ht, e]
theorem y_cI {D' q len b J pc' : Nat} {a : Int} {k : Nat} {rst as : List Value} (hc : m_nth (m_code j) pc = some (some (.invokespecial q, len, a, b))) (h9 : ¬ a.toNat = 9998) (e1 : st.drop b = .ref k :: rst) (e2 : (Value.ref k :: (st.take b).reverse) = as) (hJ : a.toNat = J) (hp : pc + len = pc') (ht : rst.length ≤ 4 ∧ b ≤ st.length ∧ k < 1000000) (hD : D' ≤ D)
    (kk : y_R X D' J u w as S V (fun u' w' v S' V' => y_E X D j F u' w' pc' lv (v.toList ++ rst) S' V' K)) : y_E X D j (F + 1) u w pc lv st S V K := by
  subst hJ hp e2
  refine y_bk hD (fun d n v h' e => ?_) kk
  simp only [m_exec, hc, m_s_invokespecial, if_neg h9, e1, if_pos ht, e]
theorem y_nv {v : Value} {r : List Value} (k : y_E X D j F u w pc lv (v :: r) S V K) : y_E X D j F u w pc lv ((some v).toList ++ r) S V K := k
theorem y_n0 {r : List Value} (k : y_E X D j F u w pc lv r S V K) : y_E X D j F u w pc lv ((none : Option Value).toList ++ r) S V K := k
theorem y_top {v v' : Value} {r : List Value} (e : v = v') (k : y_E X D j F u w pc lv (v' :: r) S V K) : y_E X D j F u w pc lv (v :: r) S V K := e ▸ k
theorem y_iv {e e' : Int} {r : List Value} (h : e = e') (k : y_E X D j F u w pc lv (iv e' :: r) S V K) : y_E X D j F u w pc lv (iv e :: r) S V K := h ▸ k
/-- constants, locals, numbers -/
theorem y_ic {n : Int} {len b pc' : Nat} {a : Int} (hc : m_nth (m_code j) pc = some (some (.iconst n, len, a, b))) (hp : pc + len = pc') (k : y_E X D j F u w pc' lv (iv n :: st) S V K) : y_E X D j (F + 1) u w pc lv st S V K := by
  subst hp
  exact y_in hc rfl (fun d => rfl) k
theorem y_bi {n : Int} {len b pc' : Nat} {a : Int} (hc : m_nth (m_code j) pc = some (some (.bipush n, len, a, b))) (hp : pc + len = pc') (he : (Int8.ofInt n).toInt32 = Int32.ofInt n) (k : y_E X D j F u w pc' lv (iv n :: st) S V K) : y_E X D j (F + 1) u w pc lv st S V K := by
  subst hp
  exact y_in hc rfl (fun d => by rw [m_s_bipush, he]) k
theorem y_si {n : Int} {len b pc' : Nat} {a : Int} (hc : m_nth (m_code j) pc = some (some (.sipush n, len, a, b))) (hp : pc + len = pc') (he : (Int16.ofInt n).toInt32 = Int32.ofInt n) (k : y_E X D j F u w pc' lv (iv n :: st) S V K) : y_E X D j (F + 1) u w pc lv st S V K := by
  subst hp
  exact y_in hc rfl (fun d => by rw [m_s_sipush, he]) k
theorem y_ld {x : Value} {pc' : Nat} (hc : m_nth (m_code j) pc = some (some en)) (ha : x_noStatic en = true) (hs : ∀ d, m_stp X (m_run X d) en pc lv st (mkh S V) = m_nx pc' lv (x :: st) (mkh S V)) (k : y_E X D j F u w pc' lv (x :: st) S V K) : y_E X D j (F + 1) u w pc lv st S V K := y_in hc ha hs k
theorem y_inc {q : Nat} {x z n : Int} {len b pc' : Nat} {a : Int} {lv' : m_L} (hc : m_nth (m_code j) pc = some (some (.iinc q n, len, a, b))) (hp : pc + len = pc') (hl : m_lg lv q = some (iv x)) (hz : x + n = z) (hv : m_st lv q (iv z) = lv') (k : y_E X D j F u w pc' lv' st S V K) : y_E X D j (F + 1) u w pc lv st S V K := by
  subst hp hv hz
  refine y_in hc rfl (fun d => ?_) k
  rw [m_s_iinc, hl, iv, iv, Int32.ofInt_add]
theorem y_add {x y z : Int} {r : List Value} {len b pc' : Nat} {a : Int} (hc : m_nth (m_code j) pc = some (some (.iadd, len, a, b))) (hp : pc + len = pc') (hz : x + y = z) (k : y_E X D j F u w pc' lv (iv z :: r) S V K) : y_E X D j (F + 1) u w pc lv (iv y :: iv x :: r) S V K := by
  subst hp hz
  refine y_in hc rfl (fun d => ?_) k
  show m_nx _ _ (Value.int (Int32.ofInt x + Int32.ofInt y) :: r) _ = _
  rw [← Int32.ofInt_add]
theorem y_sub {x y z : Int} {r : List Value} {len b pc' : Nat} {a : Int} (hc : m_nth (m_code j) pc = some (some (.isub, len, a, b))) (hp : pc + len = pc') (hz : x - y = z) (k : y_E X D j F u w pc' lv (iv z :: r) S V K) : y_E X D j (F + 1) u w pc lv (iv y :: iv x :: r) S V K := by
  subst hp hz
  refine y_in hc rfl (fun d => ?_) k
  show m_nx _ _ (Value.int (Int32.ofInt x - Int32.ofInt y) :: r) _ = _
  rw [← Int32.ofInt_sub]
theorem y_mul {x y z : Int} {r : List Value} {len b pc' : Nat} {a : Int} (hc : m_nth (m_code j) pc = some (some (.imul, len, a, b))) (hp : pc + len = pc') (hz : x * y = z) (k : y_E X D j F u w pc' lv (iv z :: r) S V K) : y_E X D j (F + 1) u w pc lv (iv y :: iv x :: r) S V K := by
  subst hp hz
  refine y_in hc rfl (fun d => ?_) k
  show m_nx _ _ (Value.int (Int32.ofInt x * Int32.ofInt y) :: r) _ = _
  rw [← Int32.ofInt_mul]
theorem y_neg {x z : Int} {r : List Value} {len b pc' : Nat} {a : Int} (hc : m_nth (m_code j) pc = some (some (.ineg, len, a, b))) (hp : pc + len = pc') (hz : -x = z) (k : y_E X D j F u w pc' lv (iv z :: r) S V K) : y_E X D j (F + 1) u w pc lv (iv x :: r) S V K := by
  subst hp hz
  refine y_in hc rfl (fun d => ?_) k
  show m_nx _ _ (Value.int (-Int32.ofInt x) :: r) _ = _
  rw [← Int32.ofInt_neg]
/-- two ints on the stack make one: the number is told with its proof -/
theorem y_op {x y : Int32} {z : Int} {c : Int32} {r : List Value} {pc' : Nat} (hc : m_nth (m_code j) pc = some (some en)) (ha : x_noStatic en = true) (hs : ∀ d, m_stp X (m_run X d) en pc lv (.int y :: .int x :: r) (mkh S V) = m_nx pc' lv (.int c :: r) (mkh S V)) (hz : c = Int32.ofInt z) (k : y_E X D j F u w pc' lv (iv z :: r) S V K) : y_E X D j (F + 1) u w pc lv (.int y :: .int x :: r) S V K := by
  subst hz
  exact y_in hc ha hs k
theorem y_go {q : Int} {len b pc' : Nat} {a : Int} (hc : m_nth (m_code j) pc = some (some (.goto q, len, a, b))) (hp : a.toNat = pc') (k : y_E X D j F u w pc' lv st S V K) : y_E X D j (F + 1) u w pc lv st S V K := by
  subst hp
  exact y_in hc rfl (fun d => rfl) k
/-- branches on numbers in range -/
theorem y_jlt {x y : Int} {r : List Value} {q a : Int} {len b p1 p2 : Nat} (hc : m_nth (m_code j) pc = some (some (.if_icmp .lt q, len, a, b))) (g1 : a.toNat = p1) (g2 : pc + len = p2) (h : (-2147483648 ≤ x ∧ x < 2147483648) ∧ -2147483648 ≤ y ∧ y < 2147483648)
    (k1 : x < y → y_E X D j F u w p1 lv r S V K) (k2 : ¬ x < y → y_E X D j F u w p2 lv r S V K) : y_E X D j (F + 1) u w pc lv (iv y :: iv x :: r) S V K := by
  subst g1 g2
  exact y_br hc (fun d => rfl) (fun g => k1 ((v_lt h.1.1 h.1.2 h.2.1 h.2.2).mp g)) (fun g => k2 (mt (v_lt h.1.1 h.1.2 h.2.1 h.2.2).mpr g))
theorem y_jge {x y : Int} {r : List Value} {q a : Int} {len b p1 p2 : Nat} (hc : m_nth (m_code j) pc = some (some (.if_icmp .ge q, len, a, b))) (g1 : a.toNat = p1) (g2 : pc + len = p2) (h : (-2147483648 ≤ x ∧ x < 2147483648) ∧ -2147483648 ≤ y ∧ y < 2147483648)
    (k1 : y ≤ x → y_E X D j F u w p1 lv r S V K) (k2 : ¬ y ≤ x → y_E X D j F u w p2 lv r S V K) : y_E X D j (F + 1) u w pc lv (iv y :: iv x :: r) S V K := by
  subst g1 g2
  exact y_br hc (fun d => rfl) (fun g => k1 ((v_le h.2.1 h.2.2 h.1.1 h.1.2).mp g)) (fun g => k2 (mt (v_le h.2.1 h.2.2 h.1.1 h.1.2).mpr g))
theorem y_jgt {x y : Int} {r : List Value} {q a : Int} {len b p1 p2 : Nat} (hc : m_nth (m_code j) pc = some (some (.if_icmp .gt q, len, a, b))) (g1 : a.toNat = p1) (g2 : pc + len = p2) (h : (-2147483648 ≤ x ∧ x < 2147483648) ∧ -2147483648 ≤ y ∧ y < 2147483648)
    (k1 : y < x → y_E X D j F u w p1 lv r S V K) (k2 : ¬ y < x → y_E X D j F u w p2 lv r S V K) : y_E X D j (F + 1) u w pc lv (iv y :: iv x :: r) S V K := by
  subst g1 g2
  exact y_br hc (fun d => rfl) (fun g => k1 ((v_lt h.2.1 h.2.2 h.1.1 h.1.2).mp g)) (fun g => k2 (mt (v_lt h.2.1 h.2.2 h.1.1 h.1.2).mpr g))
theorem y_jle {x y : Int} {r : List Value} {q a : Int} {len b p1 p2 : Nat} (hc : m_nth (m_code j) pc = some (some (.if_icmp .le q, len, a, b))) (g1 : a.toNat = p1) (g2 : pc + len = p2) (h : (-2147483648 ≤ x ∧ x < 2147483648) ∧ -2147483648 ≤ y ∧ y < 2147483648)
    (k1 : x ≤ y → y_E X D j F u w p1 lv r S V K) (k2 : ¬ x ≤ y → y_E X D j F u w p2 lv r S V K) : y_E X D j (F + 1) u w pc lv (iv y :: iv x :: r) S V K := by
  subst g1 g2
  exact y_br hc (fun d => rfl) (fun g => k1 ((v_le h.1.1 h.1.2 h.2.1 h.2.2).mp g)) (fun g => k2 (mt (v_le h.1.1 h.1.2 h.2.1 h.2.2).mpr g))
theorem y_jeq {x y : Int} {r : List Value} {q a : Int} {len b p1 p2 : Nat} (hc : m_nth (m_code j) pc = some (some (.if_icmp .eq q, len, a, b))) (g1 : a.toNat = p1) (g2 : pc + len = p2) (h : (-2147483648 ≤ x ∧ x < 2147483648) ∧ -2147483648 ≤ y ∧ y < 2147483648)
    (k1 : x = y → y_E X D j F u w p1 lv r S V K) (k2 : ¬ x = y → y_E X D j F u w p2 lv r S V K) : y_E X D j (F + 1) u w pc lv (iv y :: iv x :: r) S V K := by
  subst g1 g2
  exact y_br hc (fun d => rfl) (fun g => k1 ((v_inj h.1.1 h.1.2 h.2.1 h.2.2).mp g)) (fun g => k2 (mt (v_inj h.1.1 h.1.2 h.2.1 h.2.2).mpr g))
theorem y_jne {x y : Int} {r : List Value} {q a : Int} {len b p1 p2 : Nat} (hc : m_nth (m_code j) pc = some (some (.if_icmp .ne q, len, a, b))) (g1 : a.toNat = p1) (g2 : pc + len = p2) (h : (-2147483648 ≤ x ∧ x < 2147483648) ∧ -2147483648 ≤ y ∧ y < 2147483648)
    (k1 : ¬ x = y → y_E X D j F u w p1 lv r S V K) (k2 : x = y → y_E X D j F u w p2 lv r S V K) : y_E X D j (F + 1) u w pc lv (iv y :: iv x :: r) S V K := by
  subst g1 g2
  exact y_br hc (fun d => rfl) (fun g => k2 ((v_inj h.1.1 h.1.2 h.2.1 h.2.2).mp g)) (fun g => k1 (mt (v_inj h.1.1 h.1.2 h.2.1 h.2.2).mpr g))
theorem y_zeq {x : Int} {r : List Value} {q a : Int} {len b p1 p2 : Nat} (hc : m_nth (m_code j) pc = some (some (.ifCond .eq q, len, a, b))) (g1 : a.toNat = p1) (g2 : pc + len = p2) (h : -2147483648 ≤ x ∧ x < 2147483648)
    (k1 : x = 0 → y_E X D j F u w p1 lv r S V K) (k2 : ¬ x = 0 → y_E X D j F u w p2 lv r S V K) : y_E X D j (F + 1) u w pc lv (iv x :: r) S V K := by
  subst g1 g2
  exact y_br hc (fun d => rfl) (fun g => k1 ((v_inj h.1 h.2 (by omega) (by omega)).mp g)) (fun g => k2 (mt (v_inj (y := 0) h.1 h.2 (by omega) (by omega)).mpr g))
theorem y_zne {x : Int} {r : List Value} {q a : Int} {len b p1 p2 : Nat} (hc : m_nth (m_code j) pc = some (some (.ifCond .ne q, len, a, b))) (g1 : a.toNat = p1) (g2 : pc + len = p2) (h : -2147483648 ≤ x ∧ x < 2147483648)
    (k1 : ¬ x = 0 → y_E X D j F u w p1 lv r S V K) (k2 : x = 0 → y_E X D j F u w p2 lv r S V K) : y_E X D j (F + 1) u w pc lv (iv x :: r) S V K := by
  subst g1 g2
  exact y_br hc (fun d => rfl) (fun g => k2 ((v_inj h.1 h.2 (by omega) (by omega)).mp g)) (fun g => k1 (mt (v_inj (y := 0) h.1 h.2 (by omega) (by omega)).mpr g))
theorem y_zlt {x : Int} {r : List Value} {q a : Int} {len b p1 p2 : Nat} (hc : m_nth (m_code j) pc = some (some (.ifCond .lt q, len, a, b))) (g1 : a.toNat = p1) (g2 : pc + len = p2) (h : -2147483648 ≤ x ∧ x < 2147483648)
    (k1 : x < 0 → y_E X D j F u w p1 lv r S V K) (k2 : ¬ x < 0 → y_E X D j F u w p2 lv r S V K) : y_E X D j (F + 1) u w pc lv (iv x :: r) S V K := by
  subst g1 g2
  exact y_br hc (fun d => rfl) (fun g => k1 ((v_lt (y := 0) h.1 h.2 (by omega) (by omega)).mp g)) (fun g => k2 (mt (v_lt (y := 0) h.1 h.2 (by omega) (by omega)).mpr g))
theorem y_zge {x : Int} {r : List Value} {q a : Int} {len b p1 p2 : Nat} (hc : m_nth (m_code j) pc = some (some (.ifCond .ge q, len, a, b))) (g1 : a.toNat = p1) (g2 : pc + len = p2) (h : -2147483648 ≤ x ∧ x < 2147483648)
    (k1 : 0 ≤ x → y_E X D j F u w p1 lv r S V K) (k2 : ¬ 0 ≤ x → y_E X D j F u w p2 lv r S V K) : y_E X D j (F + 1) u w pc lv (iv x :: r) S V K := by
  subst g1 g2
  exact y_br hc (fun d => rfl) (fun g => k1 ((v_le (x := 0) (by omega) (by omega) h.1 h.2).mp g)) (fun g => k2 (mt (v_le (x := 0) (by omega) (by omega) h.1 h.2).mpr g))
theorem y_zgt {x : Int} {r : List Value} {q a : Int} {len b p1 p2 : Nat} (hc : m_nth (m_code j) pc = some (some (.ifCond .gt q, len, a, b))) (g1 : a.toNat = p1) (g2 : pc + len = p2) (h : -2147483648 ≤ x ∧ x < 2147483648)
    (k1 : 0 < x → y_E X D j F u w p1 lv r S V K) (k2 : ¬ 0 < x → y_E X D j F u w p2 lv r S V K) : y_E X D j (F + 1) u w pc lv (iv x :: r) S V K := by
  subst g1 g2
  exact y_br hc (fun d => rfl) (fun g => k1 ((v_lt (x := 0) (by omega) (by omega) h.1 h.2).mp g)) (fun g => k2 (mt (v_lt (x := 0) (by omega) (by omega) h.1 h.2).mpr g))
theorem y_zle {x : Int} {r : List Value} {q a : Int} {len b p1 p2 : Nat} (hc : m_nth (m_code j) pc = some (some (.ifCond .le q, len, a, b))) (g1 : a.toNat = p1) (g2 : pc + len = p2) (h : -2147483648 ≤ x ∧ x < 2147483648)
    (k1 : x ≤ 0 → y_E X D j F u w p1 lv r S V K) (k2 : ¬ x ≤ 0 → y_E X D j F u w p2 lv r S V K) : y_E X D j (F + 1) u w pc lv (iv x :: r) S V K := by
  subst g1 g2
  exact y_br hc (fun d => rfl) (fun g => k1 ((v_le (y := 0) h.1 h.2 (by omega) (by omega)).mp g)) (fun g => k2 (mt (v_le (y := 0) h.1 h.2 (by omega) (by omega)).mpr g))
/-- a truth on the stack -/
def v_b (c : Prop) [Decidable c] : Int := if c then 1 else 0
theorem v_b1 {c : Prop} [Decidable c] (h : c) : v_b c = 1 := if_pos h
theorem v_b0 {c : Prop} [Decidable c] (h : ¬ c) : v_b c = 0 := if_neg h
theorem v_br (c : Prop) [Decidable c] : 0 ≤ v_b c ∧ v_b c ≤ 1 := by
  unfold v_b
  split <;> omega
theorem v_be {c c' : Prop} [Decidable c] [Decidable c'] (h : c ↔ c') : v_b c = v_b c' := by
  by_cases hc : c
  · rw [v_b1 hc, v_b1 (h.mp hc)]
  · rw [v_b0 hc, v_b0 (mt h.mpr hc)]
theorem y_beq {c : Prop} [Decidable c] {r : List Value} {q a : Int} {len b p1 p2 : Nat} (hc : m_nth (m_code j) pc = some (some (.ifCond .eq q, len, a, b))) (g1 : a.toNat = p1) (g2 : pc + len = p2)
    (k1 : ¬ c → y_E X D j F u w p1 lv r S V K) (k2 : c → y_E X D j F u w p2 lv r S V K) : y_E X D j (F + 1) u w pc lv (iv (v_b c) :: r) S V K := by
  have hb := v_br c
  refine y_zeq hc g1 g2 (by omega) (fun g => k1 (fun h => ?_)) (fun g => k2 ?_)
  · rw [v_b1 h] at g
    omega
  · by_cases h : c
    · exact h
    · exact absurd (v_b0 h) g
theorem y_bne {c : Prop} [Decidable c] {r : List Value} {q a : Int} {len b p1 p2 : Nat} (hc : m_nth (m_code j) pc = some (some (.ifCond .ne q, len, a, b))) (g1 : a.toNat = p1) (g2 : pc + len = p2)
    (k1 : c → y_E X D j F u w p1 lv r S V K) (k2 : ¬ c → y_E X D j F u w p2 lv r S V K) : y_E X D j (F + 1) u w pc lv (iv (v_b c) :: r) S V K := by
  have hb := v_br c
  refine y_zne hc g1 g2 (by omega) (fun g => k1 ?_) (fun g => k2 (fun h => ?_))
  · by_cases h : c
    · exact h
    · exact absurd (v_b0 h) g
  · rw [v_b1 h] at g
    omega
/-- fields -/
theorem y_gI {q len b i k pc' : Nat} {a : Int} {vs r : List Value} {x : Int32} {e : Int} (hc : m_nth (m_code j) pc = some (some (.getfield q, len, a, b))) (hp : pc + len = pc') (hi : a.toNat % 100 = i) (hs : ce S k b vs) (hf : m_nth vs i = some (.int x)) (he : V k i = e) (kk : y_E X D j F u w pc' lv (iv e :: r) S V K) : y_E X D j (F + 1) u w pc lv (.ref k :: r) S V K := by
  subst hp hi he
  refine y_in hc rfl (fun d => ?_) kk
  rw [m_s_getfield]
  simp only [v_ob hs, if_true, v_mc_nth, hf, Option.map_some, v_cv, Nat.zero_add]
theorem y_gR {q len b i k x pc' : Nat} {a : Int} {vs r : List Value} (hc : m_nth (m_code j) pc = some (some (.getfield q, len, a, b))) (hp : pc + len = pc') (hi : a.toNat % 100 = i) (hs : ce S k b vs) (hf : m_nth vs i = some (.ref x)) (kk : y_E X D j F u w pc' lv (.ref x :: r) S V K) : y_E X D j (F + 1) u w pc lv (.ref k :: r) S V K := by
  subst hp hi
  refine y_in hc rfl (fun d => ?_) kk
  rw [m_s_getfield]
  simp only [v_ob hs, if_true, v_mc_nth, hf, Option.map_some, v_cv]
theorem y_gN {q len b i k pc' : Nat} {a : Int} {vs r : List Value} (hc : m_nth (m_code j) pc = some (some (.getfield q, len, a, b))) (hp : pc + len = pc') (hi : a.toNat % 100 = i) (hs : ce S k b vs) (hf : m_nth vs i = some .null) (kk : y_E X D j F u w pc' lv (.null :: r) S V K) : y_E X D j (F + 1) u w pc lv (.ref k :: r) S V K := by
  subst hp hi
  refine y_in hc rfl (fun d => ?_) kk
  rw [m_s_getfield]
  simp only [v_ob hs, if_true, v_mc_nth, hf, Option.map_some, v_cv]
/-- a number into a field of ints (0) or truths (1) -/
theorem y_pI {q len b i k pc' : Nat} {a : Int} {vs r : List Value} {x : Int32} {e : Int} (hc : m_nth (m_code j) pc = some (some (.putfield q, len, a, b))) (hp : pc + len = pc') (hi : a.toNat % 100 = i) (hs : ce S k b vs) (hf : m_nth vs i = some (.int x)) (ht : a.toNat / 100 = 0) (kk : y_E X D j F u w pc' lv r S (v_up V k i e) K) : y_E X D j (F + 1) u w pc lv (iv e :: .ref k :: r) S V K := by
  subst hp hi
  refine y_wr hc rfl (fun d => ?_) kk
  rw [m_s_putfield]
  have hlt : a.toNat % 100 < (v_mc (V k) 0 vs).length := by
    rw [v_mc_len]
    exact m_nth_lt hf
  simp only [v_ob hs]
  rw [if_pos ⟨trivial, hlt, by rw [ht]; rfl⟩, v_set_int hs hf]
theorem y_pZ {q len b i k pc' : Nat} {a : Int} {vs r : List Value} {x : Int32} {e : Int} (hc : m_nth (m_code j) pc = some (some (.putfield q, len, a, b))) (hp : pc + len = pc') (hi : a.toNat % 100 = i) (hs : ce S k b vs) (hf : m_nth vs i = some (.int x)) (ht : a.toNat / 100 = 1) (he : e = 0 ∨ e = 1) (kk : y_E X D j F u w pc' lv r S (v_up V k i e) K) : y_E X D j (F + 1) u w pc lv (iv e :: .ref k :: r) S V K := by
  subst hp hi
  refine y_wr hc rfl (fun d => ?_) kk
  rw [m_s_putfield]
  have hlt : a.toNat % 100 < (v_mc (V k) 0 vs).length := by
    rw [v_mc_len]
    exact m_nth_lt hf
  simp only [v_ob hs]
  rw [if_pos ⟨trivial, hlt, by rw [ht]; rcases he with rfl | rfl <;> rfl⟩, v_set_int hs hf]
theorem y_pR {q len b i k pc' : Nat} {a : Int} {vs r : List Value} {v : Value} (hc : m_nth (m_code j) pc = some (some (.putfield q, len, a, b))) (hp : pc + len = pc') (hi : a.toNat % 100 = i) (hs : ce S k b vs) (hl : i < vs.length) (hv : m_fit (a.toNat / 100) v = true ∧ ∀ x, v ≠ .int x) (kk : y_E X D j F u w pc' lv r (S.set k (b, vs.set i v)) V K) : y_E X D j (F + 1) u w pc lv (v :: .ref k :: r) S V K := by
  subst hp hi
  refine y_wr hc rfl (fun d => ?_) kk
  rw [m_s_putfield]
  simp only [v_ob hs]
  rw [if_pos ⟨trivial, by rw [v_mc_len]; exact hl, hv.1⟩, v_set_ref hs hv.2]
/-- arrays -/
theorem y_al {q len : Nat} {a : Int} {b k t pc' N : Nat} {vs r : List Value} (hc : m_nth (m_code j) pc = some (some (.arraylength, len, a, b))) (hp : pc + len = pc') (hs : ce S k t vs) (ht : 20 ≤ t ∧ t ≤ 26) (hN : vs.length = N) (kk : y_E X D j F u w pc' lv (iv N :: r) S V K) : y_E X D j (F + 1) u w pc lv (.ref k :: r) S V K := by
  subst hp hN
  refine y_in hc rfl (fun d => ?_) kk
  rw [m_s_arraylength]
  unfold m_ln
  simp only [if_pos hs.1, mkh_nth, hs.2, Option.map_some, if_pos ht, v_mc_len]
  rfl
def v_ia (S : m_H) (k t N : Nat) : Prop := ce S k t (List.replicate N (.int 0))
theorem v_rep {α : Type} {N i : Nat} {a : α} (h : i < N) : m_nth (List.replicate N a) i = some a := by
  rw [m_nth_eq, List.getElem?_replicate, if_pos h]
theorem y_ild {len : Nat} {a : Int} {b k pc' N : Nat} {r : List Value} {e x : Int} {q : Nat} (hc : m_nth (m_code j) pc = some (some (.iaload, len, a, b))) (hp : pc + len = pc') (hs : v_ia S k 20 N) (hi : 0 ≤ e ∧ e < N) (hN : (N : Int) ≤ 2147483648) (hq : e.toNat = q) (hx : V k q = x) (kk : y_E X D j F u w pc' lv (iv x :: r) S V K) : y_E X D j (F + 1) u w pc lv (iv e :: .ref k :: r) S V K := by
  subst hp hq hx
  refine y_in hc rfl (fun d => ?_) kk
  rw [m_s_iaload]
  unfold m_el
  simp only [v_ix hi.1 (by omega), if_pos hs.1, mkh_nth, hs.2, Option.map_some, if_true, v_mc_nth, v_rep (show e.toNat < N by omega), v_cv, Nat.zero_add]
theorem y_bld {len : Nat} {a : Int} {b k pc' N : Nat} {r : List Value} {e x : Int} {q : Nat} (hc : m_nth (m_code j) pc = some (some (.baload, len, a, b))) (hp : pc + len = pc') (hs : v_ia S k 21 N) (hi : 0 ≤ e ∧ e < N) (hN : (N : Int) ≤ 2147483648) (hq : e.toNat = q) (hx : V k q = x) (kk : y_E X D j F u w pc' lv (iv x :: r) S V K) : y_E X D j (F + 1) u w pc lv (iv e :: .ref k :: r) S V K := by
  subst hp hq hx
  refine y_in hc rfl (fun d => ?_) kk
  rw [m_s_baload]
  unfold m_el
  simp only [v_ix hi.1 (by omega), if_pos hs.1, mkh_nth, hs.2, Option.map_some, if_true, v_mc_nth, v_rep (show e.toNat < N by omega), v_cv, Nat.zero_add]
theorem y_ist {len : Nat} {a : Int} {b k pc' N : Nat} {r : List Value} {e x : Int} {q : Nat} (hc : m_nth (m_code j) pc = some (some (.iastore, len, a, b))) (hp : pc + len = pc') (hs : v_ia S k 20 N) (hi : 0 ≤ e ∧ e < N) (hN : (N : Int) ≤ 2147483648) (hq : e.toNat = q) (kk : y_E X D j F u w pc' lv r S (v_up V k q x) K) : y_E X D j (F + 1) u w pc lv (iv x :: iv e :: .ref k :: r) S V K := by
  subst hp hq
  refine y_wr hc rfl (fun d => ?_) kk
  rw [m_s_iastore]
  unfold m_se
  simp only [v_ix hi.1 (by omega), v_ob hs]
  rw [if_pos ⟨trivial, by rw [v_mc_len, List.length_replicate]; omega⟩]
  simp only [v_set_int hs (v_rep (show e.toNat < N by omega))]
theorem y_bst {len : Nat} {a : Int} {b k pc' N : Nat} {r : List Value} {e x : Int} {q : Nat} (hc : m_nth (m_code j) pc = some (some (.bastore, len, a, b))) (hp : pc + len = pc') (hs : v_ia S k 21 N) (hi : 0 ≤ e ∧ e < N) (hN : (N : Int) ≤ 2147483648) (hq : e.toNat = q) (hx : x = 0 ∨ x = 1) (kk : y_E X D j F u w pc' lv r S (v_up V k q x) K) : y_E X D j (F + 1) u w pc lv (iv x :: iv e :: .ref k :: r) S V K := by
  subst hp hq
  refine y_wr hc rfl (fun d => ?_) kk
  rw [m_s_bastore]
  have hx2 : Int32.ofInt x = 0 ∨ Int32.ofInt x = 1 := by
    rcases hx with rfl | rfl
    · exact Or.inl rfl
    · exact Or.inr rfl
  unfold m_se
  simp only [if_pos hx2, v_ix hi.1 (by omega), v_ob hs]
  rw [if_pos ⟨trivial, by rw [v_mc_len, List.length_replicate]; omega⟩]
  simp only [v_set_int hs (v_rep (show e.toNat < N by omega))]
theorem y_rld {len : Nat} {a : Int} {b k t x i pc' : Nat} {vs r : List Value} {e : Int} (hc : m_nth (m_code j) pc = some (some (.aaload, len, a, b))) (hp : pc + len = pc') (hs : ce S k t vs) (ht : 22 ≤ t ∧ t ≤ 26) (hi : 0 ≤ e ∧ e < 2147483648) (he : e.toNat = i) (hv : m_nth vs i = some (.ref x)) (kk : y_E X D j F u w pc' lv (.ref x :: r) S V K) : y_E X D j (F + 1) u w pc lv (iv e :: .ref k :: r) S V K := by
  subst hp he
  refine y_in hc rfl (fun d => ?_) kk
  rw [m_s_aaload]
  simp only [v_ix hi.1 hi.2, v_ob hs, if_pos ht, v_mc_nth, hv, Option.map_some, v_cv]
theorem y_rldN {len : Nat} {a : Int} {b k t i pc' : Nat} {vs r : List Value} {e : Int} (hc : m_nth (m_code j) pc = some (some (.aaload, len, a, b))) (hp : pc + len = pc') (hs : ce S k t vs) (ht : 22 ≤ t ∧ t ≤ 26) (hi : 0 ≤ e ∧ e < 2147483648) (he : e.toNat = i) (hv : m_nth vs i = some .null) (kk : y_E X D j F u w pc' lv (.null :: r) S V K) : y_E X D j (F + 1) u w pc lv (iv e :: .ref k :: r) S V K := by
  subst hp he
  refine y_in hc rfl (fun d => ?_) kk
  rw [m_s_aaload]
  simp only [v_ix hi.1 hi.2, v_ob hs, if_pos ht, v_mc_nth, hv, Option.map_some, v_cv]
/-- what may stand in an array of references -/
def v_asg (S : m_H) (t : Nat) (v : Value) : Prop := v = .null ∨ ∃ x ws, v = .ref x ∧ ce S x (m_cmp t) ws
theorem y_rst {len : Nat} {a : Int} {b k t i pc' : Nat} {vs r : List Value} {e : Int} {v : Value} (hc : m_nth (m_code j) pc = some (some (.aastore, len, a, b))) (hp : pc + len = pc') (hs : ce S k t vs) (ht : 22 ≤ t ∧ t ≤ 26) (hi : 0 ≤ e ∧ e < 2147483648) (he : e.toNat = i) (hl : i < vs.length) (hv : v_asg S t v) (kk : y_E X D j F u w pc' lv r (S.set k (t, vs.set i v)) V K) : y_E X D j (F + 1) u w pc lv (v :: iv e :: .ref k :: r) S V K := by
  subst hp he
  refine y_wr hc rfl (fun d => ?_) kk
  have hv2 : ∀ x, v ≠ .int x := by
    rcases hv with rfl | ⟨x, ws, rfl, -⟩ <;> intro x h <;> cases h
  have hv3 : m_asg (mkh S V) t v = true := by
    rcases hv with rfl | ⟨x, ws, rfl, h⟩
    · rfl
    · unfold m_asg
      simp only [v_ob h]
      simp
  rw [m_s_aastore]
  simp only [v_ix hi.1 hi.2, v_ob hs]
  rw [if_pos ⟨ht.1, ht.2, by rw [v_mc_len]; exact hl, hv3⟩, v_set_ref hs hv2]
/-- making -/
theorem y_alc {t : Nat} {vs : List Value} {z : Nat} {pc' : Nat} {st' : List Value} (hc : m_nth (m_code j) pc = some (some en)) (hs : ∀ d, m_stp X (m_run X d) en pc lv st (mkh S V) = m_nx pc' lv st' (mkh S V ++ [(t, vs)])) (hz : vs.length = z) (h0 : ∀ v ∈ vs, v = iv 0 ∨ ∀ x, v ≠ .int x) (k : y_E X D j F (u + 1) (w + z) pc' lv st' (S ++ [(t, vs)]) (v_zer V S.length) K) : y_E X D j (F + 1) u w pc lv st S V K := by
  intro d n h1 h2
  obtain ⟨n, rfl⟩ : ∃ q, n = q + 1 := ⟨n - 1, by omega⟩
  refine x_al hc (hs d) hz ?_
  rw [v_mk_add h0]
  exact k d n h1 (by omega)
theorem y_new {q len b z pc' : Nat} {a : Int} (hc : m_nth (m_code j) pc = some (some (.new q, len, a, b))) (hp : pc + len = pc') (hb : S.length < 1000000) (hz : (m_dfl b).length = z) (h0 : ∀ v ∈ m_dfl b, v = iv 0 ∨ ∀ x, v ≠ .int x) (k : y_E X D j F (u + 1) (w + z) pc' lv (.ref S.length :: st) (S ++ [(b, m_dfl b)]) (v_zer V S.length) K) : y_E X D j (F + 1) u w pc lv st S V K := by
  subst hp
  refine y_alc hc (fun d => ?_) hz h0 k
  rw [m_s_new]
  unfold m_add
  rw [mkh_len, if_pos hb]
theorem y_nwi {q : ArrayType} {len b N pc' : Nat} {a e : Int} {r : List Value} (hc : m_nth (m_code j) pc = some (some (.newarray q, len, a, b))) (hp : pc + len = pc') (hb : S.length < 1000000) (he : e = N) (hN : N ≤ 100000) (k : y_E X D j F (u + 1) (w + N) pc' lv (.ref S.length :: r) (S ++ [(b, List.replicate N (.int 0))]) (v_zer V S.length) K) : y_E X D j (F + 1) u w pc lv (iv e :: r) S V K := by
  subst hp he
  refine y_alc (vs := List.replicate N (.int 0)) hc (fun d => ?_) (by simp) (fun v hv => Or.inl (List.eq_of_mem_replicate hv)) k
  rw [m_s_newarray]
  simp only [v_ix (show (0 : Int) ≤ N by omega) (show (N : Int) < 2147483648 by omega), Int.toNat_natCast, if_pos hN]
  unfold m_add
  rw [mkh_len, if_pos hb]
/-- arraycopy -/
def v_cp (f g : Nat → Int) (i q n : Nat) : Nat → Int := fun p => if q ≤ p ∧ p < q + n then f (p - q + i) else g p
theorem y_acp {len b A B N M pc' : Nat} {a : Int} {q : Nat} {r : List Value} {i p n : Int} (hc : m_nth (m_code j) pc = some (some (.invokestatic q, len, a, b))) (h9 : a.toNat = 9999) (hp : pc + len = pc') (hA : v_ia S A 20 N) (hB : v_ia S B 20 M) (hi : 0 ≤ i ∧ 0 ≤ p ∧ 0 ≤ n ∧ i + n ≤ N ∧ p + n ≤ M) (hN : (N : Int) < 2147483648 ∧ (M : Int) < 2147483648) (hr : r.length ≤ 4) (kk : y_E X D j F u w pc' lv r S (v_ur V B (v_cp (V A) (V B) i.toNat p.toNat n.toNat)) K) : y_E X D j (F + 1) u w pc lv (iv n :: iv p :: .ref B :: iv i :: .ref A :: r) S V K := by
  subst hp
  refine y_wr hc (by simp [x_noStatic, h9]) (fun d => ?_) kk
  rw [m_s_invokestatic, if_pos h9]
  have e1 : m_acp (mkh S V) A (Int32.ofInt i) B (Int32.ofInt p) (Int32.ofInt n) = some (mkh S (v_ur V B (v_cp (V A) (V B) i.toNat p.toNat n.toNat))) := by
    unfold m_acp
    simp only [v_ix hi.1 (by omega), v_ix hi.2.1 (by omega), v_ix hi.2.2.1 (by omega), v_ob hA, v_ob hB]
    rw [if_pos ⟨trivial, trivial, by rw [v_mc_len, List.length_replicate]; omega, by rw [v_mc_len, List.length_replicate]; omega⟩]
    congr 1
    apply v_list_ext
    intro k
    rw [m_nth_set, mkh_nth, mkh_nth, mkh_nth]
    by_cases hk : k = B
    · subst hk
      rw [if_pos rfl, hB.2]
      refine congrArg some (congrArg (Prod.mk 20) ?_)
      show _ = v_mc (v_ur V k (v_cp (V A) (V k) i.toNat p.toNat n.toNat) k) 0 (List.replicate M (Value.int 0))
      rw [v_ur_eq]
      apply List.ext_getElem?
      intro z
      rw [← m_nth_eq (v_mc (v_cp _ _ _ _ _) _ _), v_mc_nth]
      have eA : ∀ z, (v_mc (V A) 0 (List.replicate N (Value.int 0)))[z]? = (m_nth (List.replicate N (Value.int 0)) z).map (v_cv (V A) z) := fun z => by
        rw [← m_nth_eq, v_mc_nth, Nat.zero_add]
      have eB : ∀ z, (v_mc (V k) 0 (List.replicate M (Value.int 0)))[z]? = (m_nth (List.replicate M (Value.int 0)) z).map (v_cv (V k) z) := fun z => by
        rw [← m_nth_eq, v_mc_nth, Nat.zero_add]
      have lB : (v_mc (V k) 0 (List.replicate M (Value.int 0))).length = M := by rw [v_mc_len, List.length_replicate]
      have lA : (v_mc (V A) 0 (List.replicate N (Value.int 0))).length = N := by rw [v_mc_len, List.length_replicate]
      have e1 : (i.toNat : Int) = i := Int.toNat_of_nonneg hi.1
      have e2 : (p.toNat : Int) = p := Int.toNat_of_nonneg hi.2.1
      have e3 : (n.toNat : Int) = n := Int.toNat_of_nonneg hi.2.2.1
      have r0 : ∀ {N z : Nat}, m_nth (List.replicate N (Value.int 0)) z = if z < N then some (.int 0) else none := fun {N z} => by
        rw [m_nth_eq, List.getElem?_replicate]
      rw [Nat.zero_add]
      by_cases c1 : z < p.toNat
      · rw [List.getElem?_append_left (by rw [List.length_take, lB]; omega), List.getElem?_take, if_pos c1, eB]
        congr 1
        funext v
        cases v <;> simp [v_cv, v_cp, show ¬ (p.toNat ≤ z) by omega]
      · rw [List.getElem?_append_right (by rw [List.length_take, lB]; omega), List.length_take, lB, Nat.min_eq_left (by omega)]
        by_cases c2 : z < p.toNat + n.toNat
        · rw [List.getElem?_append_left (by rw [List.length_take, List.length_drop, lA]; omega), List.getElem?_take, if_pos (by omega), List.getElem?_drop, eA, r0, r0, if_pos (by omega), if_pos (by omega)]
          show some _ = some _
          simp only [v_cv, v_cp]
          rw [if_pos ⟨by omega, c2⟩]
          congr 3
          omega
        · rw [List.getElem?_append_right (by rw [List.length_take, List.length_drop, lA]; omega), List.length_take, List.length_drop, lA, Nat.min_eq_left (by omega), List.getElem?_drop, eB, r0, r0]
          rw [show p.toNat + n.toNat + (z - p.toNat - n.toNat) = z by omega]
          by_cases c3 : z < M
          · rw [if_pos c3]
            show some _ = some _
            simp only [v_cv, v_cp]
            rw [if_neg (by omega)]
          · rw [if_neg c3]
            rfl
    · rw [if_neg hk, v_ur_ne hk]
  simp only [e1, if_pos hr]
theorem y_rldV {len : Nat} {a : Int} {b k t i pc' : Nat} {vs r : List Value} {e : Int} {v : Value} (hc : m_nth (m_code j) pc = some (some (.aaload, len, a, b))) (hp : pc + len = pc') (hs : ce S k t vs) (ht : 22 ≤ t ∧ t ≤ 26) (hi : 0 ≤ e ∧ e < 2147483648) (he : e.toNat = i) (hv : m_nth vs i = some v) (hr : v = .null ∨ ∃ x, v = .ref x) (kk : y_E X D j F u w pc' lv (v :: r) S V K) : y_E X D j (F + 1) u w pc lv (iv e :: .ref k :: r) S V K := by
  rcases hr with rfl | ⟨x, rfl⟩
  · exact y_rldN hc hp hs ht hi he hv kk
  · exact y_rld hc hp hs ht hi he hv kk
theorem v_mg_ext {V V' : v_V} : ∀ (S : m_H) (k0 : Nat), (∀ k t vs, m_nth S k = some (t, vs) → v_mc (V (k0 + k)) 0 vs = v_mc (V' (k0 + k)) 0 vs) → v_mg V k0 S = v_mg V' k0 S
  | [], _, _ => rfl
  | c :: r, k0, h => by
    show (c.1, _) :: v_mg V (k0 + 1) r = (c.1, _) :: v_mg V' (k0 + 1) r
    have e1 : v_mc (V k0) 0 c.2 = v_mc (V' k0) 0 c.2 := h 0 c.1 c.2 rfl
    have e2 : v_mg V (k0 + 1) r = v_mg V' (k0 + 1) r := v_mg_ext r (k0 + 1) (fun k t vs hk => by
      have := h (k + 1) t vs hk
      rw [show k0 + (k + 1) = k0 + 1 + k by omega] at this
      exact this)
    rw [e1, e2]
theorem v_mc_ext {f g : Nat → Int} {vs : List Value} (h : ∀ i x, m_nth vs i = some (.int x) → f i = g i) : v_mc f 0 vs = v_mc g 0 vs := by
  apply v_list_ext
  intro q
  rw [v_mc_nth, v_mc_nth, Nat.zero_add]
  cases hv : m_nth vs q with
  | none => rfl
  | some v =>
    cases v <;> first | rfl | (simp only [Option.map_some, v_cv]; rw [h _ _ hv])
/-- a row may be told by any function that has its numbers -/
theorem y_row {k t : Nat} {vs : List Value} {f g : Nat → Int} (hs : ce S k t vs) (h : ∀ i x, m_nth vs i = some (.int x) → f i = g i) (kk : y_E X D j F u w pc lv st S (v_ur V k g) K) : y_E X D j F u w pc lv st S (v_ur V k f) K := by
  have e : mkh S (v_ur V k f) = mkh S (v_ur V k g) := by
    unfold mkh
    refine v_mg_ext S 0 (fun q t' vs' hq => ?_)
    rw [Nat.zero_add]
    by_cases hqk : q = k
    · subst hqk
      rw [v_ur_eq, v_ur_eq]
      rw [hs.2] at hq
      cases hq
      exact v_mc_ext h
    · rw [v_ur_ne hqk, v_ur_ne hqk]
  intro d n h1 h2
  rw [e]
  exact kk d n h1 h2
theorem v_repI {N i : Nat} {x : Int32} (h : m_nth (List.replicate N (Value.int 0)) i = some (.int x)) : i < N := by
  rw [m_nth_eq, List.getElem?_replicate] at h
  split at h
  · assumption
  · cases h
theorem y_acF {len b A B N pc' : Nat} {a : Int} {q : Nat} {r : List Value} {n : Int} (hc : m_nth (m_code j) pc = some (some (.invokestatic q, len, a, b))) (h9 : a.toNat = 9999) (hp : pc + len = pc') (hA : v_ia S A 20 N) (hB : v_ia S B 20 N) (hi : n = N) (hN : (N : Int) < 2147483648) (hr : r.length ≤ 4) (kk : y_E X D j F u w pc' lv r S (v_ur V B (V A)) K) : y_E X D j (F + 1) u w pc lv (iv n :: iv 0 :: .ref B :: iv 0 :: .ref A :: r) S V K := by
  subst hi
  refine y_acp hc h9 hp hA hB ⟨by omega, by omega, by omega, by omega, by omega⟩ ⟨hN, hN⟩ hr (y_row hB (fun i x hx => ?_) kk)
  have := v_repI hx
  unfold v_cp
  rw [if_pos (by omega)]
  rfl
theorem ce_eq {k t t' : Nat} {vs vs' : List Value} (h : ce S k t vs) : ce (S.set k (t', vs')) k t' vs' := by
  refine ⟨h.1, ?_⟩
  rw [m_nth_set, if_pos rfl, h.2]
  rfl
theorem ce_ne {k q t : Nat} {vs : List Value} {c : Nat × List Value} (h : ce S k t vs) (hk : k ≠ q) : ce (S.set q c) k t vs := by
  refine ⟨h.1, ?_⟩
  rw [m_nth_set, if_neg hk]
  exact h.2
theorem asg_set {k t t' : Nat} {vs vs' : List Value} {v : Value} (hk : ce S k t vs) (ht : 22 ≤ t ∧ t ≤ 26) (h : v_asg S t' v) (ht' : t' = t) : v_asg (S.set k (t, vs')) t' v := by
  rcases h with h | ⟨x, ws, h1, h2⟩
  · exact Or.inl h
  · refine Or.inr ⟨x, ws, h1, ce_ne h2 (fun e => ?_)⟩
    subst e ht'
    have := hk.2.symm.trans h2.2
    simp only [Option.some.injEq, Prod.mk.injEq] at this
    have h3 : t' = 22 ∨ t' = 23 ∨ t' = 24 ∨ t' = 25 ∨ t' = 26 := by omega
    rcases h3 with rfl | rfl | rfl | rfl | rfl <;> exact absurd this.1 (by decide)
theorem ce_app {k t : Nat} {vs : List Value} {c : Nat × List Value} (h : ce S k t vs) : ce (S ++ [c]) k t vs := by
  refine ⟨h.1, ?_⟩
  rw [m_nth_app, if_neg (Nat.ne_of_lt (m_nth_lt h.2))]
  exact h.2
theorem ce_new {t : Nat} {vs : List Value} (h : S.length < 1000000) : ce (S ++ [(t, vs)]) S.length t vs := by
  refine ⟨h, ?_⟩
  rw [m_nth_app, if_pos rfl]
theorem y_ent {as : List Value} {lv' : m_L} (hlg : (lg_sl as).length ≤ m_nl j) (hlv : lv_args 0 as = lv') (k : y_E X D j 1000000 u w 0 lv' [] S V K) : y_R X (D + 1) j u w as S V K := by
  subst hlv
  exact y_enter hlg k
theorem y_rI {len b : Nat} {a e : Int} (hc : m_nth (m_code j) pc = some (some (.ireturn, len, a, b))) (hb : b = 0 ∨ e = 0 ∨ e = 1) (k : K u w (some (iv e)) S V) : y_E X D j (F + 1) u w pc lv [iv e] S V K := by
  refine y_ret hc (fun d => ?_) k
  have h2 : b = 0 ∨ Int32.ofInt e = 0 ∨ Int32.ofInt e = 1 := by
    rcases hb with h | rfl | rfl
    · exact Or.inl h
    · exact Or.inr (Or.inl rfl)
    · exact Or.inr (Or.inr rfl)
  show (if b = 0 ∨ Int32.ofInt e = 0 ∨ Int32.ofInt e = 1 then _ else none) = _
  rw [if_pos h2]
theorem y_st {lv' : m_L} {st' : List Value} {pc' : Nat} (hc : m_nth (m_code j) pc = some (some en)) (ha : x_noStatic en = true) (hs : ∀ d, m_stp X (m_run X d) en pc lv st (mkh S V) = m_nx pc' lv' st' (mkh S V)) (k : y_E X D j F u w pc' lv' st' S V K) : y_E X D j (F + 1) u w pc lv st S V K := y_in hc ha hs k
end ROWS
