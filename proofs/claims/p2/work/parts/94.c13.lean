/-! a TEXT made, cleared; the class' text() -/
section NWF
variable {X : Nat → List Int32} {D j F u w pc : Nat} {lv : m_L} {st : List Value} {S : m_H} {V : v_V} {K : v_K}
theorem y_nwf {q1 : ArrayType} {q2 l1 l2 b2 N a f pc1 pc2 L : Nat} {a1 a2 e : Int} {vs r : List Value} (hc1 : m_nth (m_code j) pc = some (some (.newarray q1, l1, a1, 20))) (hp1 : pc + l1 = pc1) (hc2 : m_nth (m_code j) pc1 = some (some (.putfield q2, l2, a2, b2))) (hp2 : pc1 + l2 = pc2) (hf : a2.toNat % 100 = f) (hty : a2.toNat / 100 = 2)
    (hL : S.length = L) (hb : L < 1000000) (he : e = N) (hN : N ≤ 100000) (hs : ce S a b2 vs) (hv : f < vs.length)
    (k : ∀ S', ce S' a b2 (vs.set f (.ref L)) → v_ia S' L 20 N → S'.length = L + 1 → (∀ k, k < L → k ≠ a → m_nth S' k = m_nth S k) → y_E X D j F (u + 1) (w + N) pc2 lv r S' (v_zer V L) K) : y_E X D j (F + 2) u w pc lv (iv e :: .ref a :: r) S V K := by
  subst hL
  have haL : a < S.length := m_nth_lt hs.2
  refine y_nwi hc1 hp1 hb he hN ?_
  have h1 : ce (S ++ [(20, List.replicate N (.int 0))]) a b2 vs := ce_app hs
  refine y_pR hc2 hp2 hf h1 hv ⟨by rw [hty]; rfl, fun x hx => by cases hx⟩ ?_
  refine k _ (ce_eq h1) (ce_ne (ce_new hb) (by omega)) (by simp) (fun k hk hka => ?_)
  rw [m_nth_set, if_neg hka, m_nth_app, if_neg (by omega)]
end NWF
section
variable {X : Nat → List Int32} {u w : Nat} {S : m_H} {V : v_V} {K : v_K}
theorem v_fill_up (V : v_V) (a i : Nat) (x : Int) : v_up (v_ur V a (fun j => if j < i then x else V a j)) a i x = v_ur V a (fun j => if j < i + 1 then x else V a j) := by
  rw [v_up_ur, v_ur_ur, v_ur_eq]
  congr 1
  funext j
  unfold v_uf
  by_cases h : j = i
  · rw [if_pos h, if_pos (by omega)]
  · rw [if_neg h]
    show (if j < i then x else V a j) = _
    by_cases h2 : j < i
    · rw [if_pos h2, if_pos (by omega)]
    · rw [if_neg h2, if_neg (by omega)]
set_option maxRecDepth 100000 in
set_option maxHeartbeats 4000000 in
theorem lp_fill {a N : Nat} {x : Int} (hA : v_ia S a 20 N) (hN : N < 2147483648) {F : Nat} : ∀ (m : Nat) (i : Nat), N - i < m → (i ≤ N) → (y_E X 0 180 F u w 20 [(0, .ref a)] [] S (v_ur V a (fun j => if j < N then x else V a j)) K) → y_E X 0 180 (20 * m + F) u w 5 [(0, .ref a), (1, iv x), (2, iv (i : Int)), (3, iv (N : Int))] [] S (v_ur V a (fun j => if j < i then x else V a j)) K := by
  intro m
  induction m with
  | zero => intros; omega
  | succ m ih =>
    intro i hm hI hx
    refine y_mono (F' := (20 * m + F) + 20) ?_ (by omega)
    refine y_ld (x := iv (i : Int)) rfl rfl (fun d => rfl) ?_
    refine y_ld (x := iv (N : Int)) rfl rfl (fun d => rfl) ?_
    refine y_jge rfl rfl rfl (by omega) (fun g1 => ?_) (fun g1 => ?_)
    · obtain rfl : i = N := by omega
      refine y_lv (l' := [(0, .ref a)]) rfl ⟨rfl, trivial⟩ ?_
      exact y_mono hx (by omega)
    · refine y_ld (x := .ref a) rfl rfl (fun d => rfl) ?_
      refine y_ld (x := iv (i : Int)) rfl rfl (fun d => rfl) ?_
      refine y_ld (x := iv x) rfl rfl (fun d => rfl) ?_
      refine y_ist (q := i) rfl rfl hA (by omega) (by omega) (by omega) ?_
      refine y_inc (z := ((i + 1 : Nat) : Int)) (lv' := [(2, iv ((i + 1 : Nat) : Int)), (0, .ref a), (1, iv x), (3, iv (N : Int))]) rfl rfl rfl (by omega) rfl ?_
      refine y_go rfl rfl ?_
      refine y_lv (l' := [(0, .ref a), (1, iv x), (2, iv ((i + 1 : Nat) : Int)), (3, iv (N : Int))]) rfl ⟨rfl, rfl, rfl, rfl, trivial⟩ ?_
      refine y_V (V' := v_ur V a (fun j => if j < i + 1 then x else V a j)) (v_fill_up V a i x) ?_
      exact y_mono (ih (i + 1) (by omega) (by omega) hx) (by omega)
set_option maxRecDepth 100000 in
set_option maxHeartbeats 4000000 in
theorem cc_fill {a N : Nat} {x : Int} (hA : v_ia S a 20 N) (hN : N ≤ 40000) (k : K u w none S (v_ur V a (fun _ => x))) : y_R X 1 180 u w [.ref a, iv x] S V K := by
  refine y_ent (lv' := [(0, .ref a), (1, iv x)]) (Nat.le_of_ble_eq_true rfl) rfl ?_
  refine y_ic rfl rfl ?_
  refine y_st (lv' := [(2, iv 0), (0, .ref a), (1, iv x)]) rfl rfl (fun d => rfl) ?_
  refine y_ld (x := .ref a) rfl rfl (fun d => rfl) ?_
  refine y_al (q := 0) rfl rfl hA (by decide) (N := N) List.length_replicate ?_
  refine y_st (lv' := [(3, iv (N : Int)), (2, iv 0), (0, .ref a), (1, iv x)]) rfl rfl (fun d => rfl) ?_
  refine y_lv (l' := [(0, .ref a), (1, iv x), (2, iv 0), (3, iv (N : Int))]) rfl ⟨rfl, rfl, rfl, rfl, trivial⟩ ?_
  refine y_V (V' := v_ur V a (fun j => if j < 0 then x else V a j)) ?_ ?_
  · rw [show (fun j => if j < 0 then x else V a j) = V a from funext (fun j => if_neg (by omega)), v_ur_self]
  refine y_mono (lp_fill hA (by omega) (N + 1) 0 (by omega) (by omega) ?_) (show 20 * (N + 1) + 500 ≤ _ by omega)
  refine y_row (g := fun _ => x) hA (fun i y hy => if_pos (by have := v_repI hy; omega)) ?_
  refine y_ret rfl (fun d => rfl) ?_
  exact k
set_option maxRecDepth 100000 in
set_option maxHeartbeats 4000000 in
theorem cr_clear {t : Nat} (hX : TxS S t) (k : K u w none S (v_ur (v_up (v_up (v_up V t 0 0) t 6 0) t 7 0) (t + 6) (fun _ => -5))) : y_R X 2 49 u w [.ref t] S V K := by
  refine y_ent (lv' := [(0, .ref t)]) (Nat.le_of_ble_eq_true rfl) rfl ?_
  refine y_ld (x := .ref t) rfl rfl (fun d => rfl) ?_
  refine y_ic rfl rfl ?_
  refine y_pI (i := 0) rfl rfl rfl hX.1 rfl rfl ?_
  refine y_ld (x := .ref t) rfl rfl (fun d => rfl) ?_
  refine y_ic rfl rfl ?_
  refine y_pI (i := 6) rfl rfl rfl hX.1 rfl rfl ?_
  refine y_ld (x := .ref t) rfl rfl (fun d => rfl) ?_
  refine y_ic rfl rfl ?_
  refine y_pI (i := 7) rfl rfl rfl hX.1 rfl rfl ?_
  refine y_ld (x := .ref t) rfl rfl (fun d => rfl) ?_
  refine y_gR (i := 8) rfl rfl rfl hX.1 rfl ?_
  refine y_bi rfl rfl (by decide) ?_
  refine y_cS (as := [.ref (t + 6), iv (-5)]) rfl (by decide) rfl rfl rfl rfl ⟨(Nat.le_of_ble_eq_true rfl), (Nat.le_of_ble_eq_true rfl)⟩ (by decide) (cc_fill (x := (-5)) hX.2.2.2.2.2.2 (by decide) ?_)
  refine y_n0 ?_
  refine y_ret rfl (fun d => rfl) ?_
  exact k
set_option maxRecDepth 100000 in
set_option maxHeartbeats 4000000 in
theorem cr_init {a : Nat} (hs : ce S a 6 (m_dfl 6)) (hl : S.length = a + 1) (hb : a + 7 < 1000000) (k : ∀ S' V', TxS S' a → S'.length = a + 7 → (∀ q, q < a → m_nth S' q = m_nth S q) → (∀ q, q < a → V' q = V q) → K (u + 6) (w + 200) none S' V') : y_R X 1 48 u w [.ref a] S V K := by
  refine y_ent (lv' := [(0, .ref a)]) (Nat.le_of_ble_eq_true rfl) rfl ?_
  refine y_ld (x := .ref a) rfl rfl (fun d => rfl) ?_
  refine y_in rfl rfl (fun d => rfl) ?_
  refine y_ld (x := .ref a) rfl rfl (fun d => rfl) ?_
  refine y_bi rfl rfl (by decide) ?_
  refine y_nwf (N := 8) (f := 1) (L := a + 1) rfl rfl rfl rfl rfl rfl hl (by omega) rfl (by decide) hs (by simp [m_dfl]) (fun S1 hc1 hv1 hn1 hk1 => ?_)
  refine y_ld (x := .ref a) rfl rfl (fun d => rfl) ?_
  refine y_bi rfl rfl (by decide) ?_
  refine y_nwf (N := 8) (f := 2) (L := a + 2) rfl rfl rfl rfl rfl rfl hn1 (by omega) rfl (by decide) hc1 (by simp [m_dfl]) (fun S2 hc2 hv2 hn2 hk2 => ?_)
  refine y_ld (x := .ref a) rfl rfl (fun d => rfl) ?_
  refine y_bi rfl rfl (by decide) ?_
  refine y_nwf (N := 8) (f := 3) (L := a + 3) rfl rfl rfl rfl rfl rfl hn2 (by omega) rfl (by decide) hc2 (by simp [m_dfl]) (fun S3 hc3 hv3 hn3 hk3 => ?_)
  refine y_ld (x := .ref a) rfl rfl (fun d => rfl) ?_
  refine y_bi rfl rfl (by decide) ?_
  refine y_nwf (N := 8) (f := 4) (L := a + 4) rfl rfl rfl rfl rfl rfl hn3 (by omega) rfl (by decide) hc3 (by simp [m_dfl]) (fun S4 hc4 hv4 hn4 hk4 => ?_)
  refine y_ld (x := .ref a) rfl rfl (fun d => rfl) ?_
  refine y_si rfl rfl (by decide) ?_
  refine y_nwf (N := 160) (f := 5) (L := a + 5) rfl rfl rfl rfl rfl rfl hn4 (by omega) rfl (by decide) hc4 (by simp [m_dfl]) (fun S5 hc5 hv5 hn5 hk5 => ?_)
  refine y_ld (x := .ref a) rfl rfl (fun d => rfl) ?_
  refine y_bi rfl rfl (by decide) ?_
  refine y_nwf (N := 8) (f := 8) (L := a + 6) rfl rfl rfl rfl rfl rfl hn5 (by omega) rfl (by decide) hc5 (by simp [m_dfl]) (fun S6 hc6 hv6 hn6 hk6 => ?_)
  refine y_ret rfl (fun d => rfl) ?_
  refine k S6 _ ⟨hc6, ⟨by omega, ((hk6 (a + 1) (by omega) (by omega)).trans ((hk5 (a + 1) (by omega) (by omega)).trans ((hk4 (a + 1) (by omega) (by omega)).trans ((hk3 (a + 1) (by omega) (by omega)).trans ((hk2 (a + 1) (by omega) (by omega)).trans hv1.2)))))⟩, ⟨by omega, ((hk6 (a + 2) (by omega) (by omega)).trans ((hk5 (a + 2) (by omega) (by omega)).trans ((hk4 (a + 2) (by omega) (by omega)).trans ((hk3 (a + 2) (by omega) (by omega)).trans hv2.2))))⟩, ⟨by omega, ((hk6 (a + 3) (by omega) (by omega)).trans ((hk5 (a + 3) (by omega) (by omega)).trans ((hk4 (a + 3) (by omega) (by omega)).trans hv3.2)))⟩, ⟨by omega, ((hk6 (a + 4) (by omega) (by omega)).trans ((hk5 (a + 4) (by omega) (by omega)).trans hv4.2))⟩, ⟨by omega, ((hk6 (a + 5) (by omega) (by omega)).trans hv5.2)⟩, ⟨by omega, hv6.2⟩⟩ hn6 (fun q hq => ?_) (fun q hq => ?_)
  · rw [hk6 q (by omega) (by omega), hk5 q (by omega) (by omega), hk4 q (by omega) (by omega), hk3 q (by omega) (by omega), hk2 q (by omega) (by omega), hk1 q (by omega) (by omega)]
  · unfold v_zer
    rw [v_ur_ne (by omega), v_ur_ne (by omega), v_ur_ne (by omega), v_ur_ne (by omega), v_ur_ne (by omega), v_ur_ne (by omega)]
end
