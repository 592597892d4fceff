/-! rows of the law's walk -/
theorem i32r (x : Int32) : -2147483648 ≤ x.toInt ∧ x.toInt < 2147483648 := by
  have h1 := x.le_toInt
  have h2 := x.toInt_lt
  omega
theorem y_scr {xs : List Int32} {D j F u w pc : Nat} {lv : m_L} {S : m_H} {V : v_V} {K : v_K} {len i pc' : Nat} {a z : Int} {b : Nat} {r : List Value} {v : Int32} (hc : m_nth (m_code j) pc = some (some (.iaload, len, a, b))) (hp : pc + len = pc') (hz : z = (i : Int)) (hi : i < 2147483648) (hv : m_nth xs i = some v) (k : y_E (m_X xs) D j F u w pc' lv (iv v.toInt :: r) S V K) : y_E (m_X xs) D j (F + 1) u w pc lv (iv z :: .ref 1000000 :: r) S V K := by
  subst hz
  refine y_sti (n := 0) (i := i) (f := v.toInt) (L := xs) hc hp rfl rfl (by decide) ?_ ?_ k
  · rw [v_ix (by omega) (by omega)]
    rfl
  · rw [hv, Int32.ofInt_toInt]
theorem y_scl {xs : List Int32} {D j F u w pc : Nat} {lv : m_L} {S : m_H} {V : v_V} {K : v_K} {len q pc' : Nat} {a : Int} {b : Nat} {r : List Value} (hc : m_nth (m_code j) pc = some (some (.arraylength, len, a, b))) (hp : pc + len = pc') (k : y_E (m_X xs) D j F u w pc' lv (iv (xs.length : Int) :: r) S V K) : y_E (m_X xs) D j (F + 1) u w pc lv (.ref 1000000 :: r) S V K := by
  subst hp
  exact y_in hc rfl (fun d => rfl) k
theorem y_jsame {X : Nat → List Int32} {D j F u w pc : Nat} {lv : m_L} {S : m_H} {V : v_V} {K : v_K} {x : Int} {r : List Value} {q a : Int} {len b p1 : Nat} (hc : m_nth (m_code j) pc = some (some (.if_icmp .eq q, len, a, b))) (g1 : a.toNat = p1) (k1 : y_E X D j F u w p1 lv r S V K) : y_E X D j (F + 1) u w pc lv (iv x :: iv x :: r) S V K := by
  subst g1
  exact y_br (c := Int32.ofInt x = Int32.ofInt x) hc (fun d => rfl) (fun _ => k1) (fun g => absurd rfl g)
set_option maxRecDepth 100000 in
set_option maxHeartbeats 4000000 in
theorem w_op0 {xs : List Int32} {cnt F u w : Nat} {S : m_H} {V : v_V} {K : v_K} {A : Nat → Int32} {e : Int} (he0 : e = 6 * (cnt : Int)) (hcn : cnt < 66) (hA : ∀ c : Nat, c < 6 → m_nth xs (6 * cnt + c) = some (A c)) (hR : RR cnt u w S V) (ih : ∀ u2 w2 S2 V2, RR (cnt + 1) u2 w2 S2 V2 → y_E (m_X xs) 60 181 F u2 w2 1147 [(3, iv e), (2, .ref 170), (1, .ref 0), (0, .ref 1000000)] [] S2 V2 K) : y_E (m_X xs) 60 181 (F + 90) u w 156 [(3, iv e), (2, .ref 170), (1, .ref 0), (0, .ref 1000000)] [] S V K := by
  refine y_ld (x := .ref 0) rfl rfl (fun d => rfl) ?_
  refine y_ld (x := .ref 1000000) rfl rfl (fun d => rfl) ?_
  refine y_ld (x := iv e) rfl rfl (fun d => rfl) ?_
  refine y_ic rfl rfl ?_
  refine y_add (z := e + 1) rfl rfl rfl ?_
  refine y_scr (i := 6 * cnt + 1) rfl rfl (by omega) (by omega) (hA 1 (by decide)) ?_
  refine y_top (v_oi (A 1)) ?_
  refine y_in rfl rfl (fun d => rfl) ?_
  refine y_bi rfl rfl (by decide) ?_
  refine y_in rfl rfl (fun d => rfl) ?_
  refine y_ld (x := .ref 1000000) rfl rfl (fun d => rfl) ?_
  refine y_ld (x := iv e) rfl rfl (fun d => rfl) ?_
  refine y_ic rfl rfl ?_
  refine y_add (z := e + 2) rfl rfl rfl ?_
  refine y_scr (i := 6 * cnt + 2) rfl rfl (by omega) (by omega) (hA 2 (by decide)) ?_
  refine y_top (v_oi (A 2)) ?_
  refine y_in rfl rfl (fun d => rfl) ?_
  refine y_in rfl rfl (fun d => rfl) ?_
  refine y_in rfl rfl (fun d => rfl) ?_
  refine y_in rfl rfl (fun d => rfl) ?_
  refine y_ld (x := .ref 1000000) rfl rfl (fun d => rfl) ?_
  refine y_ld (x := iv e) rfl rfl (fun d => rfl) ?_
  refine y_ic rfl rfl ?_
  refine y_add (z := e + 3) rfl rfl rfl ?_
  refine y_scr (i := 6 * cnt + 3) rfl rfl (by omega) (by omega) (hA 3 (by decide)) ?_
  refine y_cV rfl rfl rfl rfl rfl (hR.choose_spec.1.1 0 _ _ rfl) ⟨rfl, (Nat.le_of_ble_eq_true rfl), (Nat.le_of_ble_eq_true rfl)⟩ (by decide) (pr_feed hR (i32r _) _ (fun x u1 w1 S1 V1 hM1 h2 => ?_))
  refine y_nv ?_
  refine y_in rfl rfl (fun d => rfl) ?_
  refine y_ld (x := .ref 170) rfl rfl (fun d => rfl) ?_
  refine y_ld (x := .ref 1000000) rfl rfl (fun d => rfl) ?_
  refine y_ld (x := iv e) rfl rfl (fun d => rfl) ?_
  refine y_ic rfl rfl ?_
  refine y_add (z := e + 1) rfl rfl rfl ?_
  refine y_scr (i := 6 * cnt + 1) rfl rfl (by omega) (by omega) (hA 1 (by decide)) ?_
  refine y_top (v_oi (A 1)) ?_
  refine y_in rfl rfl (fun d => rfl) ?_
  refine y_bi rfl rfl (by decide) ?_
  refine y_in rfl rfl (fun d => rfl) ?_
  refine y_ld (x := .ref 1000000) rfl rfl (fun d => rfl) ?_
  refine y_ld (x := iv e) rfl rfl (fun d => rfl) ?_
  refine y_ic rfl rfl ?_
  refine y_add (z := e + 2) rfl rfl rfl ?_
  refine y_scr (i := 6 * cnt + 2) rfl rfl (by omega) (by omega) (hA 2 (by decide)) ?_
  refine y_top (v_oi (A 2)) ?_
  refine y_in rfl rfl (fun d => rfl) ?_
  refine y_in rfl rfl (fun d => rfl) ?_
  refine y_in rfl rfl (fun d => rfl) ?_
  refine y_in rfl rfl (fun d => rfl) ?_
  refine y_ld (x := .ref 1000000) rfl rfl (fun d => rfl) ?_
  refine y_ld (x := iv e) rfl rfl (fun d => rfl) ?_
  refine y_ic rfl rfl ?_
  refine y_add (z := e + 3) rfl rfl rfl ?_
  refine y_scr (i := 6 * cnt + 3) rfl rfl (by omega) (by omega) (hA 3 (by decide)) ?_
  refine y_cV rfl rfl rfl rfl rfl (md170 hM1) ⟨rfl, (Nat.le_of_ble_eq_true rfl), (Nat.le_of_ble_eq_true rfl)⟩ (by decide) (h2 _ (fun x2 u2 w2 S2 V2 hR2 he => ?_))
  refine y_nv ?_
  refine y_in rfl rfl (fun d => rfl) ?_
  refine y_go rfl rfl ?_
  exact y_mono (ih _ _ _ _ hR2) (by omega)
set_option maxRecDepth 100000 in
set_option maxHeartbeats 4000000 in
theorem w_op1 {xs : List Int32} {cnt F u w : Nat} {S : m_H} {V : v_V} {K : v_K} {A : Nat → Int32} {e : Int} (he0 : e = 6 * (cnt : Int)) (hcn : cnt < 66) (hA : ∀ c : Nat, c < 6 → m_nth xs (6 * cnt + c) = some (A c)) (hR : RR cnt u w S V) (ih : ∀ u2 w2 S2 V2, RR (cnt + 1) u2 w2 S2 V2 → y_E (m_X xs) 60 181 F u2 w2 1147 [(3, iv e), (2, .ref 170), (1, .ref 0), (0, .ref 1000000)] [] S2 V2 K) : y_E (m_X xs) 60 181 (F + 90) u w 219 [(3, iv e), (2, .ref 170), (1, .ref 0), (0, .ref 1000000)] [] S V K := by
  refine y_ld (x := .ref 0) rfl rfl (fun d => rfl) ?_
  refine y_cV (as := [.ref 0]) rfl rfl rfl rfl rfl (hR.choose_spec.1.1 0 _ _ rfl) ⟨rfl, (Nat.le_of_ble_eq_true rfl), (Nat.le_of_ble_eq_true rfl)⟩ (by decide) (pr_text hR (by omega)  _ (fun x u1 w1 S1 V1 hM1 h2 => ?_))
  refine y_nv ?_
  refine y_in rfl rfl (fun d => rfl) ?_
  refine y_ld (x := .ref 170) rfl rfl (fun d => rfl) ?_
  refine y_cV (as := [.ref 170]) rfl rfl rfl rfl rfl (md170 hM1) ⟨rfl, (Nat.le_of_ble_eq_true rfl), (Nat.le_of_ble_eq_true rfl)⟩ (by decide) (h2 _ (fun x2 u2 w2 S2 V2 hR2 he => ?_))
  refine y_nv ?_
  refine y_in rfl rfl (fun d => rfl) ?_
  refine y_go rfl rfl ?_
  exact y_mono (ih _ _ _ _ hR2) (by omega)
set_option maxRecDepth 100000 in
set_option maxHeartbeats 4000000 in
theorem w_op2 {xs : List Int32} {cnt F u w : Nat} {S : m_H} {V : v_V} {K : v_K} {A : Nat → Int32} {e : Int} (he0 : e = 6 * (cnt : Int)) (hcn : cnt < 66) (hA : ∀ c : Nat, c < 6 → m_nth xs (6 * cnt + c) = some (A c)) (hR : RR cnt u w S V) (ih : ∀ u2 w2 S2 V2, RR (cnt + 1) u2 w2 S2 V2 → y_E (m_X xs) 60 181 F u2 w2 1147 [(3, iv e), (2, .ref 170), (1, .ref 0), (0, .ref 1000000)] [] S2 V2 K) : y_E (m_X xs) 60 181 (F + 90) u w 232 [(3, iv e), (2, .ref 170), (1, .ref 0), (0, .ref 1000000)] [] S V K := by
  refine y_ld (x := .ref 0) rfl rfl (fun d => rfl) ?_
  refine y_ld (x := .ref 1000000) rfl rfl (fun d => rfl) ?_
  refine y_ld (x := iv e) rfl rfl (fun d => rfl) ?_
  refine y_ic rfl rfl ?_
  refine y_add (z := e + 1) rfl rfl rfl ?_
  refine y_scr (i := 6 * cnt + 1) rfl rfl (by omega) (by omega) (hA 1 (by decide)) ?_
  refine y_ld (x := .ref 1000000) rfl rfl (fun d => rfl) ?_
  refine y_ld (x := iv e) rfl rfl (fun d => rfl) ?_
  refine y_ic rfl rfl ?_
  refine y_add (z := e + 2) rfl rfl rfl ?_
  refine y_scr (i := 6 * cnt + 2) rfl rfl (by omega) (by omega) (hA 2 (by decide)) ?_
  refine y_cV (as := [.ref 0, iv (A 1).toInt, iv (A 2).toInt]) rfl rfl rfl rfl rfl (hR.choose_spec.1.1 0 _ _ rfl) ⟨rfl, (Nat.le_of_ble_eq_true rfl), (Nat.le_of_ble_eq_true rfl)⟩ (by decide) (pr_lines hR (i32r _) (i32r _) _ (fun x u1 w1 S1 V1 hM1 h2 => ?_))
  refine y_nv ?_
  refine y_in rfl rfl (fun d => rfl) ?_
  refine y_ld (x := .ref 170) rfl rfl (fun d => rfl) ?_
  refine y_ld (x := .ref 1000000) rfl rfl (fun d => rfl) ?_
  refine y_ld (x := iv e) rfl rfl (fun d => rfl) ?_
  refine y_ic rfl rfl ?_
  refine y_add (z := e + 1) rfl rfl rfl ?_
  refine y_scr (i := 6 * cnt + 1) rfl rfl (by omega) (by omega) (hA 1 (by decide)) ?_
  refine y_ld (x := .ref 1000000) rfl rfl (fun d => rfl) ?_
  refine y_ld (x := iv e) rfl rfl (fun d => rfl) ?_
  refine y_ic rfl rfl ?_
  refine y_add (z := e + 2) rfl rfl rfl ?_
  refine y_scr (i := 6 * cnt + 2) rfl rfl (by omega) (by omega) (hA 2 (by decide)) ?_
  refine y_cV (as := [.ref 170, iv (A 1).toInt, iv (A 2).toInt]) rfl rfl rfl rfl rfl (md170 hM1) ⟨rfl, (Nat.le_of_ble_eq_true rfl), (Nat.le_of_ble_eq_true rfl)⟩ (by decide) (h2 _ (fun x2 u2 w2 S2 V2 hR2 he => ?_))
  refine y_nv ?_
  refine y_in rfl rfl (fun d => rfl) ?_
  refine y_go rfl rfl ?_
  exact y_mono (ih _ _ _ _ hR2) (by omega)
set_option maxRecDepth 100000 in
set_option maxHeartbeats 4000000 in
theorem w_op3 {xs : List Int32} {cnt F u w : Nat} {S : m_H} {V : v_V} {K : v_K} {A : Nat → Int32} {e : Int} (he0 : e = 6 * (cnt : Int)) (hcn : cnt < 66) (hA : ∀ c : Nat, c < 6 → m_nth xs (6 * cnt + c) = some (A c)) (hR : RR cnt u w S V) (ih : ∀ u2 w2 S2 V2, RR (cnt + 1) u2 w2 S2 V2 → y_E (m_X xs) 60 181 F u2 w2 1147 [(3, iv e), (2, .ref 170), (1, .ref 0), (0, .ref 1000000)] [] S2 V2 K) : y_E (m_X xs) 60 181 (F + 90) u w 265 [(3, iv e), (2, .ref 170), (1, .ref 0), (0, .ref 1000000)] [] S V K := by
  refine y_ld (x := .ref 0) rfl rfl (fun d => rfl) ?_
  refine y_ld (x := .ref 1000000) rfl rfl (fun d => rfl) ?_
  refine y_ld (x := iv e) rfl rfl (fun d => rfl) ?_
  refine y_ic rfl rfl ?_
  refine y_add (z := e + 1) rfl rfl rfl ?_
  refine y_scr (i := 6 * cnt + 1) rfl rfl (by omega) (by omega) (hA 1 (by decide)) ?_
  refine y_ld (x := .ref 1000000) rfl rfl (fun d => rfl) ?_
  refine y_ld (x := iv e) rfl rfl (fun d => rfl) ?_
  refine y_ic rfl rfl ?_
  refine y_add (z := e + 2) rfl rfl rfl ?_
  refine y_scr (i := 6 * cnt + 2) rfl rfl (by omega) (by omega) (hA 2 (by decide)) ?_
  refine y_ld (x := .ref 1000000) rfl rfl (fun d => rfl) ?_
  refine y_ld (x := iv e) rfl rfl (fun d => rfl) ?_
  refine y_ic rfl rfl ?_
  refine y_add (z := e + 3) rfl rfl rfl ?_
  refine y_scr (i := 6 * cnt + 3) rfl rfl (by omega) (by omega) (hA 3 (by decide)) ?_
  refine y_ld (x := .ref 1000000) rfl rfl (fun d => rfl) ?_
  refine y_ld (x := iv e) rfl rfl (fun d => rfl) ?_
  refine y_ic rfl rfl ?_
  refine y_add (z := e + 4) rfl rfl rfl ?_
  refine y_scr (i := 6 * cnt + 4) rfl rfl (by omega) (by omega) (hA 4 (by decide)) ?_
  refine y_cV (as := [.ref 0, iv (A 1).toInt, iv (A 2).toInt, iv (A 3).toInt, iv (A 4).toInt]) rfl rfl rfl rfl rfl (hR.choose_spec.1.1 0 _ _ rfl) ⟨rfl, (Nat.le_of_ble_eq_true rfl), (Nat.le_of_ble_eq_true rfl)⟩ (by decide) (pr_part hR (i32r _) (i32r _) (i32r _) (i32r _) _ (fun x u1 w1 S1 V1 hM1 h2 => ?_))
  refine y_nv ?_
  refine y_in rfl rfl (fun d => rfl) ?_
  refine y_ld (x := .ref 170) rfl rfl (fun d => rfl) ?_
  refine y_ld (x := .ref 1000000) rfl rfl (fun d => rfl) ?_
  refine y_ld (x := iv e) rfl rfl (fun d => rfl) ?_
  refine y_ic rfl rfl ?_
  refine y_add (z := e + 1) rfl rfl rfl ?_
  refine y_scr (i := 6 * cnt + 1) rfl rfl (by omega) (by omega) (hA 1 (by decide)) ?_
  refine y_ld (x := .ref 1000000) rfl rfl (fun d => rfl) ?_
  refine y_ld (x := iv e) rfl rfl (fun d => rfl) ?_
  refine y_ic rfl rfl ?_
  refine y_add (z := e + 2) rfl rfl rfl ?_
  refine y_scr (i := 6 * cnt + 2) rfl rfl (by omega) (by omega) (hA 2 (by decide)) ?_
  refine y_ld (x := .ref 1000000) rfl rfl (fun d => rfl) ?_
  refine y_ld (x := iv e) rfl rfl (fun d => rfl) ?_
  refine y_ic rfl rfl ?_
  refine y_add (z := e + 3) rfl rfl rfl ?_
  refine y_scr (i := 6 * cnt + 3) rfl rfl (by omega) (by omega) (hA 3 (by decide)) ?_
  refine y_ld (x := .ref 1000000) rfl rfl (fun d => rfl) ?_
  refine y_ld (x := iv e) rfl rfl (fun d => rfl) ?_
  refine y_ic rfl rfl ?_
  refine y_add (z := e + 4) rfl rfl rfl ?_
  refine y_scr (i := 6 * cnt + 4) rfl rfl (by omega) (by omega) (hA 4 (by decide)) ?_
  refine y_cV (as := [.ref 170, iv (A 1).toInt, iv (A 2).toInt, iv (A 3).toInt, iv (A 4).toInt]) rfl rfl rfl rfl rfl (md170 hM1) ⟨rfl, (Nat.le_of_ble_eq_true rfl), (Nat.le_of_ble_eq_true rfl)⟩ (by decide) (h2 _ (fun x2 u2 w2 S2 V2 hR2 he => ?_))
  refine y_nv ?_
  refine y_in rfl rfl (fun d => rfl) ?_
  refine y_go rfl rfl ?_
  exact y_mono (ih _ _ _ _ hR2) (by omega)
set_option maxRecDepth 100000 in
set_option maxHeartbeats 4000000 in
theorem w_op4 {xs : List Int32} {cnt F u w : Nat} {S : m_H} {V : v_V} {K : v_K} {A : Nat → Int32} {e : Int} (he0 : e = 6 * (cnt : Int)) (hcn : cnt < 66) (hA : ∀ c : Nat, c < 6 → m_nth xs (6 * cnt + c) = some (A c)) (hR : RR cnt u w S V) (ih : ∀ u2 w2 S2 V2, RR (cnt + 1) u2 w2 S2 V2 → y_E (m_X xs) 60 181 F u2 w2 1147 [(3, iv e), (2, .ref 170), (1, .ref 0), (0, .ref 1000000)] [] S2 V2 K) : y_E (m_X xs) 60 181 (F + 90) u w 318 [(3, iv e), (2, .ref 170), (1, .ref 0), (0, .ref 1000000)] [] S V K := by
  refine y_ld (x := .ref 0) rfl rfl (fun d => rfl) ?_
  refine y_ld (x := .ref 1000000) rfl rfl (fun d => rfl) ?_
  refine y_ld (x := iv e) rfl rfl (fun d => rfl) ?_
  refine y_ic rfl rfl ?_
  refine y_add (z := e + 1) rfl rfl rfl ?_
  refine y_scr (i := 6 * cnt + 1) rfl rfl (by omega) (by omega) (hA 1 (by decide)) ?_
  refine y_ld (x := .ref 1000000) rfl rfl (fun d => rfl) ?_
  refine y_ld (x := iv e) rfl rfl (fun d => rfl) ?_
  refine y_ic rfl rfl ?_
  refine y_add (z := e + 2) rfl rfl rfl ?_
  refine y_scr (i := 6 * cnt + 2) rfl rfl (by omega) (by omega) (hA 2 (by decide)) ?_
  refine y_cV (as := [.ref 0, iv (A 1).toInt, iv (A 2).toInt]) rfl rfl rfl rfl rfl (hR.choose_spec.1.1 0 _ _ rfl) ⟨rfl, (Nat.le_of_ble_eq_true rfl), (Nat.le_of_ble_eq_true rfl)⟩ (by decide) (pr_box hR (i32r _) (i32r _) _ (fun x u1 w1 S1 V1 hM1 h2 => ?_))
  refine y_nv ?_
  refine y_in rfl rfl (fun d => rfl) ?_
  refine y_ld (x := .ref 170) rfl rfl (fun d => rfl) ?_
  refine y_ld (x := .ref 1000000) rfl rfl (fun d => rfl) ?_
  refine y_ld (x := iv e) rfl rfl (fun d => rfl) ?_
  refine y_ic rfl rfl ?_
  refine y_add (z := e + 1) rfl rfl rfl ?_
  refine y_scr (i := 6 * cnt + 1) rfl rfl (by omega) (by omega) (hA 1 (by decide)) ?_
  refine y_ld (x := .ref 1000000) rfl rfl (fun d => rfl) ?_
  refine y_ld (x := iv e) rfl rfl (fun d => rfl) ?_
  refine y_ic rfl rfl ?_
  refine y_add (z := e + 2) rfl rfl rfl ?_
  refine y_scr (i := 6 * cnt + 2) rfl rfl (by omega) (by omega) (hA 2 (by decide)) ?_
  refine y_cV (as := [.ref 170, iv (A 1).toInt, iv (A 2).toInt]) rfl rfl rfl rfl rfl (md170 hM1) ⟨rfl, (Nat.le_of_ble_eq_true rfl), (Nat.le_of_ble_eq_true rfl)⟩ (by decide) (h2 _ (fun x2 u2 w2 S2 V2 hR2 he => ?_))
  refine y_nv ?_
  refine y_in rfl rfl (fun d => rfl) ?_
  refine y_go rfl rfl ?_
  exact y_mono (ih _ _ _ _ hR2) (by omega)
set_option maxRecDepth 100000 in
set_option maxHeartbeats 4000000 in
theorem w_op5 {xs : List Int32} {cnt F u w : Nat} {S : m_H} {V : v_V} {K : v_K} {A : Nat → Int32} {e : Int} (he0 : e = 6 * (cnt : Int)) (hcn : cnt < 66) (hA : ∀ c : Nat, c < 6 → m_nth xs (6 * cnt + c) = some (A c)) (hR : RR cnt u w S V) (ih : ∀ u2 w2 S2 V2, RR (cnt + 1) u2 w2 S2 V2 → y_E (m_X xs) 60 181 F u2 w2 1147 [(3, iv e), (2, .ref 170), (1, .ref 0), (0, .ref 1000000)] [] S2 V2 K) : y_E (m_X xs) 60 181 (F + 90) u w 351 [(3, iv e), (2, .ref 170), (1, .ref 0), (0, .ref 1000000)] [] S V K := by
  refine y_ld (x := .ref 0) rfl rfl (fun d => rfl) ?_
  refine y_ld (x := .ref 1000000) rfl rfl (fun d => rfl) ?_
  refine y_ld (x := iv e) rfl rfl (fun d => rfl) ?_
  refine y_ic rfl rfl ?_
  refine y_add (z := e + 1) rfl rfl rfl ?_
  refine y_scr (i := 6 * cnt + 1) rfl rfl (by omega) (by omega) (hA 1 (by decide)) ?_
  refine y_ld (x := .ref 1000000) rfl rfl (fun d => rfl) ?_
  refine y_ld (x := iv e) rfl rfl (fun d => rfl) ?_
  refine y_ic rfl rfl ?_
  refine y_add (z := e + 2) rfl rfl rfl ?_
  refine y_scr (i := 6 * cnt + 2) rfl rfl (by omega) (by omega) (hA 2 (by decide)) ?_
  refine y_ld (x := .ref 1000000) rfl rfl (fun d => rfl) ?_
  refine y_ld (x := iv e) rfl rfl (fun d => rfl) ?_
  refine y_ic rfl rfl ?_
  refine y_add (z := e + 3) rfl rfl rfl ?_
  refine y_scr (i := 6 * cnt + 3) rfl rfl (by omega) (by omega) (hA 3 (by decide)) ?_
  refine y_ld (x := .ref 1000000) rfl rfl (fun d => rfl) ?_
  refine y_ld (x := iv e) rfl rfl (fun d => rfl) ?_
  refine y_ic rfl rfl ?_
  refine y_add (z := e + 4) rfl rfl rfl ?_
  refine y_scr (i := 6 * cnt + 4) rfl rfl (by omega) (by omega) (hA 4 (by decide)) ?_
  refine y_ld (x := .ref 1000000) rfl rfl (fun d => rfl) ?_
  refine y_ld (x := iv e) rfl rfl (fun d => rfl) ?_
  refine y_ic rfl rfl ?_
  refine y_add (z := e + 5) rfl rfl rfl ?_
  refine y_scr (i := 6 * cnt + 5) rfl rfl (by omega) (by omega) (hA 5 (by decide)) ?_
  refine y_cV (as := [.ref 0, iv (A 1).toInt, iv (A 2).toInt, iv (A 3).toInt, iv (A 4).toInt, iv (A 5).toInt]) rfl rfl rfl rfl rfl (hR.choose_spec.1.1 0 _ _ rfl) ⟨rfl, (Nat.le_of_ble_eq_true rfl), (Nat.le_of_ble_eq_true rfl)⟩ (by decide) (pr_work hR (by omega) (i32r _) (i32r _) (i32r _) (i32r _) (i32r _) _ (fun x u1 w1 S1 V1 hM1 h2 => ?_))
  refine y_nv ?_
  refine y_in rfl rfl (fun d => rfl) ?_
  refine y_ld (x := .ref 170) rfl rfl (fun d => rfl) ?_
  refine y_ld (x := .ref 1000000) rfl rfl (fun d => rfl) ?_
  refine y_ld (x := iv e) rfl rfl (fun d => rfl) ?_
  refine y_ic rfl rfl ?_
  refine y_add (z := e + 1) rfl rfl rfl ?_
  refine y_scr (i := 6 * cnt + 1) rfl rfl (by omega) (by omega) (hA 1 (by decide)) ?_
  refine y_ld (x := .ref 1000000) rfl rfl (fun d => rfl) ?_
  refine y_ld (x := iv e) rfl rfl (fun d => rfl) ?_
  refine y_ic rfl rfl ?_
  refine y_add (z := e + 2) rfl rfl rfl ?_
  refine y_scr (i := 6 * cnt + 2) rfl rfl (by omega) (by omega) (hA 2 (by decide)) ?_
  refine y_ld (x := .ref 1000000) rfl rfl (fun d => rfl) ?_
  refine y_ld (x := iv e) rfl rfl (fun d => rfl) ?_
  refine y_ic rfl rfl ?_
  refine y_add (z := e + 3) rfl rfl rfl ?_
  refine y_scr (i := 6 * cnt + 3) rfl rfl (by omega) (by omega) (hA 3 (by decide)) ?_
  refine y_ld (x := .ref 1000000) rfl rfl (fun d => rfl) ?_
  refine y_ld (x := iv e) rfl rfl (fun d => rfl) ?_
  refine y_ic rfl rfl ?_
  refine y_add (z := e + 4) rfl rfl rfl ?_
  refine y_scr (i := 6 * cnt + 4) rfl rfl (by omega) (by omega) (hA 4 (by decide)) ?_
  refine y_ld (x := .ref 1000000) rfl rfl (fun d => rfl) ?_
  refine y_ld (x := iv e) rfl rfl (fun d => rfl) ?_
  refine y_ic rfl rfl ?_
  refine y_add (z := e + 5) rfl rfl rfl ?_
  refine y_scr (i := 6 * cnt + 5) rfl rfl (by omega) (by omega) (hA 5 (by decide)) ?_
  refine y_cV (as := [.ref 170, iv (A 1).toInt, iv (A 2).toInt, iv (A 3).toInt, iv (A 4).toInt, iv (A 5).toInt]) rfl rfl rfl rfl rfl (md170 hM1) ⟨rfl, (Nat.le_of_ble_eq_true rfl), (Nat.le_of_ble_eq_true rfl)⟩ (by decide) (h2 _ (fun x2 u2 w2 S2 V2 hR2 he => ?_))
  refine y_nv ?_
  refine y_in rfl rfl (fun d => rfl) ?_
  refine y_go rfl rfl ?_
  exact y_mono (ih _ _ _ _ hR2) (by omega)
set_option maxRecDepth 100000 in
set_option maxHeartbeats 4000000 in
theorem w_op6 {xs : List Int32} {cnt F u w : Nat} {S : m_H} {V : v_V} {K : v_K} {A : Nat → Int32} {e : Int} (he0 : e = 6 * (cnt : Int)) (hcn : cnt < 66) (hA : ∀ c : Nat, c < 6 → m_nth xs (6 * cnt + c) = some (A c)) (hR : RR cnt u w S V) (ih : ∀ u2 w2 S2 V2, RR (cnt + 1) u2 w2 S2 V2 → y_E (m_X xs) 60 181 F u2 w2 1147 [(3, iv e), (2, .ref 170), (1, .ref 0), (0, .ref 1000000)] [] S2 V2 K) : y_E (m_X xs) 60 181 (F + 90) u w 414 [(3, iv e), (2, .ref 170), (1, .ref 0), (0, .ref 1000000)] [] S V K := by
  refine y_ld (x := .ref 0) rfl rfl (fun d => rfl) ?_
  refine y_ld (x := .ref 1000000) rfl rfl (fun d => rfl) ?_
  refine y_ld (x := iv e) rfl rfl (fun d => rfl) ?_
  refine y_ic rfl rfl ?_
  refine y_add (z := e + 1) rfl rfl rfl ?_
  refine y_scr (i := 6 * cnt + 1) rfl rfl (by omega) (by omega) (hA 1 (by decide)) ?_
  refine y_ld (x := .ref 1000000) rfl rfl (fun d => rfl) ?_
  refine y_ld (x := iv e) rfl rfl (fun d => rfl) ?_
  refine y_ic rfl rfl ?_
  refine y_add (z := e + 2) rfl rfl rfl ?_
  refine y_scr (i := 6 * cnt + 2) rfl rfl (by omega) (by omega) (hA 2 (by decide)) ?_
  refine y_ld (x := .ref 1000000) rfl rfl (fun d => rfl) ?_
  refine y_ld (x := iv e) rfl rfl (fun d => rfl) ?_
  refine y_ic rfl rfl ?_
  refine y_add (z := e + 3) rfl rfl rfl ?_
  refine y_scr (i := 6 * cnt + 3) rfl rfl (by omega) (by omega) (hA 3 (by decide)) ?_
  refine y_ld (x := .ref 1000000) rfl rfl (fun d => rfl) ?_
  refine y_ld (x := iv e) rfl rfl (fun d => rfl) ?_
  refine y_ic rfl rfl ?_
  refine y_add (z := e + 4) rfl rfl rfl ?_
  refine y_scr (i := 6 * cnt + 4) rfl rfl (by omega) (by omega) (hA 4 (by decide)) ?_
  refine y_cV (as := [.ref 0, iv (A 1).toInt, iv (A 2).toInt, iv (A 3).toInt, iv (A 4).toInt]) rfl rfl rfl rfl rfl (hR.choose_spec.1.1 0 _ _ rfl) ⟨rfl, (Nat.le_of_ble_eq_true rfl), (Nat.le_of_ble_eq_true rfl)⟩ (by decide) (pr_cell hR (i32r _) (i32r _) (i32r _) (i32r _) _ (fun x u1 w1 S1 V1 hM1 h2 => ?_))
  refine y_nv ?_
  refine y_in rfl rfl (fun d => rfl) ?_
  refine y_ld (x := .ref 170) rfl rfl (fun d => rfl) ?_
  refine y_ld (x := .ref 1000000) rfl rfl (fun d => rfl) ?_
  refine y_ld (x := iv e) rfl rfl (fun d => rfl) ?_
  refine y_ic rfl rfl ?_
  refine y_add (z := e + 1) rfl rfl rfl ?_
  refine y_scr (i := 6 * cnt + 1) rfl rfl (by omega) (by omega) (hA 1 (by decide)) ?_
  refine y_ld (x := .ref 1000000) rfl rfl (fun d => rfl) ?_
  refine y_ld (x := iv e) rfl rfl (fun d => rfl) ?_
  refine y_ic rfl rfl ?_
  refine y_add (z := e + 2) rfl rfl rfl ?_
  refine y_scr (i := 6 * cnt + 2) rfl rfl (by omega) (by omega) (hA 2 (by decide)) ?_
  refine y_ld (x := .ref 1000000) rfl rfl (fun d => rfl) ?_
  refine y_ld (x := iv e) rfl rfl (fun d => rfl) ?_
  refine y_ic rfl rfl ?_
  refine y_add (z := e + 3) rfl rfl rfl ?_
  refine y_scr (i := 6 * cnt + 3) rfl rfl (by omega) (by omega) (hA 3 (by decide)) ?_
  refine y_ld (x := .ref 1000000) rfl rfl (fun d => rfl) ?_
  refine y_ld (x := iv e) rfl rfl (fun d => rfl) ?_
  refine y_ic rfl rfl ?_
  refine y_add (z := e + 4) rfl rfl rfl ?_
  refine y_scr (i := 6 * cnt + 4) rfl rfl (by omega) (by omega) (hA 4 (by decide)) ?_
  refine y_cV (as := [.ref 170, iv (A 1).toInt, iv (A 2).toInt, iv (A 3).toInt, iv (A 4).toInt]) rfl rfl rfl rfl rfl (md170 hM1) ⟨rfl, (Nat.le_of_ble_eq_true rfl), (Nat.le_of_ble_eq_true rfl)⟩ (by decide) (h2 _ (fun x2 u2 w2 S2 V2 hR2 he => ?_))
  refine y_nv ?_
  refine y_in rfl rfl (fun d => rfl) ?_
  refine y_go rfl rfl ?_
  exact y_mono (ih _ _ _ _ hR2) (by omega)
set_option maxRecDepth 100000 in
set_option maxHeartbeats 4000000 in
theorem w_op7 {xs : List Int32} {cnt F u w : Nat} {S : m_H} {V : v_V} {K : v_K} {A : Nat → Int32} {e : Int} (he0 : e = 6 * (cnt : Int)) (hcn : cnt < 66) (hA : ∀ c : Nat, c < 6 → m_nth xs (6 * cnt + c) = some (A c)) (hR : RR cnt u w S V) (ih : ∀ u2 w2 S2 V2, RR (cnt + 1) u2 w2 S2 V2 → y_E (m_X xs) 60 181 F u2 w2 1147 [(3, iv e), (2, .ref 170), (1, .ref 0), (0, .ref 1000000)] [] S2 V2 K) : y_E (m_X xs) 60 181 (F + 90) u w 467 [(3, iv e), (2, .ref 170), (1, .ref 0), (0, .ref 1000000)] [] S V K := by
  refine y_ld (x := .ref 0) rfl rfl (fun d => rfl) ?_
  refine y_ld (x := .ref 1000000) rfl rfl (fun d => rfl) ?_
  refine y_ld (x := iv e) rfl rfl (fun d => rfl) ?_
  refine y_ic rfl rfl ?_
  refine y_add (z := e + 1) rfl rfl rfl ?_
  refine y_scr (i := 6 * cnt + 1) rfl rfl (by omega) (by omega) (hA 1 (by decide)) ?_
  refine y_cV (as := [.ref 0, iv (A 1).toInt]) rfl rfl rfl rfl rfl (hR.choose_spec.1.1 0 _ _ rfl) ⟨rfl, (Nat.le_of_ble_eq_true rfl), (Nat.le_of_ble_eq_true rfl)⟩ (by decide) (pr_latest hR (i32r _) _ (fun x u1 w1 S1 V1 hM1 h2 => ?_))
  refine y_nv ?_
  refine y_in rfl rfl (fun d => rfl) ?_
  refine y_ld (x := .ref 170) rfl rfl (fun d => rfl) ?_
  refine y_ld (x := .ref 1000000) rfl rfl (fun d => rfl) ?_
  refine y_ld (x := iv e) rfl rfl (fun d => rfl) ?_
  refine y_ic rfl rfl ?_
  refine y_add (z := e + 1) rfl rfl rfl ?_
  refine y_scr (i := 6 * cnt + 1) rfl rfl (by omega) (by omega) (hA 1 (by decide)) ?_
  refine y_cV (as := [.ref 170, iv (A 1).toInt]) rfl rfl rfl rfl rfl (md170 hM1) ⟨rfl, (Nat.le_of_ble_eq_true rfl), (Nat.le_of_ble_eq_true rfl)⟩ (by decide) (h2 _ (fun x2 u2 w2 S2 V2 hR2 he => ?_))
  refine y_nv ?_
  refine y_in rfl rfl (fun d => rfl) ?_
  refine y_go rfl rfl ?_
  exact y_mono (ih _ _ _ _ hR2) (by omega)
set_option maxRecDepth 100000 in
set_option maxHeartbeats 4000000 in
theorem w_op8 {xs : List Int32} {cnt F u w : Nat} {S : m_H} {V : v_V} {K : v_K} {A : Nat → Int32} {e : Int} (he0 : e = 6 * (cnt : Int)) (hcn : cnt < 66) (hA : ∀ c : Nat, c < 6 → m_nth xs (6 * cnt + c) = some (A c)) (hR : RR cnt u w S V) (ih : ∀ u2 w2 S2 V2, RR (cnt + 1) u2 w2 S2 V2 → y_E (m_X xs) 60 181 F u2 w2 1147 [(3, iv e), (2, .ref 170), (1, .ref 0), (0, .ref 1000000)] [] S2 V2 K) : y_E (m_X xs) 60 181 (F + 90) u w 490 [(3, iv e), (2, .ref 170), (1, .ref 0), (0, .ref 1000000)] [] S V K := by
  refine y_ld (x := .ref 0) rfl rfl (fun d => rfl) ?_
  refine y_ld (x := .ref 1000000) rfl rfl (fun d => rfl) ?_
  refine y_ld (x := iv e) rfl rfl (fun d => rfl) ?_
  refine y_ic rfl rfl ?_
  refine y_add (z := e + 1) rfl rfl rfl ?_
  refine y_scr (i := 6 * cnt + 1) rfl rfl (by omega) (by omega) (hA 1 (by decide)) ?_
  refine y_cV (as := [.ref 0, iv (A 1).toInt]) rfl rfl rfl rfl rfl (hR.choose_spec.1.1 0 _ _ rfl) ⟨rfl, (Nat.le_of_ble_eq_true rfl), (Nat.le_of_ble_eq_true rfl)⟩ (by decide) (pr_row hR (i32r _) _ (fun x u1 w1 S1 V1 hM1 h2 => ?_))
  refine y_nv ?_
  refine y_in rfl rfl (fun d => rfl) ?_
  refine y_ld (x := .ref 170) rfl rfl (fun d => rfl) ?_
  refine y_ld (x := .ref 1000000) rfl rfl (fun d => rfl) ?_
  refine y_ld (x := iv e) rfl rfl (fun d => rfl) ?_
  refine y_ic rfl rfl ?_
  refine y_add (z := e + 1) rfl rfl rfl ?_
  refine y_scr (i := 6 * cnt + 1) rfl rfl (by omega) (by omega) (hA 1 (by decide)) ?_
  refine y_cV (as := [.ref 170, iv (A 1).toInt]) rfl rfl rfl rfl rfl (md170 hM1) ⟨rfl, (Nat.le_of_ble_eq_true rfl), (Nat.le_of_ble_eq_true rfl)⟩ (by decide) (h2 _ (fun x2 u2 w2 S2 V2 hR2 he => ?_))
  refine y_nv ?_
  refine y_in rfl rfl (fun d => rfl) ?_
  refine y_go rfl rfl ?_
  exact y_mono (ih _ _ _ _ hR2) (by omega)
set_option maxRecDepth 100000 in
set_option maxHeartbeats 4000000 in
theorem w_op9 {xs : List Int32} {cnt F u w : Nat} {S : m_H} {V : v_V} {K : v_K} {A : Nat → Int32} {e : Int} (he0 : e = 6 * (cnt : Int)) (hcn : cnt < 66) (hA : ∀ c : Nat, c < 6 → m_nth xs (6 * cnt + c) = some (A c)) (hR : RR cnt u w S V) (ih : ∀ u2 w2 S2 V2, RR (cnt + 1) u2 w2 S2 V2 → y_E (m_X xs) 60 181 F u2 w2 1147 [(3, iv e), (2, .ref 170), (1, .ref 0), (0, .ref 1000000)] [] S2 V2 K) : y_E (m_X xs) 60 181 (F + 90) u w 513 [(3, iv e), (2, .ref 170), (1, .ref 0), (0, .ref 1000000)] [] S V K := by
  refine y_ld (x := .ref 0) rfl rfl (fun d => rfl) ?_
  refine y_ld (x := .ref 1000000) rfl rfl (fun d => rfl) ?_
  refine y_ld (x := iv e) rfl rfl (fun d => rfl) ?_
  refine y_ic rfl rfl ?_
  refine y_add (z := e + 1) rfl rfl rfl ?_
  refine y_scr (i := 6 * cnt + 1) rfl rfl (by omega) (by omega) (hA 1 (by decide)) ?_
  refine y_ld (x := .ref 1000000) rfl rfl (fun d => rfl) ?_
  refine y_ld (x := iv e) rfl rfl (fun d => rfl) ?_
  refine y_ic rfl rfl ?_
  refine y_add (z := e + 2) rfl rfl rfl ?_
  refine y_scr (i := 6 * cnt + 2) rfl rfl (by omega) (by omega) (hA 2 (by decide)) ?_
  refine y_ld (x := .ref 1000000) rfl rfl (fun d => rfl) ?_
  refine y_ld (x := iv e) rfl rfl (fun d => rfl) ?_
  refine y_ic rfl rfl ?_
  refine y_add (z := e + 3) rfl rfl rfl ?_
  refine y_scr (i := 6 * cnt + 3) rfl rfl (by omega) (by omega) (hA 3 (by decide)) ?_
  refine y_ld (x := .ref 1000000) rfl rfl (fun d => rfl) ?_
  refine y_ld (x := iv e) rfl rfl (fun d => rfl) ?_
  refine y_ic rfl rfl ?_
  refine y_add (z := e + 4) rfl rfl rfl ?_
  refine y_scr (i := 6 * cnt + 4) rfl rfl (by omega) (by omega) (hA 4 (by decide)) ?_
  refine y_cV (as := [.ref 0, iv (A 1).toInt, iv (A 2).toInt, iv (A 3).toInt, iv (A 4).toInt]) rfl rfl rfl rfl rfl (hR.choose_spec.1.1 0 _ _ rfl) ⟨rfl, (Nat.le_of_ble_eq_true rfl), (Nat.le_of_ble_eq_true rfl)⟩ (by decide) (pr_send hR (by omega) (i32r _) (i32r _) (i32r _) (i32r _) _ (fun x u1 w1 S1 V1 hM1 h2 => ?_))
  refine y_nv ?_
  refine y_in rfl rfl (fun d => rfl) ?_
  refine y_ld (x := .ref 170) rfl rfl (fun d => rfl) ?_
  refine y_ld (x := .ref 1000000) rfl rfl (fun d => rfl) ?_
  refine y_ld (x := iv e) rfl rfl (fun d => rfl) ?_
  refine y_ic rfl rfl ?_
  refine y_add (z := e + 1) rfl rfl rfl ?_
  refine y_scr (i := 6 * cnt + 1) rfl rfl (by omega) (by omega) (hA 1 (by decide)) ?_
  refine y_ld (x := .ref 1000000) rfl rfl (fun d => rfl) ?_
  refine y_ld (x := iv e) rfl rfl (fun d => rfl) ?_
  refine y_ic rfl rfl ?_
  refine y_add (z := e + 2) rfl rfl rfl ?_
  refine y_scr (i := 6 * cnt + 2) rfl rfl (by omega) (by omega) (hA 2 (by decide)) ?_
  refine y_ld (x := .ref 1000000) rfl rfl (fun d => rfl) ?_
  refine y_ld (x := iv e) rfl rfl (fun d => rfl) ?_
  refine y_ic rfl rfl ?_
  refine y_add (z := e + 3) rfl rfl rfl ?_
  refine y_scr (i := 6 * cnt + 3) rfl rfl (by omega) (by omega) (hA 3 (by decide)) ?_
  refine y_ld (x := .ref 1000000) rfl rfl (fun d => rfl) ?_
  refine y_ld (x := iv e) rfl rfl (fun d => rfl) ?_
  refine y_ic rfl rfl ?_
  refine y_add (z := e + 4) rfl rfl rfl ?_
  refine y_scr (i := 6 * cnt + 4) rfl rfl (by omega) (by omega) (hA 4 (by decide)) ?_
  refine y_cV (as := [.ref 170, iv (A 1).toInt, iv (A 2).toInt, iv (A 3).toInt, iv (A 4).toInt]) rfl rfl rfl rfl rfl (md170 hM1) ⟨rfl, (Nat.le_of_ble_eq_true rfl), (Nat.le_of_ble_eq_true rfl)⟩ (by decide) (h2 _ (fun x2 u2 w2 S2 V2 hR2 he => ?_))
  refine y_nv ?_
  refine y_in rfl rfl (fun d => rfl) ?_
  refine y_go rfl rfl ?_
  exact y_mono (ih _ _ _ _ hR2) (by omega)
set_option maxRecDepth 100000 in
set_option maxHeartbeats 4000000 in
theorem w_op10 {xs : List Int32} {cnt F u w : Nat} {S : m_H} {V : v_V} {K : v_K} {A : Nat → Int32} {e : Int} (he0 : e = 6 * (cnt : Int)) (hcn : cnt < 66) (hA : ∀ c : Nat, c < 6 → m_nth xs (6 * cnt + c) = some (A c)) (hR : RR cnt u w S V) (ih : ∀ u2 w2 S2 V2, RR (cnt + 1) u2 w2 S2 V2 → y_E (m_X xs) 60 181 F u2 w2 1147 [(3, iv e), (2, .ref 170), (1, .ref 0), (0, .ref 1000000)] [] S2 V2 K) : y_E (m_X xs) 60 181 (F + 90) u w 566 [(3, iv e), (2, .ref 170), (1, .ref 0), (0, .ref 1000000)] [] S V K := by
  refine y_ld (x := .ref 0) rfl rfl (fun d => rfl) ?_
  refine y_ld (x := .ref 1000000) rfl rfl (fun d => rfl) ?_
  refine y_ld (x := iv e) rfl rfl (fun d => rfl) ?_
  refine y_ic rfl rfl ?_
  refine y_add (z := e + 1) rfl rfl rfl ?_
  refine y_scr (i := 6 * cnt + 1) rfl rfl (by omega) (by omega) (hA 1 (by decide)) ?_
  refine y_ld (x := .ref 1000000) rfl rfl (fun d => rfl) ?_
  refine y_ld (x := iv e) rfl rfl (fun d => rfl) ?_
  refine y_ic rfl rfl ?_
  refine y_add (z := e + 2) rfl rfl rfl ?_
  refine y_scr (i := 6 * cnt + 2) rfl rfl (by omega) (by omega) (hA 2 (by decide)) ?_
  refine y_ld (x := .ref 1000000) rfl rfl (fun d => rfl) ?_
  refine y_ld (x := iv e) rfl rfl (fun d => rfl) ?_
  refine y_ic rfl rfl ?_
  refine y_add (z := e + 3) rfl rfl rfl ?_
  refine y_scr (i := 6 * cnt + 3) rfl rfl (by omega) (by omega) (hA 3 (by decide)) ?_
  refine y_cV (as := [.ref 0, iv (A 1).toInt, iv (A 2).toInt, iv (A 3).toInt]) rfl rfl rfl rfl rfl (hR.choose_spec.1.1 0 _ _ rfl) ⟨rfl, (Nat.le_of_ble_eq_true rfl), (Nat.le_of_ble_eq_true rfl)⟩ (by decide) (pr_lead hR (i32r _) (i32r _) (i32r _) _ (fun x u1 w1 S1 V1 hM1 h2 => ?_))
  refine y_nv ?_
  refine y_in rfl rfl (fun d => rfl) ?_
  refine y_ld (x := .ref 170) rfl rfl (fun d => rfl) ?_
  refine y_ld (x := .ref 1000000) rfl rfl (fun d => rfl) ?_
  refine y_ld (x := iv e) rfl rfl (fun d => rfl) ?_
  refine y_ic rfl rfl ?_
  refine y_add (z := e + 1) rfl rfl rfl ?_
  refine y_scr (i := 6 * cnt + 1) rfl rfl (by omega) (by omega) (hA 1 (by decide)) ?_
  refine y_ld (x := .ref 1000000) rfl rfl (fun d => rfl) ?_
  refine y_ld (x := iv e) rfl rfl (fun d => rfl) ?_
  refine y_ic rfl rfl ?_
  refine y_add (z := e + 2) rfl rfl rfl ?_
  refine y_scr (i := 6 * cnt + 2) rfl rfl (by omega) (by omega) (hA 2 (by decide)) ?_
  refine y_ld (x := .ref 1000000) rfl rfl (fun d => rfl) ?_
  refine y_ld (x := iv e) rfl rfl (fun d => rfl) ?_
  refine y_ic rfl rfl ?_
  refine y_add (z := e + 3) rfl rfl rfl ?_
  refine y_scr (i := 6 * cnt + 3) rfl rfl (by omega) (by omega) (hA 3 (by decide)) ?_
  refine y_cV (as := [.ref 170, iv (A 1).toInt, iv (A 2).toInt, iv (A 3).toInt]) rfl rfl rfl rfl rfl (md170 hM1) ⟨rfl, (Nat.le_of_ble_eq_true rfl), (Nat.le_of_ble_eq_true rfl)⟩ (by decide) (h2 _ (fun x2 u2 w2 S2 V2 hR2 he => ?_))
  refine y_nv ?_
  refine y_in rfl rfl (fun d => rfl) ?_
  refine y_go rfl rfl ?_
  exact y_mono (ih _ _ _ _ hR2) (by omega)
set_option maxRecDepth 100000 in
set_option maxHeartbeats 4000000 in
theorem w_op11 {xs : List Int32} {cnt F u w : Nat} {S : m_H} {V : v_V} {K : v_K} {A : Nat → Int32} {e : Int} (he0 : e = 6 * (cnt : Int)) (hcn : cnt < 66) (hA : ∀ c : Nat, c < 6 → m_nth xs (6 * cnt + c) = some (A c)) (hR : RR cnt u w S V) (ih : ∀ u2 w2 S2 V2, RR (cnt + 1) u2 w2 S2 V2 → y_E (m_X xs) 60 181 F u2 w2 1147 [(3, iv e), (2, .ref 170), (1, .ref 0), (0, .ref 1000000)] [] S2 V2 K) : y_E (m_X xs) 60 181 (F + 90) u w 609 [(3, iv e), (2, .ref 170), (1, .ref 0), (0, .ref 1000000)] [] S V K := by
  refine y_ld (x := .ref 0) rfl rfl (fun d => rfl) ?_
  refine y_ld (x := .ref 1000000) rfl rfl (fun d => rfl) ?_
  refine y_ld (x := iv e) rfl rfl (fun d => rfl) ?_
  refine y_ic rfl rfl ?_
  refine y_add (z := e + 1) rfl rfl rfl ?_
  refine y_scr (i := 6 * cnt + 1) rfl rfl (by omega) (by omega) (hA 1 (by decide)) ?_
  refine y_ld (x := .ref 1000000) rfl rfl (fun d => rfl) ?_
  refine y_ld (x := iv e) rfl rfl (fun d => rfl) ?_
  refine y_ic rfl rfl ?_
  refine y_add (z := e + 2) rfl rfl rfl ?_
  refine y_scr (i := 6 * cnt + 2) rfl rfl (by omega) (by omega) (hA 2 (by decide)) ?_
  refine y_cV (as := [.ref 0, iv (A 1).toInt, iv (A 2).toInt]) rfl rfl rfl rfl rfl (hR.choose_spec.1.1 0 _ _ rfl) ⟨rfl, (Nat.le_of_ble_eq_true rfl), (Nat.le_of_ble_eq_true rfl)⟩ (by decide) (pr_led hR (i32r _) (i32r _) _ (fun x u1 w1 S1 V1 hM1 h2 => ?_))
  refine y_nv ?_
  refine y_in rfl rfl (fun d => rfl) ?_
  refine y_ld (x := .ref 170) rfl rfl (fun d => rfl) ?_
  refine y_ld (x := .ref 1000000) rfl rfl (fun d => rfl) ?_
  refine y_ld (x := iv e) rfl rfl (fun d => rfl) ?_
  refine y_ic rfl rfl ?_
  refine y_add (z := e + 1) rfl rfl rfl ?_
  refine y_scr (i := 6 * cnt + 1) rfl rfl (by omega) (by omega) (hA 1 (by decide)) ?_
  refine y_ld (x := .ref 1000000) rfl rfl (fun d => rfl) ?_
  refine y_ld (x := iv e) rfl rfl (fun d => rfl) ?_
  refine y_ic rfl rfl ?_
  refine y_add (z := e + 2) rfl rfl rfl ?_
  refine y_scr (i := 6 * cnt + 2) rfl rfl (by omega) (by omega) (hA 2 (by decide)) ?_
  refine y_cV (as := [.ref 170, iv (A 1).toInt, iv (A 2).toInt]) rfl rfl rfl rfl rfl (md170 hM1) ⟨rfl, (Nat.le_of_ble_eq_true rfl), (Nat.le_of_ble_eq_true rfl)⟩ (by decide) (h2 _ (fun x2 u2 w2 S2 V2 hR2 he => ?_))
  refine y_nv ?_
  refine y_in rfl rfl (fun d => rfl) ?_
  refine y_go rfl rfl ?_
  exact y_mono (ih _ _ _ _ hR2) (by omega)
set_option maxRecDepth 100000 in
set_option maxHeartbeats 4000000 in
theorem w_op12 {xs : List Int32} {cnt F u w : Nat} {S : m_H} {V : v_V} {K : v_K} {A : Nat → Int32} {e : Int} (he0 : e = 6 * (cnt : Int)) (hcn : cnt < 66) (hA : ∀ c : Nat, c < 6 → m_nth xs (6 * cnt + c) = some (A c)) (hR : RR cnt u w S V) (ih : ∀ u2 w2 S2 V2, RR (cnt + 1) u2 w2 S2 V2 → y_E (m_X xs) 60 181 F u2 w2 1147 [(3, iv e), (2, .ref 170), (1, .ref 0), (0, .ref 1000000)] [] S2 V2 K) : y_E (m_X xs) 60 181 (F + 90) u w 642 [(3, iv e), (2, .ref 170), (1, .ref 0), (0, .ref 1000000)] [] S V K := by
  refine y_ld (x := .ref 0) rfl rfl (fun d => rfl) ?_
  refine y_ld (x := .ref 1000000) rfl rfl (fun d => rfl) ?_
  refine y_ld (x := iv e) rfl rfl (fun d => rfl) ?_
  refine y_ic rfl rfl ?_
  refine y_add (z := e + 1) rfl rfl rfl ?_
  refine y_scr (i := 6 * cnt + 1) rfl rfl (by omega) (by omega) (hA 1 (by decide)) ?_
  refine y_cV (as := [.ref 0, iv (A 1).toInt]) rfl rfl rfl rfl rfl (hR.choose_spec.1.1 0 _ _ rfl) ⟨rfl, (Nat.le_of_ble_eq_true rfl), (Nat.le_of_ble_eq_true rfl)⟩ (by decide) (pr_hold hR (i32r _) _ (fun x u1 w1 S1 V1 hM1 h2 => ?_))
  refine y_nv ?_
  refine y_in rfl rfl (fun d => rfl) ?_
  refine y_ld (x := .ref 170) rfl rfl (fun d => rfl) ?_
  refine y_ld (x := .ref 1000000) rfl rfl (fun d => rfl) ?_
  refine y_ld (x := iv e) rfl rfl (fun d => rfl) ?_
  refine y_ic rfl rfl ?_
  refine y_add (z := e + 1) rfl rfl rfl ?_
  refine y_scr (i := 6 * cnt + 1) rfl rfl (by omega) (by omega) (hA 1 (by decide)) ?_
  refine y_cV (as := [.ref 170, iv (A 1).toInt]) rfl rfl rfl rfl rfl (md170 hM1) ⟨rfl, (Nat.le_of_ble_eq_true rfl), (Nat.le_of_ble_eq_true rfl)⟩ (by decide) (h2 _ (fun x2 u2 w2 S2 V2 hR2 he => ?_))
  refine y_nv ?_
  refine y_in rfl rfl (fun d => rfl) ?_
  refine y_go rfl rfl ?_
  exact y_mono (ih _ _ _ _ hR2) (by omega)
set_option maxRecDepth 100000 in
set_option maxHeartbeats 4000000 in
theorem w_op13 {xs : List Int32} {cnt F u w : Nat} {S : m_H} {V : v_V} {K : v_K} {A : Nat → Int32} {e : Int} (he0 : e = 6 * (cnt : Int)) (hcn : cnt < 66) (hA : ∀ c : Nat, c < 6 → m_nth xs (6 * cnt + c) = some (A c)) (hR : RR cnt u w S V) (ih : ∀ u2 w2 S2 V2, RR (cnt + 1) u2 w2 S2 V2 → y_E (m_X xs) 60 181 F u2 w2 1147 [(3, iv e), (2, .ref 170), (1, .ref 0), (0, .ref 1000000)] [] S2 V2 K) : y_E (m_X xs) 60 181 (F + 90) u w 665 [(3, iv e), (2, .ref 170), (1, .ref 0), (0, .ref 1000000)] [] S V K := by
  refine y_ld (x := .ref 0) rfl rfl (fun d => rfl) ?_
  refine y_cV (as := [.ref 0]) rfl rfl rfl rfl rfl (hR.choose_spec.1.1 0 _ _ rfl) ⟨rfl, (Nat.le_of_ble_eq_true rfl), (Nat.le_of_ble_eq_true rfl)⟩ (by decide) (pr_release hR (by omega)  _ (fun x u1 w1 S1 V1 hM1 h2 => ?_))
  refine y_nv ?_
  refine y_in rfl rfl (fun d => rfl) ?_
  refine y_ld (x := .ref 170) rfl rfl (fun d => rfl) ?_
  refine y_cV (as := [.ref 170]) rfl rfl rfl rfl rfl (md170 hM1) ⟨rfl, (Nat.le_of_ble_eq_true rfl), (Nat.le_of_ble_eq_true rfl)⟩ (by decide) (h2 _ (fun x2 u2 w2 S2 V2 hR2 he => ?_))
  refine y_nv ?_
  refine y_in rfl rfl (fun d => rfl) ?_
  refine y_go rfl rfl ?_
  exact y_mono (ih _ _ _ _ hR2) (by omega)
