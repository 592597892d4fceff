/-! the law's walk, the other opcodes -/
set_option maxRecDepth 100000 in
set_option maxHeartbeats 4000000 in
theorem w_op14 {xs : List Int32} {cnt F u w : Nat} {S : m_H} {V : v_V} {K : v_K} {A : Nat → Int32} {e : Int} (he0 : e = 6 * (cnt : Int)) (hcn : cnt < 66) (hA : ∀ c : Nat, c < 6 → m_nth xs (6 * cnt + c) = some (A c)) (hR : RR cnt u w S V) (ih : ∀ u2 w2 S2 V2, RR (cnt + 1) u2 w2 S2 V2 → y_E (m_X xs) 60 181 F u2 w2 1147 [(3, iv e), (2, .ref 170), (1, .ref 0), (0, .ref 1000000)] [] S2 V2 K) : y_E (m_X xs) 60 181 (F + 90) u w 678 [(3, iv e), (2, .ref 170), (1, .ref 0), (0, .ref 1000000)] [] S V K := by
  refine y_ld (x := .ref 0) rfl rfl (fun d => rfl) ?_
  refine y_ld (x := .ref 1000000) rfl rfl (fun d => rfl) ?_
  refine y_ld (x := iv e) rfl rfl (fun d => rfl) ?_
  refine y_ic rfl rfl ?_
  refine y_add (z := e + 1) rfl rfl rfl ?_
  refine y_scr (i := 6 * cnt + 1) rfl rfl (by omega) (by omega) (hA 1 (by decide)) ?_
  refine y_ld (x := .ref 1000000) rfl rfl (fun d => rfl) ?_
  refine y_ld (x := iv e) rfl rfl (fun d => rfl) ?_
  refine y_ic rfl rfl ?_
  refine y_add (z := e + 2) rfl rfl rfl ?_
  refine y_scr (i := 6 * cnt + 2) rfl rfl (by omega) (by omega) (hA 2 (by decide)) ?_
  refine y_ld (x := .ref 1000000) rfl rfl (fun d => rfl) ?_
  refine y_ld (x := iv e) rfl rfl (fun d => rfl) ?_
  refine y_ic rfl rfl ?_
  refine y_add (z := e + 3) rfl rfl rfl ?_
  refine y_scr (i := 6 * cnt + 3) rfl rfl (by omega) (by omega) (hA 3 (by decide)) ?_
  refine y_cV (as := [.ref 0, iv (A 1).toInt, iv (A 2).toInt, iv (A 3).toInt]) rfl rfl rfl rfl rfl (hR.choose_spec.1.1 0 _ _ rfl) ⟨rfl, (Nat.le_of_ble_eq_true rfl), (Nat.le_of_ble_eq_true rfl)⟩ (by decide) (pr_whole hR (i32r _) (i32r _) (i32r _) _ (fun x u1 w1 S1 V1 hM1 h2 => ?_))
  refine y_nv ?_
  refine y_in rfl rfl (fun d => rfl) ?_
  refine y_ld (x := .ref 170) rfl rfl (fun d => rfl) ?_
  refine y_ld (x := .ref 1000000) rfl rfl (fun d => rfl) ?_
  refine y_ld (x := iv e) rfl rfl (fun d => rfl) ?_
  refine y_ic rfl rfl ?_
  refine y_add (z := e + 1) rfl rfl rfl ?_
  refine y_scr (i := 6 * cnt + 1) rfl rfl (by omega) (by omega) (hA 1 (by decide)) ?_
  refine y_ld (x := .ref 1000000) rfl rfl (fun d => rfl) ?_
  refine y_ld (x := iv e) rfl rfl (fun d => rfl) ?_
  refine y_ic rfl rfl ?_
  refine y_add (z := e + 2) rfl rfl rfl ?_
  refine y_scr (i := 6 * cnt + 2) rfl rfl (by omega) (by omega) (hA 2 (by decide)) ?_
  refine y_ld (x := .ref 1000000) rfl rfl (fun d => rfl) ?_
  refine y_ld (x := iv e) rfl rfl (fun d => rfl) ?_
  refine y_ic rfl rfl ?_
  refine y_add (z := e + 3) rfl rfl rfl ?_
  refine y_scr (i := 6 * cnt + 3) rfl rfl (by omega) (by omega) (hA 3 (by decide)) ?_
  refine y_cV (as := [.ref 170, iv (A 1).toInt, iv (A 2).toInt, iv (A 3).toInt]) rfl rfl rfl rfl rfl (md170 hM1) ⟨rfl, (Nat.le_of_ble_eq_true rfl), (Nat.le_of_ble_eq_true rfl)⟩ (by decide) (h2 _ (fun x2 u2 w2 S2 V2 hR2 he => ?_))
  refine y_nv ?_
  refine y_in rfl rfl (fun d => rfl) ?_
  refine y_go rfl rfl ?_
  exact y_mono (ih _ _ _ _ hR2) (by omega)
set_option maxRecDepth 100000 in
set_option maxHeartbeats 4000000 in
theorem w_op15 {xs : List Int32} {cnt F u w : Nat} {S : m_H} {V : v_V} {K : v_K} {A : Nat → Int32} {e : Int} (he0 : e = 6 * (cnt : Int)) (hcn : cnt < 66) (hA : ∀ c : Nat, c < 6 → m_nth xs (6 * cnt + c) = some (A c)) (hR : RR cnt u w S V) (ih : ∀ u2 w2 S2 V2, RR (cnt + 1) u2 w2 S2 V2 → y_E (m_X xs) 60 181 F u2 w2 1147 [(3, iv e), (2, .ref 170), (1, .ref 0), (0, .ref 1000000)] [] S2 V2 K) : y_E (m_X xs) 60 181 (F + 90) u w 721 [(3, iv e), (2, .ref 170), (1, .ref 0), (0, .ref 1000000)] [] S V K := by
  refine y_ld (x := .ref 0) rfl rfl (fun d => rfl) ?_
  refine y_ld (x := .ref 1000000) rfl rfl (fun d => rfl) ?_
  refine y_ld (x := iv e) rfl rfl (fun d => rfl) ?_
  refine y_ic rfl rfl ?_
  refine y_add (z := e + 1) rfl rfl rfl ?_
  refine y_scr (i := 6 * cnt + 1) rfl rfl (by omega) (by omega) (hA 1 (by decide)) ?_
  refine y_cV (as := [.ref 0, iv (A 1).toInt]) rfl rfl rfl rfl rfl (hR.choose_spec.1.1 0 _ _ rfl) ⟨rfl, (Nat.le_of_ble_eq_true rfl), (Nat.le_of_ble_eq_true rfl)⟩ (by decide) (pr_copy hR (by omega) (i32r _) _ (fun x u1 w1 S1 V1 hM1 h2 => ?_))
  refine y_nv ?_
  refine y_in rfl rfl (fun d => rfl) ?_
  refine y_ld (x := .ref 170) rfl rfl (fun d => rfl) ?_
  refine y_ld (x := .ref 1000000) rfl rfl (fun d => rfl) ?_
  refine y_ld (x := iv e) rfl rfl (fun d => rfl) ?_
  refine y_ic rfl rfl ?_
  refine y_add (z := e + 1) rfl rfl rfl ?_
  refine y_scr (i := 6 * cnt + 1) rfl rfl (by omega) (by omega) (hA 1 (by decide)) ?_
  refine y_cV (as := [.ref 170, iv (A 1).toInt]) rfl rfl rfl rfl rfl (md170 hM1) ⟨rfl, (Nat.le_of_ble_eq_true rfl), (Nat.le_of_ble_eq_true rfl)⟩ (by decide) (h2 _ (fun x2 u2 w2 S2 V2 hR2 he => ?_))
  refine y_nv ?_
  refine y_in rfl rfl (fun d => rfl) ?_
  refine y_go rfl rfl ?_
  exact y_mono (ih _ _ _ _ hR2) (by omega)
set_option maxRecDepth 100000 in
set_option maxHeartbeats 4000000 in
theorem w_op16 {xs : List Int32} {cnt F u w : Nat} {S : m_H} {V : v_V} {K : v_K} {A : Nat → Int32} {e : Int} (he0 : e = 6 * (cnt : Int)) (hcn : cnt < 66) (hA : ∀ c : Nat, c < 6 → m_nth xs (6 * cnt + c) = some (A c)) (hR : RR cnt u w S V) (ih : ∀ u2 w2 S2 V2, RR (cnt + 1) u2 w2 S2 V2 → y_E (m_X xs) 60 181 F u2 w2 1147 [(3, iv e), (2, .ref 170), (1, .ref 0), (0, .ref 1000000)] [] S2 V2 K) : y_E (m_X xs) 60 181 (F + 90) u w 744 [(3, iv e), (2, .ref 170), (1, .ref 0), (0, .ref 1000000)] [] S V K := by
  refine y_ld (x := .ref 0) rfl rfl (fun d => rfl) ?_
  refine y_ld (x := .ref 1000000) rfl rfl (fun d => rfl) ?_
  refine y_ld (x := iv e) rfl rfl (fun d => rfl) ?_
  refine y_ic rfl rfl ?_
  refine y_add (z := e + 1) rfl rfl rfl ?_
  refine y_scr (i := 6 * cnt + 1) rfl rfl (by omega) (by omega) (hA 1 (by decide)) ?_
  refine y_cV (as := [.ref 0, iv (A 1).toInt]) rfl rfl rfl rfl rfl (hR.choose_spec.1.1 0 _ _ rfl) ⟨rfl, (Nat.le_of_ble_eq_true rfl), (Nat.le_of_ble_eq_true rfl)⟩ (by decide) (pr_fall hR (i32r _) _ (fun x u1 w1 S1 V1 hM1 h2 => ?_))
  refine y_nv ?_
  refine y_in rfl rfl (fun d => rfl) ?_
  refine y_ld (x := .ref 170) rfl rfl (fun d => rfl) ?_
  refine y_ld (x := .ref 1000000) rfl rfl (fun d => rfl) ?_
  refine y_ld (x := iv e) rfl rfl (fun d => rfl) ?_
  refine y_ic rfl rfl ?_
  refine y_add (z := e + 1) rfl rfl rfl ?_
  refine y_scr (i := 6 * cnt + 1) rfl rfl (by omega) (by omega) (hA 1 (by decide)) ?_
  refine y_cV (as := [.ref 170, iv (A 1).toInt]) rfl rfl rfl rfl rfl (md170 hM1) ⟨rfl, (Nat.le_of_ble_eq_true rfl), (Nat.le_of_ble_eq_true rfl)⟩ (by decide) (h2 _ (fun x2 u2 w2 S2 V2 hR2 he => ?_))
  refine y_nv ?_
  refine y_in rfl rfl (fun d => rfl) ?_
  refine y_go rfl rfl ?_
  exact y_mono (ih _ _ _ _ hR2) (by omega)
set_option maxRecDepth 100000 in
set_option maxHeartbeats 4000000 in
theorem w_op17 {xs : List Int32} {cnt F u w : Nat} {S : m_H} {V : v_V} {K : v_K} {A : Nat → Int32} {e : Int} (he0 : e = 6 * (cnt : Int)) (hcn : cnt < 66) (hA : ∀ c : Nat, c < 6 → m_nth xs (6 * cnt + c) = some (A c)) (hR : RR cnt u w S V) (ih : ∀ u2 w2 S2 V2, RR (cnt + 1) u2 w2 S2 V2 → y_E (m_X xs) 60 181 F u2 w2 1147 [(3, iv e), (2, .ref 170), (1, .ref 0), (0, .ref 1000000)] [] S2 V2 K) : y_E (m_X xs) 60 181 (F + 90) u w 767 [(3, iv e), (2, .ref 170), (1, .ref 0), (0, .ref 1000000)] [] S V K := by
  refine y_ld (x := .ref 0) rfl rfl (fun d => rfl) ?_
  refine y_ld (x := .ref 1000000) rfl rfl (fun d => rfl) ?_
  refine y_ld (x := iv e) rfl rfl (fun d => rfl) ?_
  refine y_ic rfl rfl ?_
  refine y_add (z := e + 1) rfl rfl rfl ?_
  refine y_scr (i := 6 * cnt + 1) rfl rfl (by omega) (by omega) (hA 1 (by decide)) ?_
  refine y_ld (x := .ref 1000000) rfl rfl (fun d => rfl) ?_
  refine y_ld (x := iv e) rfl rfl (fun d => rfl) ?_
  refine y_ic rfl rfl ?_
  refine y_add (z := e + 2) rfl rfl rfl ?_
  refine y_scr (i := 6 * cnt + 2) rfl rfl (by omega) (by omega) (hA 2 (by decide)) ?_
  refine y_ld (x := .ref 1000000) rfl rfl (fun d => rfl) ?_
  refine y_ld (x := iv e) rfl rfl (fun d => rfl) ?_
  refine y_ic rfl rfl ?_
  refine y_add (z := e + 3) rfl rfl rfl ?_
  refine y_scr (i := 6 * cnt + 3) rfl rfl (by omega) (by omega) (hA 3 (by decide)) ?_
  refine y_ld (x := .ref 1000000) rfl rfl (fun d => rfl) ?_
  refine y_ld (x := iv e) rfl rfl (fun d => rfl) ?_
  refine y_ic rfl rfl ?_
  refine y_add (z := e + 4) rfl rfl rfl ?_
  refine y_scr (i := 6 * cnt + 4) rfl rfl (by omega) (by omega) (hA 4 (by decide)) ?_
  refine y_cV (as := [.ref 0, iv (A 1).toInt, iv (A 2).toInt, iv (A 3).toInt, iv (A 4).toInt]) rfl rfl rfl rfl rfl (hR.choose_spec.1.1 0 _ _ rfl) ⟨rfl, (Nat.le_of_ble_eq_true rfl), (Nat.le_of_ble_eq_true rfl)⟩ (by decide) (pr_letter hR (by omega) (i32r _) (i32r _) (i32r _) (i32r _) _ (fun x u1 w1 S1 V1 hM1 h2 => ?_))
  refine y_nv ?_
  refine y_in rfl rfl (fun d => rfl) ?_
  refine y_ld (x := .ref 170) rfl rfl (fun d => rfl) ?_
  refine y_ld (x := .ref 1000000) rfl rfl (fun d => rfl) ?_
  refine y_ld (x := iv e) rfl rfl (fun d => rfl) ?_
  refine y_ic rfl rfl ?_
  refine y_add (z := e + 1) rfl rfl rfl ?_
  refine y_scr (i := 6 * cnt + 1) rfl rfl (by omega) (by omega) (hA 1 (by decide)) ?_
  refine y_ld (x := .ref 1000000) rfl rfl (fun d => rfl) ?_
  refine y_ld (x := iv e) rfl rfl (fun d => rfl) ?_
  refine y_ic rfl rfl ?_
  refine y_add (z := e + 2) rfl rfl rfl ?_
  refine y_scr (i := 6 * cnt + 2) rfl rfl (by omega) (by omega) (hA 2 (by decide)) ?_
  refine y_ld (x := .ref 1000000) rfl rfl (fun d => rfl) ?_
  refine y_ld (x := iv e) rfl rfl (fun d => rfl) ?_
  refine y_ic rfl rfl ?_
  refine y_add (z := e + 3) rfl rfl rfl ?_
  refine y_scr (i := 6 * cnt + 3) rfl rfl (by omega) (by omega) (hA 3 (by decide)) ?_
  refine y_ld (x := .ref 1000000) rfl rfl (fun d => rfl) ?_
  refine y_ld (x := iv e) rfl rfl (fun d => rfl) ?_
  refine y_ic rfl rfl ?_
  refine y_add (z := e + 4) rfl rfl rfl ?_
  refine y_scr (i := 6 * cnt + 4) rfl rfl (by omega) (by omega) (hA 4 (by decide)) ?_
  refine y_cV (as := [.ref 170, iv (A 1).toInt, iv (A 2).toInt, iv (A 3).toInt, iv (A 4).toInt]) rfl rfl rfl rfl rfl (md170 hM1) ⟨rfl, (Nat.le_of_ble_eq_true rfl), (Nat.le_of_ble_eq_true rfl)⟩ (by decide) (h2 _ (fun x2 u2 w2 S2 V2 hR2 he => ?_))
  refine y_nv ?_
  refine y_in rfl rfl (fun d => rfl) ?_
  refine y_go rfl rfl ?_
  exact y_mono (ih _ _ _ _ hR2) (by omega)
set_option maxRecDepth 100000 in
set_option maxHeartbeats 4000000 in
theorem w_op18 {xs : List Int32} {cnt F u w : Nat} {S : m_H} {V : v_V} {K : v_K} {A : Nat → Int32} {e : Int} (he0 : e = 6 * (cnt : Int)) (hcn : cnt < 66) (hA : ∀ c : Nat, c < 6 → m_nth xs (6 * cnt + c) = some (A c)) (hR : RR cnt u w S V) (ih : ∀ u2 w2 S2 V2, RR (cnt + 1) u2 w2 S2 V2 → y_E (m_X xs) 60 181 F u2 w2 1147 [(3, iv e), (2, .ref 170), (1, .ref 0), (0, .ref 1000000)] [] S2 V2 K) : y_E (m_X xs) 60 181 (F + 90) u w 820 [(3, iv e), (2, .ref 170), (1, .ref 0), (0, .ref 1000000)] [] S V K := by
  refine y_ld (x := .ref 0) rfl rfl (fun d => rfl) ?_
  refine y_ld (x := .ref 1000000) rfl rfl (fun d => rfl) ?_
  refine y_ld (x := iv e) rfl rfl (fun d => rfl) ?_
  refine y_ic rfl rfl ?_
  refine y_add (z := e + 1) rfl rfl rfl ?_
  refine y_scr (i := 6 * cnt + 1) rfl rfl (by omega) (by omega) (hA 1 (by decide)) ?_
  refine y_ld (x := .ref 1000000) rfl rfl (fun d => rfl) ?_
  refine y_ld (x := iv e) rfl rfl (fun d => rfl) ?_
  refine y_ic rfl rfl ?_
  refine y_add (z := e + 2) rfl rfl rfl ?_
  refine y_scr (i := 6 * cnt + 2) rfl rfl (by omega) (by omega) (hA 2 (by decide)) ?_
  refine y_ld (x := .ref 1000000) rfl rfl (fun d => rfl) ?_
  refine y_ld (x := iv e) rfl rfl (fun d => rfl) ?_
  refine y_ic rfl rfl ?_
  refine y_add (z := e + 3) rfl rfl rfl ?_
  refine y_scr (i := 6 * cnt + 3) rfl rfl (by omega) (by omega) (hA 3 (by decide)) ?_
  refine y_ld (x := .ref 1000000) rfl rfl (fun d => rfl) ?_
  refine y_ld (x := iv e) rfl rfl (fun d => rfl) ?_
  refine y_ic rfl rfl ?_
  refine y_add (z := e + 4) rfl rfl rfl ?_
  refine y_scr (i := 6 * cnt + 4) rfl rfl (by omega) (by omega) (hA 4 (by decide)) ?_
  refine y_ld (x := .ref 1000000) rfl rfl (fun d => rfl) ?_
  refine y_ld (x := iv e) rfl rfl (fun d => rfl) ?_
  refine y_ic rfl rfl ?_
  refine y_add (z := e + 5) rfl rfl rfl ?_
  refine y_scr (i := 6 * cnt + 5) rfl rfl (by omega) (by omega) (hA 5 (by decide)) ?_
  refine y_cV (as := [.ref 0, iv (A 1).toInt, iv (A 2).toInt, iv (A 3).toInt, iv (A 4).toInt, iv (A 5).toInt]) rfl rfl rfl rfl rfl (hR.choose_spec.1.1 0 _ _ rfl) ⟨rfl, (Nat.le_of_ble_eq_true rfl), (Nat.le_of_ble_eq_true rfl)⟩ (by decide) (pr_shown hR (i32r _) (i32r _) (i32r _) (i32r _) (i32r _) _ (fun x u1 w1 S1 V1 hM1 h2 => ?_))
  refine y_nv ?_
  refine y_in rfl rfl (fun d => rfl) ?_
  refine y_ld (x := .ref 170) rfl rfl (fun d => rfl) ?_
  refine y_ld (x := .ref 1000000) rfl rfl (fun d => rfl) ?_
  refine y_ld (x := iv e) rfl rfl (fun d => rfl) ?_
  refine y_ic rfl rfl ?_
  refine y_add (z := e + 1) rfl rfl rfl ?_
  refine y_scr (i := 6 * cnt + 1) rfl rfl (by omega) (by omega) (hA 1 (by decide)) ?_
  refine y_ld (x := .ref 1000000) rfl rfl (fun d => rfl) ?_
  refine y_ld (x := iv e) rfl rfl (fun d => rfl) ?_
  refine y_ic rfl rfl ?_
  refine y_add (z := e + 2) rfl rfl rfl ?_
  refine y_scr (i := 6 * cnt + 2) rfl rfl (by omega) (by omega) (hA 2 (by decide)) ?_
  refine y_ld (x := .ref 1000000) rfl rfl (fun d => rfl) ?_
  refine y_ld (x := iv e) rfl rfl (fun d => rfl) ?_
  refine y_ic rfl rfl ?_
  refine y_add (z := e + 3) rfl rfl rfl ?_
  refine y_scr (i := 6 * cnt + 3) rfl rfl (by omega) (by omega) (hA 3 (by decide)) ?_
  refine y_ld (x := .ref 1000000) rfl rfl (fun d => rfl) ?_
  refine y_ld (x := iv e) rfl rfl (fun d => rfl) ?_
  refine y_ic rfl rfl ?_
  refine y_add (z := e + 4) rfl rfl rfl ?_
  refine y_scr (i := 6 * cnt + 4) rfl rfl (by omega) (by omega) (hA 4 (by decide)) ?_
  refine y_ld (x := .ref 1000000) rfl rfl (fun d => rfl) ?_
  refine y_ld (x := iv e) rfl rfl (fun d => rfl) ?_
  refine y_ic rfl rfl ?_
  refine y_add (z := e + 5) rfl rfl rfl ?_
  refine y_scr (i := 6 * cnt + 5) rfl rfl (by omega) (by omega) (hA 5 (by decide)) ?_
  refine y_cV (as := [.ref 170, iv (A 1).toInt, iv (A 2).toInt, iv (A 3).toInt, iv (A 4).toInt, iv (A 5).toInt]) rfl rfl rfl rfl rfl (md170 hM1) ⟨rfl, (Nat.le_of_ble_eq_true rfl), (Nat.le_of_ble_eq_true rfl)⟩ (by decide) (h2 _ (fun x2 u2 w2 S2 V2 hR2 he => ?_))
  refine y_nv ?_
  refine y_in rfl rfl (fun d => rfl) ?_
  refine y_go rfl rfl ?_
  exact y_mono (ih _ _ _ _ hR2) (by omega)
set_option maxRecDepth 100000 in
set_option maxHeartbeats 4000000 in
theorem w_op19 {xs : List Int32} {cnt F u w : Nat} {S : m_H} {V : v_V} {K : v_K} {A : Nat → Int32} {e : Int} (he0 : e = 6 * (cnt : Int)) (hcn : cnt < 66) (hA : ∀ c : Nat, c < 6 → m_nth xs (6 * cnt + c) = some (A c)) (hR : RR cnt u w S V) (ih : ∀ u2 w2 S2 V2, RR (cnt + 1) u2 w2 S2 V2 → y_E (m_X xs) 60 181 F u2 w2 1147 [(3, iv e), (2, .ref 170), (1, .ref 0), (0, .ref 1000000)] [] S2 V2 K) : y_E (m_X xs) 60 181 (F + 90) u w 883 [(3, iv e), (2, .ref 170), (1, .ref 0), (0, .ref 1000000)] [] S V K := by
  refine y_ld (x := .ref 0) rfl rfl (fun d => rfl) ?_
  refine y_ld (x := .ref 1000000) rfl rfl (fun d => rfl) ?_
  refine y_ld (x := iv e) rfl rfl (fun d => rfl) ?_
  refine y_ic rfl rfl ?_
  refine y_add (z := e + 1) rfl rfl rfl ?_
  refine y_scr (i := 6 * cnt + 1) rfl rfl (by omega) (by omega) (hA 1 (by decide)) ?_
  refine y_ld (x := .ref 1000000) rfl rfl (fun d => rfl) ?_
  refine y_ld (x := iv e) rfl rfl (fun d => rfl) ?_
  refine y_ic rfl rfl ?_
  refine y_add (z := e + 2) rfl rfl rfl ?_
  refine y_scr (i := 6 * cnt + 2) rfl rfl (by omega) (by omega) (hA 2 (by decide)) ?_
  refine y_ld (x := .ref 1000000) rfl rfl (fun d => rfl) ?_
  refine y_ld (x := iv e) rfl rfl (fun d => rfl) ?_
  refine y_ic rfl rfl ?_
  refine y_add (z := e + 3) rfl rfl rfl ?_
  refine y_scr (i := 6 * cnt + 3) rfl rfl (by omega) (by omega) (hA 3 (by decide)) ?_
  refine y_ld (x := .ref 1000000) rfl rfl (fun d => rfl) ?_
  refine y_ld (x := iv e) rfl rfl (fun d => rfl) ?_
  refine y_ic rfl rfl ?_
  refine y_add (z := e + 4) rfl rfl rfl ?_
  refine y_scr (i := 6 * cnt + 4) rfl rfl (by omega) (by omega) (hA 4 (by decide)) ?_
  refine y_cV (as := [.ref 0, iv (A 1).toInt, iv (A 2).toInt, iv (A 3).toInt, iv (A 4).toInt]) rfl rfl rfl rfl rfl (hR.choose_spec.1.1 0 _ _ rfl) ⟨rfl, (Nat.le_of_ble_eq_true rfl), (Nat.le_of_ble_eq_true rfl)⟩ (by decide) (pr_ways hR (i32r _) (i32r _) (i32r _) (i32r _) _ (fun x u1 w1 S1 V1 hM1 h2 => ?_))
  refine y_nv ?_
  refine y_in rfl rfl (fun d => rfl) ?_
  refine y_ld (x := .ref 170) rfl rfl (fun d => rfl) ?_
  refine y_ld (x := .ref 1000000) rfl rfl (fun d => rfl) ?_
  refine y_ld (x := iv e) rfl rfl (fun d => rfl) ?_
  refine y_ic rfl rfl ?_
  refine y_add (z := e + 1) rfl rfl rfl ?_
  refine y_scr (i := 6 * cnt + 1) rfl rfl (by omega) (by omega) (hA 1 (by decide)) ?_
  refine y_ld (x := .ref 1000000) rfl rfl (fun d => rfl) ?_
  refine y_ld (x := iv e) rfl rfl (fun d => rfl) ?_
  refine y_ic rfl rfl ?_
  refine y_add (z := e + 2) rfl rfl rfl ?_
  refine y_scr (i := 6 * cnt + 2) rfl rfl (by omega) (by omega) (hA 2 (by decide)) ?_
  refine y_ld (x := .ref 1000000) rfl rfl (fun d => rfl) ?_
  refine y_ld (x := iv e) rfl rfl (fun d => rfl) ?_
  refine y_ic rfl rfl ?_
  refine y_add (z := e + 3) rfl rfl rfl ?_
  refine y_scr (i := 6 * cnt + 3) rfl rfl (by omega) (by omega) (hA 3 (by decide)) ?_
  refine y_ld (x := .ref 1000000) rfl rfl (fun d => rfl) ?_
  refine y_ld (x := iv e) rfl rfl (fun d => rfl) ?_
  refine y_ic rfl rfl ?_
  refine y_add (z := e + 4) rfl rfl rfl ?_
  refine y_scr (i := 6 * cnt + 4) rfl rfl (by omega) (by omega) (hA 4 (by decide)) ?_
  refine y_cV (as := [.ref 170, iv (A 1).toInt, iv (A 2).toInt, iv (A 3).toInt, iv (A 4).toInt]) rfl rfl rfl rfl rfl (md170 hM1) ⟨rfl, (Nat.le_of_ble_eq_true rfl), (Nat.le_of_ble_eq_true rfl)⟩ (by decide) (h2 _ (fun x2 u2 w2 S2 V2 hR2 he => ?_))
  refine y_nv ?_
  refine y_in rfl rfl (fun d => rfl) ?_
  refine y_go rfl rfl ?_
  exact y_mono (ih _ _ _ _ hR2) (by omega)
set_option maxRecDepth 100000 in
set_option maxHeartbeats 4000000 in
theorem w_op20 {xs : List Int32} {cnt F u w : Nat} {S : m_H} {V : v_V} {K : v_K} {A : Nat → Int32} {e : Int} (he0 : e = 6 * (cnt : Int)) (hcn : cnt < 66) (hA : ∀ c : Nat, c < 6 → m_nth xs (6 * cnt + c) = some (A c)) (hR : RR cnt u w S V) (ih : ∀ u2 w2 S2 V2, RR (cnt + 1) u2 w2 S2 V2 → y_E (m_X xs) 60 181 F u2 w2 1147 [(3, iv e), (2, .ref 170), (1, .ref 0), (0, .ref 1000000)] [] S2 V2 K) : y_E (m_X xs) 60 181 (F + 90) u w 936 [(3, iv e), (2, .ref 170), (1, .ref 0), (0, .ref 1000000)] [] S V K := by
  refine y_ld (x := .ref 0) rfl rfl (fun d => rfl) ?_
  refine y_ld (x := .ref 1000000) rfl rfl (fun d => rfl) ?_
  refine y_ld (x := iv e) rfl rfl (fun d => rfl) ?_
  refine y_ic rfl rfl ?_
  refine y_add (z := e + 1) rfl rfl rfl ?_
  refine y_scr (i := 6 * cnt + 1) rfl rfl (by omega) (by omega) (hA 1 (by decide)) ?_
  refine y_ld (x := .ref 1000000) rfl rfl (fun d => rfl) ?_
  refine y_ld (x := iv e) rfl rfl (fun d => rfl) ?_
  refine y_ic rfl rfl ?_
  refine y_add (z := e + 2) rfl rfl rfl ?_
  refine y_scr (i := 6 * cnt + 2) rfl rfl (by omega) (by omega) (hA 2 (by decide)) ?_
  refine y_ld (x := .ref 1000000) rfl rfl (fun d => rfl) ?_
  refine y_ld (x := iv e) rfl rfl (fun d => rfl) ?_
  refine y_ic rfl rfl ?_
  refine y_add (z := e + 3) rfl rfl rfl ?_
  refine y_scr (i := 6 * cnt + 3) rfl rfl (by omega) (by omega) (hA 3 (by decide)) ?_
  refine y_ld (x := .ref 1000000) rfl rfl (fun d => rfl) ?_
  refine y_ld (x := iv e) rfl rfl (fun d => rfl) ?_
  refine y_ic rfl rfl ?_
  refine y_add (z := e + 4) rfl rfl rfl ?_
  refine y_scr (i := 6 * cnt + 4) rfl rfl (by omega) (by omega) (hA 4 (by decide)) ?_
  refine y_ld (x := .ref 1000000) rfl rfl (fun d => rfl) ?_
  refine y_ld (x := iv e) rfl rfl (fun d => rfl) ?_
  refine y_ic rfl rfl ?_
  refine y_add (z := e + 5) rfl rfl rfl ?_
  refine y_scr (i := 6 * cnt + 5) rfl rfl (by omega) (by omega) (hA 5 (by decide)) ?_
  refine y_cV (as := [.ref 0, iv (A 1).toInt, iv (A 2).toInt, iv (A 3).toInt, iv (A 4).toInt, iv (A 5).toInt]) rfl rfl rfl rfl rfl (hR.choose_spec.1.1 0 _ _ rfl) ⟨rfl, (Nat.le_of_ble_eq_true rfl), (Nat.le_of_ble_eq_true rfl)⟩ (by decide) (pr_orders hR (i32r _) (i32r _) (i32r _) (i32r _) (i32r _) _ (fun x u1 w1 S1 V1 hM1 h2 => ?_))
  refine y_nv ?_
  refine y_in rfl rfl (fun d => rfl) ?_
  refine y_ld (x := .ref 170) rfl rfl (fun d => rfl) ?_
  refine y_ld (x := .ref 1000000) rfl rfl (fun d => rfl) ?_
  refine y_ld (x := iv e) rfl rfl (fun d => rfl) ?_
  refine y_ic rfl rfl ?_
  refine y_add (z := e + 1) rfl rfl rfl ?_
  refine y_scr (i := 6 * cnt + 1) rfl rfl (by omega) (by omega) (hA 1 (by decide)) ?_
  refine y_ld (x := .ref 1000000) rfl rfl (fun d => rfl) ?_
  refine y_ld (x := iv e) rfl rfl (fun d => rfl) ?_
  refine y_ic rfl rfl ?_
  refine y_add (z := e + 2) rfl rfl rfl ?_
  refine y_scr (i := 6 * cnt + 2) rfl rfl (by omega) (by omega) (hA 2 (by decide)) ?_
  refine y_ld (x := .ref 1000000) rfl rfl (fun d => rfl) ?_
  refine y_ld (x := iv e) rfl rfl (fun d => rfl) ?_
  refine y_ic rfl rfl ?_
  refine y_add (z := e + 3) rfl rfl rfl ?_
  refine y_scr (i := 6 * cnt + 3) rfl rfl (by omega) (by omega) (hA 3 (by decide)) ?_
  refine y_ld (x := .ref 1000000) rfl rfl (fun d => rfl) ?_
  refine y_ld (x := iv e) rfl rfl (fun d => rfl) ?_
  refine y_ic rfl rfl ?_
  refine y_add (z := e + 4) rfl rfl rfl ?_
  refine y_scr (i := 6 * cnt + 4) rfl rfl (by omega) (by omega) (hA 4 (by decide)) ?_
  refine y_ld (x := .ref 1000000) rfl rfl (fun d => rfl) ?_
  refine y_ld (x := iv e) rfl rfl (fun d => rfl) ?_
  refine y_ic rfl rfl ?_
  refine y_add (z := e + 5) rfl rfl rfl ?_
  refine y_scr (i := 6 * cnt + 5) rfl rfl (by omega) (by omega) (hA 5 (by decide)) ?_
  refine y_cV (as := [.ref 170, iv (A 1).toInt, iv (A 2).toInt, iv (A 3).toInt, iv (A 4).toInt, iv (A 5).toInt]) rfl rfl rfl rfl rfl (md170 hM1) ⟨rfl, (Nat.le_of_ble_eq_true rfl), (Nat.le_of_ble_eq_true rfl)⟩ (by decide) (h2 _ (fun x2 u2 w2 S2 V2 hR2 he => ?_))
  refine y_nv ?_
  refine y_in rfl rfl (fun d => rfl) ?_
  refine y_go rfl rfl ?_
  exact y_mono (ih _ _ _ _ hR2) (by omega)
set_option maxRecDepth 100000 in
set_option maxHeartbeats 4000000 in
theorem w_op21 {xs : List Int32} {cnt F u w : Nat} {S : m_H} {V : v_V} {K : v_K} {A : Nat → Int32} {e : Int} (he0 : e = 6 * (cnt : Int)) (hcn : cnt < 66) (hA : ∀ c : Nat, c < 6 → m_nth xs (6 * cnt + c) = some (A c)) (hR : RR cnt u w S V) (ih : ∀ u2 w2 S2 V2, RR (cnt + 1) u2 w2 S2 V2 → y_E (m_X xs) 60 181 F u2 w2 1147 [(3, iv e), (2, .ref 170), (1, .ref 0), (0, .ref 1000000)] [] S2 V2 K) : y_E (m_X xs) 60 181 (F + 90) u w 999 [(3, iv e), (2, .ref 170), (1, .ref 0), (0, .ref 1000000)] [] S V K := by
  refine y_ld (x := .ref 0) rfl rfl (fun d => rfl) ?_
  refine y_ld (x := .ref 1000000) rfl rfl (fun d => rfl) ?_
  refine y_ld (x := iv e) rfl rfl (fun d => rfl) ?_
  refine y_ic rfl rfl ?_
  refine y_add (z := e + 1) rfl rfl rfl ?_
  refine y_scr (i := 6 * cnt + 1) rfl rfl (by omega) (by omega) (hA 1 (by decide)) ?_
  refine y_ld (x := .ref 1000000) rfl rfl (fun d => rfl) ?_
  refine y_ld (x := iv e) rfl rfl (fun d => rfl) ?_
  refine y_ic rfl rfl ?_
  refine y_add (z := e + 2) rfl rfl rfl ?_
  refine y_scr (i := 6 * cnt + 2) rfl rfl (by omega) (by omega) (hA 2 (by decide)) ?_
  refine y_ld (x := .ref 1000000) rfl rfl (fun d => rfl) ?_
  refine y_ld (x := iv e) rfl rfl (fun d => rfl) ?_
  refine y_ic rfl rfl ?_
  refine y_add (z := e + 3) rfl rfl rfl ?_
  refine y_scr (i := 6 * cnt + 3) rfl rfl (by omega) (by omega) (hA 3 (by decide)) ?_
  refine y_top (v_oi (A 3)) ?_
  refine y_cV (as := [.ref 0, iv (A 1).toInt, iv (A 2).toInt, .int (A 3)]) rfl rfl rfl rfl rfl (hR.choose_spec.1.1 0 _ _ rfl) ⟨rfl, (Nat.le_of_ble_eq_true rfl), (Nat.le_of_ble_eq_true rfl)⟩ (by decide) (pr_act hR rfl rfl rfl (i32r _) (i32r _) _ (fun x u1 w1 S1 V1 hM1 h2 => ?_))
  refine y_nv ?_
  refine y_in rfl rfl (fun d => rfl) ?_
  refine y_ld (x := .ref 170) rfl rfl (fun d => rfl) ?_
  refine y_ld (x := .ref 1000000) rfl rfl (fun d => rfl) ?_
  refine y_ld (x := iv e) rfl rfl (fun d => rfl) ?_
  refine y_ic rfl rfl ?_
  refine y_add (z := e + 1) rfl rfl rfl ?_
  refine y_scr (i := 6 * cnt + 1) rfl rfl (by omega) (by omega) (hA 1 (by decide)) ?_
  refine y_ld (x := .ref 1000000) rfl rfl (fun d => rfl) ?_
  refine y_ld (x := iv e) rfl rfl (fun d => rfl) ?_
  refine y_ic rfl rfl ?_
  refine y_add (z := e + 2) rfl rfl rfl ?_
  refine y_scr (i := 6 * cnt + 2) rfl rfl (by omega) (by omega) (hA 2 (by decide)) ?_
  refine y_ld (x := .ref 1000000) rfl rfl (fun d => rfl) ?_
  refine y_ld (x := iv e) rfl rfl (fun d => rfl) ?_
  refine y_ic rfl rfl ?_
  refine y_add (z := e + 3) rfl rfl rfl ?_
  refine y_scr (i := 6 * cnt + 3) rfl rfl (by omega) (by omega) (hA 3 (by decide)) ?_
  refine y_top (v_oi (A 3)) ?_
  refine y_cV (as := [.ref 170, iv (A 1).toInt, iv (A 2).toInt, .int (A 3)]) rfl rfl rfl rfl rfl (md170 hM1) ⟨rfl, (Nat.le_of_ble_eq_true rfl), (Nat.le_of_ble_eq_true rfl)⟩ (by decide) (h2 _ (fun x2 u2 w2 S2 V2 hR2 he => ?_))
  refine y_nv ?_
  refine y_in rfl rfl (fun d => rfl) ?_
  refine y_go rfl rfl ?_
  exact y_mono (ih _ _ _ _ hR2) (by omega)
set_option maxRecDepth 100000 in
set_option maxHeartbeats 4000000 in
theorem w_op22 {xs : List Int32} {cnt F u w : Nat} {S : m_H} {V : v_V} {K : v_K} {A : Nat → Int32} {e : Int} (he0 : e = 6 * (cnt : Int)) (hcn : cnt < 66) (hA : ∀ c : Nat, c < 6 → m_nth xs (6 * cnt + c) = some (A c)) (hR : RR cnt u w S V) (ih : ∀ u2 w2 S2 V2, RR (cnt + 1) u2 w2 S2 V2 → y_E (m_X xs) 60 181 F u2 w2 1147 [(3, iv e), (2, .ref 170), (1, .ref 0), (0, .ref 1000000)] [] S2 V2 K) : y_E (m_X xs) 60 181 (F + 90) u w 1042 [(3, iv e), (2, .ref 170), (1, .ref 0), (0, .ref 1000000)] [] S V K := by
  refine y_ld (x := .ref 0) rfl rfl (fun d => rfl) ?_
  refine y_ld (x := .ref 1000000) rfl rfl (fun d => rfl) ?_
  refine y_ld (x := iv e) rfl rfl (fun d => rfl) ?_
  refine y_ic rfl rfl ?_
  refine y_add (z := e + 1) rfl rfl rfl ?_
  refine y_scr (i := 6 * cnt + 1) rfl rfl (by omega) (by omega) (hA 1 (by decide)) ?_
  refine y_cV (as := [.ref 0, iv (A 1).toInt]) rfl rfl rfl rfl rfl (hR.choose_spec.1.1 0 _ _ rfl) ⟨rfl, (Nat.le_of_ble_eq_true rfl), (Nat.le_of_ble_eq_true rfl)⟩ (by decide) (pr_trace hR (i32r _) _ (fun x u1 w1 S1 V1 hM1 h2 => ?_))
  refine y_nv ?_
  refine y_in rfl rfl (fun d => rfl) ?_
  refine y_ld (x := .ref 170) rfl rfl (fun d => rfl) ?_
  refine y_ld (x := .ref 1000000) rfl rfl (fun d => rfl) ?_
  refine y_ld (x := iv e) rfl rfl (fun d => rfl) ?_
  refine y_ic rfl rfl ?_
  refine y_add (z := e + 1) rfl rfl rfl ?_
  refine y_scr (i := 6 * cnt + 1) rfl rfl (by omega) (by omega) (hA 1 (by decide)) ?_
  refine y_cV (as := [.ref 170, iv (A 1).toInt]) rfl rfl rfl rfl rfl (md170 hM1) ⟨rfl, (Nat.le_of_ble_eq_true rfl), (Nat.le_of_ble_eq_true rfl)⟩ (by decide) (h2 _ (fun x2 u2 w2 S2 V2 hR2 he => ?_))
  refine y_nv ?_
  refine y_in rfl rfl (fun d => rfl) ?_
  refine y_go rfl rfl ?_
  exact y_mono (ih _ _ _ _ hR2) (by omega)
set_option maxRecDepth 100000 in
set_option maxHeartbeats 4000000 in
theorem w_op23 {xs : List Int32} {cnt F u w : Nat} {S : m_H} {V : v_V} {K : v_K} {A : Nat → Int32} {e : Int} (he0 : e = 6 * (cnt : Int)) (hcn : cnt < 66) (hA : ∀ c : Nat, c < 6 → m_nth xs (6 * cnt + c) = some (A c)) (hR : RR cnt u w S V) (ih : ∀ u2 w2 S2 V2, RR (cnt + 1) u2 w2 S2 V2 → y_E (m_X xs) 60 181 F u2 w2 1147 [(3, iv e), (2, .ref 170), (1, .ref 0), (0, .ref 1000000)] [] S2 V2 K) : y_E (m_X xs) 60 181 (F + 90) u w 1065 [(3, iv e), (2, .ref 170), (1, .ref 0), (0, .ref 1000000)] [] S V K := by
  refine y_ld (x := .ref 0) rfl rfl (fun d => rfl) ?_
  refine y_ld (x := .ref 1000000) rfl rfl (fun d => rfl) ?_
  refine y_ld (x := iv e) rfl rfl (fun d => rfl) ?_
  refine y_ic rfl rfl ?_
  refine y_add (z := e + 1) rfl rfl rfl ?_
  refine y_scr (i := 6 * cnt + 1) rfl rfl (by omega) (by omega) (hA 1 (by decide)) ?_
  refine y_ld (x := .ref 1000000) rfl rfl (fun d => rfl) ?_
  refine y_ld (x := iv e) rfl rfl (fun d => rfl) ?_
  refine y_ic rfl rfl ?_
  refine y_add (z := e + 2) rfl rfl rfl ?_
  refine y_scr (i := 6 * cnt + 2) rfl rfl (by omega) (by omega) (hA 2 (by decide)) ?_
  refine y_cV (as := [.ref 0, iv (A 1).toInt, iv (A 2).toInt]) rfl rfl rfl rfl rfl (hR.choose_spec.1.1 0 _ _ rfl) ⟨rfl, (Nat.le_of_ble_eq_true rfl), (Nat.le_of_ble_eq_true rfl)⟩ (by decide) (pr_as rfl rfl hR (i32r _) (i32r _) _ (fun x u1 w1 S1 V1 hM1 h2 => ?_))
  refine y_nv ?_
  refine y_in rfl rfl (fun d => rfl) ?_
  refine y_ld (x := .ref 170) rfl rfl (fun d => rfl) ?_
  refine y_ld (x := .ref 1000000) rfl rfl (fun d => rfl) ?_
  refine y_ld (x := iv e) rfl rfl (fun d => rfl) ?_
  refine y_ic rfl rfl ?_
  refine y_add (z := e + 1) rfl rfl rfl ?_
  refine y_scr (i := 6 * cnt + 1) rfl rfl (by omega) (by omega) (hA 1 (by decide)) ?_
  refine y_ld (x := .ref 1000000) rfl rfl (fun d => rfl) ?_
  refine y_ld (x := iv e) rfl rfl (fun d => rfl) ?_
  refine y_ic rfl rfl ?_
  refine y_add (z := e + 2) rfl rfl rfl ?_
  refine y_scr (i := 6 * cnt + 2) rfl rfl (by omega) (by omega) (hA 2 (by decide)) ?_
  refine y_cV (as := [.ref 170, iv (A 1).toInt, iv (A 2).toInt]) rfl rfl rfl rfl rfl (md170 hM1) ⟨rfl, (Nat.le_of_ble_eq_true rfl), (Nat.le_of_ble_eq_true rfl)⟩ (by decide) (h2 _ (fun x2 u2 w2 S2 V2 hR2 he => ?_))
  refine y_nv ?_
  refine y_in rfl rfl (fun d => rfl) ?_
  refine y_go rfl rfl ?_
  exact y_mono (ih _ _ _ _ hR2) (by omega)
set_option maxRecDepth 100000 in
set_option maxHeartbeats 4000000 in
theorem w_op24 {xs : List Int32} {cnt F u w : Nat} {S : m_H} {V : v_V} {K : v_K} {A : Nat → Int32} {e : Int} (he0 : e = 6 * (cnt : Int)) (hcn : cnt < 66) (hA : ∀ c : Nat, c < 6 → m_nth xs (6 * cnt + c) = some (A c)) (hR : RR cnt u w S V) (ih : ∀ u2 w2 S2 V2, RR (cnt + 1) u2 w2 S2 V2 → y_E (m_X xs) 60 181 F u2 w2 1147 [(3, iv e), (2, .ref 170), (1, .ref 0), (0, .ref 1000000)] [] S2 V2 K) : y_E (m_X xs) 60 181 (F + 90) u w 1098 [(3, iv e), (2, .ref 170), (1, .ref 0), (0, .ref 1000000)] [] S V K := by
  refine y_ld (x := .ref 0) rfl rfl (fun d => rfl) ?_
  refine y_cV (as := [.ref 0]) rfl rfl rfl rfl rfl (hR.choose_spec.1.1 0 _ _ rfl) ⟨rfl, (Nat.le_of_ble_eq_true rfl), (Nat.le_of_ble_eq_true rfl)⟩ (by decide) (pr_image hR  _ (fun x u1 w1 S1 V1 hM1 h2 => ?_))
  refine y_nv ?_
  refine y_in rfl rfl (fun d => rfl) ?_
  refine y_ld (x := .ref 170) rfl rfl (fun d => rfl) ?_
  refine y_cV (as := [.ref 170]) rfl rfl rfl rfl rfl (md170 hM1) ⟨rfl, (Nat.le_of_ble_eq_true rfl), (Nat.le_of_ble_eq_true rfl)⟩ (by decide) (h2 _ (fun x2 u2 w2 S2 V2 hR2 he => ?_))
  refine y_nv ?_
  refine y_in rfl rfl (fun d => rfl) ?_
  refine y_go rfl rfl ?_
  exact y_mono (ih _ _ _ _ hR2) (by omega)
set_option maxRecDepth 100000 in
set_option maxHeartbeats 4000000 in
theorem w_op25 {xs : List Int32} {cnt F u w : Nat} {S : m_H} {V : v_V} {K : v_K} {A : Nat → Int32} {e : Int} (he0 : e = 6 * (cnt : Int)) (hcn : cnt < 66) (hA : ∀ c : Nat, c < 6 → m_nth xs (6 * cnt + c) = some (A c)) (hR : RR cnt u w S V) (ih : ∀ u2 w2 S2 V2, RR (cnt + 1) u2 w2 S2 V2 → y_E (m_X xs) 60 181 F u2 w2 1147 [(3, iv e), (2, .ref 170), (1, .ref 0), (0, .ref 1000000)] [] S2 V2 K) : y_E (m_X xs) 60 181 (F + 90) u w 1111 [(3, iv e), (2, .ref 170), (1, .ref 0), (0, .ref 1000000)] [] S V K := by
  refine y_ld (x := .ref 0) rfl rfl (fun d => rfl) ?_
  refine y_cV (as := [.ref 0]) rfl rfl rfl rfl rfl (hR.choose_spec.1.1 0 _ _ rfl) ⟨rfl, (Nat.le_of_ble_eq_true rfl), (Nat.le_of_ble_eq_true rfl)⟩ (by decide) (pr_undo hR  _ (fun x u1 w1 S1 V1 hM1 h2 => ?_))
  refine y_nv ?_
  refine y_ld (x := .ref 170) rfl rfl (fun d => rfl) ?_
  refine y_cV (as := [.ref 170]) rfl rfl rfl rfl rfl (md170 hM1) ⟨rfl, (Nat.le_of_ble_eq_true rfl), (Nat.le_of_ble_eq_true rfl)⟩ (by decide) (h2 _ (fun x2 u2 w2 S2 V2 hR2 he => ?_))
  refine y_nv ?_
  obtain rfl := he trivial
  refine y_jsame rfl rfl ?_
  exact y_mono (ih _ _ _ _ hR2) (by omega)
set_option maxRecDepth 100000 in
set_option maxHeartbeats 4000000 in
theorem w_op26 {xs : List Int32} {cnt F u w : Nat} {S : m_H} {V : v_V} {K : v_K} {A : Nat → Int32} {e : Int} (he0 : e = 6 * (cnt : Int)) (hcn : cnt < 66) (hA : ∀ c : Nat, c < 6 → m_nth xs (6 * cnt + c) = some (A c)) (hR : RR cnt u w S V) (ih : ∀ u2 w2 S2 V2, RR (cnt + 1) u2 w2 S2 V2 → y_E (m_X xs) 60 181 F u2 w2 1147 [(3, iv e), (2, .ref 170), (1, .ref 0), (0, .ref 1000000)] [] S2 V2 K) : y_E (m_X xs) 60 181 (F + 90) u w 1124 [(3, iv e), (2, .ref 170), (1, .ref 0), (0, .ref 1000000)] [] S V K := by
  refine y_ld (x := .ref 0) rfl rfl (fun d => rfl) ?_
  refine y_ld (x := .ref 1000000) rfl rfl (fun d => rfl) ?_
  refine y_ld (x := iv e) rfl rfl (fun d => rfl) ?_
  refine y_ic rfl rfl ?_
  refine y_add (z := e + 1) rfl rfl rfl ?_
  refine y_scr (i := 6 * cnt + 1) rfl rfl (by omega) (by omega) (hA 1 (by decide)) ?_
  refine y_cV (as := [.ref 0, iv (A 1).toInt]) rfl rfl rfl rfl rfl (hR.choose_spec.1.1 0 _ _ rfl) ⟨rfl, (Nat.le_of_ble_eq_true rfl), (Nat.le_of_ble_eq_true rfl)⟩ (by decide) (pr_count hR (i32r _) _ (fun x u1 w1 S1 V1 hM1 h2 => ?_))
  refine y_nv ?_
  refine y_in rfl rfl (fun d => rfl) ?_
  refine y_ld (x := .ref 170) rfl rfl (fun d => rfl) ?_
  refine y_ld (x := .ref 1000000) rfl rfl (fun d => rfl) ?_
  refine y_ld (x := iv e) rfl rfl (fun d => rfl) ?_
  refine y_ic rfl rfl ?_
  refine y_add (z := e + 1) rfl rfl rfl ?_
  refine y_scr (i := 6 * cnt + 1) rfl rfl (by omega) (by omega) (hA 1 (by decide)) ?_
  refine y_cV (as := [.ref 170, iv (A 1).toInt]) rfl rfl rfl rfl rfl (md170 hM1) ⟨rfl, (Nat.le_of_ble_eq_true rfl), (Nat.le_of_ble_eq_true rfl)⟩ (by decide) (h2 _ (fun x2 u2 w2 S2 V2 hR2 he => ?_))
  refine y_nv ?_
  refine y_in rfl rfl (fun d => rfl) ?_
  refine y_go rfl rfl ?_
  exact y_mono (ih _ _ _ _ hR2) (by omega)
