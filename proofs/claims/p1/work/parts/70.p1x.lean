/-! the first call of two fresh objects: hold and image, by the contracts -/
def v_V0 : v_V := fun _ _ => 0
def v_zb (S : m_H) : Bool := S.all (fun c => c.2.all (fun v => match v with | .int x => x == 0 | _ => true))
theorem mkh_zero {S : m_H} (h : v_zb S = true) : mkh S v_V0 = S := by
  apply v_list_ext
  intro k
  rw [mkh_nth]
  cases hk : m_nth S k with
  | none => rfl
  | some c =>
    show some (c.1, v_mc (fun _ => 0) 0 c.2) = some c
    rw [v_mc_zero]
    intro v hv
    have h1 := List.all_eq_true.mp (List.all_eq_true.mp h c (v_mem hk)) v hv
    cases v with
    | int x =>
      left
      have : x = 0 := by simpa using h1
      rw [this]
      rfl
    | _ => exact Or.inr (fun x e => by cases e)
set_option maxRecDepth 100000 in
theorem v_h0z : v_zb m_h0 = true := by decide +kernel
theorem v_C0 : ClF m_h0 := by
  intro k t vs h
  unfold cl_at at h
  split at h
  · cases h
  · split at h
    · exact ⟨by omega, h⟩
    · cases h
theorem v_M0 : MdS m_h0 := ⟨⟨by decide, rfl⟩, ⟨by decide, rfl⟩, ⟨by decide, rfl⟩, ⟨by decide, rfl⟩, ⟨by decide, rfl⟩, ⟨by decide, rfl⟩, ⟨by decide, rfl⟩, ⟨by decide, rfl⟩, ⟨by decide, rfl⟩, ⟨by decide, rfl⟩, ⟨by decide, rfl⟩, ⟨by decide, rfl⟩, ⟨by decide, rfl⟩, ⟨by decide, rfl⟩, ⟨by decide, rfl⟩, ⟨by decide, rfl⟩, ⟨by decide, rfl⟩, ⟨by decide, rfl⟩, ⟨by decide, rfl⟩, ⟨by decide, rfl⟩, ⟨by decide, rfl⟩, ⟨by decide, rfl⟩, ⟨by decide, rfl⟩⟩
theorem y_toX {X : Nat → List Int32} {j F u w pc n : Nat} {lv : m_L} {K : v_K} (h : y_E X 60 j F u w pc lv [] m_h0 v_V0 K) (hn : F ≤ n) (hK : ∀ u w v S V, K u w v S V → v = some (.int 1) ∧ u ≤ 600000 ∧ w ≤ 7302250) : x_E X 60 j u w n pc lv [] m_h0 lK := by
  intro h1 h2
  have := h 60 n (Nat.le_refl _) hn
  rw [mkh_zero v_h0z] at this
  obtain ⟨r, u', w', g1, g2, g3, S', V', g4, g5⟩ := this h1 h2
  exact ⟨r, u', w', g1, g2, g3, hK _ _ _ _ _ g5⟩
theorem md_set {S : m_H} (hM : MdS S) {q : Nat} {c : Nat × List Value} (h : q < 170) : MdS (S.set q c) := by
  obtain ⟨h170, h171, h172, h173, h174, h175, h176, h177, h178, h179, h180, h181, h182, h183, h184, h185, h186, h187, h188, h189, h190, h191, h192⟩ := hM
  exact ⟨ce_ne h170 (by omega), ce_ne h171 (by omega), ce_ne h172 (by omega), ce_ne h173 (by omega), ce_ne h174 (by omega), ce_ne h175 (by omega), ce_ne h176 (by omega), ce_ne h177 (by omega), ce_ne h178 (by omega), ce_ne h179 (by omega), ce_ne h180 (by omega), ce_ne h181 (by omega), ce_ne h182 (by omega), ce_ne h183 (by omega), ce_ne h184 (by omega), ce_ne h185 (by omega), ce_ne h186 (by omega), ce_ne h187 (by omega), ce_ne h188 (by omega), ce_ne h189 (by omega), ce_ne h190 (by omega), ce_ne h191 (by omega), ce_ne h192 (by omega)⟩
set_option maxRecDepth 100000 in
set_option maxHeartbeats 4000000 in
theorem c_24 (n : Nat) (c a1 a2 a3 a4 a5 : Int32) : x_E (m_X [c, a1, a2, a3, a4, a5]) 60 181 193 11164 (n + 300) 1098 [(3, .int 0), (2, .ref 170), (1, .ref 0), (0, .ref 1000000)] [] m_h0 lK := by
  refine y_toX (F := 300) (K := fun u w v _ _ => v = some (.int 1) ∧ u ≤ 600000 ∧ w ≤ 7302250) ?_ (by omega) (fun _ _ _ _ _ h => h)
  refine y_lv (l' := [(3, iv 0), (2, .ref 170), (1, .ref 0), (0, .ref 1000000)]) rfl ⟨rfl, rfl, rfl, rfl, trivial⟩ ?_
  refine y_ld (x := .ref 0) rfl rfl (fun d => rfl) ?_
  refine y_cV (as := [.ref 0]) rfl rfl rfl rfl rfl (v_C0 0 _ _ rfl) ⟨rfl, (Nat.le_of_ble_eq_true rfl), (Nat.le_of_ble_eq_true rfl)⟩ (by decide) (cc_image v_C0 (ta := List.replicate 8 .null) (tb := List.replicate 8 .null) (wa := List.replicate 20 .null) (wb := List.replicate 20 .null) (la := List.replicate 5 .null) (lb := List.replicate 5 .null) ⟨by decide, rfl⟩ ⟨by decide, rfl⟩ ⟨by decide, rfl⟩ ⟨by decide, rfl⟩ ⟨by decide, rfl⟩ ⟨by decide, rfl⟩ rfl rfl rfl rfl rfl rfl (fun v hv => Or.inl (List.eq_of_mem_replicate hv)) (fun v hv => Or.inl (List.eq_of_mem_replicate hv)) (fun v hv => Or.inl (List.eq_of_mem_replicate hv)) (fun V1 hV1 => ?_))
  refine y_nv ?_
  refine y_iv (e' := 0) (by rw [hV1.2.2.2.2.2.2 1 (Or.inl (by decide))]; rfl) ?_
  refine y_ld (x := .ref 170) rfl rfl (fun d => rfl) ?_
  have hM1 : MdS ((((m_h0.set 60 (22, List.replicate 8 .null)).set 63 (24, List.replicate 20 .null)).set 64 (24, List.replicate 5 .null))) := md_set (md_set (md_set v_M0 (by decide)) (by decide)) (by decide)
  refine y_cV (as := [.ref 170]) rfl rfl rfl rfl rfl (md170 hM1) ⟨rfl, (Nat.le_of_ble_eq_true rfl), (Nat.le_of_ble_eq_true rfl)⟩ (by decide) (ct_image hM1 ?_)
  refine y_nv ?_
  refine y_iv (e' := 0) (by rw [v_up_ne (by decide), hV1.2.2.2.2.2.2 171 (Or.inr (by decide))]; rfl) ?_
  refine y_jeq rfl rfl rfl (by decide) (fun g1 => ?_) (fun g1 => absurd g1 (by decide))
  refine y_inc (z := 6) (lv' := [(3, iv 6), (2, .ref 170), (1, .ref 0), (0, .ref 1000000)]) rfl rfl rfl rfl rfl ?_
  refine y_go rfl rfl ?_
  refine y_ld (x := iv 6) rfl rfl (fun d => rfl) ?_
  refine y_ld (x := .ref 1000000) rfl rfl (fun d => rfl) ?_
  refine y_in rfl rfl (fun d => rfl) ?_
  refine y_top (v' := iv 6) (show Value.int (Int32.ofNat 6) = iv 6 from congrArg Value.int (by decide)) ?_
  refine y_bi rfl rfl (by decide) ?_
  refine y_sub (z := 0) rfl rfl rfl ?_
  refine y_jgt rfl rfl rfl (by decide) (fun g2 => ?_) (fun g2 => absurd g2 (by decide))
  refine y_ic rfl rfl ?_
  refine y_rI rfl (by decide) ?_
  exact ⟨rfl, by decide, by decide⟩
