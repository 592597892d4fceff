/-! the two fresh objects -/
def v_V0 : v_V := fun _ _ => 0
def v_zb (S : m_H) : Bool := S.all (fun c => c.2.all (fun v => match v with | .int x => x == 0 | _ => true))
theorem mkh_zero {S : m_H} (h : v_zb S = true) : mkh S v_V0 = S := by
  apply v_list_ext
  intro k
  rw [mkh_nth]
  cases hk : m_nth S k with
  | none => rfl
  | some c =>
    show some (c.1, v_mc (fun _ => 0) 0 c.2) = some c
    rw [v_mc_zero]
    intro v hv
    have h1 := List.all_eq_true.mp (List.all_eq_true.mp h c (v_mem hk)) v hv
    cases v with
    | int x =>
      left
      have : x = 0 := by simpa using h1
      rw [this]
      rfl
    | _ => exact Or.inr (fun x e => by cases e)
set_option maxRecDepth 100000 in
theorem v_h0z : v_zb m_h0 = true := by decide +kernel
theorem v_C0 : ClF m_h0 := by
  intro k t vs h
  unfold cl_at at h
  split at h
  · cases h
  · split at h
    · exact ⟨by omega, h⟩
    · cases h
theorem v_M0 : MdS m_h0 := ⟨⟨by decide, rfl⟩, ⟨by decide, rfl⟩, ⟨by decide, rfl⟩, ⟨by decide, rfl⟩, ⟨by decide, rfl⟩, ⟨by decide, rfl⟩, ⟨by decide, rfl⟩, ⟨by decide, rfl⟩, ⟨by decide, rfl⟩, ⟨by decide, rfl⟩, ⟨by decide, rfl⟩, ⟨by decide, rfl⟩, ⟨by decide, rfl⟩, ⟨by decide, rfl⟩, ⟨by decide, rfl⟩, ⟨by decide, rfl⟩, ⟨by decide, rfl⟩, ⟨by decide, rfl⟩, ⟨by decide, rfl⟩, ⟨by decide, rfl⟩, ⟨by decide, rfl⟩, ⟨by decide, rfl⟩, ⟨by decide, rfl⟩⟩
theorem v_nul {S : m_H} {t n : Nat} : ∀ v ∈ List.replicate n Value.null, v_asg S t v := fun v hv => Or.inl (List.eq_of_mem_replicate hv)
theorem RN_0 (B : Nat) : RN v_V0 B (fun _ => 0) := ⟨⟨rfl, rfl, rfl, rfl, rfl, rfl, rfl⟩, fun _ _ => rfl, fun _ _ => rfl, fun b _ => ⟨fun h => absurd h (by show ¬ (b : Int) < 0; omega), rfl, rfl, rfl, rfl, fun _ _ => rfl, fun _ _ => rfl, fun _ _ => rfl⟩⟩
theorem RS_0 (B : Nat) (tl : Nat → List p_Li) (h2 : ce m_h0 (B + 2) 22 (List.replicate 8 .null)) (h5 : ce m_h0 (B + 5) 24 (List.replicate 20 .null)) (h6 : ce m_h0 (B + 6) 24 (List.replicate 5 .null)) : RS m_h0 v_V0 B (fun _ => 0) tl :=
  ⟨RN_0 B, ⟨_, h2, rfl, v_nul, fun i hi => absurd hi (by show ¬ (i : Int) < 0; omega)⟩, ⟨_, h5, rfl, v_nul, fun i hi => absurd hi (by show ¬ (i : Int) < 0; omega)⟩, ⟨_, h6, rfl, v_nul, fun i hi => absurd hi (by show ¬ (i : Int) < 0; omega)⟩⟩
theorem SO_0 : SO 0 (fun _ => 0) := by
  refine ⟨by decide, fun _ _ => by simp, fun b _ => ⟨by simp, ⟨by simp, by simp, fun h => absurd h (by show ¬ (b : Int) < 0; omega)⟩, by simp, by simp, fun _ _ => by show -2147483648 ≤ (0 : Int) ∧ (0 : Int) < 2147483648; decide, fun _ _ => by show -2147483648 ≤ (0 : Int) ∧ (0 : Int) < 2147483648; decide⟩, fun b _ _ _ => ⟨by simp, by simp, fun h => absurd h (by show ¬ (b : Int) < 0; omega)⟩, fun i _ => ⟨by simp, by simp, fun h => absurd h (by show ¬ (i : Int) < 0; omega)⟩, fun i h => absurd h (by show ¬ (i : Int) < 0; omega), fun i h => absurd h (by show ¬ (i : Int) < 0; omega)⟩
