/-! what holds before the first call -/
theorem RWc_0 : RWc v_V0 0 aw0 := by
  refine ⟨⟨by decide, by decide, by decide⟩, fun t _ => ?_⟩
  refine ⟨?_, ?_, ?_, rfl, rfl, rfl⟩
  all_goals
    show (0 : Int) / 2 ^ t % 2 = 0
    rw [Int.zero_ediv]
    rfl
theorem RR_0 : RR 0 193 11164 m_h0 v_V0 := by
  refine ⟨fun _ => [], ⟨v_C0, RS_0 1 _ ⟨by decide, rfl⟩ ⟨by decide, rfl⟩ ⟨by decide, rfl⟩, RS_0 58 _ ⟨by decide, rfl⟩ ⟨by decide, rfl⟩ ⟨by decide, rfl⟩, ⟨.null, .null, ⟨by decide, rfl⟩, Or.inl rfl⟩, ⟨⟨.null, ⟨by decide, rfl⟩⟩, ⟨List.replicate 4 .null, ⟨by decide, rfl⟩, rfl, v_nul⟩, fun _ _ _ _ => rfl, fun _ => RWc_0⟩, by decide, by decide, Or.inl rfl⟩, ⟨v_M0, rfl, rfl, fun i hi => absurd hi (by show ¬ (i : Int) < 0; omega), by decide, rfl⟩, ⟨SO_0, SO_0, Int.le_refl _, fun i hi => absurd hi (by show ¬ (i : Int) < 0; omega)⟩, ?_⟩
  have e : m_h0.length = 193 := by decide +kernel
  unfold RZ
  rw [e]
  decide
