/-! the steps over arrays -/
theorem m_el_sp {X : Nat → List Int32} {h : m_H} {tag x : Nat} {y : Int32} {v : Value} (hE : m_el X h tag x y = some v) : ∃ j, m_ix y = some j ∧ ((x < 1000000 ∧ ∃ vs, m_nth h x = some (tag, vs) ∧ m_nth vs j = some v) ∨ (¬ x < 1000000 ∧ tag = 20 ∧ x - 1000000 < 3 ∧ ∃ w, m_nth (X (x - 1000000)) j = some w ∧ v = .int w)) := by
  unfold m_el at hE
  split at hE
  · cases hE
  · rename_i j hj
    refine ⟨j, hj, ?_⟩
    split at hE
    · rename_i h1
      split at hE
      · rename_i t vs ho
        split at hE
        · rename_i e3
          subst e3
          exact Or.inl ⟨h1, vs, ho, hE⟩
        · cases hE
      · cases hE
    · rename_i h1
      split at hE
      · rename_i h2
        obtain ⟨w, hw, rfl⟩ := Option.map_eq_some_iff.mp hE
        exact Or.inr ⟨h1, h2.1, h2.2.1, w, hw, rfl⟩
      · cases hE
theorem m_in_nth {α : Type} {vs : List α} {y : Int32} {j : Nat} {v : α} (hj : m_ix y = some j) (hv : m_nth vs j = some v) : vp_in y vs.length := by
  obtain ⟨w1, w2⟩ := m_ix_sp hj
  rintro (q | q)
  · exact w1 q
  · have := m_nth_lt hv
    omega
theorem m_in_lt {y : Int32} {j n : Nat} (hj : m_ix y = some j) (hv : j < n) : vp_in y n := by
  obtain ⟨w1, w2⟩ := m_ix_sp hj
  rintro (q | q)
  · exact w1 q
  · omega
theorem m_se_sp {h h' : m_H} {tag x : Nat} {y : Int32} {v : Value} (hE : m_se h tag x y v = some h') : ∃ j vs, m_ix y = some j ∧ x < 1000000 ∧ m_nth h x = some (tag, vs) ∧ j < vs.length ∧ h' = h.set x (tag, vs.set j v) := by
  unfold m_se at hE
  split at hE
  · cases hE
  · rename_i j hj
    split at hE
    · rename_i t vs ho
      split at hE
      · rename_i e3
        obtain ⟨rfl, e4⟩ := e3
        cases hE
        obtain ⟨ho1, ho2⟩ := m_ob_nth ho
        exact ⟨j, vs, hj, ho1, ho2, e4, rfl⟩
      · cases hE
    · cases hE
theorem m_rl_ex (E : m_AE) {x : Nat} (h : ¬ x < 1000000) : m_rl E x = E.2 (x - 1000000) := if_neg h
section HEAP
variable {p : Program} {l : Launch} {e : Env} {R : Room} {s : State} {m : MethodId} {args : Array Value} {below : List Frame} {meth : Method} {c : Code} {Q : State → Prop}
variable {E : m_AE} {D : va_G} {ty : Nat → ClassId} {X : Nat → List Int32} {i d n0 z0 : Nat} {call : Nat → List Value → m_H → Option m_R} {len : Nat} {a : Int} {b pc : Nat} {lv : m_L} {st : List Value} {h : m_H} {C' : m_C}
theorem k_arraylength (F : m_Fix E D ty X i d n0 p R s m args meth c) (hok : m_ok i pc (.arraylength, len, a, b) = true) (hs : m_stp X call (.arraylength, len, a, b) pc lv st h = some (.inl C'))
    (k : m_At E D ty i n0 z0 p l e R s m args below meth c Q C') : m_At E D ty i n0 z0 p l e R s m args below meth c Q (pc, lv, st, h) := by
  intro H locs ls hP hS hl
  dsimp only at hP hl ⊢
  obtain ⟨⟨hx, hb, hml, hown, hts⟩, hKn, hEx, hsz, hi, hini, hR⟩ := F
  obtain ⟨hdg, hI⟩ := m_ok_sp hok
  have e1 : len = 1 := of_decide_eq_true hI
  subst e1
  rw [m_s_arraylength] at hs
  split at hs
  · rename_i x r
    split at hs
    · rename_i n hn
      cases hs
      show W _ _ _ _ _ _ _ _ _ _ _ _ _ _ _ (F0 m pc ls (.ref (m_rl E x) :: r.map (m_rv E)))
      unfold m_ln at hn
      split at hn
      · rename_i h1
        split at hn
        · rename_i t vs ho
          split at hn
          · rename_i e3
            cases hn
            rw [m_rl_in E h1]
            by_cases t1 : t = 20
            · subst t1
              have hw := m_ws_at (E := E) (ty := ty) ho
              rw [m_cell_i] at hw
              exact va_alen hx hb hKn.1 hP x 0 hw rfl rfl hdg (k _ _ _ hP hS hl)
            · by_cases t2 : t = 21
              · subst t2
                have hw := m_ws_at (E := E) (ty := ty) ho
                rw [m_cell_z] at hw
                exact va_alen hx hb hKn.1 hP x 1 hw rfl rfl hdg (k _ _ _ hP hS hl)
              · obtain ⟨q1, -, -⟩ := m_tys_q ty (t := t) (by omega)
                have hw := m_ws_at (E := E) (ty := ty) ho
                rw [m_cell_q E ty (by omega)] at hw
                exact va_alen hx hb hKn.1 hP x (t - 20) hw q1 rfl hdg (k _ _ _ hP hS hl)
          · cases hn
        · cases hn
      · rename_i h1
        split at hn
        · rename_i h2
          cases hn
          rw [m_rl_ex E h1]
          exact va_tlen hx hb (hEx.1 _ h2.1) hS rfl hdg (k _ _ _ hP hS hl)
        · cases hn
    · cases hs
  · cases hs
theorem k_iaload (F : m_Fix E D ty X i d n0 p R s m args meth c) (hok : m_ok i pc (.iaload, len, a, b) = true) (hs : m_stp X call (.iaload, len, a, b) pc lv st h = some (.inl C'))
    (k : m_At E D ty i n0 z0 p l e R s m args below meth c Q C') : m_At E D ty i n0 z0 p l e R s m args below meth c Q (pc, lv, st, h) := by
  intro H locs ls hP hS hl
  dsimp only at hP hl ⊢
  obtain ⟨⟨hx, hb, hml, hown, hts⟩, hKn, hEx, hsz, hi, hini, hR⟩ := F
  obtain ⟨hdg, hI⟩ := m_ok_sp hok
  have e1 : len = 1 := of_decide_eq_true hI
  subst e1
  rw [m_s_iaload] at hs
  split at hs
  · rename_i y x r
    split at hs
    · rename_i v hv
      cases hs
      show W _ _ _ _ _ _ _ _ _ _ _ _ _ _ _ (F0 m pc ls (.int y :: .ref (m_rl E x) :: r.map (m_rv E)))
      obtain ⟨j, hj, ⟨h1, vs, g1, g2⟩ | ⟨h1, -, h3, w, g1, g2⟩⟩ := m_el_sp hv
      · rw [m_rl_in E h1]
        refine va_iald hx hb hKn.1 hP x 0 (by rw [m_ws_at g1, m_cell_i]) rfl (m_in_nth hj g2) hdg ?_
        rw [(m_ix_sp hj).2, m_getD_nth g2]
        exact k _ _ _ hP hS hl
      · rw [m_rl_ex E h1]
        cases g2
        refine va_ti hx hb (hEx.1 _ h3) hS (m_in_nth hj g1) ?_ hdg (k _ _ _ hP hS hl)
        rw [m_nth_eq] at g1
        simp [(m_ix_sp hj).2, List.getD_eq_getElem?_getD, g1, m_rv]
    · cases hs
  · cases hs
theorem k_baload (F : m_Fix E D ty X i d n0 p R s m args meth c) (hok : m_ok i pc (.baload, len, a, b) = true) (hs : m_stp X call (.baload, len, a, b) pc lv st h = some (.inl C'))
    (k : m_At E D ty i n0 z0 p l e R s m args below meth c Q C') : m_At E D ty i n0 z0 p l e R s m args below meth c Q (pc, lv, st, h) := by
  intro H locs ls hP hS hl
  dsimp only at hP hl ⊢
  obtain ⟨⟨hx, hb, hml, hown, hts⟩, hKn, hEx, hsz, hi, hini, hR⟩ := F
  obtain ⟨hdg, hI⟩ := m_ok_sp hok
  have e1 : len = 1 := of_decide_eq_true hI
  subst e1
  rw [m_s_baload] at hs
  split at hs
  · rename_i y x r
    split at hs
    · rename_i v hv
      cases hs
      show W _ _ _ _ _ _ _ _ _ _ _ _ _ _ _ (F0 m pc ls (.int y :: .ref (m_rl E x) :: r.map (m_rv E)))
      obtain ⟨j, hj, ⟨h1, vs, g1, g2⟩ | ⟨h1, h2, -⟩⟩ := m_el_sp hv
      · rw [m_rl_in E h1]
        refine va_zald hx hb hKn.1 hP x 1 (by rw [m_ws_at g1, m_cell_z]) rfl (m_in_nth hj g2) hdg ?_
        rw [(m_ix_sp hj).2, m_getD_nth g2]
        exact k _ _ _ hP hS hl
      · exact absurd h2 (by decide)
    · cases hs
  · cases hs
theorem k_aaload (F : m_Fix E D ty X i d n0 p R s m args meth c) (hok : m_ok i pc (.aaload, len, a, b) = true) (hs : m_stp X call (.aaload, len, a, b) pc lv st h = some (.inl C'))
    (k : m_At E D ty i n0 z0 p l e R s m args below meth c Q C') : m_At E D ty i n0 z0 p l e R s m args below meth c Q (pc, lv, st, h) := by
  intro H locs ls hP hS hl
  dsimp only at hP hl ⊢
  obtain ⟨⟨hx, hb, hml, hown, hts⟩, hKn, hEx, hsz, hi, hini, hR⟩ := F
  obtain ⟨hdg, hI⟩ := m_ok_sp hok
  have e1 : len = 1 := of_decide_eq_true hI
  subst e1
  rw [m_s_aaload] at hs
  split at hs
  · rename_i y x r
    split at hs
    · rename_i t vs j ho hj
      obtain ⟨ho1, ho2⟩ := m_ob_nth ho
      split at hs
      · rename_i e3
        obtain ⟨q1, -, -⟩ := m_tys_q ty e3
        have key : ∀ v, ((∃ z, v = .ref z) ∨ v = .null) → m_nth vs j = some v → m_At E D ty i n0 z0 p l e R s m args below meth c Q (pc + 1, lv, v :: r, h) → W p l e R s m args below meth c H locs (h.length - n0) (m_sz h - z0) Q (F0 m pc ls ((Value.int y :: Value.ref x :: r).map (m_rv E))) := by
          intro v hv0 hv k
          show W _ _ _ _ _ _ _ _ _ _ _ _ _ _ _ (F0 m pc ls (.int y :: .ref (m_rl E x) :: r.map (m_rv E)))
          rw [m_rl_in E ho1]
          refine va_aldq hx hb hKn.1 hP x (t - 20) (by rw [m_ws_at ho2, m_cell_q E ty e3.1]) q1 (m_in_nth hj hv) hdg ?_
          rw [(m_ix_sp hj).2, m_getD_nth hv, m_rv_rf E hv0]
          exact k _ _ _ hP hS hl
        split at hs
        · rename_i z hv
          cases hs
          exact key _ (Or.inl ⟨_, rfl⟩) hv k
        · rename_i hv
          cases hs
          exact key _ (Or.inr rfl) hv k
        · cases hs
      · cases hs
    · cases hs
  · cases hs
theorem k_iastore (F : m_Fix E D ty X i d n0 p R s m args meth c) (hok : m_ok i pc (.iastore, len, a, b) = true) (hs : m_stp X call (.iastore, len, a, b) pc lv st h = some (.inl C'))
    (k : m_At E D ty i n0 z0 p l e R s m args below meth c Q C') : m_At E D ty i n0 z0 p l e R s m args below meth c Q (pc, lv, st, h) := by
  intro H locs ls hP hS hl
  dsimp only at hP hl ⊢
  obtain ⟨⟨hx, hb, hml, hown, hts⟩, hKn, hEx, hsz, hi, hini, hR⟩ := F
  obtain ⟨hdg, hI⟩ := m_ok_sp hok
  have e1 : len = 1 := of_decide_eq_true hI
  subst e1
  rw [m_s_iastore] at hs
  split at hs
  · rename_i v y x r
    split at hs
    · rename_i h' hE
      obtain ⟨j, vs, hj, h1, g1, g2, rfl⟩ := m_se_sp hE
      cases hs
      show W _ _ _ _ _ _ _ _ _ _ _ _ _ _ _ (F0 m pc ls (.int v :: .int y :: .ref (m_rl E x) :: r.map (m_rv E)))
      rw [m_rl_in E h1]
      refine va_iast hx hb hKn.1 hP (m_ws_D E ty h) hS x 0 (by rw [m_ws_at g1, m_cell_i]) rfl (m_in_lt hj g2) hdg (fun H1 locs1 hP1 _ hS1 => ?_)
      have kz := k H1 locs1 ls (by
        show va_P D vwCl (m_ws E ty (h.set x (20, vs.set j (.int v)))) H1
        rw [m_ws_set, m_cell_i, ← m_set_i g2, List.length_set]
        rw [(m_ix_sp hj).2] at hP1
        exact hP1) hS1 hl
      rw [List.length_set, m_sz_set g1 (by simp)] at kz
      exact kz
    · cases hs
  · cases hs
theorem m_narz {x : Int32} (h : x = 0 ∨ x = 1) : vp_nar .boolean x = x := by
  rcases h with rfl | rfl <;> rfl
theorem k_bastore (F : m_Fix E D ty X i d n0 p R s m args meth c) (hok : m_ok i pc (.bastore, len, a, b) = true) (hs : m_stp X call (.bastore, len, a, b) pc lv st h = some (.inl C'))
    (k : m_At E D ty i n0 z0 p l e R s m args below meth c Q C') : m_At E D ty i n0 z0 p l e R s m args below meth c Q (pc, lv, st, h) := by
  intro H locs ls hP hS hl
  dsimp only at hP hl ⊢
  obtain ⟨⟨hx, hb, hml, hown, hts⟩, hKn, hEx, hsz, hi, hini, hR⟩ := F
  obtain ⟨hdg, hI⟩ := m_ok_sp hok
  have e1 : len = 1 := of_decide_eq_true hI
  subst e1
  rw [m_s_bastore] at hs
  split at hs
  · rename_i v y x r
    split at hs
    rotate_left
    · cases hs
    rename_i hz
    split at hs
    · rename_i h' hE
      obtain ⟨j, vs, hj, h1, g1, g2, rfl⟩ := m_se_sp hE
      cases hs
      show W _ _ _ _ _ _ _ _ _ _ _ _ _ _ _ (F0 m pc ls (.int v :: .int y :: .ref (m_rl E x) :: r.map (m_rv E)))
      rw [m_rl_in E h1]
      refine va_zast hx hb hKn.1 hP (m_ws_D E ty h) hS x 1 (by rw [m_ws_at g1, m_cell_z]) rfl (m_in_lt hj g2) hdg (fun H1 locs1 hP1 _ hS1 => ?_)
      have kz := k H1 locs1 ls (by
        show va_P D vwCl (m_ws E ty (h.set x (21, vs.set j (.int v)))) H1
        rw [m_ws_set, m_cell_z, ← m_set_i g2, List.length_set]
        rw [(m_ix_sp hj).2, m_narz hz] at hP1
        exact hP1) hS1 hl
      rw [List.length_set, m_sz_set g1 (by simp)] at kz
      exact kz
    · cases hs
  · cases hs
theorem k_aastore (F : m_Fix E D ty X i d n0 p R s m args meth c) (hok : m_ok i pc (.aastore, len, a, b) = true) (hs : m_stp X call (.aastore, len, a, b) pc lv st h = some (.inl C'))
    (k : m_At E D ty i n0 z0 p l e R s m args below meth c Q C') : m_At E D ty i n0 z0 p l e R s m args below meth c Q (pc, lv, st, h) := by
  intro H locs ls hP hS hl
  dsimp only at hP hl ⊢
  obtain ⟨⟨hx, hb, hml, hown, hts⟩, hKn, hEx, hsz, hi, hini, hR⟩ := F
  obtain ⟨hdg, hI⟩ := m_ok_sp hok
  have e1 : len = 1 := of_decide_eq_true hI
  subst e1
  rw [m_s_aastore] at hs
  split at hs
  · rename_i v y x r
    split at hs
    · rename_i t vs j ho hj
      obtain ⟨ho1, ho2⟩ := m_ob_nth ho
      split at hs
      · rename_i e3
        obtain ⟨t1, t2, g2, e4⟩ := e3
        obtain ⟨q1, q2, -⟩ := m_tys_q ty ⟨t1, t2⟩
        cases hs
        have kk : ∀ (H1 : Heap) (locs1 : List Loc), va_P D vwCl ((m_ws E ty h).set x (E.1 + x, .inl (ty (t - 20), vs.length, .inr (.inr (.inr (.inr (va_up (fun j => m_or E (vs.getD j .null)) y.toNatClampNeg (m_or E v)))))))) H1 → va_S (m_A E) s.heap H1 locs1 → W p l e R s m args below meth c H1 locs1 (h.length - n0) (m_sz h - z0) Q (F0 m (pc + 1) ls (r.map (m_rv E))) := by
          intro H1 locs1 hP1 hS1
          have kz := k H1 locs1 ls (by
            show va_P D vwCl (m_ws E ty (h.set x (t, vs.set j v))) H1
            rw [m_ws_set, m_cell_q E ty t1, ← m_set_q E g2, List.length_set]
            rw [(m_ix_sp hj).2] at hP1
            exact hP1) hS1 hl
          rw [List.length_set, m_sz_set ho2 (by simp)] at kz
          exact kz
        have hws : (m_ws E ty h)[x]? = some (E.1 + x, .inl (ty (t - 20), vs.length, .inr (.inr (.inr (.inr (fun j => m_or E (vs.getD j .null))))))) := by rw [m_ws_at ho2, m_cell_q E ty t1]
        cases v with
        | null =>
          show W _ _ _ _ _ _ _ _ _ _ _ _ _ _ _ (F0 m pc ls (.null :: .int y :: .ref (m_rl E x) :: r.map (m_rv E)))
          rw [m_rl_in E ho1]
          exact va_astqN hx hb hKn.1 hP (m_ws_D E ty h) hS x (t - 20) hws q1 (m_in_lt hj g2) hdg (fun H1 locs1 hP1 _ hS1 => kk H1 locs1 hP1 hS1)
        | ref z =>
          show W _ _ _ _ _ _ _ _ _ _ _ _ _ _ _ (F0 m pc ls (.ref (m_rl E z) :: .int y :: .ref (m_rl E x) :: r.map (m_rv E)))
          unfold m_asg at e4
          dsimp only at e4
          split at e4
          · rename_i t' us hz
            obtain ⟨hz1, hz2⟩ := m_ob_nth hz
            have e5 : t' = m_cmp t := by simpa using e4
            have hm : m_or E (.ref z) = some (E.1 + z) := congrArg some (m_rl_in E hz1)
            rw [hm] at kk
            rw [m_rl_in E ho1, m_rl_in E hz1]
            exact va_astq hx hb hKn.1 hP (m_ws_D E ty h) hS x (t - 20) z t' (r := m_cl t') hws (by rw [e5]; exact q1) (by rw [m_ws_at hz2, m_cell_o E ty (by omega)]) (m_cl_at (by omega)) (m_in_lt hj g2) hdg (fun H1 locs1 hP1 _ hS1 => kk H1 locs1 hP1 hS1)
          · cases e4
        | int _ => cases e4
        | long _ => cases e4
        | float _ => cases e4
        | double _ => cases e4
        | retAddr _ => cases e4
      · cases hs
    · cases hs
  · cases hs
end HEAP
