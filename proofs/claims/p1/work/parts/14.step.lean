/-! ONE STEP of the small machine is steps of the machine -/
/-- what is fixed while a method runs: i its number, d how deep calls may go, n0, z0 how much there was at its start -/
def m_Fix (E : m_AE) (D : va_G) (ty : Nat → ClassId) (X : Nat → List Int32) (i d n0 : Nat) (p : Program) (R : Room) (s : State) (m : MethodId) (args : Array Value) (meth : Method) (c : Code) : Prop :=
  (p.tables.exec = Jvm.exec ∧ c.code = m_b i ∧ c.maxLocals = m_nl i ∧ s.vm.findClass (m_cn (m_oc i)) = some m.cls ∧ ∀ w ∈ lw_good, w.before args s = true) ∧ m_Kn D ty s ∧ m_Ex E X s s.heap ∧ s.heap.size = E.1 + n0 ∧ i < 182 ∧ ((m_y i).name = "<init>" → meth.name = "<init>") ∧ d + 1 ≤ R.frames ∧ 100 * (d + 1) ≤ R.locals
/-- at a place of the small machine the machine comes to Q, whatever heap holds the plain one -/
def m_At (E : m_AE) (D : va_G) (ty : Nat → ClassId) (i n0 z0 : Nat) (p : Program) (l : Launch) (e : Env) (R : Room) (s : State) (m : MethodId) (args : Array Value) (below : List Frame) (meth : Method) (c : Code) (Q : State → Prop) (C : m_C) : Prop :=
  ∀ (H : Heap) (locs : List Loc) (ls : Array Slot), va_P D vwCl (m_ws E ty C.2.2.2) H → va_S (m_A E) s.heap H locs → lv_has ls (m_nl i) (C.2.1.map (m_rq E)) → W p l e R s m args below meth c H locs (C.2.2.2.length - n0) (m_sz C.2.2.2 - z0) Q (F0 m C.1 ls (C.2.2.1.map (m_rv E)))
theorem m_ok_sp {i pc : Nat} {en : m_E} (h : m_ok i pc en = true) : decode (m_b i) pc = .ok (en.1, en.2.1) ∧ m_okI i pc en = true := by
  simp only [m_ok, Bool.and_eq_true, decide_eq_true_eq] at h
  exact h
section STEP
variable {p : Program} {l : Launch} {e : Env} {R : Room} {s : State} {m : MethodId} {args : Array Value} {below : List Frame} {meth : Method} {c : Code} {Q : State → Prop}
variable {E : m_AE} {D : va_G} {ty : Nat → ClassId} {X : Nat → List Int32} {i d n0 z0 : Nat} {call : Nat → List Value → m_H → Option m_R} {len : Nat} {a : Int} {b pc : Nat} {lv : m_L} {st : List Value} {h : m_H} {C' : m_C}
theorem k_iadd (F : m_Fix E D ty X i d n0 p R s m args meth c) (hok : m_ok i pc (.iadd, len, a, b) = true) (hs : m_stp X call (.iadd, len, a, b) pc lv st h = some (.inl C'))
    (k : m_At E D ty i n0 z0 p l e R s m args below meth c Q C') : m_At E D ty i n0 z0 p l e R s m args below meth c Q (pc, lv, st, h) := by
  intro H locs ls hP hS hl
  obtain ⟨⟨hx, hb, hml, hown, hts⟩, hKn, hEx, hsz, hi, hini, hR⟩ := F
  obtain ⟨hdg, hI⟩ := m_ok_sp hok
  have e1 : len = 1 := of_decide_eq_true hI
  subst e1
  rw [m_s_iadd] at hs
  split at hs
  · cases hs
    exact lv_iadd hx hb hdg (k _ _ _ hP hS hl)
  · cases hs
theorem k_iload (F : m_Fix E D ty X i d n0 p R s m args meth c) {q : Nat} (hok : m_ok i pc (.iload q, len, a, b) = true) (hs : m_stp X call (.iload q, len, a, b) pc lv st h = some (.inl C'))
    (k : m_At E D ty i n0 z0 p l e R s m args below meth c Q C') : m_At E D ty i n0 z0 p l e R s m args below meth c Q (pc, lv, st, h) := by
  intro H locs ls hP hS hl
  obtain ⟨⟨hx, hb, hml, hown, hts⟩, hKn, hEx, hsz, hi, hini, hR⟩ := F
  obtain ⟨hdg, hI⟩ := m_ok_sp hok
  have e1 : len = 2 := of_decide_eq_true hI
  subst e1
  rw [m_s_iload] at hs
  split at hs
  · rename_i hg
    cases hs
    exact lv_iload hx hb hdg (m_lat hl hg) (k _ _ _ hP hS hl)
  · cases hs
theorem k_istore (F : m_Fix E D ty X i d n0 p R s m args meth c) {q : Nat} (hok : m_ok i pc (.istore q, len, a, b) = true) (hs : m_stp X call (.istore q, len, a, b) pc lv st h = some (.inl C'))
    (k : m_At E D ty i n0 z0 p l e R s m args below meth c Q C') : m_At E D ty i n0 z0 p l e R s m args below meth c Q (pc, lv, st, h) := by
  intro H locs ls hP hS hl
  obtain ⟨⟨hx, hb, hml, hown, hts⟩, hKn, hEx, hsz, hi, hini, hR⟩ := F
  obtain ⟨hdg, hI⟩ := m_ok_sp hok
  obtain ⟨e1, e2⟩ : len = 2 ∧ q < m_nl i := of_decide_eq_true hI
  subst e1
  rw [m_s_istore] at hs
  split at hs
  · cases hs
    exact lv_istore hx hb hdg hl e2 (m_st_map E lv q (.int _)) (fun ls' hl' => k _ _ _ hP hS hl')
  · cases hs
theorem k_if_icmp_lt (F : m_Fix E D ty X i d n0 p R s m args meth c) {q : Int} (hok : m_ok i pc (.if_icmp .lt q, len, a, b) = true) (hs : m_stp X call (.if_icmp .lt q, len, a, b) pc lv st h = some (.inl C'))
    (k : m_At E D ty i n0 z0 p l e R s m args below meth c Q C') : m_At E D ty i n0 z0 p l e R s m args below meth c Q (pc, lv, st, h) := by
  intro H locs ls hP hS hl
  obtain ⟨⟨hx, hb, hml, hown, hts⟩, hKn, hEx, hsz, hi, hini, hR⟩ := F
  obtain ⟨hdg, hI⟩ := m_ok_sp hok
  obtain ⟨e1, e2⟩ : len = 3 ∧ (pc : Int) + q = ((a.toNat : Nat) : Int) := of_decide_eq_true hI
  subst e1
  rw [m_s_if_icmp_lt] at hs
  split at hs
  · refine lv_icmp_lt hx hb hdg e2 (fun h1 => ?_) (fun h1 => ?_)
    · first | rw [if_pos h1] at hs | rw [if_neg (fun h2 => h2 h1)] at hs
      cases hs
      exact k _ _ _ hP hS hl
    · first | rw [if_neg h1] at hs
      cases hs
      exact k _ _ _ hP hS hl
  · cases hs
theorem m_pf_in {o k f g : Nat} (h : (o, k, f, g) ∈ m_pf) : Cond.fieldLink (m_cn o) k (m_fd f g).1 (m_fd f g).2.1 (m_fd f g).2.2.1 ∈ lw_good ∧ f < 11 ∧ g < (m_cl f).2.2 := by
  obtain ⟨j, hj⟩ := m_zip m_pf_ln m_pf_ok h
  simp only [Bool.and_eq_true, decide_eq_true_eq] at hj
  exact ⟨m_hi_in hj.1, hj.2.1, hj.2.2⟩
theorem m_pfN_in {o k f g : Nat} (h : (o, k, f, g) ∈ m_pfN) : Cond.fieldLinkNest (m_cn o) k (m_fd f g).1 (m_fd f g).2.1 (m_fd f g).2.2.1 m_host ∈ m_nw ∧ f < 11 ∧ g < (m_cl f).2.2 := by
  have hj := List.all_eq_true.mp m_pfN_ok _ h
  simp only [Bool.and_eq_true, decide_eq_true_eq] at hj
  refine ⟨?_, hj⟩
  unfold m_nw
  exact List.mem_append_left _ (List.mem_append_left _ (List.mem_append_left _ (List.mem_map.mpr ⟨_, h, rfl⟩)))
theorem m_cell_o (E : m_AE) (ty : Nat → ClassId) {t : Nat} (h : t < 20) (vs : List Value) : m_cell E ty (t, vs) = .inr (t, vs.map (m_rv E)) := if_pos h
theorem k_getfield (F : m_Fix E D ty X i d n0 p R s m args meth c) {q : Nat} (hok : m_ok i pc (.getfield q, len, a, b) = true) (hs : m_stp X call (.getfield q, len, a, b) pc lv st h = some (.inl C'))
    (k : m_At E D ty i n0 z0 p l e R s m args below meth c Q C') : m_At E D ty i n0 z0 p l e R s m args below meth c Q (pc, lv, st, h) := by
  intro H locs ls hP hS hl
  obtain ⟨⟨hx, hb, hml, hown, hts⟩, hKn, hEx, hsz, hi, hini, hR⟩ := F
  obtain ⟨hdg, hI⟩ := m_ok_sp hok
  obtain ⟨e1, e2⟩ : len = 3 ∧ ((m_oc i, q, b, a.toNat % 100) ∈ m_pf ∨ (m_oc i, q, b, a.toNat % 100) ∈ m_pfN) := of_decide_eq_true hI
  subst e1
  have hbk : b < 11 ∧ a.toNat % 100 < (m_cl b).2.2 := by
    rcases e2 with e2 | e2
    · exact (m_pf_in e2).2
    · exact (m_pfN_in e2).2
  rw [m_s_getfield] at hs
  split at hs
  · rename_i x r
    split at hs
    · rename_i t vs ho
      obtain ⟨ho1, ho2⟩ := m_ob_nth ho
      split at hs
      · rename_i e3
        subst e3
        have key : ∀ v, m_nth vs (a.toNat % 100) = some v → m_At E D ty i n0 z0 p l e R s m args below meth c Q (pc + 3, lv, v :: r, h) → W p l e R s m args below meth c H locs (h.length - n0) (m_sz h - z0) Q (F0 m pc ls ((Value.ref x :: r).map (m_rv E))) := by
          intro v hv k
          show W _ _ _ _ _ _ _ _ _ _ _ _ _ _ _ (F0 m pc ls (.ref (m_rl E x) :: r.map (m_rv E)))
          rw [m_rl_in E ho1]
          have he : (m_ws E ty h)[x]? = some (E.1 + x, .inr (t, vs.map (m_rv E))) := by
            rw [m_ws_at ho2, m_cell_o E ty (by omega)]
          have hv2 : (vs.map (m_rv E))[a.toNat % 100]? = some (m_rv E v) := by
            rw [List.getElem?_map, ← m_nth_eq, hv]
            rfl
          rcases e2 with e2 | e2
          · exact va_get hx hb hts (m_in_ok hbk.1) hown hKn.1 hP x he (m_cl_at hbk.1) (a.toNat % 100) hbk.2 (hts _ (m_pf_in e2).1) (fun _ z => z) hv2 hdg (k _ _ _ hP hS hl)
          · exact va_getN hx hb hts (m_in_ok hbk.1) hown hKn.1 hP x he (m_cl_at hbk.1) (a.toNat % 100) hbk.2 (va_Nw.use rfl (hKn.2.1 _ (m_pfN_in e2).1)) (fun _ z => z) hv2 hdg (k _ _ _ hP hS hl)
        split at hs
        · rename_i y hv
          cases hs
          exact key _ hv k
        · rename_i y hv
          cases hs
          exact key _ hv k
        · rename_i hv
          cases hs
          exact key _ hv k
        · cases hs
      · cases hs
    · cases hs
  · cases hs
end STEP
