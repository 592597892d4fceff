/-! THE LAW: what the small machine makes of the law's code, from an empty heap, is what the machine does -/
/-! THE CLAIM OUT OF ONE WALK OF THE LAW'S BODY. Your part is whole_start (and what it stands on); all else here is the same for every law, but numbers. -/
def R_law : String := "WayBoxesLaw"
def lw_P (b : Addr) (xs : List Int32) (args : Array Value) (s : State) : Prop := args = #[.ref b] ∧ s.IntsAt b xs ∧ xs.length ≤ 384 ∧ (Jvm.Cond.and given_1 narrow_1).before args s = true
def lw_Q (_ : Array Value) (s : State) (o : Outcome) (t : State) : Prop := o = .returned (some (.int 1)) ∧ Framed s o t [] 600000 7302250
def lw_Z (below : List Frame) (a : Array Value) (s : State) : State → Prop := fun t => ∃ o, t.status = .running ∧ Ended t below o ∧ lw_Q a s o t
/-- the law's own end, with 1 on the stack, nothing written that was there before, its room as the claim has it -/
theorem lw_ret {p : Program} {l : Launch} {e : Env} {s : State} {m : MethodId} {below : List Frame} {meth : Method} {c : Code} {b : Nat} (hx : p.tables.exec = Jvm.exec) (hb : c.code = code) (hr : meth.sig.returnType = ret) (hlocks : meth.locks = false) {pc : Nat} {H : Heap} {ls : Array Slot} (hdg : decode code pc = .ok (.ireturn, 1)) : W p l e room_1 s m #[Value.ref b] below meth c H [] 600000 7302250 (lw_Z below #[Value.ref b] s) (F0 m pc ls [.int 1]) := by
  intro T hT X
  obtain ⟨fs, hret, hrun, hended, hW, hframe⟩ := X.leave (v := some (.int 1)) (hlocks := hlocks) (fun h => by rw [hr] at h; cases h)
  have hmeth' : T.vm.method? m = some meth := X.method'
  refine ⟨T.setFrames fs, ?_, .returned (some (.int 1)), hrun, hended, rfl, ⟨_, rfl⟩, hW, hframe⟩
  jvm_step X.here [X.here.top, hx, hb, hdg, hmeth', hr, ret, narrow_b1]
  (try refine ⟨rfl, ?_⟩); (try refine ⟨rfl, ?_⟩)
  first | (intro acts; rw [hret _ acts rfl rfl rfl]) | rw [hret _ _ rfl rfl rfl]
  exact Steps.refl _
/-- what holds at the law's entry: the machine, the code, the tables' words (any of lw_tbl by 'hts w (by decide +kernel)'), the script of L ints xs at the cell b, what the Statement gives of the start (any of its parts by flat_of_before) -/
def lw_At (p : Program) (s : State) (m : MethodId) (meth : Method) (c : Code) (b L : Nat) (xs : Nat → Int32) : Prop :=
  p.tables.exec = Jvm.exec ∧ c.code = code ∧ meth.sig.returnType = ret ∧ c.maxLocals = 4 ∧ s.vm.findClass R_law = some m.cls ∧ (∀ w ∈ lw_tbl, w.before #[Value.ref b] s = true) ∧ va_X b L xs s s.heap ∧ b < s.heap.size ∧ meth.locks = false ∧ (Jvm.Cond.and given_1 narrow_1).before #[Value.ref b] s = true
theorem m_cni_ok : (List.range 11).all (fun k => m_hi (m_cni.getD k 0) (.instantiable (m_cl k).1 (m_cl k).2.2)) = true := by decide +kernel
def m_bodies : List Int32 := [1, 2, 3, 0, 11, 0, 21, 0, 0, 0, 0, 31, 0, 0, 41, 0, 51, 0, 61, 0, 0]
def m_above : List Int32 := [-1, 0, 0, 0, 1, 3, 0]
def m_X (xs : List Int32) : Nat → List Int32 := fun j => match j with
  | 0 => xs
  | 1 => m_bodies
  | 2 => m_above
  | _ => []
/-- the law in the small machine answers true, within the room -/
def m_Ok (xs : List Int32) : Prop := ∃ hf : m_H, m_exec (m_X xs) (m_run (m_X xs) 60) (m_code 181) 1000000 0 [(0, .ref 1000000)] [] [] = some (some (.int 1), hf) ∧ hf.length ≤ 600000 ∧ m_sz hf ≤ 7302250
theorem m_arr_of {args : Array Value} {s : State} {t : FieldType} (h : (Cond.arrayClass t).before args s = true) (ht : t = .int ∨ t = .boolean) : ∃ cA : ClassId, ArrOfT s cA t ∧ va_RA s cA t := by
  obtain ⟨cA, kA, comp, h1, h2, h3⟩ := Cond.arrayClass_spec h
  refine ⟨cA, fun n z => ⟨fun k h => (by cases h), kA, h2, comp, h3⟩, ?_⟩
  rcases ht with rfl | rfl <;> exact h1
theorem m_arr_ob {args : Array Value} {s : State} {C : String} (h : (Cond.arrayOver (.object C)).before args s = true) : ∃ cA : ClassId, ArrOfT s cA (.object C) ∧ va_RA s cA (.object C) := by
  obtain ⟨comp, cA, kA, h1, h2, h3, h4, h5⟩ := Cond.arrayOver_spec h
  exact ⟨cA, fun n z => ⟨fun k h => (by cases h), kA, h3, comp, h4⟩, kA, comp, h3, h4, h1, h5⟩
set_option maxRecDepth 100000 in
theorem m_st1 : (List.range 21).all (fun j => decide (Cond.eq (.elem (.static "WayBoxes" "BODIES" "[I") (.int (Int32.ofNat j))) (.int (m_bodies.getD j 0)) ∈ flatC (Jvm.Cond.and given_1 narrow_1))) = true := by decide +kernel
set_option maxRecDepth 100000 in
theorem m_st2 : (List.range 7).all (fun j => decide (Cond.eq (.elem (.static "WayBoxes" "ABOVE" "[I") (.int (Int32.ofNat j))) (.int (m_above.getD j 0)) ∈ flatC (Jvm.Cond.and given_1 narrow_1))) = true := by decide +kernel
set_option maxRecDepth 100000 in
theorem m_st3 : Cond.arrayOf (.static "WayBoxes" "BODIES" "[I") .int ∈ flatC (Jvm.Cond.and given_1 narrow_1) ∧ Cond.arrayOf (.static "WayBoxes" "ABOVE" "[I") .int ∈ flatC (Jvm.Cond.and given_1 narrow_1) ∧ Cond.eq (.length (.static "WayBoxes" "BODIES" "[I")) (.int 21) ∈ flatC (Jvm.Cond.and given_1 narrow_1) ∧ Cond.eq (.length (.static "WayBoxes" "ABOVE" "[I")) (.int 7) ∈ flatC (Jvm.Cond.and given_1 narrow_1) := by decide +kernel
set_option maxRecDepth 100000 in
theorem m_st4 : Cond.laysStatic "WayBoxes" "BODIES" "[I" ∈ lw_tbl ∧ Cond.laysStatic "WayBoxes" "ABOVE" "[I" ∈ lw_tbl ∧ Cond.initialized "WayBoxes" ∈ lw_tbl := by decide +kernel
/-- a constant row -/
theorem m_static {args : Array Value} {s : State} {A : Nat → Prop} {nm : String} {N : Nat} {vs : List Int32} (hN : N < 2 ^ 31) (hl : vs.length = N) (hg : ∀ w ∈ flatC (Jvm.Cond.and given_1 narrow_1), w.before args s = true)
    (h1 : Cond.arrayOf (.static "WayBoxes" nm "[I") .int ∈ flatC (Jvm.Cond.and given_1 narrow_1)) (h2 : Cond.eq (.length (.static "WayBoxes" nm "[I")) (.int (Int32.ofNat N)) ∈ flatC (Jvm.Cond.and given_1 narrow_1))
    (h3 : (List.range N).all (fun j => decide (Cond.eq (.elem (.static "WayBoxes" nm "[I") (.int (Int32.ofNat j))) (.int (vs.getD j 0)) ∈ flatC (Jvm.Cond.and given_1 narrow_1))) = true)
    (h4 : (Cond.laysStatic "WayBoxes" nm "[I").before args s = true) (h5 : (Cond.initialized "WayBoxes").before args s = true) (hA : ∀ a : Nat, a < s.heap.size → ¬ A a) :
    ∃ t : Nat, va_T .int t vs.length (fun k => .int (vs.getD k 0)) A s s.heap ∧ va_Z "WayBoxes" nm "[I" (.ref t) A s s.heap := by
  subst hl
  obtain ⟨t, ht, hT⟩ := va_Tof (f := fun k => .int (vs.getD k 0)) (A := A) hN (hg _ h1) (va_eqt (hg _ h2)) (fun j hj => va_eqt (hg _ (of_decide_eq_true (List.all_eq_true.mp h3 j (List.mem_range.mpr hj))))) hA
  exact ⟨t, hT, va_Zof h4 h5 ht hA⟩
theorem m_inr {X : Nat → List Int32} {call : Nat → List Value → m_H → Option m_R} {ins : Instr} {len : Nat} {a : Int} {b pc : Nat} {lv : m_L} {st : List Value} {h : m_H} {r : m_R} (hs : m_stp X call (ins, len, a, b) pc lv st h = some (.inr r)) : ins = .ireturn ∨ ins = .areturn ∨ ins = .return_ := by
  cases ins
  case ireturn => exact Or.inl rfl
  case areturn => exact Or.inr (Or.inl rfl)
  case return_ => exact Or.inr (Or.inr rfl)
  all_goals
    exfalso
    first
    | (have h2 : (none : Option (m_C ⊕ m_R)) = some (.inr r) := hs
       cases h2; done)
    | (unfold m_stp at hs
       dsimp only at hs
       (repeat' split at hs) <;> first | contradiction | (cases hs; done))
set_option maxHeartbeats 4000000 in
/-- the law's walk is the small machine's run -/
theorem m_law {p : Program} {e : Env} {s : State} {m : MethodId} {below : List Frame} {meth : Method} {c : Code} (l : Launch) {b L : Nat} {xs : Nat → Int32} (C0 : lw_At p s m meth c b L xs) (hL : L < 2 ^ 31) (hok : m_Ok ((List.range L).map xs)) :
    W p l e room_1 s m #[Value.ref b] below meth c s.heap [] 0 0 (lw_Z below #[Value.ref b] s) (entryFrame m ([Value.ref b] : List Value).toArray 4) := by
  obtain ⟨hx, hb, hr, hml, hown, hts, hX, hbl, hlocks, hgv⟩ := id C0
  obtain ⟨hf, hrun, hf1, hf2⟩ := hok
  have hg : ∀ w ∈ flatC (Jvm.Cond.and given_1 narrow_1), w.before #[Value.ref b] s = true := flat_of_before _ hgv
  have hgood : ∀ w ∈ lw_good, w.before #[Value.ref b] s = true := fun w hw => hts w (lw_good_in hw)
  have hA : ∀ a : Nat, a < s.heap.size → ¬ (fun q : Nat => s.heap.size ≤ q) a := fun a h1 h2 => by have h2 : s.heap.size ≤ a := h2; omega
  obtain ⟨t1, hT1, hZ1⟩ := m_static (A := fun q : Nat => s.heap.size ≤ q) (nm := "BODIES") (N := 21) (vs := m_bodies) (by decide) rfl hg m_st3.1 m_st3.2.2.1 m_st1 (hts _ m_st4.1) (hts _ m_st4.2.2) hA
  obtain ⟨t2, hT2, hZ2⟩ := m_static (A := fun q : Nat => s.heap.size ≤ q) (nm := "ABOVE") (N := 7) (vs := m_above) (by decide) rfl hg m_st3.2.1 m_st3.2.2.2 m_st2 (hts _ m_st4.2.1) (hts _ m_st4.2.2) hA
  have hcl : ∀ k : Nat, ∃ (cC : ClassId) (iS : Nat → Nat), k < 11 → u_Kn s (m_cl k).1 (m_cl k).2.1 (m_cl k).2.2 cC iS := by
    intro k
    by_cases hk : k < 11
    · have hin : Cond.instantiable (m_cl k).1 (m_cl k).2.2 ∈ lw_good := by
        have : (List.range 11).all (fun k => m_hi (m_cni.getD k 0) (.instantiable (m_cl k).1 (m_cl k).2.2)) = true := m_cni_ok
        exact m_hi_in (List.all_eq_true.mp this k (List.mem_range.mpr hk))
      obtain ⟨cC, iS, h1⟩ := u_known hgood (m_in_ok hk) (hgood _ hin)
      exact ⟨cC, iS, fun _ => h1⟩
    · exact ⟨0, fun _ => 0, fun h => absurd h hk⟩
  have hD : ∃ D : va_G, ∀ (k : Nat) (q : vw_C), vwCl[k]? = some q → u_Kn s q.1 q.2.1 q.2.2 (D.1 k) (D.2 k) := by
    refine ⟨(fun k => (hcl k).choose, fun k => (hcl k).choose_spec.choose), fun k q hq => ?_⟩
    have hk : k < 11 := (List.getElem?_eq_some_iff.mp hq).1
    have h1 := (hcl k).choose_spec.choose_spec hk
    rw [m_cl_at hk] at hq
    cases hq
    exact h1
  obtain ⟨D, hD⟩ := hD
  have hao : ∀ C ∈ m_ao, (Cond.arrayOver (.object C)).before #[Value.ref b] s = true := fun C hC => hts _ (of_decide_eq_true (List.all_eq_true.mp m_ao_ok C hC))
  obtain ⟨a0, ha0⟩ := m_arr_of (hgood _ (m_has_in m_arr_ok.1)) (Or.inl rfl)
  obtain ⟨a1, ha1⟩ := m_arr_of (hgood _ (m_has_in m_arr_ok.2)) (Or.inr rfl)
  obtain ⟨a2, ha2⟩ := m_arr_ob (hao "WayBoxes$Text" (by decide))
  obtain ⟨a3, ha3⟩ := m_arr_ob (hao "WayBoxes$Box" (by decide))
  obtain ⟨a4, ha4⟩ := m_arr_ob (hao "WayBoxes$Packet" (by decide))
  obtain ⟨a5, ha5⟩ := m_arr_ob (hao "WayBoxes$Memory" (by decide))
  obtain ⟨a6, ha6⟩ := m_arr_ob (hao "WayBoxes$Watch" (by decide))
  have hKn : m_Kn D (fun k => [a0, a1, a2, a3, a4, a5, a6].getD k 0) s := by
    refine ⟨⟨hD, ?_⟩, fun w hw => va_Nw.of (m_nw_tab hw) (hts _ (of_decide_eq_true (List.all_eq_true.mp m_nw_ok w hw))), fun C hC => va_AO.of (hao C hC)⟩
    intro k q hq
    have hk : k < 7 := (List.getElem?_eq_some_iff.mp hq).1
    have : k = 0 ∨ k = 1 ∨ k = 2 ∨ k = 3 ∨ k = 4 ∨ k = 5 ∨ k = 6 := by omega
    rcases this with rfl | rfl | rfl | rfl | rfl | rfl | rfl <;> cases hq
    · exact ha0
    · exact ha1
    · exact ha2
    · exact ha3
    · exact ha4
    · exact ha5
    · exact ha6
  have hEx : m_Ex (s.heap.size, fun j => if j = 0 then b else if j = 1 then t1 else t2) (m_X ((List.range L).map xs)) s s.heap := by
    refine ⟨fun j hj => ?_, fun j hj => ?_⟩
    · have : j = 0 ∨ j = 1 ∨ j = 2 := by omega
      rcases this with rfl | rfl | rfl
      · obtain ⟨scr, g1, g2, g3, g4, g5⟩ := hX
        refine ⟨scr, g1, g2, g3, ?_, ?_, fun k hk => ?_, hA b hbl⟩
        · show ((List.range L).map xs).length ≤ _
          simp [g4]
        · show _ = Int32.ofNat ((List.range L).map xs).length
          simp [g4]
        · have hk : k < ((List.range L).map xs).length := hk
          have hk2 : k < L := by simpa using hk
          rw [g5 k hk2]
          show _ = some (Value.int (((List.range L).map xs).getD k 0))
          simp [List.getD_eq_getElem?_getD, hk2]
      · exact hT1
      · exact hT2
    · rcases hj with rfl | rfl
      · exact hZ1
      · exact hZ2
  have F : m_Fix (s.heap.size, fun j => if j = 0 then b else if j = 1 then t1 else t2) D (fun k => [a0, a1, a2, a3, a4, a5, a6].getD k 0) (m_X ((List.range L).map xs)) 181 60 0 p room_1 s m #[Value.ref b] meth c :=
    ⟨⟨hx, hb, hml, hown, hgood⟩, hKn, hEx, rfl, by decide, fun h => absurd h (by decide +kernel), by decide, by decide⟩
  have hl := lv_entry ([.ref b]) (n := 4) (Nat.le_of_ble_eq_true rfl)
  rw [lg_entry_eq]
  generalize (lg_sl ([.ref b]) ++ List.replicate (4 - (lg_sl ([.ref b])).length) Slot.unset).toArray = ls at hl ⊢
  have hl : lv_has ls (m_nl 181) (([(0, .ref 1000000)] : m_L).map (m_rq (s.heap.size, fun j => if j = 0 then b else if j = 1 then t1 else t2))) := hl
  refine m_exec_sim (z0 := 0) (l := l) (e := e) (below := below) (Q := lw_Z below #[Value.ref b] s) F (m_met_all 60) (m_run_mono 60) (v := some (.int 1)) (hf := hf) hf1 hf2 ?_ _ _ _ _ _ hrun (Nat.le_refl _) (Nat.le_refl _) s.heap [] ls (fun k q h => by simp [m_ws] at h) va_S.rf hl
  intro en pc lv st h hen hn hz hs
  obtain ⟨ins, len, a, bb⟩ := en
  intro H locs ls2 hP hS hl2
  dsimp only at hP hl2 ⊢
  obtain ⟨hdg, hI⟩ := m_ok_sp hen
  rcases m_inr hs with rfl | rfl | rfl
  · obtain ⟨e1, e2⟩ : len = 1 ∧ ((m_rt 181 = some .int ∧ bb = 0) ∨ (m_rt 181 = some .boolean ∧ bb = 1)) := of_decide_eq_true hI
    subst e1
    rw [m_s_ireturn] at hs
    split at hs
    · rename_i x
      split at hs
      · cases hs
        refine va_forget (fun q hq => hS.2.2 q hq) ?_
        refine W.widen (k := 600000) (n := 7302250) (by omega) (by omega) ?_
        exact lw_ret hx hb hr hlocks hdg
      · cases hs
    · cases hs
  · exfalso
    have hI : (match m_rt 181 with
      | some (.object _) => decide (len = 1)
      | _ => false) = true := hI
    cases hI
  · exfalso
    obtain ⟨e1, e2⟩ : len = 1 ∧ m_rt 181 = none := of_decide_eq_true hI
    cases e2
