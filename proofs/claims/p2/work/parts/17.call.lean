/-! calls -/
def m_coLL : List (List (Nat × Nat)) := [[(0, 127), (1, 484), (2, 798), (3, 539), (4, 628), (5, 601), (6, 133), (7, 489), (8, 672), (9, 561)], [(10, 573), (11, 569), (12, 632), (13, 660), (14, 664), (15, 512), (16, 237), (17, 349), (18, 464), (19, 404)], [(20, 416), (21, 420), (22, 424), (23, 432), (24, 448), (25, 452), (26, 456), (27, 436), (28, 412), (29, 428)], [(30, 408), (31, 257), (32, 697), (33, 701), (34, 705), (35, 708), (36, 723), (37, 712), (38, 716), (39, 752)], [(40, 756), (41, 91), (42, 793), (43, 472), (44, 498), (45, 624), (46, 597), (47, 609), (48, 354), (49, 397)], [(50, 440), (51, 460), (52, 551), (53, 444), (54, 543), (55, 547), (56, 565), (57, 577), (58, 554), (59, 103)], [(60, 804), (61, 764), (62, 768), (63, 776), (64, 268), (65, 727), (66, 732), (67, 736), (68, 740), (69, 83)], [(70, 341), (71, 345), (72, 468), (73, 476), (74, 480), (75, 494), (76, 582), (77, 589), (78, 593), (79, 605)], [(80, 616), (81, 638), (82, 642), (83, 652), (84, 656), (85, 668), (86, 679), (87, 683), (88, 687), (89, 744)], [(90, 748), (91, 760), (92, 780), (93, 784), (94, 789), (95, 809), (96, 813), (97, 501), (98, 504), (99, 619)], [(100, 507), (101, 690), (102, 693), (103, 557), (104, 818), (105, 959), (106, 1021), (107, 1040), (108, 1046), (109, 1028)], [(110, 1127), (111, 956), (112, 972), (113, 992), (114, 976), (115, 1004), (116, 1000), (117, 996), (118, 988), (119, 984)], [(120, 980), (121, 1013), (122, 1009), (123, 968), (124, 964), (125, 1017), (126, 1025), (127, 1070), (128, 1066), (129, 1078)], [(130, 1062), (131, 1074), (132, 1058), (133, 1050), (134, 1054), (135, 1043), (136, 1032), (137, 1036), (138, 1082), (139, 1087)], [(140, 1116), (141, 1095), (142, 1091), (143, 1103), (144, 1099), (145, 1112), (146, 1107), (147, 1120), (148, 1124), (149, 1131)], [(150, 1135), (151, 1139), (152, 1143), (153, 1147), (154, 1163), (155, 1167), (156, 1171), (157, 1159), (158, 1175), (159, 1155)], [(160, 1151), (161, 1183), (162, 1179), (163, 1191), (164, 1187), (165, 1203), (166, 1218), (167, 1207), (168, 1199), (169, 1215)], [(170, 1211), (171, 1226), (172, 1222), (173, 1195), (174, 1230), (175, 1234), (176, 1238), (177, 1242), (178, 1246), (179, 645)], [(180, 400)]]
theorem m_coLL_ok : ∀ l ∈ m_coLL, ∀ e ∈ l, m_nth lw_tbl e.2 = some (.code (m_y e.1) (m_b e.1) (m_nl e.1) (m_rt e.1)) := List.forall_mem_cons.mpr ⟨m_co_0, List.forall_mem_cons.mpr ⟨m_co_10, List.forall_mem_cons.mpr ⟨m_co_20, List.forall_mem_cons.mpr ⟨m_co_30, List.forall_mem_cons.mpr ⟨m_co_40, List.forall_mem_cons.mpr ⟨m_co_50, List.forall_mem_cons.mpr ⟨m_co_60, List.forall_mem_cons.mpr ⟨m_co_70, List.forall_mem_cons.mpr ⟨m_co_80, List.forall_mem_cons.mpr ⟨m_co_90, List.forall_mem_cons.mpr ⟨m_co_100, List.forall_mem_cons.mpr ⟨m_co_110, List.forall_mem_cons.mpr ⟨m_co_120, List.forall_mem_cons.mpr ⟨m_co_130, List.forall_mem_cons.mpr ⟨m_co_140, List.forall_mem_cons.mpr ⟨m_co_150, List.forall_mem_cons.mpr ⟨m_co_160, List.forall_mem_cons.mpr ⟨m_co_170, List.forall_mem_cons.mpr ⟨m_co_180, fun _ h => absurd h List.not_mem_nil⟩⟩⟩⟩⟩⟩⟩⟩⟩⟩⟩⟩⟩⟩⟩⟩⟩⟩⟩
def m_isM (j : Nat) : Prop := j < 182 ∧ ¬ j = 181
theorem m_coLL_all : (List.range 182).all (fun j => j == 181 || m_coLL.any (fun l => l.any (fun e => e.1 == j))) = true := by decide +kernel
theorem m_code_in {j : Nat} (h : m_isM j) : Cond.code (m_y j) (m_b j) (m_nl j) (m_rt j) ∈ lw_good := by
  have h1 := List.all_eq_true.mp m_coLL_all j (List.mem_range.mpr h.1)
  rw [Bool.or_eq_true] at h1
  rcases h1 with h1 | h1
  · exact absurd (by simpa using h1) h.2
  · obtain ⟨l, hl, h2⟩ := List.any_eq_true.mp h1
    obtain ⟨e, he, h3⟩ := List.any_eq_true.mp h2
    have h4 := m_coLL_ok l hl e he
    have h5 : e.1 = j := by simpa using h3
    rw [h5, m_nth_eq] at h4
    exact List.mem_filter.mpr ⟨List.mem_of_getElem? h4, rfl⟩
/-- the words of a method: its code, and all that the tables keep -/
def m_wsM (j : Nat) : List Cond := .code (m_y j) (m_b j) (m_nl j) (m_rt j) :: lw_good
theorem m_good {w : Cond} (h : w ∈ lw_good) : w ∈ lw_good ∧ ((w.onTables && w.keeps) = true ∨ ∃ t, w = .arrayClass t) := ⟨h, good_of_word (lw_good_ok h)⟩
theorem m_wsM_in {j : Nat} (h : m_isM j) : GoodIn lw_good (m_wsM j) := by
  intro w hw
  rcases List.mem_cons.mp hw with rfl | hw
  · exact m_good (m_code_in h)
  · exact m_good hw
theorem m_cn_ne (k : Nat) : m_cn k ≠ "java/lang/invoke/MethodHandle" ∧ m_cn k ≠ "java/lang/invoke/VarHandle" := by
  unfold m_cn
  rw [List.getD_eq_getElem?_getD]
  cases hk : m_cnL[k]? with
  | none => exact ⟨by decide, by decide⟩
  | some x =>
    have h1 : ∀ x ∈ m_cnL, x ≠ "java/lang/invoke/MethodHandle" ∧ x ≠ "java/lang/invoke/VarHandle" := by decide +kernel
    exact h1 x (List.mem_of_getElem? hk)
theorem m_calls_sp {j : Nat} (h : m_calls j = true) : Cond.initialized (m_y j).cls ∈ lw_good ∧ (m_y j).cls = m_cn (m_oc j) ∧ (parseMethodDescriptor (m_y j).desc).map (fun d => d.parameters.length) = some (m_na j) ∧ m_nl j ≤ 40 ∧ m_isM j := by
  simp only [m_calls, Bool.and_eq_true, decide_eq_true_eq] at h
  exact ⟨m_hi_in h.1.1, h.1.2.1, h.1.2.2.1, h.1.2.2.2.1, h.2⟩
theorem m_pmV_in {o k j : Nat} (h : (o, k, j) ∈ m_pmV) : Cond.methodLink (m_cn o) k (m_y j) ∈ lw_good ∧ m_callV j = true := by
  obtain ⟨z, hz⟩ := m_zip m_pmV_ln m_pmV_lk h
  have h2 := List.all_eq_true.mp m_pmV_q _ h
  exact ⟨m_hi_in hz, List.all_eq_true.mp m_qV_ok j (List.contains_iff_mem.mp h2)⟩
theorem m_pmS_in {o k j : Nat} (h : (o, k, j) ∈ m_pmS) : Cond.methodLink (m_cn o) k (m_y j) ∈ lw_good ∧ m_callS j = true := by
  obtain ⟨z, hz⟩ := m_zip m_pmS_ln m_pmS_lk h
  have h2 := List.all_eq_true.mp m_pmS_q _ (List.mem_append_left _ h)
  exact ⟨m_hi_in hz, List.all_eq_true.mp m_qS_ok j (List.contains_iff_mem.mp h2)⟩
theorem m_pmSN_in {o k j : Nat} (h : (o, k, j) ∈ m_pmSN) : Cond.methodLinkNest (m_cn o) k (m_y j) m_host ∈ m_nw ∧ m_callS j = true := by
  have h2 := List.all_eq_true.mp m_pmS_q _ (List.mem_append_right _ h)
  refine ⟨?_, List.all_eq_true.mp m_qS_ok j (List.contains_iff_mem.mp h2)⟩
  unfold m_nw
  exact List.mem_append_left _ (List.mem_append_right _ (List.mem_map.mpr ⟨_, h, rfl⟩))
theorem m_pmI_in {o k j : Nat} (h : (o, k, j) ∈ m_pmI) : Cond.methodLink (m_cn o) k (m_y j) ∈ lw_good ∧ m_inits j = true := by
  obtain ⟨z, hz⟩ := m_zip m_pmI_ln m_pmI_lk h
  have h2 := List.all_eq_true.mp m_pmI_q _ (List.mem_append_left _ h)
  exact ⟨m_hi_in hz, List.all_eq_true.mp m_qI_ok j (List.contains_iff_mem.mp h2)⟩
theorem m_pmIN_in {o k j : Nat} (h : (o, k, j) ∈ m_pmIN) : Cond.methodLinkNest (m_cn o) k (m_y j) m_host ∈ m_nw ∧ m_inits j = true := by
  have h2 := List.all_eq_true.mp m_pmI_q _ (List.mem_append_right _ h)
  refine ⟨?_, List.all_eq_true.mp m_qI_ok j (List.contains_iff_mem.mp h2)⟩
  unfold m_nw
  exact List.mem_append_right _ (List.mem_map.mpr ⟨_, h, rfl⟩)
def m_Pc (E : m_AE) (D : va_G) (ty : Nat → ClassId) (X : Nat → List Int32) (as : List Value) (h : m_H) : Array Value → State → Prop := fun a U => a = (as.map (m_rv E)).toArray ∧ m_B E D ty X h U
def m_Qc (E : m_AE) (D : va_G) (ty : Nat → ClassId) (X : Nat → List Int32) (v : Option Value) (h : m_H) : Array Value → State → Outcome → State → Prop := fun _ st o t => o = .returned (v.map (m_rv E)) ∧ m_B E D ty X h t ∧ va_F (m_A E) st t
/-- what the called methods do is what the small machine says -/
def m_Met (l : Launch) (E : m_AE) (D : va_G) (ty : Nat → ClassId) (X : Nat → List Int32) (call : Nat → List Value → m_H → Option m_R) (d : Nat) : Prop :=
  ∀ (j : Nat) (as : List Value) (h : m_H) (v : Option Value) (h' : m_H), m_isM j → call j as h = some (v, h') → (h.length ≤ h'.length ∧ m_sz h ≤ m_sz h') ∧ Met l (m_y j) (m_wsM j) { frames := d, cells := h'.length - h.length, slots := m_sz h' - m_sz h, locals := 100 * d } (m_Pc E D ty X as h) (m_Qc E D ty X v h') (h'.length - h.length) (m_sz h' - m_sz h) (m_A E)
theorem m_Pc_blind {E : m_AE} {D : va_G} {ty : Nat → ClassId} {X : Nat → List Int32} {as : List Value} {h : m_H} : FrameBlind (m_Pc E D ty X as h) := by
  rintro a U g mk ⟨h1, h2, h3, h4, h5⟩
  exact ⟨h1, h2, h3, h4.same (U := U.calling g mk a) rfl, h5.kept (U := U.calling g mk a) (Vm.Alike.refl U.vm) (fun _ _ _ => rfl)⟩
theorem m_cat_sum {E : m_AE} {r : List Value} (h : r.length ≤ 4) : ((r.map (m_rv E)).map fun v => v.category).sum ≤ 8 := by
  have h1 : ∀ r : List Value, ((r.map (m_rv E)).map fun v => v.category).sum ≤ 2 * r.length := by
    intro r
    induction r with
    | nil => exact Nat.le_refl _
    | cons v r ih =>
      have h2 : (m_rv E v).category ≤ 2 := by cases v <;> simp [m_rv, Value.category]
      simp only [List.map_cons, List.sum_cons, List.length_cons]
      omega
  have := h1 r
  omega
section CALL
variable {p : Program} {l : Launch} {e : Env} {R : Room} {s : State} {m : MethodId} {args : Array Value} {below : List Frame} {meth : Method} {c : Code} {Q : State → Prop}
variable {E : m_AE} {D : va_G} {ty : Nat → ClassId} {X : Nat → List Int32} {i d n0 z0 : Nat} {call : Nat → List Value → m_H → Option m_R} {len : Nat} {a : Int} {b pc : Nat} {lv : m_L} {st : List Value} {h : m_H} {C' : m_C}
variable {H : Heap} {locs : List Loc} {ls : Array Slot} {v : Option Value} {h' : m_H} {as : List Value} {r : List Value}
theorem m_size_ge {H : Heap} (hP : va_P D vwCl (m_ws E ty h) H) (hb : E.1 ≤ H.size) : E.1 + h.length ≤ H.size := by
  cases hn : h.length with
  | zero => exact hb
  | succ n =>
    have h1 : (m_ws E ty h)[n]? = some (E.1 + n, m_cell E ty h[n]) := by
      rw [m_ws_get, List.getElem?_eq_getElem (by omega)]
      rfl
    have := (hP _ _ h1).lt
    dsimp only at this
    omega
/-- the world at a call -/
theorem m_B_at {U : State} (hsz : s.heap.size = E.1 + n0) (hKn : m_Kn D ty s) (hEx : m_Ex E X s s.heap) (hP : va_P D vwCl (m_ws E ty h) H) (hS : va_S (m_A E) s.heap H locs) (hn : n0 ≤ h.length) (hH : H.size ≤ s.heap.size + (h.length - n0)) (hU : U.heap = H) (hW : s.WarmedH U.vm) : m_B E D ty X h U := by
  refine ⟨?_, by rw [hU]; exact hP, hKn.warm hW, hEx.kept hW.alike (fun q h1 h2 => by rw [hU]; exact hS.2.1 q h1 h2)⟩
  rw [hU]
  have h1 := m_size_ge hP (by have := hS.1; omega)
  omega
/-- behind a call -/
theorem m_back (hsz : s.heap.size = E.1 + n0) (hr : va_Run p l e R s m args below meth c H locs (h.length - n0) (m_sz h - z0) (h'.length - h.length) (m_sz h' - m_sz h) (F0 m pc ls (st.map (m_rv E))) (r.map (m_rv E)) (m_Qc E D ty X v h' (as.map (m_rv E)).toArray) (m_A E))
    (hS : va_S (m_A E) s.heap H locs) (hl : lv_has ls (m_nl i) (lv.map (m_rq E))) (hn : n0 ≤ h.length) (hz : z0 ≤ m_sz h) (hm : h.length ≤ h'.length ∧ m_sz h ≤ m_sz h')
    (k : m_At E D ty i n0 z0 p l e R s m args below meth c Q (pc + 3, lv, v.toList ++ r, h')) : W p l e R s m args below meth c H locs (h.length - n0) (m_sz h - z0) Q (F0 m pc ls (st.map (m_rv E))) := by
  intro T hT Y
  obtain ⟨w, st₀, t, T', L, h0, X', hL, e1, e2, ⟨hv, hB, hz1, hk⟩, stp⟩ := hr T hT Y
  have hw : w = v.map (m_rv E) := by cases hv; rfl
  subst hw
  rw [h0] at hz1 hk
  have kz := k T'.heap (locs ++ L) ls (by rw [e1]; exact hB.2.1)
    ⟨Nat.le_trans hS.1 (by rw [e1]; exact hz1), fun q g1 g2 => by rw [e1, hk q (Nat.lt_of_lt_of_le g1 hS.1) g2]; exact hS.2.1 q g1 g2, fun q hq => by
      rcases List.mem_append.mp hq with g | g
      · exact hS.2.2 q g
      · exact hL q g⟩ hl
  dsimp only at kz
  have e3 : h'.length - n0 = h.length - n0 + (h'.length - h.length) := by omega
  have e4 : m_sz h' - z0 = m_sz h - z0 + (m_sz h' - m_sz h) := by omega
  rw [e3, e4] at kz
  have e5 : (v.toList ++ r).map (m_rv E) = (v.map (m_rv E)).toList ++ r.map (m_rv E) := by
    rw [List.map_append]
    cases v <;> rfl
  rw [e5] at kz
  obtain ⟨t2, a1, b1⟩ := kz T' rfl X'
  exact ⟨t2, stp t2 a1, b1⟩
theorem m_cwB {j : Nat} (hts : ∀ w ∈ lw_good, w.before args s = true) (hc : m_calls j = true) {d' : Nat} (hR : d' + 1 ≤ R.frames ∧ 100 * (d' + 1) ≤ R.locals) {o q mc ms : Nat} (hk : Cond.methodLink (m_cn o) q (m_y j) ∈ lw_good) :
    CallB R s args (m_cn o) q (m_y j) (m_b j) (m_nl j) (m_rt j) (m_wsM j) { frames := d', cells := mc, slots := ms, locals := 100 * d' } mc ms (m_na j) := by
  obtain ⟨g1, g2, g3, g4, g5⟩ := m_calls_sp hc
  refine callB_of (m_na j) hts (m_wsM_in g5) rfl rfl rfl (hts _ g1) (hts _ hk) ⟨?_, ?_, g3⟩ ⟨hR.1, ?_⟩
  · rw [g2]; exact (m_cn_ne _).1
  · rw [g2]; exact (m_cn_ne _).2
  · show 8 + (m_nl j + 11) + 100 * d' ≤ R.locals
    omega
theorem m_cnB {j : Nat} (hts : ∀ w ∈ lw_good, w.before args s = true) (hc : m_calls j = true) {d' : Nat} (hR : d' + 1 ≤ R.frames ∧ 100 * (d' + 1) ≤ R.locals) {o q mc ms : Nat} (hk : va_Nw (.methodLinkNest (m_cn o) q (m_y j) m_host) s) :
    va_CN R s args (m_cn o) q (m_y j) m_host (m_b j) (m_nl j) (m_rt j) (m_wsM j) { frames := d', cells := mc, slots := ms, locals := 100 * d' } mc ms (m_na j) := by
  obtain ⟨g1, g2, g3, g4, g5⟩ := m_calls_sp hc
  refine va_cnB (m_na j) hts (m_wsM_in g5) rfl rfl rfl hk (hts _ g1) ⟨?_, ?_, g3⟩ ⟨hR.1, ?_⟩
  · rw [g2]; exact (m_cn_ne _).1
  · rw [g2]; exact (m_cn_ne _).2
  · show 8 + (m_nl j + 11) + 100 * d' ≤ R.locals
    omega
end CALL
