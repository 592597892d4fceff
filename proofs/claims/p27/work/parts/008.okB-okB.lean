/-! the tables are what the bytes say -/
set_option maxRecDepth 100000 in
theorem m_okF_0 : ([0, 1, 2, 3, 4, 5, 6, 7, 8, 9, 10, 11, 12, 13, 14, 15, 16, 17, 18, 19, 20, 21, 22, 23, 24, 25, 26, 27, 28, 29] : List Nat).all m_fkM = true := by decide +kernel
set_option maxRecDepth 100000 in
theorem m_okF_1 : ([30, 31, 32, 33, 34, 35, 36, 37, 38, 39, 40, 41, 42, 43, 44, 45, 46, 47, 48, 49, 50, 51, 52, 53, 54, 55, 56, 57, 58, 59] : List Nat).all m_fkM = true := by decide +kernel
set_option maxRecDepth 100000 in
theorem m_okF_2 : ([60, 61, 62, 63, 64, 65, 66, 67, 68, 69, 70, 71, 72, 73, 74, 75, 76, 77, 78, 79, 80, 81, 82, 83, 84, 85, 86, 87, 88, 89] : List Nat).all m_fkM = true := by decide +kernel
set_option maxRecDepth 100000 in
theorem m_okF_3 : ([90, 91, 92, 93, 94, 95, 96, 97, 98, 99, 100, 101, 102, 103, 104, 105, 106, 107, 108, 109, 110, 111, 112, 113, 114, 115, 116, 117, 118, 119] : List Nat).all m_fkM = true := by decide +kernel
set_option maxRecDepth 100000 in
theorem m_okF_4 : ([120, 121, 122, 123, 124, 125, 126, 127, 128, 129, 130, 131, 132, 133, 134, 135, 136, 137, 138, 139, 140, 141, 142, 143, 144, 145, 146, 147, 148, 149] : List Nat).all m_fkM = true := by decide +kernel
set_option maxRecDepth 100000 in
theorem m_okF_5 : ([150, 151, 152, 153, 154, 155, 156, 157, 158, 159, 160, 161, 162, 163, 164, 165, 166, 167, 168, 169, 170, 171, 172, 173, 174, 175, 176, 177, 178, 179] : List Nat).all m_fkM = true := by decide +kernel
set_option maxRecDepth 100000 in
theorem m_okF_6 : ([180] : List Nat).all m_fkM = true := by decide +kernel
set_option maxRecDepth 100000 in
theorem m_okF_7 : ([181] : List Nat).all m_fkM = true := by decide +kernel
def m_okList : List (List Nat) := [[0, 1, 2, 3, 4, 5, 6, 7, 8, 9, 10, 11, 12, 13, 14, 15, 16, 17, 18, 19, 20, 21, 22, 23, 24, 25, 26, 27, 28, 29], [30, 31, 32, 33, 34, 35, 36, 37, 38, 39, 40, 41, 42, 43, 44, 45, 46, 47, 48, 49, 50, 51, 52, 53, 54, 55, 56, 57, 58, 59], [60, 61, 62, 63, 64, 65, 66, 67, 68, 69, 70, 71, 72, 73, 74, 75, 76, 77, 78, 79, 80, 81, 82, 83, 84, 85, 86, 87, 88, 89], [90, 91, 92, 93, 94, 95, 96, 97, 98, 99, 100, 101, 102, 103, 104, 105, 106, 107, 108, 109, 110, 111, 112, 113, 114, 115, 116, 117, 118, 119], [120, 121, 122, 123, 124, 125, 126, 127, 128, 129, 130, 131, 132, 133, 134, 135, 136, 137, 138, 139, 140, 141, 142, 143, 144, 145, 146, 147, 148, 149], [150, 151, 152, 153, 154, 155, 156, 157, 158, 159, 160, 161, 162, 163, 164, 165, 166, 167, 168, 169, 170, 171, 172, 173, 174, 175, 176, 177, 178, 179], [180], [181]]
theorem m_okLists : ∀ l ∈ m_okList, l.all m_fkM = true := List.forall_mem_cons.mpr ⟨m_okF_0, List.forall_mem_cons.mpr ⟨m_okF_1, List.forall_mem_cons.mpr ⟨m_okF_2, List.forall_mem_cons.mpr ⟨m_okF_3, List.forall_mem_cons.mpr ⟨m_okF_4, List.forall_mem_cons.mpr ⟨m_okF_5, List.forall_mem_cons.mpr ⟨m_okF_6, List.forall_mem_cons.mpr ⟨m_okF_7, fun _ h => absurd h List.not_mem_nil⟩⟩⟩⟩⟩⟩⟩⟩
theorem m_okCover : (List.range 182).all (fun i => m_okList.any (fun l => l.contains i)) = true := by decide +kernel
theorem m_okF_all {i : Nat} (h : i < 182) : m_fkM i = true := by
  have h1 := List.all_eq_true.mp m_okCover i (List.mem_range.mpr h)
  obtain ⟨l, hl, hc⟩ := List.any_eq_true.mp h1
  exact List.all_eq_true.mp (m_okLists l hl) i (List.contains_iff_mem.mp hc)
theorem m_ok_at {i pc : Nat} {en : m_E} (h : i < 182) (he : m_nth (m_code i) pc = some (some en)) : m_ok i pc en = true := by
  have := m_fkL_ok (i := i) (m_code i) _ 0 rfl (m_okF_all h) pc en he
  rw [Nat.zero_add] at this
  exact this
