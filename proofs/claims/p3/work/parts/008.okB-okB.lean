set_option maxRecDepth 100000 in
theorem m_okL_0 : (((m_code 181).zipIdx.drop 0).take 120).all (m_okE 181) = true := by decide +kernel
set_option maxRecDepth 100000 in
theorem m_okL_120 : (((m_code 181).zipIdx.drop 120).take 120).all (m_okE 181) = true := by decide +kernel
set_option maxRecDepth 100000 in
theorem m_okL_240 : (((m_code 181).zipIdx.drop 240).take 120).all (m_okE 181) = true := by decide +kernel
set_option maxRecDepth 100000 in
theorem m_okL_360 : (((m_code 181).zipIdx.drop 360).take 120).all (m_okE 181) = true := by decide +kernel
set_option maxRecDepth 100000 in
theorem m_okL_480 : (((m_code 181).zipIdx.drop 480).take 120).all (m_okE 181) = true := by decide +kernel
set_option maxRecDepth 100000 in
theorem m_okL_600 : (((m_code 181).zipIdx.drop 600).take 120).all (m_okE 181) = true := by decide +kernel
set_option maxRecDepth 100000 in
theorem m_okL_720 : (((m_code 181).zipIdx.drop 720).take 120).all (m_okE 181) = true := by decide +kernel
set_option maxRecDepth 100000 in
theorem m_okL_840 : (((m_code 181).zipIdx.drop 840).take 120).all (m_okE 181) = true := by decide +kernel
set_option maxRecDepth 100000 in
theorem m_okL_960 : (((m_code 181).zipIdx.drop 960).take 120).all (m_okE 181) = true := by decide +kernel
set_option maxRecDepth 100000 in
theorem m_okL_1080 : (((m_code 181).zipIdx.drop 1080).take 120).all (m_okE 181) = true := by decide +kernel
theorem m_okL_len : (m_code 181).length ≤ 1200 := by decide +kernel
theorem m_okChunk {α : Type} {l : List α} {f : α → Bool} {n w : Nat} (h1 : ((l.drop n).take w).all f = true) (h2 : (l.drop (n + w)).all f = true) : (l.drop n).all f = true := by
  have e : l.drop n = (l.drop n).take w ++ (l.drop n).drop w := (List.take_append_drop w _).symm
  rw [e, List.all_append, h1, List.drop_drop, h2]
  rfl
theorem m_okL : m_okM 181 = true := by
  have z : ((m_code 181).zipIdx.drop 1200).all (m_okE 181) = true := by
    rw [List.drop_eq_nil_of_le (by rw [List.length_zipIdx]; exact m_okL_len)]
    rfl
  have z := m_okChunk m_okL_1080 z
  have z := m_okChunk m_okL_960 z
  have z := m_okChunk m_okL_840 z
  have z := m_okChunk m_okL_720 z
  have z := m_okChunk m_okL_600 z
  have z := m_okChunk m_okL_480 z
  have z := m_okChunk m_okL_360 z
  have z := m_okChunk m_okL_240 z
  have z := m_okChunk m_okL_120 z
  have z := m_okChunk m_okL_0 z
  exact z
def m_okList : List (List Nat) := [[0, 1, 2, 3, 4, 5, 6, 7, 8, 9, 10, 11, 12], [13, 14, 15, 16, 17, 18, 19, 20], [21, 22, 23, 24, 25], [26, 27, 28, 29, 30], [31, 32, 33, 34, 35, 36], [37, 38, 39, 40, 41], [42, 43, 44, 45, 46, 47], [48, 49, 50, 51, 52, 53, 54, 55], [56, 57, 58, 59, 60, 61, 62], [63, 64, 65, 66], [67, 68, 69, 70, 71, 72], [73, 74, 75, 76, 77, 78], [79, 80, 81, 82, 83], [84, 85, 86, 87, 88], [89, 90, 91, 92], [93, 94, 95, 96, 97, 98, 99, 100, 101, 102, 103, 104], [105, 106, 107, 108, 109, 110, 111, 112, 113, 114, 115], [116, 117, 118], [119, 120, 121, 122, 124], [125, 126, 127, 128, 129, 130], [131, 133, 134, 135, 136], [137, 138, 139, 140, 141, 142], [143, 144, 145, 146], [147, 148, 149, 150, 151], [152, 153, 154, 155, 156], [158, 159, 160, 161, 162], [163, 164, 165, 166], [167, 168, 169, 170, 171, 172, 173, 174, 175], [176, 177, 178, 179, 180], [123], [132], [157], [181]]
theorem m_okLists : ∀ l ∈ m_okList, l.all m_okM = true := List.forall_mem_cons.mpr ⟨m_okM_0, List.forall_mem_cons.mpr ⟨m_okM_1, List.forall_mem_cons.mpr ⟨m_okM_2, List.forall_mem_cons.mpr ⟨m_okM_3, List.forall_mem_cons.mpr ⟨m_okM_4, List.forall_mem_cons.mpr ⟨m_okM_5, List.forall_mem_cons.mpr ⟨m_okM_6, List.forall_mem_cons.mpr ⟨m_okM_7, List.forall_mem_cons.mpr ⟨m_okM_8, List.forall_mem_cons.mpr ⟨m_okM_9, List.forall_mem_cons.mpr ⟨m_okM_10, List.forall_mem_cons.mpr ⟨m_okM_11, List.forall_mem_cons.mpr ⟨m_okM_12, List.forall_mem_cons.mpr ⟨m_okM_13, List.forall_mem_cons.mpr ⟨m_okM_14, List.forall_mem_cons.mpr ⟨m_okM_15, List.forall_mem_cons.mpr ⟨m_okM_16, List.forall_mem_cons.mpr ⟨m_okM_17, List.forall_mem_cons.mpr ⟨m_okM_18, List.forall_mem_cons.mpr ⟨m_okM_19, List.forall_mem_cons.mpr ⟨m_okM_20, List.forall_mem_cons.mpr ⟨m_okM_21, List.forall_mem_cons.mpr ⟨m_okM_22, List.forall_mem_cons.mpr ⟨m_okM_23, List.forall_mem_cons.mpr ⟨m_okM_24, List.forall_mem_cons.mpr ⟨m_okM_25, List.forall_mem_cons.mpr ⟨m_okM_26, List.forall_mem_cons.mpr ⟨m_okM_27, List.forall_mem_cons.mpr ⟨m_okM_28, List.forall_mem_cons.mpr ⟨m_okM_29, List.forall_mem_cons.mpr ⟨m_okM_30, List.forall_mem_cons.mpr ⟨m_okM_31, List.forall_mem_cons.mpr ⟨(by simpa using m_okL), fun _ h => absurd h List.not_mem_nil⟩⟩⟩⟩⟩⟩⟩⟩⟩⟩⟩⟩⟩⟩⟩⟩⟩⟩⟩⟩⟩⟩⟩⟩⟩⟩⟩⟩⟩⟩⟩⟩⟩
theorem m_okCover : (List.range 182).all (fun i => m_okList.any (fun l => l.contains i)) = true := by decide +kernel
theorem m_okM_all {i : Nat} (h : i < 182) : m_okM i = true := by
  have h1 := List.all_eq_true.mp m_okCover i (List.mem_range.mpr h)
  obtain ⟨l, hl, hc⟩ := List.any_eq_true.mp h1
  exact List.all_eq_true.mp (m_okLists l hl) i (List.contains_iff_mem.mp hc)
theorem m_ok_at {i pc : Nat} {en : m_E} (h : i < 182) (he : m_nth (m_code i) pc = some (some en)) : m_ok i pc en = true := by
  rw [m_nth_eq] at he
  have h1 := m_okM_all h
  have h2 : (m_code i).zipIdx[pc]? = some (some en, pc) := by simp [List.getElem?_zipIdx, he]
  exact List.all_eq_true.mp h1 _ (List.mem_of_getElem? h2)
