set_option maxRecDepth 100000 in
theorem m_pmV_lk : (m_pmV.zip m_pmVi).all (fun (e, i) => m_hi i (.methodLink (m_cn e.1) e.2.1 (m_y e.2.2))) = true := by decide +kernel
theorem m_pmV_ln : m_pmV.length = m_pmVi.length := by decide +kernel
set_option maxRecDepth 100000 in
theorem m_pmS_lk : (m_pmS.zip m_pmSi).all (fun (e, i) => m_hi i (.methodLink (m_cn e.1) e.2.1 (m_y e.2.2))) = true := by decide +kernel
theorem m_pmS_ln : m_pmS.length = m_pmSi.length := by decide +kernel
set_option maxRecDepth 100000 in
theorem m_pmI_lk : (m_pmI.zip m_pmIi).all (fun (e, i) => m_hi i (.methodLink (m_cn e.1) e.2.1 (m_y e.2.2))) = true := by decide +kernel
theorem m_pmI_ln : m_pmI.length = m_pmIi.length := by decide +kernel
def m_qV : List Nat := [1, 2, 3, 4, 5, 7, 8, 9, 10, 11, 12, 13, 14, 17, 18, 19, 20, 21, 22, 23, 24, 25, 26, 27, 28, 29, 30, 32, 33, 34, 36, 37, 38, 39, 40, 42, 43, 44, 45, 46, 47, 49, 50, 51, 52, 53, 54, 55, 56, 57, 60, 61, 62, 63, 65, 66, 67, 68, 70, 71, 72, 73, 74, 75, 76, 77, 78, 79, 80, 81, 82, 83, 84, 85, 86, 87, 88, 89, 90, 91, 92, 93, 94, 95, 96, 106, 107, 111, 112, 113, 114, 115, 116, 117, 118, 119, 120, 121, 122, 123, 124, 125, 126, 127, 128, 129, 130, 131, 132, 133, 134, 136, 137, 138, 139, 140, 141, 142, 143, 144, 145, 146, 147, 148, 149, 150, 151, 152, 153, 154, 155, 156, 157, 158, 159, 160, 161, 162, 163, 164, 165, 167, 168, 169, 170, 171, 172, 173, 174, 175, 176, 177, 178]
set_option maxRecDepth 100000 in
theorem m_qV_0 : ([1, 2, 3, 4, 5, 7, 8, 9, 10, 11, 12, 13, 14, 17, 18, 19, 20, 21, 22, 23] : List Nat).all m_callV = true := by decide +kernel
set_option maxRecDepth 100000 in
theorem m_qV_20 : ([24, 25, 26, 27, 28, 29, 30, 32, 33, 34, 36, 37, 38, 39, 40, 42, 43, 44, 45, 46] : List Nat).all m_callV = true := by decide +kernel
set_option maxRecDepth 100000 in
theorem m_qV_40 : ([47, 49, 50, 51, 52, 53, 54, 55, 56, 57, 60, 61, 62, 63, 65, 66, 67, 68, 70, 71] : List Nat).all m_callV = true := by decide +kernel
set_option maxRecDepth 100000 in
theorem m_qV_60 : ([72, 73, 74, 75, 76, 77, 78, 79, 80, 81, 82, 83, 84, 85, 86, 87, 88, 89, 90, 91] : List Nat).all m_callV = true := by decide +kernel
set_option maxRecDepth 100000 in
theorem m_qV_80 : ([92, 93, 94, 95, 96, 106, 107, 111, 112, 113, 114, 115, 116, 117, 118, 119, 120, 121, 122, 123] : List Nat).all m_callV = true := by decide +kernel
set_option maxRecDepth 100000 in
theorem m_qV_100 : ([124, 125, 126, 127, 128, 129, 130, 131, 132, 133, 134, 136, 137, 138, 139, 140, 141, 142, 143, 144] : List Nat).all m_callV = true := by decide +kernel
set_option maxRecDepth 100000 in
theorem m_qV_120 : ([145, 146, 147, 148, 149, 150, 151, 152, 153, 154, 155, 156, 157, 158, 159, 160, 161, 162, 163, 164] : List Nat).all m_callV = true := by decide +kernel
set_option maxRecDepth 100000 in
theorem m_qV_140 : ([165, 167, 168, 169, 170, 171, 172, 173, 174, 175, 176, 177, 178] : List Nat).all m_callV = true := by decide +kernel
theorem m_qV_ok : m_qV.all m_callV = true := by
  show (([1, 2, 3, 4, 5, 7, 8, 9, 10, 11, 12, 13, 14, 17, 18, 19, 20, 21, 22, 23] : List Nat) ++ ([24, 25, 26, 27, 28, 29, 30, 32, 33, 34, 36, 37, 38, 39, 40, 42, 43, 44, 45, 46] : List Nat) ++ ([47, 49, 50, 51, 52, 53, 54, 55, 56, 57, 60, 61, 62, 63, 65, 66, 67, 68, 70, 71] : List Nat) ++ ([72, 73, 74, 75, 76, 77, 78, 79, 80, 81, 82, 83, 84, 85, 86, 87, 88, 89, 90, 91] : List Nat) ++ ([92, 93, 94, 95, 96, 106, 107, 111, 112, 113, 114, 115, 116, 117, 118, 119, 120, 121, 122, 123] : List Nat) ++ ([124, 125, 126, 127, 128, 129, 130, 131, 132, 133, 134, 136, 137, 138, 139, 140, 141, 142, 143, 144] : List Nat) ++ ([145, 146, 147, 148, 149, 150, 151, 152, 153, 154, 155, 156, 157, 158, 159, 160, 161, 162, 163, 164] : List Nat) ++ ([165, 167, 168, 169, 170, 171, 172, 173, 174, 175, 176, 177, 178] : List Nat)).all m_callV = true
  rw [List.all_append, List.all_append, List.all_append, List.all_append, List.all_append, List.all_append, List.all_append]
  simp only [m_qV_0, m_qV_20, m_qV_40, m_qV_60, m_qV_80, m_qV_100, m_qV_120, m_qV_140, Bool.and_self]
theorem m_pmV_q : (m_pmV).all (fun e => m_qV.contains e.2.2) = true := by decide +kernel
def m_qS : List Nat := [35, 58, 97, 98, 99, 100, 101, 102, 103, 105, 108, 109, 110, 135, 166, 179, 180]
set_option maxRecDepth 100000 in
theorem m_qS_0 : ([35, 58, 97, 98, 99, 100, 101, 102, 103, 105, 108, 109, 110, 135, 166, 179, 180] : List Nat).all m_callS = true := by decide +kernel
theorem m_qS_ok : m_qS.all m_callS = true := m_qS_0
theorem m_pmS_q : (m_pmS ++ m_pmSN).all (fun e => m_qS.contains e.2.2) = true := by decide +kernel
def m_qI : List Nat := [0, 6, 15, 16, 31, 41, 48, 59, 64, 69, 104]
set_option maxRecDepth 100000 in
theorem m_qI_0 : ([0, 6, 15, 16, 31, 41, 48, 59, 64, 69, 104] : List Nat).all m_inits = true := by decide +kernel
theorem m_qI_ok : m_qI.all m_inits = true := m_qI_0
theorem m_pmI_q : (m_pmI ++ m_pmIN).all (fun e => m_qI.contains e.2.2) = true := by decide +kernel
