def m_el1_i : List Nat := [897, 1039, 1048, 1057, 1075, 1084, 1093, 1102, 1111, 1120, 1129, 1066]
theorem m_el1_d : ∀ i, i < nm_cmd.length → tables_1[m_el1_i.getD i 0]? = some (Cond.laysStatic RX4 (nm_cmd.getD i "") "LValleyBells$Command;") := by decide +kernel
theorem m_el1 : ∀ i, i < nm_cmd.length → Cond.laysStatic RX4 (nm_cmd.getD i "") "LValleyBells$Command;" ∈ tables_1 := fun i hi => List.mem_of_getElem? (m_el1_d i hi)
def m_ee_i : List Nat := [2153, 2537, 7145, 7193, 2713, 6041, 5465, 7897, 2617, 2745, 2681, 7449]
theorem m_ee_d : ∀ i, i < nm_cmd.length → gp NW (m_ee_i.getD i 0) = Cond.exactly (.static RX4 (nm_cmd.getD i "") "LValleyBells$Command;") RX4 := by decide +kernel
theorem m_ee : ∀ i, i < nm_cmd.length → NWm (Cond.exactly (.static RX4 (nm_cmd.getD i "") "LValleyBells$Command;") RX4) := fun i hi => ⟨_, m_ee_d i hi⟩
def m_eo_i : List Nat := [5225, 5609, 6121, 2585, 5785, 8089, 7513, 2521, 5689, 5817, 5753, 2841]
theorem m_eo_d : ∀ i, i < nm_cmd.length → gp NW (m_eo_i.getD i 0) = Cond.eq (.field (.static RX4 (nm_cmd.getD i "") "LValleyBells$Command;") "java/lang/Enum" "ordinal" "I") (.int (([0, 1, 2, 3, 4, 5, 6, 7, 8, 9, 10, 11] : List Int32).getD i 0)) := by decide +kernel
theorem m_eo : ∀ i, i < nm_cmd.length → NWm (Cond.eq (.field (.static RX4 (nm_cmd.getD i "") "LValleyBells$Command;") "java/lang/Enum" "ordinal" "I") (.int (([0, 1, 2, 3, 4, 5, 6, 7, 8, 9, 10, 11] : List Int32).getD i 0))) := fun i hi => ⟨_, m_eo_d i hi⟩
def m_ed_i : List (List Nat) := [[0, 5097, 2073, 7705, 2457, 5209, 5977, 7641, 2361, 2489, 2425, 7961], [5097, 0, 5145, 2329, 5529, 7257, 8025, 5081, 5433, 5561, 5497, 2201], [2073, 5145, 0, 5401, 7577, 2649, 2265, 7129, 7481, 7609, 7545, 5273], [7705, 2329, 5401, 0, 5017, 5721, 5337, 6105, 2873, 5049, 2937, 7321], [2457, 5529, 7577, 5017, 0, 2393, 2777, 2105, 7993, 6073, 8057, 7065], [5209, 7257, 2649, 5721, 2393, 0, 5849, 5177, 2233, 8121, 2297, 7769], [5977, 8025, 2265, 5337, 2777, 5849, 0, 7225, 5305, 2169, 5369, 7385], [7641, 5081, 7129, 6105, 2105, 5177, 7225, 0, 7353, 5241, 7417, 8153], [2361, 5433, 7481, 2873, 7993, 2233, 5305, 7353, 0, 7289, 2809, 5945], [2489, 5561, 7609, 5049, 6073, 8121, 2169, 5241, 7289, 0, 5881, 7097], [2425, 5497, 7545, 2937, 8057, 2297, 5369, 7417, 2809, 5881, 0, 6009], [7961, 2201, 5273, 7321, 7065, 7769, 7385, 8153, 5945, 7097, 6009, 0]]
theorem m_ed_d : ∀ i, i < 12 → ∀ j, j < 12 → i ≠ j → (gp NW ((m_ed_i.getD i []).getD j 0) = Cond.not (.eq (.static RX4 (nm_cmd.getD i "") "LValleyBells$Command;") (.static RX4 (nm_cmd.getD j "") "LValleyBells$Command;")) ∨ gp NW ((m_ed_i.getD i []).getD j 0) = Cond.not (.eq (.static RX4 (nm_cmd.getD j "") "LValleyBells$Command;") (.static RX4 (nm_cmd.getD i "") "LValleyBells$Command;"))) := by decide +kernel
theorem m_ed : ∀ i, i < nm_cmd.length → ∀ j, j < nm_cmd.length → i ≠ j → (NWm (Cond.not (.eq (.static RX4 (nm_cmd.getD i "") "LValleyBells$Command;") (.static RX4 (nm_cmd.getD j "") "LValleyBells$Command;"))) ∨ NWm (Cond.not (.eq (.static RX4 (nm_cmd.getD j "") "LValleyBells$Command;") (.static RX4 (nm_cmd.getD i "") "LValleyBells$Command;")))) := fun i hi j hj hne => (m_ed_d i hi j hj hne).elim (fun h => Or.inl ⟨_, h⟩) (fun h => Or.inr ⟨_, h⟩)
def m_ef_i : List Nat := [7273, 7657, 8169, 5657, 7833, 2137, 2905, 5593, 7737, 7865, 7801, 5913]
theorem m_ef_d : ∀ i, i < 12 → gp NW (m_ef_i.getD i 0) = Cond.eq (.field (.static RX4 (nm_cmd.getD i "") "LValleyBells$Command;") RX4 "form" "Ljava/lang/String;") (tm_s.getD i (.int 0)) := by decide +kernel
theorem m_ef : ∀ i, i < 12 → NWm (Cond.eq (.field (.static RX4 (nm_cmd.getD i "") "LValleyBells$Command;") RX4 "form" "Ljava/lang/String;") (tm_s.getD i (.int 0))) := fun i hi => ⟨_, m_ef_d i hi⟩
def m_cm_i : List Nat := [7161, 6137, 8185, 2053, 5125, 7173, 2565, 5637, 7685, 2309, 5381, 7429]
theorem m_cm_d : ∀ i, i < 12 → gp NW (m_cm_i.getD i 0) = Cond.eq (.elem (.static RX10 "COMMANDS" "[LValleyBells$Command;") (.int (Int32.ofNat i))) (.static RX4 (nm_cmd.getD i "") "LValleyBells$Command;") := by decide +kernel
theorem m_cm : ∀ i, i < 12 → NWm (Cond.eq (.elem (.static RX10 "COMMANDS" "[LValleyBells$Command;") (.int (Int32.ofNat i))) (.static RX4 (nm_cmd.getD i "") "LValleyBells$Command;")) := fun i hi => ⟨_, m_cm_d i hi⟩
def m_nc_i : List Nat := [2757, 5925, 7781, 2069, 7573, 4997, 7973, 2405, 5141, 5013, 7045, 5829, 5477, 7189, 7061, 6021, 7877, 2213, 2581, 6037, 8069, 2501, 5285, 7525, 8085, 2117, 5573, 7333, 2917, 5653]
theorem m_nc_d : ∀ k, k < ncL.length → gp NW (m_nc_i.getD k 0) = Cond.not (.castable (ncL.getD k ("", "")).1 (ncL.getD k ("", "")).2) := by decide +kernel
theorem gtD {α : Type} {l : List α} {q d : α} (h : q ∈ l) : ∃ k, k < l.length ∧ l.getD k d = q := by
  obtain ⟨k, hk⟩ := List.getElem?_of_mem h
  obtain ⟨h1, h2⟩ := List.getElem?_eq_some_iff.mp hk
  exact ⟨k, h1, by rw [List.getD_eq_getElem?_getD, hk]; rfl⟩
theorem m_nc : ∀ q ∈ ncL, NWm (Cond.not (.castable q.1 q.2)) := fun q hq => by
  obtain ⟨k, h1, h2⟩ := gtD (d := ("", "")) hq
  have h3 := m_nc_d k h1
  rw [h2] at h3
  exact ⟨_, h3⟩
def m_cs_i : List Nat := [996, 687, 1012, 1210, 1239, 1468]
theorem m_cs_d : ∀ k, k < csL.length → tables_1[m_cs_i.getD k 0]? = some (Cond.castable (csL.getD k "") (csL.getD k "")) := by decide +kernel
theorem m_cs : ∀ q ∈ csL, Cond.castable q q ∈ tables_1 := fun q hq => by
  obtain ⟨k, h1, h2⟩ := gtD (d := "") hq
  have h3 := m_cs_d k h1
  rw [h2] at h3
  exact List.mem_of_getElem? h3
def m_dc_i : List Nat := [689, 691, 693]
theorem m_dc_d : ∀ k, k < dcL.length → tables_1[m_dc_i.getD k 0]? = some (Cond.declares (dcL.getD k ⟨"", "", ""⟩)) := by decide +kernel
theorem m_dc : ∀ q ∈ dcL, Cond.declares q ∈ tables_1 := fun q hq => by
  obtain ⟨k, h1, h2⟩ := gtD (d := ⟨"", "", ""⟩) hq
  have h3 := m_dc_d k h1
  rw [h2] at h3
  exact List.mem_of_getElem? h3
def m_nm_i : List Nat := [47, 53, 72, 92, 111, 159, 173, 217, 234, 315, 329, 335, 374, 389, 398, 403, 422, 923, 957, 967, 980, 1169, 1434]
theorem m_nm_d : ∀ k, k < nwM.length → tables_1[m_nm_i.getD k 0]? = some (Cond.methodLinkNest (nwM.getD k ("", 0, ⟨"", "", ""⟩, "")).1 (nwM.getD k ("", 0, ⟨"", "", ""⟩, "")).2.1 (nwM.getD k ("", 0, ⟨"", "", ""⟩, "")).2.2.1 (nwM.getD k ("", 0, ⟨"", "", ""⟩, "")).2.2.2) := by decide +kernel
theorem m_nm : ∀ q ∈ nwM, Cond.methodLinkNest q.1 q.2.1 q.2.2.1 q.2.2.2 ∈ tables_1 := fun q hq => by
  obtain ⟨k, h1, h2⟩ := gtD (d := ("", 0, ⟨"", "", ""⟩, "")) hq
  have h3 := m_nm_d k h1
  rw [h2] at h3
  exact List.mem_of_getElem? h3
def m_nf_i : List Nat := [58, 60, 62, 77, 79, 81, 97, 98, 100, 116, 117, 119, 120, 122, 123, 132, 134, 135, 137, 138, 140, 141, 163, 185, 222, 225, 416, 1404, 2089]
theorem m_nf_d : ∀ k, k < nwF.length → tables_1[m_nf_i.getD k 0]? = some (Cond.fieldLinkNest (nwF.getD k ("", 0, "", "", "", "")).1 (nwF.getD k ("", 0, "", "", "", "")).2.1 (nwF.getD k ("", 0, "", "", "", "")).2.2.1 (nwF.getD k ("", 0, "", "", "", "")).2.2.2.1 (nwF.getD k ("", 0, "", "", "", "")).2.2.2.2.1 (nwF.getD k ("", 0, "", "", "", "")).2.2.2.2.2) := by decide +kernel
theorem m_nf : ∀ q ∈ nwF, Cond.fieldLinkNest q.1 q.2.1 q.2.2.1 q.2.2.2.1 q.2.2.2.2.1 q.2.2.2.2.2 ∈ tables_1 := fun q hq => by
  obtain ⟨k, h1, h2⟩ := gtD (d := ("", 0, "", "", "", "")) hq
  have h3 := m_nf_d k h1
  rw [h2] at h3
  exact List.mem_of_getElem? h3
