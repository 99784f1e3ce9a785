def m_el1_i : List Nat := [1117, 295, 575, 581, 593, 599, 605, 611, 617, 623, 629, 587]
theorem m_el1_d : ∀ i, i < nm_cmd.length → tables_1[m_el1_i.getD i 0]? = some (Cond.laysStatic RX4 (nm_cmd.getD i "") "LValleyBells$Command;") := by decide +kernel
theorem m_el1 : ∀ i, i < nm_cmd.length → Cond.laysStatic RX4 (nm_cmd.getD i "") "LValleyBells$Command;" ∈ tables_1 := fun i hi => List.mem_of_getElem? (m_el1_d i hi)
def m_ee_i : List Nat := [3705, 1281, 1297, 2705, 1233, 1073, 3761, 3953, 3593, 2633, 1065, 1105]
theorem m_ee_d : ∀ i, i < nm_cmd.length → gp NW (m_ee_i.getD i 0) = Cond.exactly (.static RX4 (nm_cmd.getD i "") "LValleyBells$Command;") RX4 := by decide +kernel
theorem m_ee : ∀ i, i < nm_cmd.length → NWm (Cond.exactly (.static RX4 (nm_cmd.getD i "") "LValleyBells$Command;") RX4) := fun i hi => ⟨_, m_ee_d i hi⟩
def m_eo_i : List Nat := [1401, 2817, 2833, 3729, 2769, 2609, 1457, 1265, 1289, 3657, 2601, 2641]
theorem m_eo_d : ∀ i, i < nm_cmd.length → gp NW (m_eo_i.getD i 0) = Cond.eq (.field (.static RX4 (nm_cmd.getD i "") "LValleyBells$Command;") "java/lang/Enum" "ordinal" "I") (.int (([0, 1, 2, 3, 4, 5, 6, 7, 8, 9, 10, 11] : List Int32).getD i 0)) := by decide +kernel
theorem m_eo : ∀ i, i < nm_cmd.length → NWm (Cond.eq (.field (.static RX4 (nm_cmd.getD i "") "LValleyBells$Command;") "java/lang/Enum" "ordinal" "I") (.int (([0, 1, 2, 3, 4, 5, 6, 7, 8, 9, 10, 11] : List Int32).getD i 0))) := fun i hi => ⟨_, m_eo_d i hi⟩
def m_ed_i : List (List Nat) := [[0, 3961, 1273, 2809, 2553, 3577, 3065, 4089, 1029, 2565, 3589, 3833], [3961, 0, 1169, 2961, 2513, 1329, 4017, 3825, 3849, 2889, 1321, 1361], [1273, 1169, 0, 3985, 3537, 2865, 1137, 2545, 1161, 3913, 2857, 2897], [2809, 2961, 3985, 0, 3025, 3889, 2673, 3569, 2697, 1225, 3881, 3921], [2553, 2513, 3537, 3025, 0, 2737, 1393, 4081, 1417, 3785, 2729, 4049], [3577, 1329, 2865, 3889, 2737, 0, 2929, 1033, 2953, 2505, 3753, 1201], [3065, 4017, 1137, 2673, 1393, 2929, 0, 2569, 3977, 3529, 1449, 3697], [4089, 3825, 2545, 3569, 4081, 1033, 2569, 0, 1097, 3017, 2985, 3057], [1029, 3849, 1161, 2697, 1417, 2953, 3977, 1097, 0, 4041, 4009, 3721], [2565, 2889, 3913, 1225, 3785, 2505, 3529, 3017, 4041, 0, 1129, 2761], [3589, 1321, 2857, 3881, 2729, 3753, 1449, 2985, 4009, 1129, 0, 1193], [3833, 1361, 2897, 3921, 4049, 1201, 3697, 3057, 3721, 2761, 1193, 0]]
theorem m_ed_d : ∀ i, i < 12 → ∀ j, j < 12 → i ≠ j → (gp NW ((m_ed_i.getD i []).getD j 0) = Cond.not (.eq (.static RX4 (nm_cmd.getD i "") "LValleyBells$Command;") (.static RX4 (nm_cmd.getD j "") "LValleyBells$Command;")) ∨ gp NW ((m_ed_i.getD i []).getD j 0) = Cond.not (.eq (.static RX4 (nm_cmd.getD j "") "LValleyBells$Command;") (.static RX4 (nm_cmd.getD i "") "LValleyBells$Command;"))) := by decide +kernel
theorem m_ed : ∀ i, i < nm_cmd.length → ∀ j, j < nm_cmd.length → i ≠ j → (NWm (Cond.not (.eq (.static RX4 (nm_cmd.getD i "") "LValleyBells$Command;") (.static RX4 (nm_cmd.getD j "") "LValleyBells$Command;"))) ∨ NWm (Cond.not (.eq (.static RX4 (nm_cmd.getD j "") "LValleyBells$Command;") (.static RX4 (nm_cmd.getD i "") "LValleyBells$Command;")))) := fun i hi j hj hne => (m_ed_d i hi j hj hne).elim (fun h => Or.inl ⟨_, h⟩) (fun h => Or.inr ⟨_, h⟩)
def m_ef_i : List Nat := [2937, 3841, 3857, 1425, 3793, 3633, 2993, 2801, 2825, 1353, 3625, 3665]
theorem m_ef_d : ∀ i, i < 12 → gp NW (m_ef_i.getD i 0) = Cond.eq (.field (.static RX4 (nm_cmd.getD i "") "LValleyBells$Command;") RX4 "form" "Ljava/lang/String;") (tm_s.getD i (.int 0)) := by decide +kernel
theorem m_ef : ∀ i, i < 12 → NWm (Cond.eq (.field (.static RX4 (nm_cmd.getD i "") "LValleyBells$Command;") RX4 "form" "Ljava/lang/String;") (tm_s.getD i (.int 0))) := fun i hi => ⟨_, m_ef_d i hi⟩
def m_cm_i : List Nat := [3033, 4057, 1081, 2617, 3641, 1337, 2873, 3897, 1209, 2745, 3769, 1465]
theorem m_cm_d : ∀ i, i < 12 → gp NW (m_cm_i.getD i 0) = Cond.eq (.elem (.static RX10 "COMMANDS" "[LValleyBells$Command;") (.int (Int32.ofNat i))) (.static RX4 (nm_cmd.getD i "") "LValleyBells$Command;") := by decide +kernel
theorem m_cm : ∀ i, i < 12 → NWm (Cond.eq (.elem (.static RX10 "COMMANDS" "[LValleyBells$Command;") (.int (Int32.ofNat i))) (.static RX4 (nm_cmd.getD i "") "LValleyBells$Command;")) := fun i hi => ⟨_, m_cm_d i hi⟩
def m_nc_i : List Nat := [2725, 1349, 1365, 2741, 3045, 2885, 2901, 3765, 4069, 3749, 3925, 1461, 1045, 1445, 3909, 2997, 3605, 4005, 2757, 2773, 4021, 2581, 2981, 1221, 1237]
theorem m_nc_d : ∀ k, k < ncL.length → gp NW (m_nc_i.getD k 0) = Cond.not (.castable (ncL.getD k ("", "")).1 (ncL.getD k ("", "")).2) := by decide +kernel
theorem gtD {α : Type} {l : List α} {q d : α} (h : q ∈ l) : ∃ k, k < l.length ∧ l.getD k d = q := by
  obtain ⟨k, hk⟩ := List.getElem?_of_mem h
  obtain ⟨h1, h2⟩ := List.getElem?_eq_some_iff.mp hk
  exact ⟨k, h1, by rw [List.getD_eq_getElem?_getD, hk]; rfl⟩
theorem m_nc : ∀ q ∈ ncL, NWm (Cond.not (.castable q.1 q.2)) := fun q hq => by
  obtain ⟨k, h1, h2⟩ := gtD (d := ("", "")) hq
  have h3 := m_nc_d k h1
  rw [h2] at h3
  exact ⟨_, h3⟩
def m_cs_i : List Nat := [462, 533, 549, 711, 735, 1020]
theorem m_cs_d : ∀ k, k < csL.length → tables_1[m_cs_i.getD k 0]? = some (Cond.castable (csL.getD k "") (csL.getD k "")) := by decide +kernel
theorem m_cs : ∀ q ∈ csL, Cond.castable q q ∈ tables_1 := fun q hq => by
  obtain ⟨k, h1, h2⟩ := gtD (d := "") hq
  have h3 := m_cs_d k h1
  rw [h2] at h3
  exact List.mem_of_getElem? h3
def m_dc_i : List Nat := [464, 466, 468]
theorem m_dc_d : ∀ k, k < dcL.length → tables_1[m_dc_i.getD k 0]? = some (Cond.declares (dcL.getD k ⟨"", "", ""⟩)) := by decide +kernel
theorem m_dc : ∀ q ∈ dcL, Cond.declares q ∈ tables_1 := fun q hq => by
  obtain ⟨k, h1, h2⟩ := gtD (d := ⟨"", "", ""⟩) hq
  have h3 := m_dc_d k h1
  rw [h2] at h3
  exact List.mem_of_getElem? h3
def m_nm_i : List Nat := [41, 47, 66, 86, 105, 153, 167, 211, 228, 345, 351, 385, 394, 408, 414, 429, 439, 444, 648, 657, 824, 859, 985]
theorem m_nm_d : ∀ k, k < nwM.length → tables_1[m_nm_i.getD k 0]? = some (Cond.methodLinkNest (nwM.getD k ("", 0, ⟨"", "", ""⟩, "")).1 (nwM.getD k ("", 0, ⟨"", "", ""⟩, "")).2.1 (nwM.getD k ("", 0, ⟨"", "", ""⟩, "")).2.2.1 (nwM.getD k ("", 0, ⟨"", "", ""⟩, "")).2.2.2) := by decide +kernel
theorem m_nm : ∀ q ∈ nwM, Cond.methodLinkNest q.1 q.2.1 q.2.2.1 q.2.2.2 ∈ tables_1 := fun q hq => by
  obtain ⟨k, h1, h2⟩ := gtD (d := ("", 0, ⟨"", "", ""⟩, "")) hq
  have h3 := m_nm_d k h1
  rw [h2] at h3
  exact List.mem_of_getElem? h3
def m_nf_i : List Nat := [52, 54, 56, 71, 73, 75, 91, 92, 94, 110, 111, 113, 114, 116, 117, 126, 128, 129, 131, 132, 134, 135, 157, 179, 216, 219, 853, 924, 1221]
theorem m_nf_d : ∀ k, k < nwF.length → tables_1[m_nf_i.getD k 0]? = some (Cond.fieldLinkNest (nwF.getD k ("", 0, "", "", "", "")).1 (nwF.getD k ("", 0, "", "", "", "")).2.1 (nwF.getD k ("", 0, "", "", "", "")).2.2.1 (nwF.getD k ("", 0, "", "", "", "")).2.2.2.1 (nwF.getD k ("", 0, "", "", "", "")).2.2.2.2.1 (nwF.getD k ("", 0, "", "", "", "")).2.2.2.2.2) := by decide +kernel
theorem m_nf : ∀ q ∈ nwF, Cond.fieldLinkNest q.1 q.2.1 q.2.2.1 q.2.2.2.1 q.2.2.2.2.1 q.2.2.2.2.2 ∈ tables_1 := fun q hq => by
  obtain ⟨k, h1, h2⟩ := gtD (d := ("", 0, "", "", "", "")) hq
  have h3 := m_nf_d k h1
  rw [h2] at h3
  exact List.mem_of_getElem? h3
