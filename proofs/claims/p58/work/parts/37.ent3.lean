def m_a10_i : List Nat := [2921, 3945, 1257, 2793, 3817, 2537, 3561, 3049, 4073, 1049, 2585, 3609]
theorem m_a10_d : ∀ i, i < 12 → gp NW (m_a10_i.getD i 0) = Cond.eq (.elem (.static RX10 "CONSONANCES" "[I") (.int (Int32.ofNat i))) (.int (tb_cons.getD i 0)) := by decide +kernel
theorem m_a10 : ∀ i, i < 12 → NWm (Cond.eq (.elem (.static RX10 "CONSONANCES" "[I") (.int (Int32.ofNat i))) (.int (tb_cons.getD i 0))) := fun i hi => ⟨_, m_a10_d i hi⟩
def m_a11_i : List Nat := [1177, 2713, 3737, 1433, 2969, 3993, 1113, 2649, 3673, 1369, 2905, 3929]
theorem m_a11_d : ∀ i, i < 12 → gp NW (m_a11_i.getD i 0) = Cond.eq (.elem (.static RX10 "THIRDS" "[I") (.int (Int32.ofNat i))) (.int (tb_thirds.getD i 0)) := by decide +kernel
theorem m_a11 : ∀ i, i < 12 → NWm (Cond.eq (.elem (.static RX10 "THIRDS" "[I") (.int (Int32.ofNat i))) (.int (tb_thirds.getD i 0))) := fun i hi => ⟨_, m_a11_d i hi⟩
def m_a12_i : List Nat := [3681, 1377, 2913, 3937, 1249, 2785, 3809, 2529, 3553, 3041, 4065, 1041]
theorem m_a12_d : ∀ i, i < 12 → gp NW (m_a12_i.getD i 0) = Cond.eq (.elem (.static RX6 "MAJOR" "[I") (.int (Int32.ofNat i))) (.int (tb_major.getD i 0)) := by decide +kernel
theorem m_a12 : ∀ i, i < 12 → NWm (Cond.eq (.elem (.static RX6 "MAJOR" "[I") (.int (Int32.ofNat i))) (.int (tb_major.getD i 0))) := fun i hi => ⟨_, m_a12_d i hi⟩
def m_a13_i : List Nat := [4033, 1057, 2593, 3617, 1313, 2849, 3873, 1185, 2721, 3745, 1441, 2977]
theorem m_a13_d : ∀ i, i < 12 → gp NW (m_a13_i.getD i 0) = Cond.eq (.elem (.static RX6 "MINOR" "[I") (.int (Int32.ofNat i))) (.int (tb_minor.getD i 0)) := by decide +kernel
theorem m_a13 : ∀ i, i < 12 → NWm (Cond.eq (.elem (.static RX6 "MINOR" "[I") (.int (Int32.ofNat i))) (.int (tb_minor.getD i 0))) := fun i hi => ⟨_, m_a13_d i hi⟩
def m_a14_i : List Nat := [1409, 2945, 3969, 1089, 2625, 3649, 1345, 2881, 3905, 1217, 2753, 3777]
theorem m_a14_d : ∀ i, i < 12 → gp NW (m_a14_i.getD i 0) = Cond.eq (.elem (.static RX0 "$SwitchMap$ValleyBells$Command" "[I") (.int (Int32.ofNat i))) (.int (tb_switch.getD i 0)) := by decide +kernel
theorem m_a14 : ∀ i, i < 12 → NWm (Cond.eq (.elem (.static RX0 "$SwitchMap$ValleyBells$Command" "[I") (.int (Int32.ofNat i))) (.int (tb_switch.getD i 0))) := fun i hi => ⟨_, m_a14_d i hi⟩
def sr0 : List (String × Nat × String) := [(RX10, 378, "an index is out of range"), (RX10, 380, "an argument is out of range"), (RX10, 382, "the valley does not allow it"), (RX10, 386, "no such bell"), (RX10, 157, "no such rank"), (RX10, 390, "there are no bells"), (RX10, 184, "no such pitch class"), (RX10, 396, "no such herd"), (RX10, 210, "no such position"), (RX10, 222, "no canon"), (RX10, 401, "nothing sounds"), (RX10, 299, "the text is not a program"), (RX10, 317, "a command failed"), (RX10, 326, "no failed command was stored"), (RX10, 365, "no call can be undone"), (RX10, 370, "no state was saved"), (RX10, 286, "the text buffer is full"), (RX10, 399, "no such cliff"), (RX10, 324, "no error position was stored")]
def m_s1_i : List Nat := [505, 540, 556, 639, 718, 742, 767, 782, 791, 814, 887, 1007, 1027, 1038, 1043, 1056, 1077, 1158, 1178]
theorem m_s1_d : ∀ k, k < sr0.length → tables_1[m_s1_i.getD k 0]? = some (Cond.stringRef (sr0.getD k ("", 0, "")).1 (sr0.getD k ("", 0, "")).2.1 (sr0.getD k ("", 0, "")).2.2) := by decide +kernel
theorem m_s1 : ∀ q ∈ sr0, Cond.stringRef q.1 q.2.1 q.2.2 ∈ tables_1 := fun q hq => by
  obtain ⟨k, h1, h2⟩ := gtD (d := ("", 0, "")) hq
  have h3 := m_s1_d k h1
  rw [h2] at h3
  exact List.mem_of_getElem? h3
def m_s2_i : List Nat := [1069, 1309, 1469, 5763, 5443, 6083, 7587, 2531, 2835, 5715, 5843, 2867, 5363, 7435, 2763, 2731, 2283, 7323, 2395]
theorem m_s2_d : ∀ k, k < sr0.length → gp NW (m_s2_i.getD k 0) = Cond.exactly (.string (sr0.getD k ("", 0, "")).1 (sr0.getD k ("", 0, "")).2.1) "java/lang/String" := by decide +kernel
theorem m_s2 : ∀ q ∈ sr0, NWm (Cond.exactly (.string q.1 q.2.1) "java/lang/String") := fun q hq => by
  obtain ⟨k, h1, h2⟩ := gtD (d := ("", 0, "")) hq
  have h3 := m_s2_d k h1
  rw [h2] at h3
  exact ⟨_, h3⟩
theorem ii_J0 : Cond.instantiable RJ0 4 ∈ tables_1 := List.mem_of_getElem? (i := 1107) (by decide +kernel)
theorem ii_J4 : Cond.instantiable RJ4 4 ∈ tables_1 := List.mem_of_getElem? (i := 230) (by decide +kernel)
theorem iq_Jx00060_d : ∀ k, k < 6 → tables_1[([1096, 1097, 1098, 1099, 1100, 1101] : List Nat).getD k 0]? = some (u_lay RJx00060 TJx00060 k) := by decide +kernel
theorem iq_Jx00060 : ∀ w ∈ u_ws RJx00060 TJx00060 6, w ∈ tables_1 := fun w hw => by
  obtain ⟨k, h1, rfl⟩ := List.mem_map.mp hw
  exact List.mem_of_getElem? (iq_Jx00060_d k (List.mem_range.mp h1))
theorem ii_Jx00060 : Cond.instantiable RJx00060 6 ∈ tables_1 := List.mem_of_getElem? (i := 1092) (by decide +kernel)
theorem ii_X1 : Cond.instantiable RX1 3 ∈ tables_1 := List.mem_of_getElem? (i := 65) (by decide +kernel)
theorem ii_X2 : Cond.instantiable RX2 3 ∈ tables_1 := List.mem_of_getElem? (i := 210) (by decide +kernel)
theorem ii_X3 : Cond.instantiable RX3 3 ∈ tables_1 := List.mem_of_getElem? (i := 104) (by decide +kernel)
theorem ii_X5 : Cond.instantiable RX5 3 ∈ tables_1 := List.mem_of_getElem? (i := 146) (by decide +kernel)
theorem ii_X6 : Cond.instantiable RX6 3 ∈ tables_1 := List.mem_of_getElem? (i := 46) (by decide +kernel)
theorem ii_X7 : Cond.instantiable RX7 3 ∈ tables_1 := List.mem_of_getElem? (i := 85) (by decide +kernel)
theorem ii_X8 : Cond.instantiable RX8 11 ∈ tables_1 := List.mem_of_getElem? (i := 166) (by decide +kernel)
theorem ii_X9 : Cond.instantiable RX9 4 ∈ tables_1 := List.mem_of_getElem? (i := 40) (by decide +kernel)
theorem ii_X10 : Cond.instantiable RX10 10 ∈ tables_1 := List.mem_of_getElem? (i := 32) (by decide +kernel)
