def m_a10_i : List Nat := [8001, 2241, 5313, 7361, 2753, 5825, 7873, 2497, 5569, 7617, 5057, 7105]
theorem m_a10_d : ∀ i, i < 12 → gp NW (m_a10_i.getD i 0) = Cond.eq (.elem (.static RX10 "CONSONANCES" "[I") (.int (Int32.ofNat i))) (.int (tb_cons.getD i 0)) := by decide +kernel
theorem m_a10 : ∀ i, i < 12 → NWm (Cond.eq (.elem (.static RX10 "CONSONANCES" "[I") (.int (Int32.ofNat i))) (.int (tb_cons.getD i 0))) := fun i hi => ⟨_, m_a10_d i hi⟩
def m_a11_i : List Nat := [5153, 7201, 2593, 5665, 7713, 2337, 5409, 7457, 2849, 5921, 7969, 2209]
theorem m_a11_d : ∀ i, i < 12 → gp NW (m_a11_i.getD i 0) = Cond.eq (.elem (.static RX10 "THIRDS" "[I") (.int (Int32.ofNat i))) (.int (tb_thirds.getD i 0)) := by decide +kernel
theorem m_a11 : ∀ i, i < 12 → NWm (Cond.eq (.elem (.static RX10 "THIRDS" "[I") (.int (Int32.ofNat i))) (.int (tb_thirds.getD i 0))) := fun i hi => ⟨_, m_a11_d i hi⟩
def m_a12_i : List Nat := [4993, 7041, 6017, 8065, 2113, 5185, 7233, 2625, 5697, 7745, 2369, 5441]
theorem m_a12_d : ∀ i, i < 12 → gp NW (m_a12_i.getD i 0) = Cond.eq (.elem (.static RX6 "MAJOR" "[I") (.int (Int32.ofNat i))) (.int (tb_major.getD i 0)) := by decide +kernel
theorem m_a12 : ∀ i, i < 12 → NWm (Cond.eq (.elem (.static RX6 "MAJOR" "[I") (.int (Int32.ofNat i))) (.int (tb_major.getD i 0))) := fun i hi => ⟨_, m_a12_d i hi⟩
def m_a13_i : List Nat := [2305, 5377, 7425, 2817, 5889, 7937, 2177, 5249, 7297, 2689, 5761, 7809]
theorem m_a13_d : ∀ i, i < 12 → gp NW (m_a13_i.getD i 0) = Cond.eq (.elem (.static RX6 "MINOR" "[I") (.int (Int32.ofNat i))) (.int (tb_minor.getD i 0)) := by decide +kernel
theorem m_a13 : ∀ i, i < 12 → NWm (Cond.eq (.elem (.static RX6 "MINOR" "[I") (.int (Int32.ofNat i))) (.int (tb_minor.getD i 0))) := fun i hi => ⟨_, m_a13_d i hi⟩
def m_a14_i : List Nat := [2409, 5481, 7529, 2921, 5993, 8041, 2281, 5353, 7401, 2793, 5865, 7913]
theorem m_a14_d : ∀ i, i < 12 → gp NW (m_a14_i.getD i 0) = Cond.eq (.elem (.static RX0 "$SwitchMap$ValleyBells$Command" "[I") (.int (Int32.ofNat i))) (.int (tb_switch.getD i 0)) := by decide +kernel
theorem m_a14 : ∀ i, i < 12 → NWm (Cond.eq (.elem (.static RX0 "$SwitchMap$ValleyBells$Command" "[I") (.int (Int32.ofNat i))) (.int (tb_switch.getD i 0))) := fun i hi => ⟨_, m_a14_d i hi⟩
def m_a16_i : List Nat := [6065, 8113, 2161, 5233, 7281, 2673, 5745, 7793, 2417, 5489, 7537, 2929, 6001, 8049, 2289, 5361, 7409, 2801, 5873, 7921, 2545, 5617, 7665, 5105, 7153, 6129, 8177, 2057, 5129, 7177, 2569, 5641, 7689, 2313, 5385, 7433, 2825, 5897, 7945, 2185, 5257, 7305, 2697, 5769, 7817, 2441, 5513, 7561, 5001, 7049, 6025, 8073, 2121, 5193, 7241, 2633, 5705, 7753, 2377, 5449, 7497, 2889, 5961, 8009, 2249, 5321, 7369, 2761, 5833, 7881, 2505, 5577, 7625, 5065, 7113, 6089, 8137, 2089, 5161, 7209, 2601, 5673, 7721, 2345, 5417, 7465, 2857, 5929, 7977, 2217, 5289, 7337, 2729, 5801, 7849, 2473, 5545, 7593, 5033, 7081]
theorem m_a16_d : ∀ i, i < 100 → gp NW (m_a16_i.getD i 0) = Cond.eq (.elem (.static "java/lang/Integer" "DigitTens" "[B") (.int (Int32.ofNat i))) (.int (tb_tens.getD i 0)) := by decide +kernel
theorem m_a16 : ∀ i, i < 100 → NWm (Cond.eq (.elem (.static "java/lang/Integer" "DigitTens" "[B") (.int (Int32.ofNat i))) (.int (tb_tens.getD i 0))) := fun i hi => ⟨_, m_a16_d i hi⟩
def m_a17_i : List Nat := [7585, 5025, 7073, 6049, 8097, 2145, 5217, 7265, 2657, 5729, 7777, 2401, 5473, 7521, 2913, 5985, 8033, 2273, 5345, 7393, 2785, 5857, 7905, 2529, 5601, 7649, 5089, 7137, 6113, 8161, 2065, 5137, 7185, 2577, 5649, 7697, 2321, 5393, 7441, 2833, 5905, 7953, 2193, 5265, 7313, 2705, 5777, 7825, 2449, 5521, 7569, 5009, 7057, 6033, 8081, 2129, 5201, 7249, 2641, 5713, 7761, 2385, 5457, 7505, 2897, 5969, 8017, 2257, 5329, 7377, 2769, 5841, 7889, 2513, 5585, 7633, 5073, 7121, 6097, 8145, 2097, 5169, 7217, 2609, 5681, 7729, 2353, 5425, 7473, 2865, 5937, 7985, 2225, 5297, 7345, 2737, 5809, 7857, 2481, 5553]
theorem m_a17_d : ∀ i, i < 100 → gp NW (m_a17_i.getD i 0) = Cond.eq (.elem (.static "java/lang/Integer" "DigitOnes" "[B") (.int (Int32.ofNat i))) (.int (tb_ones.getD i 0)) := by decide +kernel
theorem m_a17 : ∀ i, i < 100 → NWm (Cond.eq (.elem (.static "java/lang/Integer" "DigitOnes" "[B") (.int (Int32.ofNat i))) (.int (tb_ones.getD i 0))) := fun i hi => ⟨_, m_a17_d i hi⟩
def sr0 : List (String × Nat × String) := [(RX10, 378, "an index is out of range"), (RX10, 380, "an argument is out of range"), (RX10, 382, "the valley does not allow it"), (RX10, 386, "no such bell"), (RX10, 157, "no such rank"), (RX10, 390, "there are no bells"), (RX10, 184, "no such pitch class"), (RX10, 396, "no such herd"), (RX10, 210, "no such position"), (RX10, 222, "no canon"), (RX10, 399, "no such cliff"), (RX10, 401, "nothing sounds"), (RX10, 286, "the text buffer is full"), (RX10, 299, "the text is not a program"), (RX10, 317, "a command failed"), (RX10, 324, "no error position was stored"), (RX10, 326, "no failed command was stored"), (RX10, 357, "no such character"), (RX10, 365, "no call can be undone"), (RX10, 370, "no state was saved")]
def m_s1_i : List Nat := [1003, 1008, 1019, 1142, 1217, 1250, 1272, 1285, 1294, 1324, 1338, 1363, 1382, 1456, 1475, 1489, 1497, 1522, 1540, 1552]
theorem m_s1_d : ∀ k, k < sr0.length → tables_1[m_s1_i.getD k 0]? = some (Cond.stringRef (sr0.getD k ("", 0, "")).1 (sr0.getD k ("", 0, "")).2.1 (sr0.getD k ("", 0, "")).2.2) := by decide +kernel
theorem m_s1 : ∀ q ∈ sr0, Cond.stringRef q.1 q.2.1 q.2.2 ∈ tables_1 := fun q hq => by
  obtain ⟨k, h1, h2⟩ := gtD (d := ("", 0, "")) hq
  have h3 := m_s1_d k h1
  rw [h2] at h3
  exact List.mem_of_getElem? h3
def m_s2_i : List Nat := [7085, 2077, 2397, 5309, 5757, 7677, 7811, 2755, 2339, 5219, 5347, 7699, 6035, 2099, 5747, 8179, 2379, 5867, 2203, 2267]
theorem m_s2_d : ∀ k, k < sr0.length → gp NW (m_s2_i.getD k 0) = Cond.exactly (.string (sr0.getD k ("", 0, "")).1 (sr0.getD k ("", 0, "")).2.1) "java/lang/String" := by decide +kernel
theorem m_s2 : ∀ q ∈ sr0, NWm (Cond.exactly (.string q.1 q.2.1) "java/lang/String") := fun q hq => by
  obtain ⟨k, h1, h2⟩ := gtD (d := ("", 0, "")) hq
  have h3 := m_s2_d k h1
  rw [h2] at h3
  exact ⟨_, h3⟩
theorem ii_J0 : Cond.instantiable RJ0 4 ∈ tables_1 := List.mem_of_getElem? (i := 654) (by decide +kernel)
theorem ii_J4 : Cond.instantiable RJ4 4 ∈ tables_1 := List.mem_of_getElem? (i := 236) (by decide +kernel)
theorem iq_Jx00060_d : ∀ k, k < 6 → tables_1[([815, 816, 817, 818, 819, 830] : List Nat).getD k 0]? = some (u_lay RJx00060 TJx00060 k) := by decide +kernel
theorem iq_Jx00060 : ∀ w ∈ u_ws RJx00060 TJx00060 6, w ∈ tables_1 := fun w hw => by
  obtain ⟨k, h1, rfl⟩ := List.mem_map.mp hw
  exact List.mem_of_getElem? (iq_Jx00060_d k (List.mem_range.mp h1))
theorem ii_Jx00060 : Cond.instantiable RJx00060 6 ∈ tables_1 := List.mem_of_getElem? (i := 810) (by decide +kernel)
theorem iq_Jx7c733_d : ∀ k, k < 6 → tables_1[([790, 791, 792, 793, 794, 795] : List Nat).getD k 0]? = some (u_lay RJx7c733 TJx7c733 k) := by decide +kernel
theorem iq_Jx7c733 : ∀ w ∈ u_ws RJx7c733 TJx7c733 6, w ∈ tables_1 := fun w hw => by
  obtain ⟨k, h1, rfl⟩ := List.mem_map.mp hw
  exact List.mem_of_getElem? (iq_Jx7c733_d k (List.mem_range.mp h1))
theorem ii_Jx7c733 : Cond.instantiable RJx7c733 6 ∈ tables_1 := List.mem_of_getElem? (i := 497) (by decide +kernel)
theorem ii_X1 : Cond.instantiable RX1 3 ∈ tables_1 := List.mem_of_getElem? (i := 71) (by decide +kernel)
theorem ii_X2 : Cond.instantiable RX2 3 ∈ tables_1 := List.mem_of_getElem? (i := 216) (by decide +kernel)
theorem ii_X3 : Cond.instantiable RX3 3 ∈ tables_1 := List.mem_of_getElem? (i := 110) (by decide +kernel)
theorem ii_X5 : Cond.instantiable RX5 3 ∈ tables_1 := List.mem_of_getElem? (i := 152) (by decide +kernel)
theorem ii_X6 : Cond.instantiable RX6 3 ∈ tables_1 := List.mem_of_getElem? (i := 52) (by decide +kernel)
theorem ii_X7 : Cond.instantiable RX7 3 ∈ tables_1 := List.mem_of_getElem? (i := 91) (by decide +kernel)
theorem ii_X8 : Cond.instantiable RX8 11 ∈ tables_1 := List.mem_of_getElem? (i := 172) (by decide +kernel)
theorem ii_X9 : Cond.instantiable RX9 4 ∈ tables_1 := List.mem_of_getElem? (i := 46) (by decide +kernel)
theorem ii_X10 : Cond.instantiable RX10 10 ∈ tables_1 := List.mem_of_getElem? (i := 38) (by decide +kernel)
theorem ii_X11 : Cond.instantiable RX11 18 ∈ tables_1 := List.mem_of_getElem? (i := 1558) (by decide +kernel)
