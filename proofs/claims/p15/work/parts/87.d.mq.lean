theorem zt_0_1 (n : Nat) (h : n = n + 1) : False := by omega
theorem zt_0_2 (n : Nat) (h : n = n + 1 + 1) : False := by omega
theorem zt_0_3 (n : Nat) (h : n = n + 1 + 1 + 1) : False := by omega
theorem zt_0_4 (n : Nat) (h : n = n + 1 + 1 + 1 + 1) : False := by omega
theorem zt_0_5 (n : Nat) (h : n = n + 1 + 1 + 1 + 1 + 1) : False := by omega
theorem zt_0_6 (n : Nat) (h : n = n + 1 + 1 + 1 + 1 + 1 + 1) : False := by omega
theorem zt_0_7 (n : Nat) (h : n = n + 1 + 1 + 1 + 1 + 1 + 1 + 1) : False := by omega
theorem zt_0_8 (n : Nat) (h : n = n + 1 + 1 + 1 + 1 + 1 + 1 + 1 + 1) : False := by omega
theorem zt_0_9 (n : Nat) (h : n = n + 1 + 1 + 1 + 1 + 1 + 1 + 1 + 1 + 1) : False := by omega
theorem zt_0_10 (n : Nat) (h : n = n + 1 + 1 + 1 + 1 + 1 + 1 + 1 + 1 + 1 + 1) : False := by omega
theorem zt_0_11 (n : Nat) (h : n = n + 1 + 1 + 1 + 1 + 1 + 1 + 1 + 1 + 1 + 1 + 1) : False := by omega
theorem zt_0_12 (n : Nat) (h : n = n + 1 + 1 + 1 + 1 + 1 + 1 + 1 + 1 + 1 + 1 + 1 + 1) : False := by omega
theorem zt_0_13 (n : Nat) (h : n = n + 1 + 1 + 1 + 1 + 1 + 1 + 1 + 1 + 1 + 1 + 1 + 1 + 1) : False := by omega
theorem zt_0_14 (n : Nat) (h : n = n + 1 + 1 + 1 + 1 + 1 + 1 + 1 + 1 + 1 + 1 + 1 + 1 + 1 + 1) : False := by omega
theorem zt_0_15 (n : Nat) (h : n = n + 1 + 1 + 1 + 1 + 1 + 1 + 1 + 1 + 1 + 1 + 1 + 1 + 1 + 1 + 1) : False := by omega
theorem zt_0_16 (n : Nat) (h : n = n + 1 + 1 + 1 + 1 + 1 + 1 + 1 + 1 + 1 + 1 + 1 + 1 + 1 + 1 + 1 + 1) : False := by omega
theorem zt_0_17 (n : Nat) (h : n = n + 1 + 1 + 1 + 1 + 1 + 1 + 1 + 1 + 1 + 1 + 1 + 1 + 1 + 1 + 1 + 1 + 1) : False := by omega
theorem zt_0_18 (n : Nat) (h : n = n + 1 + 1 + 1 + 1 + 1 + 1 + 1 + 1 + 1 + 1 + 1 + 1 + 1 + 1 + 1 + 1 + 1 + 1) : False := by omega
theorem zt_0_19 (n : Nat) (h : n = n + 1 + 1 + 1 + 1 + 1 + 1 + 1 + 1 + 1 + 1 + 1 + 1 + 1 + 1 + 1 + 1 + 1 + 1 + 1) : False := by omega
theorem zt_1_2 (n : Nat) (h : n + 1 = n + 1 + 1) : False := by omega
theorem zt_1_3 (n : Nat) (h : n + 1 = n + 1 + 1 + 1) : False := by omega
theorem zt_1_4 (n : Nat) (h : n + 1 = n + 1 + 1 + 1 + 1) : False := by omega
theorem zt_1_5 (n : Nat) (h : n + 1 = n + 1 + 1 + 1 + 1 + 1) : False := by omega
theorem zt_1_6 (n : Nat) (h : n + 1 = n + 1 + 1 + 1 + 1 + 1 + 1) : False := by omega
theorem zt_1_7 (n : Nat) (h : n + 1 = n + 1 + 1 + 1 + 1 + 1 + 1 + 1) : False := by omega
theorem zt_1_8 (n : Nat) (h : n + 1 = n + 1 + 1 + 1 + 1 + 1 + 1 + 1 + 1) : False := by omega
theorem zt_1_9 (n : Nat) (h : n + 1 = n + 1 + 1 + 1 + 1 + 1 + 1 + 1 + 1 + 1) : False := by omega
theorem zt_1_10 (n : Nat) (h : n + 1 = n + 1 + 1 + 1 + 1 + 1 + 1 + 1 + 1 + 1 + 1) : False := by omega
theorem zt_1_11 (n : Nat) (h : n + 1 = n + 1 + 1 + 1 + 1 + 1 + 1 + 1 + 1 + 1 + 1 + 1) : False := by omega
theorem zt_1_12 (n : Nat) (h : n + 1 = n + 1 + 1 + 1 + 1 + 1 + 1 + 1 + 1 + 1 + 1 + 1 + 1) : False := by omega
theorem zt_1_13 (n : Nat) (h : n + 1 = n + 1 + 1 + 1 + 1 + 1 + 1 + 1 + 1 + 1 + 1 + 1 + 1 + 1) : False := by omega
theorem zt_1_14 (n : Nat) (h : n + 1 = n + 1 + 1 + 1 + 1 + 1 + 1 + 1 + 1 + 1 + 1 + 1 + 1 + 1 + 1) : False := by omega
theorem zt_1_15 (n : Nat) (h : n + 1 = n + 1 + 1 + 1 + 1 + 1 + 1 + 1 + 1 + 1 + 1 + 1 + 1 + 1 + 1 + 1) : False := by omega
theorem zt_1_16 (n : Nat) (h : n + 1 = n + 1 + 1 + 1 + 1 + 1 + 1 + 1 + 1 + 1 + 1 + 1 + 1 + 1 + 1 + 1 + 1) : False := by omega
theorem zt_1_17 (n : Nat) (h : n + 1 = n + 1 + 1 + 1 + 1 + 1 + 1 + 1 + 1 + 1 + 1 + 1 + 1 + 1 + 1 + 1 + 1 + 1) : False := by omega
theorem zt_1_18 (n : Nat) (h : n + 1 = n + 1 + 1 + 1 + 1 + 1 + 1 + 1 + 1 + 1 + 1 + 1 + 1 + 1 + 1 + 1 + 1 + 1 + 1) : False := by omega
theorem zt_1_19 (n : Nat) (h : n + 1 = n + 1 + 1 + 1 + 1 + 1 + 1 + 1 + 1 + 1 + 1 + 1 + 1 + 1 + 1 + 1 + 1 + 1 + 1 + 1) : False := by omega
theorem zt_2_3 (n : Nat) (h : n + 1 + 1 = n + 1 + 1 + 1) : False := by omega
theorem zt_2_4 (n : Nat) (h : n + 1 + 1 = n + 1 + 1 + 1 + 1) : False := by omega
theorem zt_2_5 (n : Nat) (h : n + 1 + 1 = n + 1 + 1 + 1 + 1 + 1) : False := by omega
theorem zt_2_6 (n : Nat) (h : n + 1 + 1 = n + 1 + 1 + 1 + 1 + 1 + 1) : False := by omega
theorem zt_2_7 (n : Nat) (h : n + 1 + 1 = n + 1 + 1 + 1 + 1 + 1 + 1 + 1) : False := by omega
theorem zt_2_8 (n : Nat) (h : n + 1 + 1 = n + 1 + 1 + 1 + 1 + 1 + 1 + 1 + 1) : False := by omega
theorem zt_2_9 (n : Nat) (h : n + 1 + 1 = n + 1 + 1 + 1 + 1 + 1 + 1 + 1 + 1 + 1) : False := by omega
theorem zt_2_10 (n : Nat) (h : n + 1 + 1 = n + 1 + 1 + 1 + 1 + 1 + 1 + 1 + 1 + 1 + 1) : False := by omega
theorem zt_2_11 (n : Nat) (h : n + 1 + 1 = n + 1 + 1 + 1 + 1 + 1 + 1 + 1 + 1 + 1 + 1 + 1) : False := by omega
theorem zt_2_12 (n : Nat) (h : n + 1 + 1 = n + 1 + 1 + 1 + 1 + 1 + 1 + 1 + 1 + 1 + 1 + 1 + 1) : False := by omega
theorem zt_2_13 (n : Nat) (h : n + 1 + 1 = n + 1 + 1 + 1 + 1 + 1 + 1 + 1 + 1 + 1 + 1 + 1 + 1 + 1) : False := by omega
theorem zt_2_14 (n : Nat) (h : n + 1 + 1 = n + 1 + 1 + 1 + 1 + 1 + 1 + 1 + 1 + 1 + 1 + 1 + 1 + 1 + 1) : False := by omega
theorem zt_2_15 (n : Nat) (h : n + 1 + 1 = n + 1 + 1 + 1 + 1 + 1 + 1 + 1 + 1 + 1 + 1 + 1 + 1 + 1 + 1 + 1) : False := by omega
theorem zt_2_16 (n : Nat) (h : n + 1 + 1 = n + 1 + 1 + 1 + 1 + 1 + 1 + 1 + 1 + 1 + 1 + 1 + 1 + 1 + 1 + 1 + 1) : False := by omega
theorem zt_2_17 (n : Nat) (h : n + 1 + 1 = n + 1 + 1 + 1 + 1 + 1 + 1 + 1 + 1 + 1 + 1 + 1 + 1 + 1 + 1 + 1 + 1 + 1) : False := by omega
theorem zt_2_18 (n : Nat) (h : n + 1 + 1 = n + 1 + 1 + 1 + 1 + 1 + 1 + 1 + 1 + 1 + 1 + 1 + 1 + 1 + 1 + 1 + 1 + 1 + 1) : False := by omega
theorem zt_2_19 (n : Nat) (h : n + 1 + 1 = n + 1 + 1 + 1 + 1 + 1 + 1 + 1 + 1 + 1 + 1 + 1 + 1 + 1 + 1 + 1 + 1 + 1 + 1 + 1) : False := by omega
theorem zt_3_4 (n : Nat) (h : n + 1 + 1 + 1 = n + 1 + 1 + 1 + 1) : False := by omega
theorem zt_3_5 (n : Nat) (h : n + 1 + 1 + 1 = n + 1 + 1 + 1 + 1 + 1) : False := by omega
theorem zt_3_6 (n : Nat) (h : n + 1 + 1 + 1 = n + 1 + 1 + 1 + 1 + 1 + 1) : False := by omega
theorem zt_3_7 (n : Nat) (h : n + 1 + 1 + 1 = n + 1 + 1 + 1 + 1 + 1 + 1 + 1) : False := by omega
theorem zt_3_8 (n : Nat) (h : n + 1 + 1 + 1 = n + 1 + 1 + 1 + 1 + 1 + 1 + 1 + 1) : False := by omega
theorem zt_3_9 (n : Nat) (h : n + 1 + 1 + 1 = n + 1 + 1 + 1 + 1 + 1 + 1 + 1 + 1 + 1) : False := by omega
theorem zt_3_10 (n : Nat) (h : n + 1 + 1 + 1 = n + 1 + 1 + 1 + 1 + 1 + 1 + 1 + 1 + 1 + 1) : False := by omega
theorem zt_3_11 (n : Nat) (h : n + 1 + 1 + 1 = n + 1 + 1 + 1 + 1 + 1 + 1 + 1 + 1 + 1 + 1 + 1) : False := by omega
theorem zt_3_12 (n : Nat) (h : n + 1 + 1 + 1 = n + 1 + 1 + 1 + 1 + 1 + 1 + 1 + 1 + 1 + 1 + 1 + 1) : False := by omega
theorem zt_3_13 (n : Nat) (h : n + 1 + 1 + 1 = n + 1 + 1 + 1 + 1 + 1 + 1 + 1 + 1 + 1 + 1 + 1 + 1 + 1) : False := by omega
theorem zt_3_14 (n : Nat) (h : n + 1 + 1 + 1 = n + 1 + 1 + 1 + 1 + 1 + 1 + 1 + 1 + 1 + 1 + 1 + 1 + 1 + 1) : False := by omega
theorem zt_3_15 (n : Nat) (h : n + 1 + 1 + 1 = n + 1 + 1 + 1 + 1 + 1 + 1 + 1 + 1 + 1 + 1 + 1 + 1 + 1 + 1 + 1) : False := by omega
theorem zt_3_16 (n : Nat) (h : n + 1 + 1 + 1 = n + 1 + 1 + 1 + 1 + 1 + 1 + 1 + 1 + 1 + 1 + 1 + 1 + 1 + 1 + 1 + 1) : False := by omega
theorem zt_3_17 (n : Nat) (h : n + 1 + 1 + 1 = n + 1 + 1 + 1 + 1 + 1 + 1 + 1 + 1 + 1 + 1 + 1 + 1 + 1 + 1 + 1 + 1 + 1) : False := by omega
theorem zt_3_18 (n : Nat) (h : n + 1 + 1 + 1 = n + 1 + 1 + 1 + 1 + 1 + 1 + 1 + 1 + 1 + 1 + 1 + 1 + 1 + 1 + 1 + 1 + 1 + 1) : False := by omega
theorem zt_3_19 (n : Nat) (h : n + 1 + 1 + 1 = n + 1 + 1 + 1 + 1 + 1 + 1 + 1 + 1 + 1 + 1 + 1 + 1 + 1 + 1 + 1 + 1 + 1 + 1 + 1) : False := by omega
theorem zt_4_5 (n : Nat) (h : n + 1 + 1 + 1 + 1 = n + 1 + 1 + 1 + 1 + 1) : False := by omega
theorem zt_4_6 (n : Nat) (h : n + 1 + 1 + 1 + 1 = n + 1 + 1 + 1 + 1 + 1 + 1) : False := by omega
theorem zt_4_7 (n : Nat) (h : n + 1 + 1 + 1 + 1 = n + 1 + 1 + 1 + 1 + 1 + 1 + 1) : False := by omega
theorem zt_4_8 (n : Nat) (h : n + 1 + 1 + 1 + 1 = n + 1 + 1 + 1 + 1 + 1 + 1 + 1 + 1) : False := by omega
theorem zt_4_9 (n : Nat) (h : n + 1 + 1 + 1 + 1 = n + 1 + 1 + 1 + 1 + 1 + 1 + 1 + 1 + 1) : False := by omega
theorem zt_4_10 (n : Nat) (h : n + 1 + 1 + 1 + 1 = n + 1 + 1 + 1 + 1 + 1 + 1 + 1 + 1 + 1 + 1) : False := by omega
theorem zt_4_11 (n : Nat) (h : n + 1 + 1 + 1 + 1 = n + 1 + 1 + 1 + 1 + 1 + 1 + 1 + 1 + 1 + 1 + 1) : False := by omega
theorem zt_4_12 (n : Nat) (h : n + 1 + 1 + 1 + 1 = n + 1 + 1 + 1 + 1 + 1 + 1 + 1 + 1 + 1 + 1 + 1 + 1) : False := by omega
theorem zt_4_13 (n : Nat) (h : n + 1 + 1 + 1 + 1 = n + 1 + 1 + 1 + 1 + 1 + 1 + 1 + 1 + 1 + 1 + 1 + 1 + 1) : False := by omega
theorem zt_4_14 (n : Nat) (h : n + 1 + 1 + 1 + 1 = n + 1 + 1 + 1 + 1 + 1 + 1 + 1 + 1 + 1 + 1 + 1 + 1 + 1 + 1) : False := by omega
theorem zt_4_15 (n : Nat) (h : n + 1 + 1 + 1 + 1 = n + 1 + 1 + 1 + 1 + 1 + 1 + 1 + 1 + 1 + 1 + 1 + 1 + 1 + 1 + 1) : False := by omega
theorem zt_4_16 (n : Nat) (h : n + 1 + 1 + 1 + 1 = n + 1 + 1 + 1 + 1 + 1 + 1 + 1 + 1 + 1 + 1 + 1 + 1 + 1 + 1 + 1 + 1) : False := by omega
theorem zt_4_17 (n : Nat) (h : n + 1 + 1 + 1 + 1 = n + 1 + 1 + 1 + 1 + 1 + 1 + 1 + 1 + 1 + 1 + 1 + 1 + 1 + 1 + 1 + 1 + 1) : False := by omega
theorem zt_4_18 (n : Nat) (h : n + 1 + 1 + 1 + 1 = n + 1 + 1 + 1 + 1 + 1 + 1 + 1 + 1 + 1 + 1 + 1 + 1 + 1 + 1 + 1 + 1 + 1 + 1) : False := by omega
theorem zt_4_19 (n : Nat) (h : n + 1 + 1 + 1 + 1 = n + 1 + 1 + 1 + 1 + 1 + 1 + 1 + 1 + 1 + 1 + 1 + 1 + 1 + 1 + 1 + 1 + 1 + 1 + 1) : False := by omega
theorem zt_5_6 (n : Nat) (h : n + 1 + 1 + 1 + 1 + 1 = n + 1 + 1 + 1 + 1 + 1 + 1) : False := by omega
theorem zt_5_7 (n : Nat) (h : n + 1 + 1 + 1 + 1 + 1 = n + 1 + 1 + 1 + 1 + 1 + 1 + 1) : False := by omega
theorem zt_5_8 (n : Nat) (h : n + 1 + 1 + 1 + 1 + 1 = n + 1 + 1 + 1 + 1 + 1 + 1 + 1 + 1) : False := by omega
theorem zt_5_9 (n : Nat) (h : n + 1 + 1 + 1 + 1 + 1 = n + 1 + 1 + 1 + 1 + 1 + 1 + 1 + 1 + 1) : False := by omega
theorem zt_5_10 (n : Nat) (h : n + 1 + 1 + 1 + 1 + 1 = n + 1 + 1 + 1 + 1 + 1 + 1 + 1 + 1 + 1 + 1) : False := by omega
theorem zt_5_11 (n : Nat) (h : n + 1 + 1 + 1 + 1 + 1 = n + 1 + 1 + 1 + 1 + 1 + 1 + 1 + 1 + 1 + 1 + 1) : False := by omega
theorem zt_5_12 (n : Nat) (h : n + 1 + 1 + 1 + 1 + 1 = n + 1 + 1 + 1 + 1 + 1 + 1 + 1 + 1 + 1 + 1 + 1 + 1) : False := by omega
theorem zt_5_13 (n : Nat) (h : n + 1 + 1 + 1 + 1 + 1 = n + 1 + 1 + 1 + 1 + 1 + 1 + 1 + 1 + 1 + 1 + 1 + 1 + 1) : False := by omega
theorem zt_5_14 (n : Nat) (h : n + 1 + 1 + 1 + 1 + 1 = n + 1 + 1 + 1 + 1 + 1 + 1 + 1 + 1 + 1 + 1 + 1 + 1 + 1 + 1) : False := by omega
theorem zt_5_15 (n : Nat) (h : n + 1 + 1 + 1 + 1 + 1 = n + 1 + 1 + 1 + 1 + 1 + 1 + 1 + 1 + 1 + 1 + 1 + 1 + 1 + 1 + 1) : False := by omega
theorem zt_5_16 (n : Nat) (h : n + 1 + 1 + 1 + 1 + 1 = n + 1 + 1 + 1 + 1 + 1 + 1 + 1 + 1 + 1 + 1 + 1 + 1 + 1 + 1 + 1 + 1) : False := by omega
theorem zt_5_17 (n : Nat) (h : n + 1 + 1 + 1 + 1 + 1 = n + 1 + 1 + 1 + 1 + 1 + 1 + 1 + 1 + 1 + 1 + 1 + 1 + 1 + 1 + 1 + 1 + 1) : False := by omega
theorem zt_5_18 (n : Nat) (h : n + 1 + 1 + 1 + 1 + 1 = n + 1 + 1 + 1 + 1 + 1 + 1 + 1 + 1 + 1 + 1 + 1 + 1 + 1 + 1 + 1 + 1 + 1 + 1) : False := by omega
theorem zt_5_19 (n : Nat) (h : n + 1 + 1 + 1 + 1 + 1 = n + 1 + 1 + 1 + 1 + 1 + 1 + 1 + 1 + 1 + 1 + 1 + 1 + 1 + 1 + 1 + 1 + 1 + 1 + 1) : False := by omega
theorem zt_6_7 (n : Nat) (h : n + 1 + 1 + 1 + 1 + 1 + 1 = n + 1 + 1 + 1 + 1 + 1 + 1 + 1) : False := by omega
theorem zt_6_8 (n : Nat) (h : n + 1 + 1 + 1 + 1 + 1 + 1 = n + 1 + 1 + 1 + 1 + 1 + 1 + 1 + 1) : False := by omega
theorem zt_6_9 (n : Nat) (h : n + 1 + 1 + 1 + 1 + 1 + 1 = n + 1 + 1 + 1 + 1 + 1 + 1 + 1 + 1 + 1) : False := by omega
theorem zt_6_10 (n : Nat) (h : n + 1 + 1 + 1 + 1 + 1 + 1 = n + 1 + 1 + 1 + 1 + 1 + 1 + 1 + 1 + 1 + 1) : False := by omega
theorem zt_6_11 (n : Nat) (h : n + 1 + 1 + 1 + 1 + 1 + 1 = n + 1 + 1 + 1 + 1 + 1 + 1 + 1 + 1 + 1 + 1 + 1) : False := by omega
theorem zt_6_12 (n : Nat) (h : n + 1 + 1 + 1 + 1 + 1 + 1 = n + 1 + 1 + 1 + 1 + 1 + 1 + 1 + 1 + 1 + 1 + 1 + 1) : False := by omega
theorem zt_6_13 (n : Nat) (h : n + 1 + 1 + 1 + 1 + 1 + 1 = n + 1 + 1 + 1 + 1 + 1 + 1 + 1 + 1 + 1 + 1 + 1 + 1 + 1) : False := by omega
theorem zt_6_14 (n : Nat) (h : n + 1 + 1 + 1 + 1 + 1 + 1 = n + 1 + 1 + 1 + 1 + 1 + 1 + 1 + 1 + 1 + 1 + 1 + 1 + 1 + 1) : False := by omega
theorem zt_6_15 (n : Nat) (h : n + 1 + 1 + 1 + 1 + 1 + 1 = n + 1 + 1 + 1 + 1 + 1 + 1 + 1 + 1 + 1 + 1 + 1 + 1 + 1 + 1 + 1) : False := by omega
theorem zt_6_16 (n : Nat) (h : n + 1 + 1 + 1 + 1 + 1 + 1 = n + 1 + 1 + 1 + 1 + 1 + 1 + 1 + 1 + 1 + 1 + 1 + 1 + 1 + 1 + 1 + 1) : False := by omega
theorem zt_6_17 (n : Nat) (h : n + 1 + 1 + 1 + 1 + 1 + 1 = n + 1 + 1 + 1 + 1 + 1 + 1 + 1 + 1 + 1 + 1 + 1 + 1 + 1 + 1 + 1 + 1 + 1) : False := by omega
theorem zt_6_18 (n : Nat) (h : n + 1 + 1 + 1 + 1 + 1 + 1 = n + 1 + 1 + 1 + 1 + 1 + 1 + 1 + 1 + 1 + 1 + 1 + 1 + 1 + 1 + 1 + 1 + 1 + 1) : False := by omega
theorem zt_6_19 (n : Nat) (h : n + 1 + 1 + 1 + 1 + 1 + 1 = n + 1 + 1 + 1 + 1 + 1 + 1 + 1 + 1 + 1 + 1 + 1 + 1 + 1 + 1 + 1 + 1 + 1 + 1 + 1) : False := by omega
theorem zt_7_8 (n : Nat) (h : n + 1 + 1 + 1 + 1 + 1 + 1 + 1 = n + 1 + 1 + 1 + 1 + 1 + 1 + 1 + 1) : False := by omega
theorem zt_7_9 (n : Nat) (h : n + 1 + 1 + 1 + 1 + 1 + 1 + 1 = n + 1 + 1 + 1 + 1 + 1 + 1 + 1 + 1 + 1) : False := by omega
theorem zt_7_10 (n : Nat) (h : n + 1 + 1 + 1 + 1 + 1 + 1 + 1 = n + 1 + 1 + 1 + 1 + 1 + 1 + 1 + 1 + 1 + 1) : False := by omega
theorem zt_7_11 (n : Nat) (h : n + 1 + 1 + 1 + 1 + 1 + 1 + 1 = n + 1 + 1 + 1 + 1 + 1 + 1 + 1 + 1 + 1 + 1 + 1) : False := by omega
theorem zt_7_12 (n : Nat) (h : n + 1 + 1 + 1 + 1 + 1 + 1 + 1 = n + 1 + 1 + 1 + 1 + 1 + 1 + 1 + 1 + 1 + 1 + 1 + 1) : False := by omega
theorem zt_7_13 (n : Nat) (h : n + 1 + 1 + 1 + 1 + 1 + 1 + 1 = n + 1 + 1 + 1 + 1 + 1 + 1 + 1 + 1 + 1 + 1 + 1 + 1 + 1) : False := by omega
theorem zt_7_14 (n : Nat) (h : n + 1 + 1 + 1 + 1 + 1 + 1 + 1 = n + 1 + 1 + 1 + 1 + 1 + 1 + 1 + 1 + 1 + 1 + 1 + 1 + 1 + 1) : False := by omega
theorem zt_7_15 (n : Nat) (h : n + 1 + 1 + 1 + 1 + 1 + 1 + 1 = n + 1 + 1 + 1 + 1 + 1 + 1 + 1 + 1 + 1 + 1 + 1 + 1 + 1 + 1 + 1) : False := by omega
theorem zt_7_16 (n : Nat) (h : n + 1 + 1 + 1 + 1 + 1 + 1 + 1 = n + 1 + 1 + 1 + 1 + 1 + 1 + 1 + 1 + 1 + 1 + 1 + 1 + 1 + 1 + 1 + 1) : False := by omega
theorem zt_7_17 (n : Nat) (h : n + 1 + 1 + 1 + 1 + 1 + 1 + 1 = n + 1 + 1 + 1 + 1 + 1 + 1 + 1 + 1 + 1 + 1 + 1 + 1 + 1 + 1 + 1 + 1 + 1) : False := by omega
theorem zt_7_18 (n : Nat) (h : n + 1 + 1 + 1 + 1 + 1 + 1 + 1 = n + 1 + 1 + 1 + 1 + 1 + 1 + 1 + 1 + 1 + 1 + 1 + 1 + 1 + 1 + 1 + 1 + 1 + 1) : False := by omega
theorem zt_7_19 (n : Nat) (h : n + 1 + 1 + 1 + 1 + 1 + 1 + 1 = n + 1 + 1 + 1 + 1 + 1 + 1 + 1 + 1 + 1 + 1 + 1 + 1 + 1 + 1 + 1 + 1 + 1 + 1 + 1) : False := by omega
theorem zt_8_9 (n : Nat) (h : n + 1 + 1 + 1 + 1 + 1 + 1 + 1 + 1 = n + 1 + 1 + 1 + 1 + 1 + 1 + 1 + 1 + 1) : False := by omega
theorem zt_8_10 (n : Nat) (h : n + 1 + 1 + 1 + 1 + 1 + 1 + 1 + 1 = n + 1 + 1 + 1 + 1 + 1 + 1 + 1 + 1 + 1 + 1) : False := by omega
theorem zt_8_11 (n : Nat) (h : n + 1 + 1 + 1 + 1 + 1 + 1 + 1 + 1 = n + 1 + 1 + 1 + 1 + 1 + 1 + 1 + 1 + 1 + 1 + 1) : False := by omega
theorem zt_8_12 (n : Nat) (h : n + 1 + 1 + 1 + 1 + 1 + 1 + 1 + 1 = n + 1 + 1 + 1 + 1 + 1 + 1 + 1 + 1 + 1 + 1 + 1 + 1) : False := by omega
theorem zt_8_13 (n : Nat) (h : n + 1 + 1 + 1 + 1 + 1 + 1 + 1 + 1 = n + 1 + 1 + 1 + 1 + 1 + 1 + 1 + 1 + 1 + 1 + 1 + 1 + 1) : False := by omega
theorem zt_8_14 (n : Nat) (h : n + 1 + 1 + 1 + 1 + 1 + 1 + 1 + 1 = n + 1 + 1 + 1 + 1 + 1 + 1 + 1 + 1 + 1 + 1 + 1 + 1 + 1 + 1) : False := by omega
theorem zt_8_15 (n : Nat) (h : n + 1 + 1 + 1 + 1 + 1 + 1 + 1 + 1 = n + 1 + 1 + 1 + 1 + 1 + 1 + 1 + 1 + 1 + 1 + 1 + 1 + 1 + 1 + 1) : False := by omega
theorem zt_8_16 (n : Nat) (h : n + 1 + 1 + 1 + 1 + 1 + 1 + 1 + 1 = n + 1 + 1 + 1 + 1 + 1 + 1 + 1 + 1 + 1 + 1 + 1 + 1 + 1 + 1 + 1 + 1) : False := by omega
theorem zt_8_17 (n : Nat) (h : n + 1 + 1 + 1 + 1 + 1 + 1 + 1 + 1 = n + 1 + 1 + 1 + 1 + 1 + 1 + 1 + 1 + 1 + 1 + 1 + 1 + 1 + 1 + 1 + 1 + 1) : False := by omega
theorem zt_8_18 (n : Nat) (h : n + 1 + 1 + 1 + 1 + 1 + 1 + 1 + 1 = n + 1 + 1 + 1 + 1 + 1 + 1 + 1 + 1 + 1 + 1 + 1 + 1 + 1 + 1 + 1 + 1 + 1 + 1) : False := by omega
theorem zt_8_19 (n : Nat) (h : n + 1 + 1 + 1 + 1 + 1 + 1 + 1 + 1 = n + 1 + 1 + 1 + 1 + 1 + 1 + 1 + 1 + 1 + 1 + 1 + 1 + 1 + 1 + 1 + 1 + 1 + 1 + 1) : False := by omega
theorem zt_9_10 (n : Nat) (h : n + 1 + 1 + 1 + 1 + 1 + 1 + 1 + 1 + 1 = n + 1 + 1 + 1 + 1 + 1 + 1 + 1 + 1 + 1 + 1) : False := by omega
theorem zt_9_11 (n : Nat) (h : n + 1 + 1 + 1 + 1 + 1 + 1 + 1 + 1 + 1 = n + 1 + 1 + 1 + 1 + 1 + 1 + 1 + 1 + 1 + 1 + 1) : False := by omega
theorem zt_9_12 (n : Nat) (h : n + 1 + 1 + 1 + 1 + 1 + 1 + 1 + 1 + 1 = n + 1 + 1 + 1 + 1 + 1 + 1 + 1 + 1 + 1 + 1 + 1 + 1) : False := by omega
theorem zt_9_13 (n : Nat) (h : n + 1 + 1 + 1 + 1 + 1 + 1 + 1 + 1 + 1 = n + 1 + 1 + 1 + 1 + 1 + 1 + 1 + 1 + 1 + 1 + 1 + 1 + 1) : False := by omega
theorem zt_9_14 (n : Nat) (h : n + 1 + 1 + 1 + 1 + 1 + 1 + 1 + 1 + 1 = n + 1 + 1 + 1 + 1 + 1 + 1 + 1 + 1 + 1 + 1 + 1 + 1 + 1 + 1) : False := by omega
theorem zt_9_15 (n : Nat) (h : n + 1 + 1 + 1 + 1 + 1 + 1 + 1 + 1 + 1 = n + 1 + 1 + 1 + 1 + 1 + 1 + 1 + 1 + 1 + 1 + 1 + 1 + 1 + 1 + 1) : False := by omega
theorem zt_9_16 (n : Nat) (h : n + 1 + 1 + 1 + 1 + 1 + 1 + 1 + 1 + 1 = n + 1 + 1 + 1 + 1 + 1 + 1 + 1 + 1 + 1 + 1 + 1 + 1 + 1 + 1 + 1 + 1) : False := by omega
theorem zt_9_17 (n : Nat) (h : n + 1 + 1 + 1 + 1 + 1 + 1 + 1 + 1 + 1 = n + 1 + 1 + 1 + 1 + 1 + 1 + 1 + 1 + 1 + 1 + 1 + 1 + 1 + 1 + 1 + 1 + 1) : False := by omega
theorem zt_9_18 (n : Nat) (h : n + 1 + 1 + 1 + 1 + 1 + 1 + 1 + 1 + 1 = n + 1 + 1 + 1 + 1 + 1 + 1 + 1 + 1 + 1 + 1 + 1 + 1 + 1 + 1 + 1 + 1 + 1 + 1) : False := by omega
theorem zt_9_19 (n : Nat) (h : n + 1 + 1 + 1 + 1 + 1 + 1 + 1 + 1 + 1 = n + 1 + 1 + 1 + 1 + 1 + 1 + 1 + 1 + 1 + 1 + 1 + 1 + 1 + 1 + 1 + 1 + 1 + 1 + 1) : False := by omega
theorem zt_10_11 (n : Nat) (h : n + 1 + 1 + 1 + 1 + 1 + 1 + 1 + 1 + 1 + 1 = n + 1 + 1 + 1 + 1 + 1 + 1 + 1 + 1 + 1 + 1 + 1) : False := by omega
theorem zt_10_12 (n : Nat) (h : n + 1 + 1 + 1 + 1 + 1 + 1 + 1 + 1 + 1 + 1 = n + 1 + 1 + 1 + 1 + 1 + 1 + 1 + 1 + 1 + 1 + 1 + 1) : False := by omega
theorem zt_10_13 (n : Nat) (h : n + 1 + 1 + 1 + 1 + 1 + 1 + 1 + 1 + 1 + 1 = n + 1 + 1 + 1 + 1 + 1 + 1 + 1 + 1 + 1 + 1 + 1 + 1 + 1) : False := by omega
theorem zt_10_14 (n : Nat) (h : n + 1 + 1 + 1 + 1 + 1 + 1 + 1 + 1 + 1 + 1 = n + 1 + 1 + 1 + 1 + 1 + 1 + 1 + 1 + 1 + 1 + 1 + 1 + 1 + 1) : False := by omega
theorem zt_10_15 (n : Nat) (h : n + 1 + 1 + 1 + 1 + 1 + 1 + 1 + 1 + 1 + 1 = n + 1 + 1 + 1 + 1 + 1 + 1 + 1 + 1 + 1 + 1 + 1 + 1 + 1 + 1 + 1) : False := by omega
theorem zt_10_16 (n : Nat) (h : n + 1 + 1 + 1 + 1 + 1 + 1 + 1 + 1 + 1 + 1 = n + 1 + 1 + 1 + 1 + 1 + 1 + 1 + 1 + 1 + 1 + 1 + 1 + 1 + 1 + 1 + 1) : False := by omega
theorem zt_10_17 (n : Nat) (h : n + 1 + 1 + 1 + 1 + 1 + 1 + 1 + 1 + 1 + 1 = n + 1 + 1 + 1 + 1 + 1 + 1 + 1 + 1 + 1 + 1 + 1 + 1 + 1 + 1 + 1 + 1 + 1) : False := by omega
theorem zt_10_18 (n : Nat) (h : n + 1 + 1 + 1 + 1 + 1 + 1 + 1 + 1 + 1 + 1 = n + 1 + 1 + 1 + 1 + 1 + 1 + 1 + 1 + 1 + 1 + 1 + 1 + 1 + 1 + 1 + 1 + 1 + 1) : False := by omega
theorem zt_10_19 (n : Nat) (h : n + 1 + 1 + 1 + 1 + 1 + 1 + 1 + 1 + 1 + 1 = n + 1 + 1 + 1 + 1 + 1 + 1 + 1 + 1 + 1 + 1 + 1 + 1 + 1 + 1 + 1 + 1 + 1 + 1 + 1) : False := by omega
theorem zt_11_12 (n : Nat) (h : n + 1 + 1 + 1 + 1 + 1 + 1 + 1 + 1 + 1 + 1 + 1 = n + 1 + 1 + 1 + 1 + 1 + 1 + 1 + 1 + 1 + 1 + 1 + 1) : False := by omega
theorem zt_11_13 (n : Nat) (h : n + 1 + 1 + 1 + 1 + 1 + 1 + 1 + 1 + 1 + 1 + 1 = n + 1 + 1 + 1 + 1 + 1 + 1 + 1 + 1 + 1 + 1 + 1 + 1 + 1) : False := by omega
theorem zt_11_14 (n : Nat) (h : n + 1 + 1 + 1 + 1 + 1 + 1 + 1 + 1 + 1 + 1 + 1 = n + 1 + 1 + 1 + 1 + 1 + 1 + 1 + 1 + 1 + 1 + 1 + 1 + 1 + 1) : False := by omega
theorem zt_11_15 (n : Nat) (h : n + 1 + 1 + 1 + 1 + 1 + 1 + 1 + 1 + 1 + 1 + 1 = n + 1 + 1 + 1 + 1 + 1 + 1 + 1 + 1 + 1 + 1 + 1 + 1 + 1 + 1 + 1) : False := by omega
theorem zt_11_16 (n : Nat) (h : n + 1 + 1 + 1 + 1 + 1 + 1 + 1 + 1 + 1 + 1 + 1 = n + 1 + 1 + 1 + 1 + 1 + 1 + 1 + 1 + 1 + 1 + 1 + 1 + 1 + 1 + 1 + 1) : False := by omega
theorem zt_11_17 (n : Nat) (h : n + 1 + 1 + 1 + 1 + 1 + 1 + 1 + 1 + 1 + 1 + 1 = n + 1 + 1 + 1 + 1 + 1 + 1 + 1 + 1 + 1 + 1 + 1 + 1 + 1 + 1 + 1 + 1 + 1) : False := by omega
theorem zt_11_18 (n : Nat) (h : n + 1 + 1 + 1 + 1 + 1 + 1 + 1 + 1 + 1 + 1 + 1 = n + 1 + 1 + 1 + 1 + 1 + 1 + 1 + 1 + 1 + 1 + 1 + 1 + 1 + 1 + 1 + 1 + 1 + 1) : False := by omega
theorem zt_11_19 (n : Nat) (h : n + 1 + 1 + 1 + 1 + 1 + 1 + 1 + 1 + 1 + 1 + 1 = n + 1 + 1 + 1 + 1 + 1 + 1 + 1 + 1 + 1 + 1 + 1 + 1 + 1 + 1 + 1 + 1 + 1 + 1 + 1) : False := by omega
theorem zt_12_13 (n : Nat) (h : n + 1 + 1 + 1 + 1 + 1 + 1 + 1 + 1 + 1 + 1 + 1 + 1 = n + 1 + 1 + 1 + 1 + 1 + 1 + 1 + 1 + 1 + 1 + 1 + 1 + 1) : False := by omega
theorem zt_12_14 (n : Nat) (h : n + 1 + 1 + 1 + 1 + 1 + 1 + 1 + 1 + 1 + 1 + 1 + 1 = n + 1 + 1 + 1 + 1 + 1 + 1 + 1 + 1 + 1 + 1 + 1 + 1 + 1 + 1) : False := by omega
theorem zt_12_15 (n : Nat) (h : n + 1 + 1 + 1 + 1 + 1 + 1 + 1 + 1 + 1 + 1 + 1 + 1 = n + 1 + 1 + 1 + 1 + 1 + 1 + 1 + 1 + 1 + 1 + 1 + 1 + 1 + 1 + 1) : False := by omega
theorem zt_12_16 (n : Nat) (h : n + 1 + 1 + 1 + 1 + 1 + 1 + 1 + 1 + 1 + 1 + 1 + 1 = n + 1 + 1 + 1 + 1 + 1 + 1 + 1 + 1 + 1 + 1 + 1 + 1 + 1 + 1 + 1 + 1) : False := by omega
theorem zt_12_17 (n : Nat) (h : n + 1 + 1 + 1 + 1 + 1 + 1 + 1 + 1 + 1 + 1 + 1 + 1 = n + 1 + 1 + 1 + 1 + 1 + 1 + 1 + 1 + 1 + 1 + 1 + 1 + 1 + 1 + 1 + 1 + 1) : False := by omega
theorem zt_12_18 (n : Nat) (h : n + 1 + 1 + 1 + 1 + 1 + 1 + 1 + 1 + 1 + 1 + 1 + 1 = n + 1 + 1 + 1 + 1 + 1 + 1 + 1 + 1 + 1 + 1 + 1 + 1 + 1 + 1 + 1 + 1 + 1 + 1) : False := by omega
theorem zt_12_19 (n : Nat) (h : n + 1 + 1 + 1 + 1 + 1 + 1 + 1 + 1 + 1 + 1 + 1 + 1 = n + 1 + 1 + 1 + 1 + 1 + 1 + 1 + 1 + 1 + 1 + 1 + 1 + 1 + 1 + 1 + 1 + 1 + 1 + 1) : False := by omega
theorem zt_13_14 (n : Nat) (h : n + 1 + 1 + 1 + 1 + 1 + 1 + 1 + 1 + 1 + 1 + 1 + 1 + 1 = n + 1 + 1 + 1 + 1 + 1 + 1 + 1 + 1 + 1 + 1 + 1 + 1 + 1 + 1) : False := by omega
theorem zt_13_15 (n : Nat) (h : n + 1 + 1 + 1 + 1 + 1 + 1 + 1 + 1 + 1 + 1 + 1 + 1 + 1 = n + 1 + 1 + 1 + 1 + 1 + 1 + 1 + 1 + 1 + 1 + 1 + 1 + 1 + 1 + 1) : False := by omega
theorem zt_13_16 (n : Nat) (h : n + 1 + 1 + 1 + 1 + 1 + 1 + 1 + 1 + 1 + 1 + 1 + 1 + 1 = n + 1 + 1 + 1 + 1 + 1 + 1 + 1 + 1 + 1 + 1 + 1 + 1 + 1 + 1 + 1 + 1) : False := by omega
theorem zt_13_17 (n : Nat) (h : n + 1 + 1 + 1 + 1 + 1 + 1 + 1 + 1 + 1 + 1 + 1 + 1 + 1 = n + 1 + 1 + 1 + 1 + 1 + 1 + 1 + 1 + 1 + 1 + 1 + 1 + 1 + 1 + 1 + 1 + 1) : False := by omega
theorem zt_13_18 (n : Nat) (h : n + 1 + 1 + 1 + 1 + 1 + 1 + 1 + 1 + 1 + 1 + 1 + 1 + 1 = n + 1 + 1 + 1 + 1 + 1 + 1 + 1 + 1 + 1 + 1 + 1 + 1 + 1 + 1 + 1 + 1 + 1 + 1) : False := by omega
theorem zt_13_19 (n : Nat) (h : n + 1 + 1 + 1 + 1 + 1 + 1 + 1 + 1 + 1 + 1 + 1 + 1 + 1 = n + 1 + 1 + 1 + 1 + 1 + 1 + 1 + 1 + 1 + 1 + 1 + 1 + 1 + 1 + 1 + 1 + 1 + 1 + 1) : False := by omega
theorem zt_14_15 (n : Nat) (h : n + 1 + 1 + 1 + 1 + 1 + 1 + 1 + 1 + 1 + 1 + 1 + 1 + 1 + 1 = n + 1 + 1 + 1 + 1 + 1 + 1 + 1 + 1 + 1 + 1 + 1 + 1 + 1 + 1 + 1) : False := by omega
theorem zt_14_16 (n : Nat) (h : n + 1 + 1 + 1 + 1 + 1 + 1 + 1 + 1 + 1 + 1 + 1 + 1 + 1 + 1 = n + 1 + 1 + 1 + 1 + 1 + 1 + 1 + 1 + 1 + 1 + 1 + 1 + 1 + 1 + 1 + 1) : False := by omega
theorem zt_14_17 (n : Nat) (h : n + 1 + 1 + 1 + 1 + 1 + 1 + 1 + 1 + 1 + 1 + 1 + 1 + 1 + 1 = n + 1 + 1 + 1 + 1 + 1 + 1 + 1 + 1 + 1 + 1 + 1 + 1 + 1 + 1 + 1 + 1 + 1) : False := by omega
theorem zt_14_18 (n : Nat) (h : n + 1 + 1 + 1 + 1 + 1 + 1 + 1 + 1 + 1 + 1 + 1 + 1 + 1 + 1 = n + 1 + 1 + 1 + 1 + 1 + 1 + 1 + 1 + 1 + 1 + 1 + 1 + 1 + 1 + 1 + 1 + 1 + 1) : False := by omega
theorem zt_14_19 (n : Nat) (h : n + 1 + 1 + 1 + 1 + 1 + 1 + 1 + 1 + 1 + 1 + 1 + 1 + 1 + 1 = n + 1 + 1 + 1 + 1 + 1 + 1 + 1 + 1 + 1 + 1 + 1 + 1 + 1 + 1 + 1 + 1 + 1 + 1 + 1) : False := by omega
theorem zt_15_16 (n : Nat) (h : n + 1 + 1 + 1 + 1 + 1 + 1 + 1 + 1 + 1 + 1 + 1 + 1 + 1 + 1 + 1 = n + 1 + 1 + 1 + 1 + 1 + 1 + 1 + 1 + 1 + 1 + 1 + 1 + 1 + 1 + 1 + 1) : False := by omega
theorem zt_15_17 (n : Nat) (h : n + 1 + 1 + 1 + 1 + 1 + 1 + 1 + 1 + 1 + 1 + 1 + 1 + 1 + 1 + 1 = n + 1 + 1 + 1 + 1 + 1 + 1 + 1 + 1 + 1 + 1 + 1 + 1 + 1 + 1 + 1 + 1 + 1) : False := by omega
theorem zt_15_18 (n : Nat) (h : n + 1 + 1 + 1 + 1 + 1 + 1 + 1 + 1 + 1 + 1 + 1 + 1 + 1 + 1 + 1 = n + 1 + 1 + 1 + 1 + 1 + 1 + 1 + 1 + 1 + 1 + 1 + 1 + 1 + 1 + 1 + 1 + 1 + 1) : False := by omega
theorem zt_15_19 (n : Nat) (h : n + 1 + 1 + 1 + 1 + 1 + 1 + 1 + 1 + 1 + 1 + 1 + 1 + 1 + 1 + 1 = n + 1 + 1 + 1 + 1 + 1 + 1 + 1 + 1 + 1 + 1 + 1 + 1 + 1 + 1 + 1 + 1 + 1 + 1 + 1) : False := by omega
theorem zt_16_17 (n : Nat) (h : n + 1 + 1 + 1 + 1 + 1 + 1 + 1 + 1 + 1 + 1 + 1 + 1 + 1 + 1 + 1 + 1 = n + 1 + 1 + 1 + 1 + 1 + 1 + 1 + 1 + 1 + 1 + 1 + 1 + 1 + 1 + 1 + 1 + 1) : False := by omega
theorem zt_16_18 (n : Nat) (h : n + 1 + 1 + 1 + 1 + 1 + 1 + 1 + 1 + 1 + 1 + 1 + 1 + 1 + 1 + 1 + 1 = n + 1 + 1 + 1 + 1 + 1 + 1 + 1 + 1 + 1 + 1 + 1 + 1 + 1 + 1 + 1 + 1 + 1 + 1) : False := by omega
theorem zt_16_19 (n : Nat) (h : n + 1 + 1 + 1 + 1 + 1 + 1 + 1 + 1 + 1 + 1 + 1 + 1 + 1 + 1 + 1 + 1 = n + 1 + 1 + 1 + 1 + 1 + 1 + 1 + 1 + 1 + 1 + 1 + 1 + 1 + 1 + 1 + 1 + 1 + 1 + 1) : False := by omega
theorem zt_17_18 (n : Nat) (h : n + 1 + 1 + 1 + 1 + 1 + 1 + 1 + 1 + 1 + 1 + 1 + 1 + 1 + 1 + 1 + 1 + 1 = n + 1 + 1 + 1 + 1 + 1 + 1 + 1 + 1 + 1 + 1 + 1 + 1 + 1 + 1 + 1 + 1 + 1 + 1) : False := by omega
theorem zt_17_19 (n : Nat) (h : n + 1 + 1 + 1 + 1 + 1 + 1 + 1 + 1 + 1 + 1 + 1 + 1 + 1 + 1 + 1 + 1 + 1 = n + 1 + 1 + 1 + 1 + 1 + 1 + 1 + 1 + 1 + 1 + 1 + 1 + 1 + 1 + 1 + 1 + 1 + 1 + 1) : False := by omega
theorem zt_18_19 (n : Nat) (h : n + 1 + 1 + 1 + 1 + 1 + 1 + 1 + 1 + 1 + 1 + 1 + 1 + 1 + 1 + 1 + 1 + 1 + 1 = n + 1 + 1 + 1 + 1 + 1 + 1 + 1 + 1 + 1 + 1 + 1 + 1 + 1 + 1 + 1 + 1 + 1 + 1 + 1) : False := by omega
set_option maxHeartbeats 4000000 in
set_option maxRecDepth 100000 in
/-- byteCame -/
theorem m_byteX (l : Launch) (hl0 : l.stackTraces = false) (D : va_G) (A : Nat → Prop) (sad : Nat → Nat) (τ : zTy) (fi : zFi) (fr : zFr) (ol : Int64) (n : Nat) (hF : zFix τ fr) (hn : fi 30 21 = nI n) (hn4 : n < 400) (x : Int32) : Met l yX12_byteCame wsX12_byteCame ({ frames := 0, cells := 0, slots := 0, locals := 0 }) (va_Pc [.ref (τ.1 30), .int x] (zQc D A sad τ fi fr ol)) (va_Qv (fun (u : zFi) => u = zu (zu fi 47 n (x &&& 255)) 30 21 (nI (n + 1))) (fun (u : zFi) (t : State) => zH D A τ u fr ol t t.heap) A) 0 0 A := by
  refine Met.ofW (cc := cX12_byteCame) (maxL := 2) (ret := none) (by decide) rfl ?_
  intro p9 e9 s m args below meth c9 s₁ B hml hv
  obtain ⟨rfl, hz, hH, hA⟩ := hv
  have hx := B.exec
  have hb := B.bytes
  have hr := B.returns
  have hts := atoms_spec (ws := wsX12_byteCame) B.pre
  have hown : s.vm.findClass RX12 = some m.cls := findClass_of_methodNamed B.named
  have hlocks := B.notSynchronized
  have hS : va_S A s.heap s.heap [] := va_S.rf
  have hl := lv_entry ([.ref (τ.1 30), .int x]) (n := 2) (Nat.le_of_ble_eq_true rfl)
  rw [lg_entry_eq]
  generalize (lg_sl ([.ref (τ.1 30), .int x]) ++ List.replicate (2 - (lg_sl ([.ref (τ.1 30), .int x])).length) Slot.unset).toArray = ls at hl ⊢
  have hl : lv_has ls 2 [(0, .ref (τ.1 30)), (1, .int x)] := hl
  have hiX12 : ∀ w ∈ u_ws RX12 TX12 71, w ∈ wsX12_byteCame := fun _ h => List.mem_cons_of_mem _ (List.mem_append_right _ h)
  have hw1 := hts (.fieldLink RX12 58 "PostHouseModel" "tape" "[I") (by decide +kernel)
  have hw2 := hts (.fieldLink RX12 178 "PostHouseModel" "taped" "I") (by decide +kernel)
  refine lv_aload_n hx hb dX12_byteCame_0 rfl (lv_at hl 0 rfl) ?_
  refine zGetR (D := D) (ci := 12) (C := RX12) (T := TX12) (N := 71) hx hb hts hiX12 hown hH (zk_30 hF) rfl 20 (by decide) rfl hw1 (fun _ h9 => h9) dX12_byteCame_1 (zr_30_20 hF) ?_
  refine lv_aload_n hx hb dX12_byteCame_4 rfl (lv_at hl 0 rfl) ?_
  refine zGetI (D := D) (ci := 12) (C := RX12) (T := TX12) (N := 71) hx hb hts hiX12 hown hH (zk_30 hF) rfl 21 (by decide) rfl hw2 (fun _ h9 => h9) dX12_byteCame_5 hn ?_
  refine lv_iload_n hx hb dX12_byteCame_8 rfl (lv_at hl 1 rfl) ?_
  refine lv_sipush (v := nI 255) hx hb dX12_byteCame_9 (by decide) ?_
  refine lv_iand hx hb dX12_byteCame_12 ?_
  refine lv_topi (fun v101 ev101 => ?_)
  refine zIastN (D := D) hx hb hH hS (zk_47 hF) (zn_47 hF) (by omega) (by omega) dX12_byteCame_13 (fun H locs hH hS => ?_)
  obtain ⟨f102, ef102⟩ : ∃ f9 : zFi, f9 = zu fi 47 n v101 := ⟨_, rfl⟩
  rw [← ef102] at hH
  have q103 : f102 30 21 = nI n := by rw [ef102, zu_n (fun h9 => absurd h9.1 (by decide))]; exact hn
  have q104 : f102 47 n = v101 := by rw [ef102]; exact zu_s
  refine lv_aload_n hx hb dX12_byteCame_14 rfl (lv_at hl 0 rfl) ?_
  refine lv_dup hx hb dX12_byteCame_15 rfl ?_
  refine zGetI (D := D) (ci := 12) (C := RX12) (T := TX12) (N := 71) hx hb hts hiX12 hown hH (zk_30 hF) rfl 21 (by decide) rfl hw2 (fun _ h9 => h9) dX12_byteCame_16 q103 ?_
  refine lv_iconst (v := nI 1) hx hb dX12_byteCame_19 (by decide) ?_
  refine lv_iadd hx hb dX12_byteCame_20 ?_
  refine lv_topi (fun v105 ev105 => ?_)
  obtain rfl : v105 = nI (n + 1) := ev105.trans (nI_add _ _)
  refine zPutI (D := D) (ci := 12) (ty := .int) (C := RX12) (T := TX12) (N := 71) hx hb hts hiX12 tyX12 tyX12_ok nmX12 hown hH hS (zk_30 hF) rfl 21 (by decide) rfl hw2 (fun _ h9 => h9) rfl (by decide +kernel) rfl rfl dX12_byteCame_21 (fun H locs hH hS => ?_)
  obtain ⟨f106, ef106⟩ : ∃ f9 : zFi, f9 = zu f102 30 21 (nI (n + 1)) := ⟨_, rfl⟩
  rw [← ef106] at hH
  have q107 : f106 47 n = v101 := by rw [ef106, zu_n (fun h9 => absurd h9.1 (by decide))]; exact q104
  have q108 : f106 30 21 = nI (n + 1) := by rw [ef106]; exact zu_s
  refine W.widen (k := 0) (n := 0) (by decide) (by decide) ?_
  exact W.vret hx hb hr (fun t9 ht9 hW9 => ⟨⟨f106, rfl, by rw [ef106, ef102, ev101]; rfl, zEnd1 hH ht9 hW9⟩, hS.F ht9⟩) hS.2.2 dX12_byteCame_24
set_option maxHeartbeats 4000000 in
set_option maxRecDepth 100000 in
/-- feed -/
theorem m_feedX (l : Launch) (hl0 : l.stackTraces = false) (D : va_G) (A : Nat → Prop) (sad : Nat → Nat) (τ : zTy) (fi : zFi) (fr : zFr) (ol : Int64) (n : Nat) (hF : zFix τ fr) (hn : fi 30 21 = nI n) (hn4 : n ≤ 400) (x0 x1 x2 x3 x4 : Int32) : Met l yX12_feed wsX12_feed ({ frames := 1, cells := 0, slots := 0, locals := 21 }) (va_Pc [.ref (τ.1 30), .int x0, .int x1, .int x2, .int x3, .int x4] (zQc D A sad τ fi fr ol)) (va_Qi (fun (r : Int32) (u : zFi) => (((n + 20 ≤ 400 ∧ r = nI (n + 20) ∧ u 30 21 = nI (n + 20)) ∨ (400 < n + 20 ∧ r = -1 ∧ u 30 21 = nI n)) ∧ ∀ a b, ¬ (a = 47 ∨ (a = 30 ∧ (b = 0 ∨ b = 21))) → u a b = fi a b) ∧ (n + 20 ≤ 400 → (∀ b, b < n → u 47 b = fi 47 b) ∧ u 47 (n + 0) = zB9 x0 24 ∧ u 47 (n + 1) = zB9 x0 16 ∧ u 47 (n + 2) = zB9 x0 8 ∧ u 47 (n + 3) = zB9 x0 0 ∧ u 47 (n + 4) = zB9 x1 24 ∧ u 47 (n + 5) = zB9 x1 16 ∧ u 47 (n + 6) = zB9 x1 8 ∧ u 47 (n + 7) = zB9 x1 0 ∧ u 47 (n + 8) = zB9 x2 24 ∧ u 47 (n + 9) = zB9 x2 16 ∧ u 47 (n + 10) = zB9 x2 8 ∧ u 47 (n + 11) = zB9 x2 0 ∧ u 47 (n + 12) = zB9 x3 24 ∧ u 47 (n + 13) = zB9 x3 16 ∧ u 47 (n + 14) = zB9 x3 8 ∧ u 47 (n + 15) = zB9 x3 0 ∧ u 47 (n + 16) = zB9 x4 24 ∧ u 47 (n + 17) = zB9 x4 16 ∧ u 47 (n + 18) = zB9 x4 8 ∧ u 47 (n + 19) = zB9 x4 0) ∧ (400 < n + 20 → ∀ b, u 47 b = fi 47 b)) (fun (u : zFi) (t : State) => zH D A τ u fr ol t t.heap) A) 0 0 A := by
  refine Met.ofW (cc := cX12_feed) (maxL := 7) (ret := (some .int)) (by decide) rfl ?_
  intro p9 e9 s m args below meth c9 s₁ B hml hv
  obtain ⟨rfl, hz, hH, hA⟩ := hv
  have hx := B.exec
  have hb := B.bytes
  have hr := B.returns
  have hts := atoms_spec (ws := wsX12_feed) B.pre
  have hown : s.vm.findClass RX12 = some m.cls := findClass_of_methodNamed B.named
  have hlocks := B.notSynchronized
  have hS : va_S A s.heap s.heap [] := va_S.rf
  have hl := lv_entry ([.ref (τ.1 30), .int x0, .int x1, .int x2, .int x3, .int x4]) (n := 7) (Nat.le_of_ble_eq_true rfl)
  rw [lg_entry_eq]
  generalize (lg_sl ([.ref (τ.1 30), .int x0, .int x1, .int x2, .int x3, .int x4]) ++ List.replicate (7 - (lg_sl ([.ref (τ.1 30), .int x0, .int x1, .int x2, .int x3, .int x4])).length) Slot.unset).toArray = ls at hl ⊢
  have hl : lv_has ls 7 [(0, .ref (τ.1 30)), (1, .int x0), (2, .int x1), (3, .int x2), (4, .int x3), (5, .int x4)] := hl
  have hw0 := hts (.fieldLink RX12 165 "PostHouseModel" "thrown" "I") (by decide +kernel)
  have hiX12 : ∀ w ∈ u_ws RX12 TX12 71, w ∈ wsX12_feed := fun _ h => List.mem_cons_of_mem _ (List.mem_append_right _ h)
  have hw2 := hts (.fieldLink RX12 178 "PostHouseModel" "taped" "I") (by decide +kernel)
  refine lv_aload_n hx hb dX12_feed_0 rfl (lv_at hl 0 rfl) ?_
  refine lv_iconst (v := nI 0) hx hb dX12_feed_1 (by decide) ?_
  refine zPutI (D := D) (ci := 12) (ty := .int) (C := RX12) (T := TX12) (N := 71) hx hb hts hiX12 tyX12 tyX12_ok nmX12 hown hH hS (zk_30 hF) rfl 0 (by decide) rfl hw0 (fun _ h9 => h9) rfl (by decide +kernel) rfl rfl dX12_feed_2 (fun H locs hH hS => ?_)
  obtain ⟨f101, ef101⟩ : ∃ f9 : zFi, f9 = zu fi 30 0 (nI 0) := ⟨_, rfl⟩
  rw [← ef101] at hH
  have q102 : f101 30 21 = nI n := by rw [ef101, zu_n (fun h9 => absurd h9.2 (by decide))]; exact hn
  have q103 : f101 30 0 = nI 0 := by rw [ef101]; exact zu_s
  refine lv_aload_n hx hb dX12_feed_5 rfl (lv_at hl 0 rfl) ?_
  refine zGetI (D := D) (ci := 12) (C := RX12) (T := TX12) (N := 71) hx hb hts hiX12 hown hH (zk_30 hF) rfl 21 (by decide) rfl hw2 (fun _ h9 => h9) dX12_feed_6 q102 ?_
  refine lv_bipush (v := nI 20) hx hb dX12_feed_9 (by decide) ?_
  refine lv_iadd hx hb dX12_feed_11 ?_
  refine lv_topi (fun v104 ev104 => ?_)
  obtain rfl : v104 = nI (n + 20) := ev104.trans (nI_add _ _)
  refine lv_sipush (v := nI 400) hx hb dX12_feed_12 (by decide) ?_
  refine lv_icmp_le (tgt := 20) hx hb dX12_feed_15 (by decide) (fun c105 => ?_) (fun c105 => ?_)
  · have zc105 := c105
    replace zc105 := zc_le (nI_toInt (by omega)) (nI_toInt (by omega)) zc105
    refine lv_bipush (v := nI 24) hx hb dX12_feed_20 (by decide) ?_
    refine lv_istore (lv' := [(6, .int (nI 24)), (0, .ref (τ.1 30)), (1, .int x0), (2, .int x1), (3, .int x2), (4, .int x3), (5, .int x4)]) hx hb dX12_feed_22 hl (by decide) rfl (fun ls hl => ?_)
    refine lv_iload hx hb dX12_feed_24 (lv_at hl 0 rfl) ?_
    refine lv_if_lt (tgt := 43) hx hb dX12_feed_26 (by decide) (fun c106 => absurd c106 (by decide)) (fun c106 => ?_)
    refine lv_aload_n hx hb dX12_feed_29 rfl (lv_at hl 1 rfl) ?_
    refine lv_iload_n hx hb dX12_feed_30 rfl (lv_at hl 2 rfl) ?_
    refine lv_iload hx hb dX12_feed_31 (lv_at hl 0 rfl) ?_
    refine lv_ishr hx hb dX12_feed_33 ?_
    refine lv_topi (fun v107 ev107 => ?_)
    refine va_callv (va_runV (As := [.int v107]) (rest := []) ⟨hx, hb, hml, hown, hts⟩ (m_byteX l hl0 D A sad τ f101 fr ol n hF q102 (by omega) v107) (cwV 1 hts gX12_feed_X12_byteCame rfl rfl rfl (by decide +kernel) ⟨Nat.le_of_ble_eq_true rfl, Nat.le_of_ble_eq_true rfl⟩) ⟨zQc_bl, zRecv hH (zk_30 hF) rfl, zQc_at hz hS hA hH⟩ rfl rfl hl.1 rfl (lv_room (Nat.le_of_ble_eq_true rfl)) dX12_feed_34 ⟨Nat.le_of_ble_eq_true rfl, Nat.le_of_ble_eq_true rfl⟩) hS (fun q _ h => h) (fun q h => h) (fun u9 t9 H1 locs ht9 hvm9 hw hB hz1 hk1 hS => ?_)
    have hH := zMv ht9 hvm9 hB
    clear hB
    generalize u9 = f109 at hw hH
    generalize H1 = H at hH hS ⊢
    obtain ⟨f110, ef110⟩ : ∃ f9 : zFi, f9 = zu f101 47 n (v107 &&& 255) := ⟨_, rfl⟩
    have ef109 : f109 = zu f110 30 21 (nI (n + 1)) := by rw [hw, ef110]
    have q111 : f110 30 21 = nI n := by rw [ef110, zu_n (fun h9 => absurd h9.1 (by decide))]; exact q102
    have q112 : f110 30 0 = nI 0 := by rw [ef110, zu_n (fun h9 => absurd h9.1 (by decide))]; exact q103
    have q113 : f110 47 n = (v107 &&& 255) := by rw [ef110]; exact zu_s
    have q114 : f109 30 0 = nI 0 := by rw [ef109, zu_n (fun h9 => absurd h9.2 (by decide))]; exact q112
    have q115 : f109 47 n = (v107 &&& 255) := by rw [ef109, zu_n (fun h9 => absurd h9.1 (by decide))]; exact q113
    have q116 : f109 30 21 = nI (n + 1) := by rw [ef109]; exact zu_s
    refine lv_iinc (v := nI 16) (lv' := [(6, .int (nI 16)), (0, .ref (τ.1 30)), (1, .int x0), (2, .int x1), (3, .int x2), (4, .int x3), (5, .int x4)]) hx hb dX12_feed_37 hl (k := 0) rfl (by decide) (by decide) rfl (fun ls hl => ?_)
    refine lv_goto (tgt := 24) hx hb dX12_feed_40 (by decide) ?_
    refine lv_iload hx hb dX12_feed_24 (lv_at hl 0 rfl) ?_
    refine lv_if_lt (tgt := 43) hx hb dX12_feed_26 (by decide) (fun c117 => absurd c117 (by decide)) (fun c117 => ?_)
    refine lv_aload_n hx hb dX12_feed_29 rfl (lv_at hl 1 rfl) ?_
    refine lv_iload_n hx hb dX12_feed_30 rfl (lv_at hl 2 rfl) ?_
    refine lv_iload hx hb dX12_feed_31 (lv_at hl 0 rfl) ?_
    refine lv_ishr hx hb dX12_feed_33 ?_
    refine lv_topi (fun v118 ev118 => ?_)
    refine va_callv (va_runV (As := [.int v118]) (rest := []) ⟨hx, hb, hml, hown, hts⟩ (m_byteX l hl0 D A sad τ f109 fr ol (n + 1) hF q116 (by omega) v118) (cwV 1 hts gX12_feed_X12_byteCame rfl rfl rfl (by decide +kernel) ⟨Nat.le_of_ble_eq_true rfl, Nat.le_of_ble_eq_true rfl⟩) ⟨zQc_bl, zRecv hH (zk_30 hF) rfl, zQc_at hz hS hA hH⟩ rfl rfl hl.1 rfl (lv_room (Nat.le_of_ble_eq_true rfl)) dX12_feed_34 ⟨Nat.le_of_ble_eq_true rfl, Nat.le_of_ble_eq_true rfl⟩) hS (fun q _ h => h) (fun q h => h) (fun u9 t9 H1 locs ht9 hvm9 hw hB hz1 hk1 hS => ?_)
    have hH := zMv ht9 hvm9 hB
    clear hB
    generalize u9 = f120 at hw hH
    generalize H1 = H at hH hS ⊢
    obtain ⟨f121, ef121⟩ : ∃ f9 : zFi, f9 = zu f109 47 (n + 1) (v118 &&& 255) := ⟨_, rfl⟩
    have ef120 : f120 = zu f121 30 21 (nI (n + 1 + 1)) := by rw [hw, ef121]
    have q122 : f121 30 0 = nI 0 := by rw [ef121, zu_n (fun h9 => absurd h9.1 (by decide))]; exact q114
    have q123 : f121 30 21 = nI (n + 1) := by rw [ef121, zu_n (fun h9 => absurd h9.1 (by decide))]; exact q116
    have q124 : f121 47 (n + 1) = (v118 &&& 255) := by rw [ef121]; exact zu_s
    have q125 : f120 30 0 = nI 0 := by rw [ef120, zu_n (fun h9 => absurd h9.2 (by decide))]; exact q122
    have q126 : f120 47 (n + 1) = (v118 &&& 255) := by rw [ef120, zu_n (fun h9 => absurd h9.1 (by decide))]; exact q124
    have q127 : f120 30 21 = nI (n + 1 + 1) := by rw [ef120]; exact zu_s
    refine lv_iinc (v := nI 8) (lv' := [(6, .int (nI 8)), (0, .ref (τ.1 30)), (1, .int x0), (2, .int x1), (3, .int x2), (4, .int x3), (5, .int x4)]) hx hb dX12_feed_37 hl (k := 0) rfl (by decide) (by decide) rfl (fun ls hl => ?_)
    refine lv_goto (tgt := 24) hx hb dX12_feed_40 (by decide) ?_
    refine lv_iload hx hb dX12_feed_24 (lv_at hl 0 rfl) ?_
    refine lv_if_lt (tgt := 43) hx hb dX12_feed_26 (by decide) (fun c128 => absurd c128 (by decide)) (fun c128 => ?_)
    refine lv_aload_n hx hb dX12_feed_29 rfl (lv_at hl 1 rfl) ?_
    refine lv_iload_n hx hb dX12_feed_30 rfl (lv_at hl 2 rfl) ?_
    refine lv_iload hx hb dX12_feed_31 (lv_at hl 0 rfl) ?_
    refine lv_ishr hx hb dX12_feed_33 ?_
    refine lv_topi (fun v129 ev129 => ?_)
    refine va_callv (va_runV (As := [.int v129]) (rest := []) ⟨hx, hb, hml, hown, hts⟩ (m_byteX l hl0 D A sad τ f120 fr ol (n + 1 + 1) hF q127 (by omega) v129) (cwV 1 hts gX12_feed_X12_byteCame rfl rfl rfl (by decide +kernel) ⟨Nat.le_of_ble_eq_true rfl, Nat.le_of_ble_eq_true rfl⟩) ⟨zQc_bl, zRecv hH (zk_30 hF) rfl, zQc_at hz hS hA hH⟩ rfl rfl hl.1 rfl (lv_room (Nat.le_of_ble_eq_true rfl)) dX12_feed_34 ⟨Nat.le_of_ble_eq_true rfl, Nat.le_of_ble_eq_true rfl⟩) hS (fun q _ h => h) (fun q h => h) (fun u9 t9 H1 locs ht9 hvm9 hw hB hz1 hk1 hS => ?_)
    have hH := zMv ht9 hvm9 hB
    clear hB
    generalize u9 = f131 at hw hH
    generalize H1 = H at hH hS ⊢
    obtain ⟨f132, ef132⟩ : ∃ f9 : zFi, f9 = zu f120 47 (n + 1 + 1) (v129 &&& 255) := ⟨_, rfl⟩
    have ef131 : f131 = zu f132 30 21 (nI (n + 1 + 1 + 1)) := by rw [hw, ef132]
    have q133 : f132 30 0 = nI 0 := by rw [ef132, zu_n (fun h9 => absurd h9.1 (by decide))]; exact q125
    have q134 : f132 30 21 = nI (n + 1 + 1) := by rw [ef132, zu_n (fun h9 => absurd h9.1 (by decide))]; exact q127
    have q135 : f132 47 (n + 1 + 1) = (v129 &&& 255) := by rw [ef132]; exact zu_s
    have q136 : f131 30 0 = nI 0 := by rw [ef131, zu_n (fun h9 => absurd h9.2 (by decide))]; exact q133
    have q137 : f131 47 (n + 1 + 1) = (v129 &&& 255) := by rw [ef131, zu_n (fun h9 => absurd h9.1 (by decide))]; exact q135
    have q138 : f131 30 21 = nI (n + 1 + 1 + 1) := by rw [ef131]; exact zu_s
    refine lv_iinc (v := nI 0) (lv' := [(6, .int (nI 0)), (0, .ref (τ.1 30)), (1, .int x0), (2, .int x1), (3, .int x2), (4, .int x3), (5, .int x4)]) hx hb dX12_feed_37 hl (k := 0) rfl (by decide) (by decide) rfl (fun ls hl => ?_)
    refine lv_goto (tgt := 24) hx hb dX12_feed_40 (by decide) ?_
    refine lv_iload hx hb dX12_feed_24 (lv_at hl 0 rfl) ?_
    refine lv_if_lt (tgt := 43) hx hb dX12_feed_26 (by decide) (fun c139 => absurd c139 (by decide)) (fun c139 => ?_)
    refine lv_aload_n hx hb dX12_feed_29 rfl (lv_at hl 1 rfl) ?_
    refine lv_iload_n hx hb dX12_feed_30 rfl (lv_at hl 2 rfl) ?_
    refine lv_iload hx hb dX12_feed_31 (lv_at hl 0 rfl) ?_
    refine lv_ishr hx hb dX12_feed_33 ?_
    refine lv_topi (fun v140 ev140 => ?_)
    refine va_callv (va_runV (As := [.int v140]) (rest := []) ⟨hx, hb, hml, hown, hts⟩ (m_byteX l hl0 D A sad τ f131 fr ol (n + 1 + 1 + 1) hF q138 (by omega) v140) (cwV 1 hts gX12_feed_X12_byteCame rfl rfl rfl (by decide +kernel) ⟨Nat.le_of_ble_eq_true rfl, Nat.le_of_ble_eq_true rfl⟩) ⟨zQc_bl, zRecv hH (zk_30 hF) rfl, zQc_at hz hS hA hH⟩ rfl rfl hl.1 rfl (lv_room (Nat.le_of_ble_eq_true rfl)) dX12_feed_34 ⟨Nat.le_of_ble_eq_true rfl, Nat.le_of_ble_eq_true rfl⟩) hS (fun q _ h => h) (fun q h => h) (fun u9 t9 H1 locs ht9 hvm9 hw hB hz1 hk1 hS => ?_)
    have hH := zMv ht9 hvm9 hB
    clear hB
    generalize u9 = f142 at hw hH
    generalize H1 = H at hH hS ⊢
    obtain ⟨f143, ef143⟩ : ∃ f9 : zFi, f9 = zu f131 47 (n + 1 + 1 + 1) (v140 &&& 255) := ⟨_, rfl⟩
    have ef142 : f142 = zu f143 30 21 (nI (n + 1 + 1 + 1 + 1)) := by rw [hw, ef143]
    have q144 : f143 30 0 = nI 0 := by rw [ef143, zu_n (fun h9 => absurd h9.1 (by decide))]; exact q136
    have q145 : f143 30 21 = nI (n + 1 + 1 + 1) := by rw [ef143, zu_n (fun h9 => absurd h9.1 (by decide))]; exact q138
    have q146 : f143 47 (n + 1 + 1 + 1) = (v140 &&& 255) := by rw [ef143]; exact zu_s
    have q147 : f142 30 0 = nI 0 := by rw [ef142, zu_n (fun h9 => absurd h9.2 (by decide))]; exact q144
    have q148 : f142 47 (n + 1 + 1 + 1) = (v140 &&& 255) := by rw [ef142, zu_n (fun h9 => absurd h9.1 (by decide))]; exact q146
    have q149 : f142 30 21 = nI (n + 1 + 1 + 1 + 1) := by rw [ef142]; exact zu_s
    refine lv_iinc (v := (-8)) (lv' := [(6, .int ((-8))), (0, .ref (τ.1 30)), (1, .int x0), (2, .int x1), (3, .int x2), (4, .int x3), (5, .int x4)]) hx hb dX12_feed_37 hl (k := 0) rfl (by decide) (by decide) rfl (fun ls hl => ?_)
    refine lv_goto (tgt := 24) hx hb dX12_feed_40 (by decide) ?_
    refine lv_iload hx hb dX12_feed_24 (lv_at hl 0 rfl) ?_
    refine lv_if_lt (tgt := 43) hx hb dX12_feed_26 (by decide) (fun c150 => ?_) (fun c150 => absurd (by decide) c150)
    refine lv_bipush (v := nI 24) hx hb dX12_feed_43 (by decide) ?_
    refine lv_istore (lv' := [(6, .int (nI 24)), (0, .ref (τ.1 30)), (1, .int x0), (2, .int x1), (3, .int x2), (4, .int x3), (5, .int x4)]) hx hb dX12_feed_45 hl (by decide) rfl (fun ls hl => ?_)
    refine lv_iload hx hb dX12_feed_47 (lv_at hl 0 rfl) ?_
    refine lv_if_lt (tgt := 66) hx hb dX12_feed_49 (by decide) (fun c151 => absurd c151 (by decide)) (fun c151 => ?_)
    refine lv_aload_n hx hb dX12_feed_52 rfl (lv_at hl 1 rfl) ?_
    refine lv_iload_n hx hb dX12_feed_53 rfl (lv_at hl 3 rfl) ?_
    refine lv_iload hx hb dX12_feed_54 (lv_at hl 0 rfl) ?_
    refine lv_ishr hx hb dX12_feed_56 ?_
    refine lv_topi (fun v152 ev152 => ?_)
    refine va_callv (va_runV (As := [.int v152]) (rest := []) ⟨hx, hb, hml, hown, hts⟩ (m_byteX l hl0 D A sad τ f142 fr ol (n + 1 + 1 + 1 + 1) hF q149 (by omega) v152) (cwV 1 hts gX12_feed_X12_byteCame rfl rfl rfl (by decide +kernel) ⟨Nat.le_of_ble_eq_true rfl, Nat.le_of_ble_eq_true rfl⟩) ⟨zQc_bl, zRecv hH (zk_30 hF) rfl, zQc_at hz hS hA hH⟩ rfl rfl hl.1 rfl (lv_room (Nat.le_of_ble_eq_true rfl)) dX12_feed_57 ⟨Nat.le_of_ble_eq_true rfl, Nat.le_of_ble_eq_true rfl⟩) hS (fun q _ h => h) (fun q h => h) (fun u9 t9 H1 locs ht9 hvm9 hw hB hz1 hk1 hS => ?_)
    have hH := zMv ht9 hvm9 hB
    clear hB
    generalize u9 = f154 at hw hH
    generalize H1 = H at hH hS ⊢
    obtain ⟨f155, ef155⟩ : ∃ f9 : zFi, f9 = zu f142 47 (n + 1 + 1 + 1 + 1) (v152 &&& 255) := ⟨_, rfl⟩
    have ef154 : f154 = zu f155 30 21 (nI (n + 1 + 1 + 1 + 1 + 1)) := by rw [hw, ef155]
    have q156 : f155 30 0 = nI 0 := by rw [ef155, zu_n (fun h9 => absurd h9.1 (by decide))]; exact q147
    have q157 : f155 30 21 = nI (n + 1 + 1 + 1 + 1) := by rw [ef155, zu_n (fun h9 => absurd h9.1 (by decide))]; exact q149
    have q158 : f155 47 (n + 1 + 1 + 1 + 1) = (v152 &&& 255) := by rw [ef155]; exact zu_s
    have q159 : f154 30 0 = nI 0 := by rw [ef154, zu_n (fun h9 => absurd h9.2 (by decide))]; exact q156
    have q160 : f154 47 (n + 1 + 1 + 1 + 1) = (v152 &&& 255) := by rw [ef154, zu_n (fun h9 => absurd h9.1 (by decide))]; exact q158
    have q161 : f154 30 21 = nI (n + 1 + 1 + 1 + 1 + 1) := by rw [ef154]; exact zu_s
    refine lv_iinc (v := nI 16) (lv' := [(6, .int (nI 16)), (0, .ref (τ.1 30)), (1, .int x0), (2, .int x1), (3, .int x2), (4, .int x3), (5, .int x4)]) hx hb dX12_feed_60 hl (k := 0) rfl (by decide) (by decide) rfl (fun ls hl => ?_)
    refine lv_goto (tgt := 47) hx hb dX12_feed_63 (by decide) ?_
    refine lv_iload hx hb dX12_feed_47 (lv_at hl 0 rfl) ?_
    refine lv_if_lt (tgt := 66) hx hb dX12_feed_49 (by decide) (fun c162 => absurd c162 (by decide)) (fun c162 => ?_)
    refine lv_aload_n hx hb dX12_feed_52 rfl (lv_at hl 1 rfl) ?_
    refine lv_iload_n hx hb dX12_feed_53 rfl (lv_at hl 3 rfl) ?_
    refine lv_iload hx hb dX12_feed_54 (lv_at hl 0 rfl) ?_
    refine lv_ishr hx hb dX12_feed_56 ?_
    refine lv_topi (fun v163 ev163 => ?_)
    refine va_callv (va_runV (As := [.int v163]) (rest := []) ⟨hx, hb, hml, hown, hts⟩ (m_byteX l hl0 D A sad τ f154 fr ol (n + 1 + 1 + 1 + 1 + 1) hF q161 (by omega) v163) (cwV 1 hts gX12_feed_X12_byteCame rfl rfl rfl (by decide +kernel) ⟨Nat.le_of_ble_eq_true rfl, Nat.le_of_ble_eq_true rfl⟩) ⟨zQc_bl, zRecv hH (zk_30 hF) rfl, zQc_at hz hS hA hH⟩ rfl rfl hl.1 rfl (lv_room (Nat.le_of_ble_eq_true rfl)) dX12_feed_57 ⟨Nat.le_of_ble_eq_true rfl, Nat.le_of_ble_eq_true rfl⟩) hS (fun q _ h => h) (fun q h => h) (fun u9 t9 H1 locs ht9 hvm9 hw hB hz1 hk1 hS => ?_)
    have hH := zMv ht9 hvm9 hB
    clear hB
    generalize u9 = f165 at hw hH
    generalize H1 = H at hH hS ⊢
    obtain ⟨f166, ef166⟩ : ∃ f9 : zFi, f9 = zu f154 47 (n + 1 + 1 + 1 + 1 + 1) (v163 &&& 255) := ⟨_, rfl⟩
    have ef165 : f165 = zu f166 30 21 (nI (n + 1 + 1 + 1 + 1 + 1 + 1)) := by rw [hw, ef166]
    have q167 : f166 30 0 = nI 0 := by rw [ef166, zu_n (fun h9 => absurd h9.1 (by decide))]; exact q159
    have q168 : f166 30 21 = nI (n + 1 + 1 + 1 + 1 + 1) := by rw [ef166, zu_n (fun h9 => absurd h9.1 (by decide))]; exact q161
    have q169 : f166 47 (n + 1 + 1 + 1 + 1 + 1) = (v163 &&& 255) := by rw [ef166]; exact zu_s
    have q170 : f165 30 0 = nI 0 := by rw [ef165, zu_n (fun h9 => absurd h9.2 (by decide))]; exact q167
    have q171 : f165 47 (n + 1 + 1 + 1 + 1 + 1) = (v163 &&& 255) := by rw [ef165, zu_n (fun h9 => absurd h9.1 (by decide))]; exact q169
    have q172 : f165 30 21 = nI (n + 1 + 1 + 1 + 1 + 1 + 1) := by rw [ef165]; exact zu_s
    refine lv_iinc (v := nI 8) (lv' := [(6, .int (nI 8)), (0, .ref (τ.1 30)), (1, .int x0), (2, .int x1), (3, .int x2), (4, .int x3), (5, .int x4)]) hx hb dX12_feed_60 hl (k := 0) rfl (by decide) (by decide) rfl (fun ls hl => ?_)
    refine lv_goto (tgt := 47) hx hb dX12_feed_63 (by decide) ?_
    refine lv_iload hx hb dX12_feed_47 (lv_at hl 0 rfl) ?_
    refine lv_if_lt (tgt := 66) hx hb dX12_feed_49 (by decide) (fun c173 => absurd c173 (by decide)) (fun c173 => ?_)
    refine lv_aload_n hx hb dX12_feed_52 rfl (lv_at hl 1 rfl) ?_
    refine lv_iload_n hx hb dX12_feed_53 rfl (lv_at hl 3 rfl) ?_
    refine lv_iload hx hb dX12_feed_54 (lv_at hl 0 rfl) ?_
    refine lv_ishr hx hb dX12_feed_56 ?_
    refine lv_topi (fun v174 ev174 => ?_)
    refine va_callv (va_runV (As := [.int v174]) (rest := []) ⟨hx, hb, hml, hown, hts⟩ (m_byteX l hl0 D A sad τ f165 fr ol (n + 1 + 1 + 1 + 1 + 1 + 1) hF q172 (by omega) v174) (cwV 1 hts gX12_feed_X12_byteCame rfl rfl rfl (by decide +kernel) ⟨Nat.le_of_ble_eq_true rfl, Nat.le_of_ble_eq_true rfl⟩) ⟨zQc_bl, zRecv hH (zk_30 hF) rfl, zQc_at hz hS hA hH⟩ rfl rfl hl.1 rfl (lv_room (Nat.le_of_ble_eq_true rfl)) dX12_feed_57 ⟨Nat.le_of_ble_eq_true rfl, Nat.le_of_ble_eq_true rfl⟩) hS (fun q _ h => h) (fun q h => h) (fun u9 t9 H1 locs ht9 hvm9 hw hB hz1 hk1 hS => ?_)
    have hH := zMv ht9 hvm9 hB
    clear hB
    generalize u9 = f176 at hw hH
    generalize H1 = H at hH hS ⊢
    obtain ⟨f177, ef177⟩ : ∃ f9 : zFi, f9 = zu f165 47 (n + 1 + 1 + 1 + 1 + 1 + 1) (v174 &&& 255) := ⟨_, rfl⟩
    have ef176 : f176 = zu f177 30 21 (nI (n + 1 + 1 + 1 + 1 + 1 + 1 + 1)) := by rw [hw, ef177]
    have q178 : f177 30 0 = nI 0 := by rw [ef177, zu_n (fun h9 => absurd h9.1 (by decide))]; exact q170
    have q179 : f177 30 21 = nI (n + 1 + 1 + 1 + 1 + 1 + 1) := by rw [ef177, zu_n (fun h9 => absurd h9.1 (by decide))]; exact q172
    have q180 : f177 47 (n + 1 + 1 + 1 + 1 + 1 + 1) = (v174 &&& 255) := by rw [ef177]; exact zu_s
    have q181 : f176 30 0 = nI 0 := by rw [ef176, zu_n (fun h9 => absurd h9.2 (by decide))]; exact q178
    have q182 : f176 47 (n + 1 + 1 + 1 + 1 + 1 + 1) = (v174 &&& 255) := by rw [ef176, zu_n (fun h9 => absurd h9.1 (by decide))]; exact q180
    have q183 : f176 30 21 = nI (n + 1 + 1 + 1 + 1 + 1 + 1 + 1) := by rw [ef176]; exact zu_s
    refine lv_iinc (v := nI 0) (lv' := [(6, .int (nI 0)), (0, .ref (τ.1 30)), (1, .int x0), (2, .int x1), (3, .int x2), (4, .int x3), (5, .int x4)]) hx hb dX12_feed_60 hl (k := 0) rfl (by decide) (by decide) rfl (fun ls hl => ?_)
    refine lv_goto (tgt := 47) hx hb dX12_feed_63 (by decide) ?_
    refine lv_iload hx hb dX12_feed_47 (lv_at hl 0 rfl) ?_
    refine lv_if_lt (tgt := 66) hx hb dX12_feed_49 (by decide) (fun c184 => absurd c184 (by decide)) (fun c184 => ?_)
    refine lv_aload_n hx hb dX12_feed_52 rfl (lv_at hl 1 rfl) ?_
    refine lv_iload_n hx hb dX12_feed_53 rfl (lv_at hl 3 rfl) ?_
    refine lv_iload hx hb dX12_feed_54 (lv_at hl 0 rfl) ?_
    refine lv_ishr hx hb dX12_feed_56 ?_
    refine lv_topi (fun v185 ev185 => ?_)
    refine va_callv (va_runV (As := [.int v185]) (rest := []) ⟨hx, hb, hml, hown, hts⟩ (m_byteX l hl0 D A sad τ f176 fr ol (n + 1 + 1 + 1 + 1 + 1 + 1 + 1) hF q183 (by omega) v185) (cwV 1 hts gX12_feed_X12_byteCame rfl rfl rfl (by decide +kernel) ⟨Nat.le_of_ble_eq_true rfl, Nat.le_of_ble_eq_true rfl⟩) ⟨zQc_bl, zRecv hH (zk_30 hF) rfl, zQc_at hz hS hA hH⟩ rfl rfl hl.1 rfl (lv_room (Nat.le_of_ble_eq_true rfl)) dX12_feed_57 ⟨Nat.le_of_ble_eq_true rfl, Nat.le_of_ble_eq_true rfl⟩) hS (fun q _ h => h) (fun q h => h) (fun u9 t9 H1 locs ht9 hvm9 hw hB hz1 hk1 hS => ?_)
    have hH := zMv ht9 hvm9 hB
    clear hB
    generalize u9 = f187 at hw hH
    generalize H1 = H at hH hS ⊢
    obtain ⟨f188, ef188⟩ : ∃ f9 : zFi, f9 = zu f176 47 (n + 1 + 1 + 1 + 1 + 1 + 1 + 1) (v185 &&& 255) := ⟨_, rfl⟩
    have ef187 : f187 = zu f188 30 21 (nI (n + 1 + 1 + 1 + 1 + 1 + 1 + 1 + 1)) := by rw [hw, ef188]
    have q189 : f188 30 0 = nI 0 := by rw [ef188, zu_n (fun h9 => absurd h9.1 (by decide))]; exact q181
    have q190 : f188 30 21 = nI (n + 1 + 1 + 1 + 1 + 1 + 1 + 1) := by rw [ef188, zu_n (fun h9 => absurd h9.1 (by decide))]; exact q183
    have q191 : f188 47 (n + 1 + 1 + 1 + 1 + 1 + 1 + 1) = (v185 &&& 255) := by rw [ef188]; exact zu_s
    have q192 : f187 30 0 = nI 0 := by rw [ef187, zu_n (fun h9 => absurd h9.2 (by decide))]; exact q189
    have q193 : f187 47 (n + 1 + 1 + 1 + 1 + 1 + 1 + 1) = (v185 &&& 255) := by rw [ef187, zu_n (fun h9 => absurd h9.1 (by decide))]; exact q191
    have q194 : f187 30 21 = nI (n + 1 + 1 + 1 + 1 + 1 + 1 + 1 + 1) := by rw [ef187]; exact zu_s
    refine lv_iinc (v := (-8)) (lv' := [(6, .int ((-8))), (0, .ref (τ.1 30)), (1, .int x0), (2, .int x1), (3, .int x2), (4, .int x3), (5, .int x4)]) hx hb dX12_feed_60 hl (k := 0) rfl (by decide) (by decide) rfl (fun ls hl => ?_)
    refine lv_goto (tgt := 47) hx hb dX12_feed_63 (by decide) ?_
    refine lv_iload hx hb dX12_feed_47 (lv_at hl 0 rfl) ?_
    refine lv_if_lt (tgt := 66) hx hb dX12_feed_49 (by decide) (fun c195 => ?_) (fun c195 => absurd (by decide) c195)
    refine lv_bipush (v := nI 24) hx hb dX12_feed_66 (by decide) ?_
    refine lv_istore (lv' := [(6, .int (nI 24)), (0, .ref (τ.1 30)), (1, .int x0), (2, .int x1), (3, .int x2), (4, .int x3), (5, .int x4)]) hx hb dX12_feed_68 hl (by decide) rfl (fun ls hl => ?_)
    refine lv_iload hx hb dX12_feed_70 (lv_at hl 0 rfl) ?_
    refine lv_if_lt (tgt := 89) hx hb dX12_feed_72 (by decide) (fun c196 => absurd c196 (by decide)) (fun c196 => ?_)
    refine lv_aload_n hx hb dX12_feed_75 rfl (lv_at hl 1 rfl) ?_
    refine lv_iload_n hx hb dX12_feed_76 rfl (lv_at hl 4 rfl) ?_
    refine lv_iload hx hb dX12_feed_77 (lv_at hl 0 rfl) ?_
    refine lv_ishr hx hb dX12_feed_79 ?_
    refine lv_topi (fun v197 ev197 => ?_)
    refine va_callv (va_runV (As := [.int v197]) (rest := []) ⟨hx, hb, hml, hown, hts⟩ (m_byteX l hl0 D A sad τ f187 fr ol (n + 1 + 1 + 1 + 1 + 1 + 1 + 1 + 1) hF q194 (by omega) v197) (cwV 1 hts gX12_feed_X12_byteCame rfl rfl rfl (by decide +kernel) ⟨Nat.le_of_ble_eq_true rfl, Nat.le_of_ble_eq_true rfl⟩) ⟨zQc_bl, zRecv hH (zk_30 hF) rfl, zQc_at hz hS hA hH⟩ rfl rfl hl.1 rfl (lv_room (Nat.le_of_ble_eq_true rfl)) dX12_feed_80 ⟨Nat.le_of_ble_eq_true rfl, Nat.le_of_ble_eq_true rfl⟩) hS (fun q _ h => h) (fun q h => h) (fun u9 t9 H1 locs ht9 hvm9 hw hB hz1 hk1 hS => ?_)
    have hH := zMv ht9 hvm9 hB
    clear hB
    generalize u9 = f199 at hw hH
    generalize H1 = H at hH hS ⊢
    obtain ⟨f200, ef200⟩ : ∃ f9 : zFi, f9 = zu f187 47 (n + 1 + 1 + 1 + 1 + 1 + 1 + 1 + 1) (v197 &&& 255) := ⟨_, rfl⟩
    have ef199 : f199 = zu f200 30 21 (nI (n + 1 + 1 + 1 + 1 + 1 + 1 + 1 + 1 + 1)) := by rw [hw, ef200]
    have q201 : f200 30 0 = nI 0 := by rw [ef200, zu_n (fun h9 => absurd h9.1 (by decide))]; exact q192
    have q202 : f200 30 21 = nI (n + 1 + 1 + 1 + 1 + 1 + 1 + 1 + 1) := by rw [ef200, zu_n (fun h9 => absurd h9.1 (by decide))]; exact q194
    have q203 : f200 47 (n + 1 + 1 + 1 + 1 + 1 + 1 + 1 + 1) = (v197 &&& 255) := by rw [ef200]; exact zu_s
    have q204 : f199 30 0 = nI 0 := by rw [ef199, zu_n (fun h9 => absurd h9.2 (by decide))]; exact q201
    have q205 : f199 47 (n + 1 + 1 + 1 + 1 + 1 + 1 + 1 + 1) = (v197 &&& 255) := by rw [ef199, zu_n (fun h9 => absurd h9.1 (by decide))]; exact q203
    have q206 : f199 30 21 = nI (n + 1 + 1 + 1 + 1 + 1 + 1 + 1 + 1 + 1) := by rw [ef199]; exact zu_s
    refine lv_iinc (v := nI 16) (lv' := [(6, .int (nI 16)), (0, .ref (τ.1 30)), (1, .int x0), (2, .int x1), (3, .int x2), (4, .int x3), (5, .int x4)]) hx hb dX12_feed_83 hl (k := 0) rfl (by decide) (by decide) rfl (fun ls hl => ?_)
    refine lv_goto (tgt := 70) hx hb dX12_feed_86 (by decide) ?_
    refine lv_iload hx hb dX12_feed_70 (lv_at hl 0 rfl) ?_
    refine lv_if_lt (tgt := 89) hx hb dX12_feed_72 (by decide) (fun c207 => absurd c207 (by decide)) (fun c207 => ?_)
    refine lv_aload_n hx hb dX12_feed_75 rfl (lv_at hl 1 rfl) ?_
    refine lv_iload_n hx hb dX12_feed_76 rfl (lv_at hl 4 rfl) ?_
    refine lv_iload hx hb dX12_feed_77 (lv_at hl 0 rfl) ?_
    refine lv_ishr hx hb dX12_feed_79 ?_
    refine lv_topi (fun v208 ev208 => ?_)
    refine va_callv (va_runV (As := [.int v208]) (rest := []) ⟨hx, hb, hml, hown, hts⟩ (m_byteX l hl0 D A sad τ f199 fr ol (n + 1 + 1 + 1 + 1 + 1 + 1 + 1 + 1 + 1) hF q206 (by omega) v208) (cwV 1 hts gX12_feed_X12_byteCame rfl rfl rfl (by decide +kernel) ⟨Nat.le_of_ble_eq_true rfl, Nat.le_of_ble_eq_true rfl⟩) ⟨zQc_bl, zRecv hH (zk_30 hF) rfl, zQc_at hz hS hA hH⟩ rfl rfl hl.1 rfl (lv_room (Nat.le_of_ble_eq_true rfl)) dX12_feed_80 ⟨Nat.le_of_ble_eq_true rfl, Nat.le_of_ble_eq_true rfl⟩) hS (fun q _ h => h) (fun q h => h) (fun u9 t9 H1 locs ht9 hvm9 hw hB hz1 hk1 hS => ?_)
    have hH := zMv ht9 hvm9 hB
    clear hB
    generalize u9 = f210 at hw hH
    generalize H1 = H at hH hS ⊢
    obtain ⟨f211, ef211⟩ : ∃ f9 : zFi, f9 = zu f199 47 (n + 1 + 1 + 1 + 1 + 1 + 1 + 1 + 1 + 1) (v208 &&& 255) := ⟨_, rfl⟩
    have ef210 : f210 = zu f211 30 21 (nI (n + 1 + 1 + 1 + 1 + 1 + 1 + 1 + 1 + 1 + 1)) := by rw [hw, ef211]
    have q212 : f211 30 0 = nI 0 := by rw [ef211, zu_n (fun h9 => absurd h9.1 (by decide))]; exact q204
    have q213 : f211 30 21 = nI (n + 1 + 1 + 1 + 1 + 1 + 1 + 1 + 1 + 1) := by rw [ef211, zu_n (fun h9 => absurd h9.1 (by decide))]; exact q206
    have q214 : f211 47 (n + 1 + 1 + 1 + 1 + 1 + 1 + 1 + 1 + 1) = (v208 &&& 255) := by rw [ef211]; exact zu_s
    have q215 : f210 30 0 = nI 0 := by rw [ef210, zu_n (fun h9 => absurd h9.2 (by decide))]; exact q212
    have q216 : f210 47 (n + 1 + 1 + 1 + 1 + 1 + 1 + 1 + 1 + 1) = (v208 &&& 255) := by rw [ef210, zu_n (fun h9 => absurd h9.1 (by decide))]; exact q214
    have q217 : f210 30 21 = nI (n + 1 + 1 + 1 + 1 + 1 + 1 + 1 + 1 + 1 + 1) := by rw [ef210]; exact zu_s
    refine lv_iinc (v := nI 8) (lv' := [(6, .int (nI 8)), (0, .ref (τ.1 30)), (1, .int x0), (2, .int x1), (3, .int x2), (4, .int x3), (5, .int x4)]) hx hb dX12_feed_83 hl (k := 0) rfl (by decide) (by decide) rfl (fun ls hl => ?_)
    refine lv_goto (tgt := 70) hx hb dX12_feed_86 (by decide) ?_
    refine lv_iload hx hb dX12_feed_70 (lv_at hl 0 rfl) ?_
    refine lv_if_lt (tgt := 89) hx hb dX12_feed_72 (by decide) (fun c218 => absurd c218 (by decide)) (fun c218 => ?_)
    refine lv_aload_n hx hb dX12_feed_75 rfl (lv_at hl 1 rfl) ?_
    refine lv_iload_n hx hb dX12_feed_76 rfl (lv_at hl 4 rfl) ?_
    refine lv_iload hx hb dX12_feed_77 (lv_at hl 0 rfl) ?_
    refine lv_ishr hx hb dX12_feed_79 ?_
    refine lv_topi (fun v219 ev219 => ?_)
    refine va_callv (va_runV (As := [.int v219]) (rest := []) ⟨hx, hb, hml, hown, hts⟩ (m_byteX l hl0 D A sad τ f210 fr ol (n + 1 + 1 + 1 + 1 + 1 + 1 + 1 + 1 + 1 + 1) hF q217 (by omega) v219) (cwV 1 hts gX12_feed_X12_byteCame rfl rfl rfl (by decide +kernel) ⟨Nat.le_of_ble_eq_true rfl, Nat.le_of_ble_eq_true rfl⟩) ⟨zQc_bl, zRecv hH (zk_30 hF) rfl, zQc_at hz hS hA hH⟩ rfl rfl hl.1 rfl (lv_room (Nat.le_of_ble_eq_true rfl)) dX12_feed_80 ⟨Nat.le_of_ble_eq_true rfl, Nat.le_of_ble_eq_true rfl⟩) hS (fun q _ h => h) (fun q h => h) (fun u9 t9 H1 locs ht9 hvm9 hw hB hz1 hk1 hS => ?_)
    have hH := zMv ht9 hvm9 hB
    clear hB
    generalize u9 = f221 at hw hH
    generalize H1 = H at hH hS ⊢
    obtain ⟨f222, ef222⟩ : ∃ f9 : zFi, f9 = zu f210 47 (n + 1 + 1 + 1 + 1 + 1 + 1 + 1 + 1 + 1 + 1) (v219 &&& 255) := ⟨_, rfl⟩
    have ef221 : f221 = zu f222 30 21 (nI (n + 1 + 1 + 1 + 1 + 1 + 1 + 1 + 1 + 1 + 1 + 1)) := by rw [hw, ef222]
    have q223 : f222 30 0 = nI 0 := by rw [ef222, zu_n (fun h9 => absurd h9.1 (by decide))]; exact q215
    have q224 : f222 30 21 = nI (n + 1 + 1 + 1 + 1 + 1 + 1 + 1 + 1 + 1 + 1) := by rw [ef222, zu_n (fun h9 => absurd h9.1 (by decide))]; exact q217
    have q225 : f222 47 (n + 1 + 1 + 1 + 1 + 1 + 1 + 1 + 1 + 1 + 1) = (v219 &&& 255) := by rw [ef222]; exact zu_s
    have q226 : f221 30 0 = nI 0 := by rw [ef221, zu_n (fun h9 => absurd h9.2 (by decide))]; exact q223
    have q227 : f221 47 (n + 1 + 1 + 1 + 1 + 1 + 1 + 1 + 1 + 1 + 1) = (v219 &&& 255) := by rw [ef221, zu_n (fun h9 => absurd h9.1 (by decide))]; exact q225
    have q228 : f221 30 21 = nI (n + 1 + 1 + 1 + 1 + 1 + 1 + 1 + 1 + 1 + 1 + 1) := by rw [ef221]; exact zu_s
    refine lv_iinc (v := nI 0) (lv' := [(6, .int (nI 0)), (0, .ref (τ.1 30)), (1, .int x0), (2, .int x1), (3, .int x2), (4, .int x3), (5, .int x4)]) hx hb dX12_feed_83 hl (k := 0) rfl (by decide) (by decide) rfl (fun ls hl => ?_)
    refine lv_goto (tgt := 70) hx hb dX12_feed_86 (by decide) ?_
    refine lv_iload hx hb dX12_feed_70 (lv_at hl 0 rfl) ?_
    refine lv_if_lt (tgt := 89) hx hb dX12_feed_72 (by decide) (fun c229 => absurd c229 (by decide)) (fun c229 => ?_)
    refine lv_aload_n hx hb dX12_feed_75 rfl (lv_at hl 1 rfl) ?_
    refine lv_iload_n hx hb dX12_feed_76 rfl (lv_at hl 4 rfl) ?_
    refine lv_iload hx hb dX12_feed_77 (lv_at hl 0 rfl) ?_
    refine lv_ishr hx hb dX12_feed_79 ?_
    refine lv_topi (fun v230 ev230 => ?_)
    refine va_callv (va_runV (As := [.int v230]) (rest := []) ⟨hx, hb, hml, hown, hts⟩ (m_byteX l hl0 D A sad τ f221 fr ol (n + 1 + 1 + 1 + 1 + 1 + 1 + 1 + 1 + 1 + 1 + 1) hF q228 (by omega) v230) (cwV 1 hts gX12_feed_X12_byteCame rfl rfl rfl (by decide +kernel) ⟨Nat.le_of_ble_eq_true rfl, Nat.le_of_ble_eq_true rfl⟩) ⟨zQc_bl, zRecv hH (zk_30 hF) rfl, zQc_at hz hS hA hH⟩ rfl rfl hl.1 rfl (lv_room (Nat.le_of_ble_eq_true rfl)) dX12_feed_80 ⟨Nat.le_of_ble_eq_true rfl, Nat.le_of_ble_eq_true rfl⟩) hS (fun q _ h => h) (fun q h => h) (fun u9 t9 H1 locs ht9 hvm9 hw hB hz1 hk1 hS => ?_)
    have hH := zMv ht9 hvm9 hB
    clear hB
    generalize u9 = f232 at hw hH
    generalize H1 = H at hH hS ⊢
    obtain ⟨f233, ef233⟩ : ∃ f9 : zFi, f9 = zu f221 47 (n + 1 + 1 + 1 + 1 + 1 + 1 + 1 + 1 + 1 + 1 + 1) (v230 &&& 255) := ⟨_, rfl⟩
    have ef232 : f232 = zu f233 30 21 (nI (n + 1 + 1 + 1 + 1 + 1 + 1 + 1 + 1 + 1 + 1 + 1 + 1)) := by rw [hw, ef233]
    have q234 : f233 30 0 = nI 0 := by rw [ef233, zu_n (fun h9 => absurd h9.1 (by decide))]; exact q226
    have q235 : f233 30 21 = nI (n + 1 + 1 + 1 + 1 + 1 + 1 + 1 + 1 + 1 + 1 + 1) := by rw [ef233, zu_n (fun h9 => absurd h9.1 (by decide))]; exact q228
    have q236 : f233 47 (n + 1 + 1 + 1 + 1 + 1 + 1 + 1 + 1 + 1 + 1 + 1) = (v230 &&& 255) := by rw [ef233]; exact zu_s
    have q237 : f232 30 0 = nI 0 := by rw [ef232, zu_n (fun h9 => absurd h9.2 (by decide))]; exact q234
    have q238 : f232 47 (n + 1 + 1 + 1 + 1 + 1 + 1 + 1 + 1 + 1 + 1 + 1) = (v230 &&& 255) := by rw [ef232, zu_n (fun h9 => absurd h9.1 (by decide))]; exact q236
    have q239 : f232 30 21 = nI (n + 1 + 1 + 1 + 1 + 1 + 1 + 1 + 1 + 1 + 1 + 1 + 1) := by rw [ef232]; exact zu_s
    refine lv_iinc (v := (-8)) (lv' := [(6, .int ((-8))), (0, .ref (τ.1 30)), (1, .int x0), (2, .int x1), (3, .int x2), (4, .int x3), (5, .int x4)]) hx hb dX12_feed_83 hl (k := 0) rfl (by decide) (by decide) rfl (fun ls hl => ?_)
    refine lv_goto (tgt := 70) hx hb dX12_feed_86 (by decide) ?_
    refine lv_iload hx hb dX12_feed_70 (lv_at hl 0 rfl) ?_
    refine lv_if_lt (tgt := 89) hx hb dX12_feed_72 (by decide) (fun c240 => ?_) (fun c240 => absurd (by decide) c240)
    refine lv_bipush (v := nI 24) hx hb dX12_feed_89 (by decide) ?_
    refine lv_istore (lv' := [(6, .int (nI 24)), (0, .ref (τ.1 30)), (1, .int x0), (2, .int x1), (3, .int x2), (4, .int x3), (5, .int x4)]) hx hb dX12_feed_91 hl (by decide) rfl (fun ls hl => ?_)
    refine lv_iload hx hb dX12_feed_93 (lv_at hl 0 rfl) ?_
    refine lv_if_lt (tgt := 113) hx hb dX12_feed_95 (by decide) (fun c241 => absurd c241 (by decide)) (fun c241 => ?_)
    refine lv_aload_n hx hb dX12_feed_98 rfl (lv_at hl 1 rfl) ?_
    refine lv_iload hx hb dX12_feed_99 (lv_at hl 5 rfl) ?_
    refine lv_iload hx hb dX12_feed_101 (lv_at hl 0 rfl) ?_
    refine lv_ishr hx hb dX12_feed_103 ?_
    refine lv_topi (fun v242 ev242 => ?_)
    refine va_callv (va_runV (As := [.int v242]) (rest := []) ⟨hx, hb, hml, hown, hts⟩ (m_byteX l hl0 D A sad τ f232 fr ol (n + 1 + 1 + 1 + 1 + 1 + 1 + 1 + 1 + 1 + 1 + 1 + 1) hF q239 (by omega) v242) (cwV 1 hts gX12_feed_X12_byteCame rfl rfl rfl (by decide +kernel) ⟨Nat.le_of_ble_eq_true rfl, Nat.le_of_ble_eq_true rfl⟩) ⟨zQc_bl, zRecv hH (zk_30 hF) rfl, zQc_at hz hS hA hH⟩ rfl rfl hl.1 rfl (lv_room (Nat.le_of_ble_eq_true rfl)) dX12_feed_104 ⟨Nat.le_of_ble_eq_true rfl, Nat.le_of_ble_eq_true rfl⟩) hS (fun q _ h => h) (fun q h => h) (fun u9 t9 H1 locs ht9 hvm9 hw hB hz1 hk1 hS => ?_)
    have hH := zMv ht9 hvm9 hB
    clear hB
    generalize u9 = f244 at hw hH
    generalize H1 = H at hH hS ⊢
    obtain ⟨f245, ef245⟩ : ∃ f9 : zFi, f9 = zu f232 47 (n + 1 + 1 + 1 + 1 + 1 + 1 + 1 + 1 + 1 + 1 + 1 + 1) (v242 &&& 255) := ⟨_, rfl⟩
    have ef244 : f244 = zu f245 30 21 (nI (n + 1 + 1 + 1 + 1 + 1 + 1 + 1 + 1 + 1 + 1 + 1 + 1 + 1)) := by rw [hw, ef245]
    have q246 : f245 30 0 = nI 0 := by rw [ef245, zu_n (fun h9 => absurd h9.1 (by decide))]; exact q237
    have q247 : f245 30 21 = nI (n + 1 + 1 + 1 + 1 + 1 + 1 + 1 + 1 + 1 + 1 + 1 + 1) := by rw [ef245, zu_n (fun h9 => absurd h9.1 (by decide))]; exact q239
    have q248 : f245 47 (n + 1 + 1 + 1 + 1 + 1 + 1 + 1 + 1 + 1 + 1 + 1 + 1) = (v242 &&& 255) := by rw [ef245]; exact zu_s
    have q249 : f244 30 0 = nI 0 := by rw [ef244, zu_n (fun h9 => absurd h9.2 (by decide))]; exact q246
    have q250 : f244 47 (n + 1 + 1 + 1 + 1 + 1 + 1 + 1 + 1 + 1 + 1 + 1 + 1) = (v242 &&& 255) := by rw [ef244, zu_n (fun h9 => absurd h9.1 (by decide))]; exact q248
    have q251 : f244 30 21 = nI (n + 1 + 1 + 1 + 1 + 1 + 1 + 1 + 1 + 1 + 1 + 1 + 1 + 1) := by rw [ef244]; exact zu_s
    refine lv_iinc (v := nI 16) (lv' := [(6, .int (nI 16)), (0, .ref (τ.1 30)), (1, .int x0), (2, .int x1), (3, .int x2), (4, .int x3), (5, .int x4)]) hx hb dX12_feed_107 hl (k := 0) rfl (by decide) (by decide) rfl (fun ls hl => ?_)
    refine lv_goto (tgt := 93) hx hb dX12_feed_110 (by decide) ?_
    refine lv_iload hx hb dX12_feed_93 (lv_at hl 0 rfl) ?_
    refine lv_if_lt (tgt := 113) hx hb dX12_feed_95 (by decide) (fun c252 => absurd c252 (by decide)) (fun c252 => ?_)
    refine lv_aload_n hx hb dX12_feed_98 rfl (lv_at hl 1 rfl) ?_
    refine lv_iload hx hb dX12_feed_99 (lv_at hl 5 rfl) ?_
    refine lv_iload hx hb dX12_feed_101 (lv_at hl 0 rfl) ?_
    refine lv_ishr hx hb dX12_feed_103 ?_
    refine lv_topi (fun v253 ev253 => ?_)
    refine va_callv (va_runV (As := [.int v253]) (rest := []) ⟨hx, hb, hml, hown, hts⟩ (m_byteX l hl0 D A sad τ f244 fr ol (n + 1 + 1 + 1 + 1 + 1 + 1 + 1 + 1 + 1 + 1 + 1 + 1 + 1) hF q251 (by omega) v253) (cwV 1 hts gX12_feed_X12_byteCame rfl rfl rfl (by decide +kernel) ⟨Nat.le_of_ble_eq_true rfl, Nat.le_of_ble_eq_true rfl⟩) ⟨zQc_bl, zRecv hH (zk_30 hF) rfl, zQc_at hz hS hA hH⟩ rfl rfl hl.1 rfl (lv_room (Nat.le_of_ble_eq_true rfl)) dX12_feed_104 ⟨Nat.le_of_ble_eq_true rfl, Nat.le_of_ble_eq_true rfl⟩) hS (fun q _ h => h) (fun q h => h) (fun u9 t9 H1 locs ht9 hvm9 hw hB hz1 hk1 hS => ?_)
    have hH := zMv ht9 hvm9 hB
    clear hB
    generalize u9 = f255 at hw hH
    generalize H1 = H at hH hS ⊢
    obtain ⟨f256, ef256⟩ : ∃ f9 : zFi, f9 = zu f244 47 (n + 1 + 1 + 1 + 1 + 1 + 1 + 1 + 1 + 1 + 1 + 1 + 1 + 1) (v253 &&& 255) := ⟨_, rfl⟩
    have ef255 : f255 = zu f256 30 21 (nI (n + 1 + 1 + 1 + 1 + 1 + 1 + 1 + 1 + 1 + 1 + 1 + 1 + 1 + 1)) := by rw [hw, ef256]
    have q257 : f256 30 0 = nI 0 := by rw [ef256, zu_n (fun h9 => absurd h9.1 (by decide))]; exact q249
    have q258 : f256 30 21 = nI (n + 1 + 1 + 1 + 1 + 1 + 1 + 1 + 1 + 1 + 1 + 1 + 1 + 1) := by rw [ef256, zu_n (fun h9 => absurd h9.1 (by decide))]; exact q251
    have q259 : f256 47 (n + 1 + 1 + 1 + 1 + 1 + 1 + 1 + 1 + 1 + 1 + 1 + 1 + 1) = (v253 &&& 255) := by rw [ef256]; exact zu_s
    have q260 : f255 30 0 = nI 0 := by rw [ef255, zu_n (fun h9 => absurd h9.2 (by decide))]; exact q257
    have q261 : f255 47 (n + 1 + 1 + 1 + 1 + 1 + 1 + 1 + 1 + 1 + 1 + 1 + 1 + 1) = (v253 &&& 255) := by rw [ef255, zu_n (fun h9 => absurd h9.1 (by decide))]; exact q259
    have q262 : f255 30 21 = nI (n + 1 + 1 + 1 + 1 + 1 + 1 + 1 + 1 + 1 + 1 + 1 + 1 + 1 + 1) := by rw [ef255]; exact zu_s
    refine lv_iinc (v := nI 8) (lv' := [(6, .int (nI 8)), (0, .ref (τ.1 30)), (1, .int x0), (2, .int x1), (3, .int x2), (4, .int x3), (5, .int x4)]) hx hb dX12_feed_107 hl (k := 0) rfl (by decide) (by decide) rfl (fun ls hl => ?_)
    refine lv_goto (tgt := 93) hx hb dX12_feed_110 (by decide) ?_
    refine lv_iload hx hb dX12_feed_93 (lv_at hl 0 rfl) ?_
    refine lv_if_lt (tgt := 113) hx hb dX12_feed_95 (by decide) (fun c263 => absurd c263 (by decide)) (fun c263 => ?_)
    refine lv_aload_n hx hb dX12_feed_98 rfl (lv_at hl 1 rfl) ?_
    refine lv_iload hx hb dX12_feed_99 (lv_at hl 5 rfl) ?_
    refine lv_iload hx hb dX12_feed_101 (lv_at hl 0 rfl) ?_
    refine lv_ishr hx hb dX12_feed_103 ?_
    refine lv_topi (fun v264 ev264 => ?_)
    refine va_callv (va_runV (As := [.int v264]) (rest := []) ⟨hx, hb, hml, hown, hts⟩ (m_byteX l hl0 D A sad τ f255 fr ol (n + 1 + 1 + 1 + 1 + 1 + 1 + 1 + 1 + 1 + 1 + 1 + 1 + 1 + 1) hF q262 (by omega) v264) (cwV 1 hts gX12_feed_X12_byteCame rfl rfl rfl (by decide +kernel) ⟨Nat.le_of_ble_eq_true rfl, Nat.le_of_ble_eq_true rfl⟩) ⟨zQc_bl, zRecv hH (zk_30 hF) rfl, zQc_at hz hS hA hH⟩ rfl rfl hl.1 rfl (lv_room (Nat.le_of_ble_eq_true rfl)) dX12_feed_104 ⟨Nat.le_of_ble_eq_true rfl, Nat.le_of_ble_eq_true rfl⟩) hS (fun q _ h => h) (fun q h => h) (fun u9 t9 H1 locs ht9 hvm9 hw hB hz1 hk1 hS => ?_)
    have hH := zMv ht9 hvm9 hB
    clear hB
    generalize u9 = f266 at hw hH
    generalize H1 = H at hH hS ⊢
    obtain ⟨f267, ef267⟩ : ∃ f9 : zFi, f9 = zu f255 47 (n + 1 + 1 + 1 + 1 + 1 + 1 + 1 + 1 + 1 + 1 + 1 + 1 + 1 + 1) (v264 &&& 255) := ⟨_, rfl⟩
    have ef266 : f266 = zu f267 30 21 (nI (n + 1 + 1 + 1 + 1 + 1 + 1 + 1 + 1 + 1 + 1 + 1 + 1 + 1 + 1 + 1)) := by rw [hw, ef267]
    have q268 : f267 30 0 = nI 0 := by rw [ef267, zu_n (fun h9 => absurd h9.1 (by decide))]; exact q260
    have q269 : f267 30 21 = nI (n + 1 + 1 + 1 + 1 + 1 + 1 + 1 + 1 + 1 + 1 + 1 + 1 + 1 + 1) := by rw [ef267, zu_n (fun h9 => absurd h9.1 (by decide))]; exact q262
    have q270 : f267 47 (n + 1 + 1 + 1 + 1 + 1 + 1 + 1 + 1 + 1 + 1 + 1 + 1 + 1 + 1) = (v264 &&& 255) := by rw [ef267]; exact zu_s
    have q271 : f266 30 0 = nI 0 := by rw [ef266, zu_n (fun h9 => absurd h9.2 (by decide))]; exact q268
    have q272 : f266 47 (n + 1 + 1 + 1 + 1 + 1 + 1 + 1 + 1 + 1 + 1 + 1 + 1 + 1 + 1) = (v264 &&& 255) := by rw [ef266, zu_n (fun h9 => absurd h9.1 (by decide))]; exact q270
    have q273 : f266 30 21 = nI (n + 1 + 1 + 1 + 1 + 1 + 1 + 1 + 1 + 1 + 1 + 1 + 1 + 1 + 1 + 1) := by rw [ef266]; exact zu_s
    refine lv_iinc (v := nI 0) (lv' := [(6, .int (nI 0)), (0, .ref (τ.1 30)), (1, .int x0), (2, .int x1), (3, .int x2), (4, .int x3), (5, .int x4)]) hx hb dX12_feed_107 hl (k := 0) rfl (by decide) (by decide) rfl (fun ls hl => ?_)
    refine lv_goto (tgt := 93) hx hb dX12_feed_110 (by decide) ?_
    refine lv_iload hx hb dX12_feed_93 (lv_at hl 0 rfl) ?_
    refine lv_if_lt (tgt := 113) hx hb dX12_feed_95 (by decide) (fun c274 => absurd c274 (by decide)) (fun c274 => ?_)
    refine lv_aload_n hx hb dX12_feed_98 rfl (lv_at hl 1 rfl) ?_
    refine lv_iload hx hb dX12_feed_99 (lv_at hl 5 rfl) ?_
    refine lv_iload hx hb dX12_feed_101 (lv_at hl 0 rfl) ?_
    refine lv_ishr hx hb dX12_feed_103 ?_
    refine lv_topi (fun v275 ev275 => ?_)
    refine va_callv (va_runV (As := [.int v275]) (rest := []) ⟨hx, hb, hml, hown, hts⟩ (m_byteX l hl0 D A sad τ f266 fr ol (n + 1 + 1 + 1 + 1 + 1 + 1 + 1 + 1 + 1 + 1 + 1 + 1 + 1 + 1 + 1) hF q273 (by omega) v275) (cwV 1 hts gX12_feed_X12_byteCame rfl rfl rfl (by decide +kernel) ⟨Nat.le_of_ble_eq_true rfl, Nat.le_of_ble_eq_true rfl⟩) ⟨zQc_bl, zRecv hH (zk_30 hF) rfl, zQc_at hz hS hA hH⟩ rfl rfl hl.1 rfl (lv_room (Nat.le_of_ble_eq_true rfl)) dX12_feed_104 ⟨Nat.le_of_ble_eq_true rfl, Nat.le_of_ble_eq_true rfl⟩) hS (fun q _ h => h) (fun q h => h) (fun u9 t9 H1 locs ht9 hvm9 hw hB hz1 hk1 hS => ?_)
    have hH := zMv ht9 hvm9 hB
    clear hB
    generalize u9 = f277 at hw hH
    generalize H1 = H at hH hS ⊢
    obtain ⟨f278, ef278⟩ : ∃ f9 : zFi, f9 = zu f266 47 (n + 1 + 1 + 1 + 1 + 1 + 1 + 1 + 1 + 1 + 1 + 1 + 1 + 1 + 1 + 1) (v275 &&& 255) := ⟨_, rfl⟩
    have ef277 : f277 = zu f278 30 21 (nI (n + 1 + 1 + 1 + 1 + 1 + 1 + 1 + 1 + 1 + 1 + 1 + 1 + 1 + 1 + 1 + 1)) := by rw [hw, ef278]
    have q279 : f278 30 0 = nI 0 := by rw [ef278, zu_n (fun h9 => absurd h9.1 (by decide))]; exact q271
    have q280 : f278 30 21 = nI (n + 1 + 1 + 1 + 1 + 1 + 1 + 1 + 1 + 1 + 1 + 1 + 1 + 1 + 1 + 1) := by rw [ef278, zu_n (fun h9 => absurd h9.1 (by decide))]; exact q273
    have q281 : f278 47 (n + 1 + 1 + 1 + 1 + 1 + 1 + 1 + 1 + 1 + 1 + 1 + 1 + 1 + 1 + 1) = (v275 &&& 255) := by rw [ef278]; exact zu_s
    have q282 : f277 30 0 = nI 0 := by rw [ef277, zu_n (fun h9 => absurd h9.2 (by decide))]; exact q279
    have q283 : f277 47 (n + 1 + 1 + 1 + 1 + 1 + 1 + 1 + 1 + 1 + 1 + 1 + 1 + 1 + 1 + 1) = (v275 &&& 255) := by rw [ef277, zu_n (fun h9 => absurd h9.1 (by decide))]; exact q281
    have q284 : f277 30 21 = nI (n + 1 + 1 + 1 + 1 + 1 + 1 + 1 + 1 + 1 + 1 + 1 + 1 + 1 + 1 + 1 + 1) := by rw [ef277]; exact zu_s
    refine lv_iinc (v := (-8)) (lv' := [(6, .int ((-8))), (0, .ref (τ.1 30)), (1, .int x0), (2, .int x1), (3, .int x2), (4, .int x3), (5, .int x4)]) hx hb dX12_feed_107 hl (k := 0) rfl (by decide) (by decide) rfl (fun ls hl => ?_)
    refine lv_goto (tgt := 93) hx hb dX12_feed_110 (by decide) ?_
    refine lv_iload hx hb dX12_feed_93 (lv_at hl 0 rfl) ?_
    refine lv_if_lt (tgt := 113) hx hb dX12_feed_95 (by decide) (fun c285 => ?_) (fun c285 => absurd (by decide) c285)
    refine lv_bipush (v := nI 24) hx hb dX12_feed_113 (by decide) ?_
    refine lv_istore (lv' := [(6, .int (nI 24)), (0, .ref (τ.1 30)), (1, .int x0), (2, .int x1), (3, .int x2), (4, .int x3), (5, .int x4)]) hx hb dX12_feed_115 hl (by decide) rfl (fun ls hl => ?_)
    refine lv_iload hx hb dX12_feed_117 (lv_at hl 0 rfl) ?_
    refine lv_if_lt (tgt := 137) hx hb dX12_feed_119 (by decide) (fun c286 => absurd c286 (by decide)) (fun c286 => ?_)
    refine lv_aload_n hx hb dX12_feed_122 rfl (lv_at hl 1 rfl) ?_
    refine lv_iload hx hb dX12_feed_123 (lv_at hl 6 rfl) ?_
    refine lv_iload hx hb dX12_feed_125 (lv_at hl 0 rfl) ?_
    refine lv_ishr hx hb dX12_feed_127 ?_
    refine lv_topi (fun v287 ev287 => ?_)
    refine va_callv (va_runV (As := [.int v287]) (rest := []) ⟨hx, hb, hml, hown, hts⟩ (m_byteX l hl0 D A sad τ f277 fr ol (n + 1 + 1 + 1 + 1 + 1 + 1 + 1 + 1 + 1 + 1 + 1 + 1 + 1 + 1 + 1 + 1) hF q284 (by omega) v287) (cwV 1 hts gX12_feed_X12_byteCame rfl rfl rfl (by decide +kernel) ⟨Nat.le_of_ble_eq_true rfl, Nat.le_of_ble_eq_true rfl⟩) ⟨zQc_bl, zRecv hH (zk_30 hF) rfl, zQc_at hz hS hA hH⟩ rfl rfl hl.1 rfl (lv_room (Nat.le_of_ble_eq_true rfl)) dX12_feed_128 ⟨Nat.le_of_ble_eq_true rfl, Nat.le_of_ble_eq_true rfl⟩) hS (fun q _ h => h) (fun q h => h) (fun u9 t9 H1 locs ht9 hvm9 hw hB hz1 hk1 hS => ?_)
    have hH := zMv ht9 hvm9 hB
    clear hB
    generalize u9 = f289 at hw hH
    generalize H1 = H at hH hS ⊢
    obtain ⟨f290, ef290⟩ : ∃ f9 : zFi, f9 = zu f277 47 (n + 1 + 1 + 1 + 1 + 1 + 1 + 1 + 1 + 1 + 1 + 1 + 1 + 1 + 1 + 1 + 1) (v287 &&& 255) := ⟨_, rfl⟩
    have ef289 : f289 = zu f290 30 21 (nI (n + 1 + 1 + 1 + 1 + 1 + 1 + 1 + 1 + 1 + 1 + 1 + 1 + 1 + 1 + 1 + 1 + 1)) := by rw [hw, ef290]
    have q291 : f290 30 0 = nI 0 := by rw [ef290, zu_n (fun h9 => absurd h9.1 (by decide))]; exact q282
    have q292 : f290 30 21 = nI (n + 1 + 1 + 1 + 1 + 1 + 1 + 1 + 1 + 1 + 1 + 1 + 1 + 1 + 1 + 1 + 1) := by rw [ef290, zu_n (fun h9 => absurd h9.1 (by decide))]; exact q284
    have q293 : f290 47 (n + 1 + 1 + 1 + 1 + 1 + 1 + 1 + 1 + 1 + 1 + 1 + 1 + 1 + 1 + 1 + 1) = (v287 &&& 255) := by rw [ef290]; exact zu_s
    have q294 : f289 30 0 = nI 0 := by rw [ef289, zu_n (fun h9 => absurd h9.2 (by decide))]; exact q291
    have q295 : f289 47 (n + 1 + 1 + 1 + 1 + 1 + 1 + 1 + 1 + 1 + 1 + 1 + 1 + 1 + 1 + 1 + 1) = (v287 &&& 255) := by rw [ef289, zu_n (fun h9 => absurd h9.1 (by decide))]; exact q293
    have q296 : f289 30 21 = nI (n + 1 + 1 + 1 + 1 + 1 + 1 + 1 + 1 + 1 + 1 + 1 + 1 + 1 + 1 + 1 + 1 + 1) := by rw [ef289]; exact zu_s
    refine lv_iinc (v := nI 16) (lv' := [(6, .int (nI 16)), (0, .ref (τ.1 30)), (1, .int x0), (2, .int x1), (3, .int x2), (4, .int x3), (5, .int x4)]) hx hb dX12_feed_131 hl (k := 0) rfl (by decide) (by decide) rfl (fun ls hl => ?_)
    refine lv_goto (tgt := 117) hx hb dX12_feed_134 (by decide) ?_
    refine lv_iload hx hb dX12_feed_117 (lv_at hl 0 rfl) ?_
    refine lv_if_lt (tgt := 137) hx hb dX12_feed_119 (by decide) (fun c297 => absurd c297 (by decide)) (fun c297 => ?_)
    refine lv_aload_n hx hb dX12_feed_122 rfl (lv_at hl 1 rfl) ?_
    refine lv_iload hx hb dX12_feed_123 (lv_at hl 6 rfl) ?_
    refine lv_iload hx hb dX12_feed_125 (lv_at hl 0 rfl) ?_
    refine lv_ishr hx hb dX12_feed_127 ?_
    refine lv_topi (fun v298 ev298 => ?_)
    refine va_callv (va_runV (As := [.int v298]) (rest := []) ⟨hx, hb, hml, hown, hts⟩ (m_byteX l hl0 D A sad τ f289 fr ol (n + 1 + 1 + 1 + 1 + 1 + 1 + 1 + 1 + 1 + 1 + 1 + 1 + 1 + 1 + 1 + 1 + 1) hF q296 (by omega) v298) (cwV 1 hts gX12_feed_X12_byteCame rfl rfl rfl (by decide +kernel) ⟨Nat.le_of_ble_eq_true rfl, Nat.le_of_ble_eq_true rfl⟩) ⟨zQc_bl, zRecv hH (zk_30 hF) rfl, zQc_at hz hS hA hH⟩ rfl rfl hl.1 rfl (lv_room (Nat.le_of_ble_eq_true rfl)) dX12_feed_128 ⟨Nat.le_of_ble_eq_true rfl, Nat.le_of_ble_eq_true rfl⟩) hS (fun q _ h => h) (fun q h => h) (fun u9 t9 H1 locs ht9 hvm9 hw hB hz1 hk1 hS => ?_)
    have hH := zMv ht9 hvm9 hB
    clear hB
    generalize u9 = f300 at hw hH
    generalize H1 = H at hH hS ⊢
    obtain ⟨f301, ef301⟩ : ∃ f9 : zFi, f9 = zu f289 47 (n + 1 + 1 + 1 + 1 + 1 + 1 + 1 + 1 + 1 + 1 + 1 + 1 + 1 + 1 + 1 + 1 + 1) (v298 &&& 255) := ⟨_, rfl⟩
    have ef300 : f300 = zu f301 30 21 (nI (n + 1 + 1 + 1 + 1 + 1 + 1 + 1 + 1 + 1 + 1 + 1 + 1 + 1 + 1 + 1 + 1 + 1 + 1)) := by rw [hw, ef301]
    have q302 : f301 30 0 = nI 0 := by rw [ef301, zu_n (fun h9 => absurd h9.1 (by decide))]; exact q294
    have q303 : f301 30 21 = nI (n + 1 + 1 + 1 + 1 + 1 + 1 + 1 + 1 + 1 + 1 + 1 + 1 + 1 + 1 + 1 + 1 + 1) := by rw [ef301, zu_n (fun h9 => absurd h9.1 (by decide))]; exact q296
    have q304 : f301 47 (n + 1 + 1 + 1 + 1 + 1 + 1 + 1 + 1 + 1 + 1 + 1 + 1 + 1 + 1 + 1 + 1 + 1) = (v298 &&& 255) := by rw [ef301]; exact zu_s
    have q305 : f300 30 0 = nI 0 := by rw [ef300, zu_n (fun h9 => absurd h9.2 (by decide))]; exact q302
    have q306 : f300 47 (n + 1 + 1 + 1 + 1 + 1 + 1 + 1 + 1 + 1 + 1 + 1 + 1 + 1 + 1 + 1 + 1 + 1) = (v298 &&& 255) := by rw [ef300, zu_n (fun h9 => absurd h9.1 (by decide))]; exact q304
    have q307 : f300 30 21 = nI (n + 1 + 1 + 1 + 1 + 1 + 1 + 1 + 1 + 1 + 1 + 1 + 1 + 1 + 1 + 1 + 1 + 1 + 1) := by rw [ef300]; exact zu_s
    refine lv_iinc (v := nI 8) (lv' := [(6, .int (nI 8)), (0, .ref (τ.1 30)), (1, .int x0), (2, .int x1), (3, .int x2), (4, .int x3), (5, .int x4)]) hx hb dX12_feed_131 hl (k := 0) rfl (by decide) (by decide) rfl (fun ls hl => ?_)
    refine lv_goto (tgt := 117) hx hb dX12_feed_134 (by decide) ?_
    refine lv_iload hx hb dX12_feed_117 (lv_at hl 0 rfl) ?_
    refine lv_if_lt (tgt := 137) hx hb dX12_feed_119 (by decide) (fun c308 => absurd c308 (by decide)) (fun c308 => ?_)
    refine lv_aload_n hx hb dX12_feed_122 rfl (lv_at hl 1 rfl) ?_
    refine lv_iload hx hb dX12_feed_123 (lv_at hl 6 rfl) ?_
    refine lv_iload hx hb dX12_feed_125 (lv_at hl 0 rfl) ?_
    refine lv_ishr hx hb dX12_feed_127 ?_
    refine lv_topi (fun v309 ev309 => ?_)
    refine va_callv (va_runV (As := [.int v309]) (rest := []) ⟨hx, hb, hml, hown, hts⟩ (m_byteX l hl0 D A sad τ f300 fr ol (n + 1 + 1 + 1 + 1 + 1 + 1 + 1 + 1 + 1 + 1 + 1 + 1 + 1 + 1 + 1 + 1 + 1 + 1) hF q307 (by omega) v309) (cwV 1 hts gX12_feed_X12_byteCame rfl rfl rfl (by decide +kernel) ⟨Nat.le_of_ble_eq_true rfl, Nat.le_of_ble_eq_true rfl⟩) ⟨zQc_bl, zRecv hH (zk_30 hF) rfl, zQc_at hz hS hA hH⟩ rfl rfl hl.1 rfl (lv_room (Nat.le_of_ble_eq_true rfl)) dX12_feed_128 ⟨Nat.le_of_ble_eq_true rfl, Nat.le_of_ble_eq_true rfl⟩) hS (fun q _ h => h) (fun q h => h) (fun u9 t9 H1 locs ht9 hvm9 hw hB hz1 hk1 hS => ?_)
    have hH := zMv ht9 hvm9 hB
    clear hB
    generalize u9 = f311 at hw hH
    generalize H1 = H at hH hS ⊢
    obtain ⟨f312, ef312⟩ : ∃ f9 : zFi, f9 = zu f300 47 (n + 1 + 1 + 1 + 1 + 1 + 1 + 1 + 1 + 1 + 1 + 1 + 1 + 1 + 1 + 1 + 1 + 1 + 1) (v309 &&& 255) := ⟨_, rfl⟩
    have ef311 : f311 = zu f312 30 21 (nI (n + 1 + 1 + 1 + 1 + 1 + 1 + 1 + 1 + 1 + 1 + 1 + 1 + 1 + 1 + 1 + 1 + 1 + 1 + 1)) := by rw [hw, ef312]
    have q313 : f312 30 0 = nI 0 := by rw [ef312, zu_n (fun h9 => absurd h9.1 (by decide))]; exact q305
    have q314 : f312 30 21 = nI (n + 1 + 1 + 1 + 1 + 1 + 1 + 1 + 1 + 1 + 1 + 1 + 1 + 1 + 1 + 1 + 1 + 1 + 1) := by rw [ef312, zu_n (fun h9 => absurd h9.1 (by decide))]; exact q307
    have q315 : f312 47 (n + 1 + 1 + 1 + 1 + 1 + 1 + 1 + 1 + 1 + 1 + 1 + 1 + 1 + 1 + 1 + 1 + 1 + 1) = (v309 &&& 255) := by rw [ef312]; exact zu_s
    have q316 : f311 30 0 = nI 0 := by rw [ef311, zu_n (fun h9 => absurd h9.2 (by decide))]; exact q313
    have q317 : f311 47 (n + 1 + 1 + 1 + 1 + 1 + 1 + 1 + 1 + 1 + 1 + 1 + 1 + 1 + 1 + 1 + 1 + 1 + 1) = (v309 &&& 255) := by rw [ef311, zu_n (fun h9 => absurd h9.1 (by decide))]; exact q315
    have q318 : f311 30 21 = nI (n + 1 + 1 + 1 + 1 + 1 + 1 + 1 + 1 + 1 + 1 + 1 + 1 + 1 + 1 + 1 + 1 + 1 + 1 + 1) := by rw [ef311]; exact zu_s
    refine lv_iinc (v := nI 0) (lv' := [(6, .int (nI 0)), (0, .ref (τ.1 30)), (1, .int x0), (2, .int x1), (3, .int x2), (4, .int x3), (5, .int x4)]) hx hb dX12_feed_131 hl (k := 0) rfl (by decide) (by decide) rfl (fun ls hl => ?_)
    refine lv_goto (tgt := 117) hx hb dX12_feed_134 (by decide) ?_
    refine lv_iload hx hb dX12_feed_117 (lv_at hl 0 rfl) ?_
    refine lv_if_lt (tgt := 137) hx hb dX12_feed_119 (by decide) (fun c319 => absurd c319 (by decide)) (fun c319 => ?_)
    refine lv_aload_n hx hb dX12_feed_122 rfl (lv_at hl 1 rfl) ?_
    refine lv_iload hx hb dX12_feed_123 (lv_at hl 6 rfl) ?_
    refine lv_iload hx hb dX12_feed_125 (lv_at hl 0 rfl) ?_
    refine lv_ishr hx hb dX12_feed_127 ?_
    refine lv_topi (fun v320 ev320 => ?_)
    refine va_callv (va_runV (As := [.int v320]) (rest := []) ⟨hx, hb, hml, hown, hts⟩ (m_byteX l hl0 D A sad τ f311 fr ol (n + 1 + 1 + 1 + 1 + 1 + 1 + 1 + 1 + 1 + 1 + 1 + 1 + 1 + 1 + 1 + 1 + 1 + 1 + 1) hF q318 (by omega) v320) (cwV 1 hts gX12_feed_X12_byteCame rfl rfl rfl (by decide +kernel) ⟨Nat.le_of_ble_eq_true rfl, Nat.le_of_ble_eq_true rfl⟩) ⟨zQc_bl, zRecv hH (zk_30 hF) rfl, zQc_at hz hS hA hH⟩ rfl rfl hl.1 rfl (lv_room (Nat.le_of_ble_eq_true rfl)) dX12_feed_128 ⟨Nat.le_of_ble_eq_true rfl, Nat.le_of_ble_eq_true rfl⟩) hS (fun q _ h => h) (fun q h => h) (fun u9 t9 H1 locs ht9 hvm9 hw hB hz1 hk1 hS => ?_)
    have hH := zMv ht9 hvm9 hB
    clear hB
    generalize u9 = f322 at hw hH
    generalize H1 = H at hH hS ⊢
    obtain ⟨f323, ef323⟩ : ∃ f9 : zFi, f9 = zu f311 47 (n + 1 + 1 + 1 + 1 + 1 + 1 + 1 + 1 + 1 + 1 + 1 + 1 + 1 + 1 + 1 + 1 + 1 + 1 + 1) (v320 &&& 255) := ⟨_, rfl⟩
    have ef322 : f322 = zu f323 30 21 (nI (n + 1 + 1 + 1 + 1 + 1 + 1 + 1 + 1 + 1 + 1 + 1 + 1 + 1 + 1 + 1 + 1 + 1 + 1 + 1 + 1)) := by rw [hw, ef323]
    have q324 : f323 30 0 = nI 0 := by rw [ef323, zu_n (fun h9 => absurd h9.1 (by decide))]; exact q316
    have q325 : f323 30 21 = nI (n + 1 + 1 + 1 + 1 + 1 + 1 + 1 + 1 + 1 + 1 + 1 + 1 + 1 + 1 + 1 + 1 + 1 + 1 + 1) := by rw [ef323, zu_n (fun h9 => absurd h9.1 (by decide))]; exact q318
    have q326 : f323 47 (n + 1 + 1 + 1 + 1 + 1 + 1 + 1 + 1 + 1 + 1 + 1 + 1 + 1 + 1 + 1 + 1 + 1 + 1 + 1) = (v320 &&& 255) := by rw [ef323]; exact zu_s
    have q327 : f322 30 0 = nI 0 := by rw [ef322, zu_n (fun h9 => absurd h9.2 (by decide))]; exact q324
    have q328 : f322 47 (n + 1 + 1 + 1 + 1 + 1 + 1 + 1 + 1 + 1 + 1 + 1 + 1 + 1 + 1 + 1 + 1 + 1 + 1 + 1) = (v320 &&& 255) := by rw [ef322, zu_n (fun h9 => absurd h9.1 (by decide))]; exact q326
    have q329 : f322 30 21 = nI (n + 1 + 1 + 1 + 1 + 1 + 1 + 1 + 1 + 1 + 1 + 1 + 1 + 1 + 1 + 1 + 1 + 1 + 1 + 1 + 1) := by rw [ef322]; exact zu_s
    refine lv_iinc (v := (-8)) (lv' := [(6, .int ((-8))), (0, .ref (τ.1 30)), (1, .int x0), (2, .int x1), (3, .int x2), (4, .int x3), (5, .int x4)]) hx hb dX12_feed_131 hl (k := 0) rfl (by decide) (by decide) rfl (fun ls hl => ?_)
    refine lv_goto (tgt := 117) hx hb dX12_feed_134 (by decide) ?_
    refine lv_iload hx hb dX12_feed_117 (lv_at hl 0 rfl) ?_
    refine lv_if_lt (tgt := 137) hx hb dX12_feed_119 (by decide) (fun c330 => ?_) (fun c330 => absurd (by decide) c330)
    refine lv_aload_n hx hb dX12_feed_137 rfl (lv_at hl 1 rfl) ?_
    refine zGetI (D := D) (ci := 12) (C := RX12) (T := TX12) (N := 71) hx hb hts hiX12 hown hH (zk_30 hF) rfl 21 (by decide) rfl hw2 (fun _ h9 => h9) dX12_feed_138 q329 ?_
    refine W.widen (k := 0) (n := 0) (by decide) (by decide) ?_
    exact W.iret (v := nI (n + 1 + 1 + 1 + 1 + 1 + 1 + 1 + 1 + 1 + 1 + 1 + 1 + 1 + 1 + 1 + 1 + 1 + 1 + 1 + 1)) hx hb hr (fun t9 ht9 hW9 => ⟨⟨nI (n + 1 + 1 + 1 + 1 + 1 + 1 + 1 + 1 + 1 + 1 + 1 + 1 + 1 + 1 + 1 + 1 + 1 + 1 + 1 + 1), f322, rfl, ⟨⟨Or.inl ⟨by omega, rfl, q329⟩, fun a b h => by rw [ef322, zu_n (by omega), ef323, zu_n (by omega), ef311, zu_n (by omega), ef312, zu_n (by omega), ef300, zu_n (by omega), ef301, zu_n (by omega), ef289, zu_n (by omega), ef290, zu_n (by omega), ef277, zu_n (by omega), ef278, zu_n (by omega), ef266, zu_n (by omega), ef267, zu_n (by omega), ef255, zu_n (by omega), ef256, zu_n (by omega), ef244, zu_n (by omega), ef245, zu_n (by omega), ef232, zu_n (by omega), ef233, zu_n (by omega), ef221, zu_n (by omega), ef222, zu_n (by omega), ef210, zu_n (by omega), ef211, zu_n (by omega), ef199, zu_n (by omega), ef200, zu_n (by omega), ef187, zu_n (by omega), ef188, zu_n (by omega), ef176, zu_n (by omega), ef177, zu_n (by omega), ef165, zu_n (by omega), ef166, zu_n (by omega), ef154, zu_n (by omega), ef155, zu_n (by omega), ef142, zu_n (by omega), ef143, zu_n (by omega), ef131, zu_n (by omega), ef132, zu_n (by omega), ef120, zu_n (by omega), ef121, zu_n (by omega), ef109, zu_n (by omega), ef110, zu_n (by omega), ef101, zu_n (by omega)]⟩, fun _ => ⟨fun b h => by rw [ef322, zu_n (by omega), ef323, zu_n (by omega), ef311, zu_n (by omega), ef312, zu_n (by omega), ef300, zu_n (by omega), ef301, zu_n (by omega), ef289, zu_n (by omega), ef290, zu_n (by omega), ef277, zu_n (by omega), ef278, zu_n (by omega), ef266, zu_n (by omega), ef267, zu_n (by omega), ef255, zu_n (by omega), ef256, zu_n (by omega), ef244, zu_n (by omega), ef245, zu_n (by omega), ef232, zu_n (by omega), ef233, zu_n (by omega), ef221, zu_n (by omega), ef222, zu_n (by omega), ef210, zu_n (by omega), ef211, zu_n (by omega), ef199, zu_n (by omega), ef200, zu_n (by omega), ef187, zu_n (by omega), ef188, zu_n (by omega), ef176, zu_n (by omega), ef177, zu_n (by omega), ef165, zu_n (by omega), ef166, zu_n (by omega), ef154, zu_n (by omega), ef155, zu_n (by omega), ef142, zu_n (by omega), ef143, zu_n (by omega), ef131, zu_n (by omega), ef132, zu_n (by omega), ef120, zu_n (by omega), ef121, zu_n (by omega), ef109, zu_n (by omega), ef110, zu_n (by omega), ef101, zu_n (by omega)], by rw [Nat.add_zero, ef322, zu_n (fun h9 => absurd h9.1 (by decide)), ef323, zu_n (fun h9 => zt_0_19 n h9.2), ef311, zu_n (fun h9 => absurd h9.1 (by decide)), ef312, zu_n (fun h9 => zt_0_18 n h9.2), ef300, zu_n (fun h9 => absurd h9.1 (by decide)), ef301, zu_n (fun h9 => zt_0_17 n h9.2), ef289, zu_n (fun h9 => absurd h9.1 (by decide)), ef290, zu_n (fun h9 => zt_0_16 n h9.2), ef277, zu_n (fun h9 => absurd h9.1 (by decide)), ef278, zu_n (fun h9 => zt_0_15 n h9.2), ef266, zu_n (fun h9 => absurd h9.1 (by decide)), ef267, zu_n (fun h9 => zt_0_14 n h9.2), ef255, zu_n (fun h9 => absurd h9.1 (by decide)), ef256, zu_n (fun h9 => zt_0_13 n h9.2), ef244, zu_n (fun h9 => absurd h9.1 (by decide)), ef245, zu_n (fun h9 => zt_0_12 n h9.2), ef232, zu_n (fun h9 => absurd h9.1 (by decide)), ef233, zu_n (fun h9 => zt_0_11 n h9.2), ef221, zu_n (fun h9 => absurd h9.1 (by decide)), ef222, zu_n (fun h9 => zt_0_10 n h9.2), ef210, zu_n (fun h9 => absurd h9.1 (by decide)), ef211, zu_n (fun h9 => zt_0_9 n h9.2), ef199, zu_n (fun h9 => absurd h9.1 (by decide)), ef200, zu_n (fun h9 => zt_0_8 n h9.2), ef187, zu_n (fun h9 => absurd h9.1 (by decide)), ef188, zu_n (fun h9 => zt_0_7 n h9.2), ef176, zu_n (fun h9 => absurd h9.1 (by decide)), ef177, zu_n (fun h9 => zt_0_6 n h9.2), ef165, zu_n (fun h9 => absurd h9.1 (by decide)), ef166, zu_n (fun h9 => zt_0_5 n h9.2), ef154, zu_n (fun h9 => absurd h9.1 (by decide)), ef155, zu_n (fun h9 => zt_0_4 n h9.2), ef142, zu_n (fun h9 => absurd h9.1 (by decide)), ef143, zu_n (fun h9 => zt_0_3 n h9.2), ef131, zu_n (fun h9 => absurd h9.1 (by decide)), ef132, zu_n (fun h9 => zt_0_2 n h9.2), ef120, zu_n (fun h9 => absurd h9.1 (by decide)), ef121, zu_n (fun h9 => zt_0_1 n h9.2), ef109, zu_n (fun h9 => absurd h9.1 (by decide)), ef110, zu_s, ev107]; rfl, by rw [ef322, zu_n (fun h9 => absurd h9.1 (by decide)), ef323, zu_n (fun h9 => zt_1_19 n h9.2), ef311, zu_n (fun h9 => absurd h9.1 (by decide)), ef312, zu_n (fun h9 => zt_1_18 n h9.2), ef300, zu_n (fun h9 => absurd h9.1 (by decide)), ef301, zu_n (fun h9 => zt_1_17 n h9.2), ef289, zu_n (fun h9 => absurd h9.1 (by decide)), ef290, zu_n (fun h9 => zt_1_16 n h9.2), ef277, zu_n (fun h9 => absurd h9.1 (by decide)), ef278, zu_n (fun h9 => zt_1_15 n h9.2), ef266, zu_n (fun h9 => absurd h9.1 (by decide)), ef267, zu_n (fun h9 => zt_1_14 n h9.2), ef255, zu_n (fun h9 => absurd h9.1 (by decide)), ef256, zu_n (fun h9 => zt_1_13 n h9.2), ef244, zu_n (fun h9 => absurd h9.1 (by decide)), ef245, zu_n (fun h9 => zt_1_12 n h9.2), ef232, zu_n (fun h9 => absurd h9.1 (by decide)), ef233, zu_n (fun h9 => zt_1_11 n h9.2), ef221, zu_n (fun h9 => absurd h9.1 (by decide)), ef222, zu_n (fun h9 => zt_1_10 n h9.2), ef210, zu_n (fun h9 => absurd h9.1 (by decide)), ef211, zu_n (fun h9 => zt_1_9 n h9.2), ef199, zu_n (fun h9 => absurd h9.1 (by decide)), ef200, zu_n (fun h9 => zt_1_8 n h9.2), ef187, zu_n (fun h9 => absurd h9.1 (by decide)), ef188, zu_n (fun h9 => zt_1_7 n h9.2), ef176, zu_n (fun h9 => absurd h9.1 (by decide)), ef177, zu_n (fun h9 => zt_1_6 n h9.2), ef165, zu_n (fun h9 => absurd h9.1 (by decide)), ef166, zu_n (fun h9 => zt_1_5 n h9.2), ef154, zu_n (fun h9 => absurd h9.1 (by decide)), ef155, zu_n (fun h9 => zt_1_4 n h9.2), ef142, zu_n (fun h9 => absurd h9.1 (by decide)), ef143, zu_n (fun h9 => zt_1_3 n h9.2), ef131, zu_n (fun h9 => absurd h9.1 (by decide)), ef132, zu_n (fun h9 => zt_1_2 n h9.2), ef120, zu_n (fun h9 => absurd h9.1 (by decide)), ef121, zu_s, ev118]; rfl, by rw [ef322, zu_n (fun h9 => absurd h9.1 (by decide)), ef323, zu_n (fun h9 => zt_2_19 n h9.2), ef311, zu_n (fun h9 => absurd h9.1 (by decide)), ef312, zu_n (fun h9 => zt_2_18 n h9.2), ef300, zu_n (fun h9 => absurd h9.1 (by decide)), ef301, zu_n (fun h9 => zt_2_17 n h9.2), ef289, zu_n (fun h9 => absurd h9.1 (by decide)), ef290, zu_n (fun h9 => zt_2_16 n h9.2), ef277, zu_n (fun h9 => absurd h9.1 (by decide)), ef278, zu_n (fun h9 => zt_2_15 n h9.2), ef266, zu_n (fun h9 => absurd h9.1 (by decide)), ef267, zu_n (fun h9 => zt_2_14 n h9.2), ef255, zu_n (fun h9 => absurd h9.1 (by decide)), ef256, zu_n (fun h9 => zt_2_13 n h9.2), ef244, zu_n (fun h9 => absurd h9.1 (by decide)), ef245, zu_n (fun h9 => zt_2_12 n h9.2), ef232, zu_n (fun h9 => absurd h9.1 (by decide)), ef233, zu_n (fun h9 => zt_2_11 n h9.2), ef221, zu_n (fun h9 => absurd h9.1 (by decide)), ef222, zu_n (fun h9 => zt_2_10 n h9.2), ef210, zu_n (fun h9 => absurd h9.1 (by decide)), ef211, zu_n (fun h9 => zt_2_9 n h9.2), ef199, zu_n (fun h9 => absurd h9.1 (by decide)), ef200, zu_n (fun h9 => zt_2_8 n h9.2), ef187, zu_n (fun h9 => absurd h9.1 (by decide)), ef188, zu_n (fun h9 => zt_2_7 n h9.2), ef176, zu_n (fun h9 => absurd h9.1 (by decide)), ef177, zu_n (fun h9 => zt_2_6 n h9.2), ef165, zu_n (fun h9 => absurd h9.1 (by decide)), ef166, zu_n (fun h9 => zt_2_5 n h9.2), ef154, zu_n (fun h9 => absurd h9.1 (by decide)), ef155, zu_n (fun h9 => zt_2_4 n h9.2), ef142, zu_n (fun h9 => absurd h9.1 (by decide)), ef143, zu_n (fun h9 => zt_2_3 n h9.2), ef131, zu_n (fun h9 => absurd h9.1 (by decide)), ef132, zu_s, ev129]; rfl, by rw [ef322, zu_n (fun h9 => absurd h9.1 (by decide)), ef323, zu_n (fun h9 => zt_3_19 n h9.2), ef311, zu_n (fun h9 => absurd h9.1 (by decide)), ef312, zu_n (fun h9 => zt_3_18 n h9.2), ef300, zu_n (fun h9 => absurd h9.1 (by decide)), ef301, zu_n (fun h9 => zt_3_17 n h9.2), ef289, zu_n (fun h9 => absurd h9.1 (by decide)), ef290, zu_n (fun h9 => zt_3_16 n h9.2), ef277, zu_n (fun h9 => absurd h9.1 (by decide)), ef278, zu_n (fun h9 => zt_3_15 n h9.2), ef266, zu_n (fun h9 => absurd h9.1 (by decide)), ef267, zu_n (fun h9 => zt_3_14 n h9.2), ef255, zu_n (fun h9 => absurd h9.1 (by decide)), ef256, zu_n (fun h9 => zt_3_13 n h9.2), ef244, zu_n (fun h9 => absurd h9.1 (by decide)), ef245, zu_n (fun h9 => zt_3_12 n h9.2), ef232, zu_n (fun h9 => absurd h9.1 (by decide)), ef233, zu_n (fun h9 => zt_3_11 n h9.2), ef221, zu_n (fun h9 => absurd h9.1 (by decide)), ef222, zu_n (fun h9 => zt_3_10 n h9.2), ef210, zu_n (fun h9 => absurd h9.1 (by decide)), ef211, zu_n (fun h9 => zt_3_9 n h9.2), ef199, zu_n (fun h9 => absurd h9.1 (by decide)), ef200, zu_n (fun h9 => zt_3_8 n h9.2), ef187, zu_n (fun h9 => absurd h9.1 (by decide)), ef188, zu_n (fun h9 => zt_3_7 n h9.2), ef176, zu_n (fun h9 => absurd h9.1 (by decide)), ef177, zu_n (fun h9 => zt_3_6 n h9.2), ef165, zu_n (fun h9 => absurd h9.1 (by decide)), ef166, zu_n (fun h9 => zt_3_5 n h9.2), ef154, zu_n (fun h9 => absurd h9.1 (by decide)), ef155, zu_n (fun h9 => zt_3_4 n h9.2), ef142, zu_n (fun h9 => absurd h9.1 (by decide)), ef143, zu_s, ev140]; rfl, by rw [ef322, zu_n (fun h9 => absurd h9.1 (by decide)), ef323, zu_n (fun h9 => zt_4_19 n h9.2), ef311, zu_n (fun h9 => absurd h9.1 (by decide)), ef312, zu_n (fun h9 => zt_4_18 n h9.2), ef300, zu_n (fun h9 => absurd h9.1 (by decide)), ef301, zu_n (fun h9 => zt_4_17 n h9.2), ef289, zu_n (fun h9 => absurd h9.1 (by decide)), ef290, zu_n (fun h9 => zt_4_16 n h9.2), ef277, zu_n (fun h9 => absurd h9.1 (by decide)), ef278, zu_n (fun h9 => zt_4_15 n h9.2), ef266, zu_n (fun h9 => absurd h9.1 (by decide)), ef267, zu_n (fun h9 => zt_4_14 n h9.2), ef255, zu_n (fun h9 => absurd h9.1 (by decide)), ef256, zu_n (fun h9 => zt_4_13 n h9.2), ef244, zu_n (fun h9 => absurd h9.1 (by decide)), ef245, zu_n (fun h9 => zt_4_12 n h9.2), ef232, zu_n (fun h9 => absurd h9.1 (by decide)), ef233, zu_n (fun h9 => zt_4_11 n h9.2), ef221, zu_n (fun h9 => absurd h9.1 (by decide)), ef222, zu_n (fun h9 => zt_4_10 n h9.2), ef210, zu_n (fun h9 => absurd h9.1 (by decide)), ef211, zu_n (fun h9 => zt_4_9 n h9.2), ef199, zu_n (fun h9 => absurd h9.1 (by decide)), ef200, zu_n (fun h9 => zt_4_8 n h9.2), ef187, zu_n (fun h9 => absurd h9.1 (by decide)), ef188, zu_n (fun h9 => zt_4_7 n h9.2), ef176, zu_n (fun h9 => absurd h9.1 (by decide)), ef177, zu_n (fun h9 => zt_4_6 n h9.2), ef165, zu_n (fun h9 => absurd h9.1 (by decide)), ef166, zu_n (fun h9 => zt_4_5 n h9.2), ef154, zu_n (fun h9 => absurd h9.1 (by decide)), ef155, zu_s, ev152]; rfl, by rw [ef322, zu_n (fun h9 => absurd h9.1 (by decide)), ef323, zu_n (fun h9 => zt_5_19 n h9.2), ef311, zu_n (fun h9 => absurd h9.1 (by decide)), ef312, zu_n (fun h9 => zt_5_18 n h9.2), ef300, zu_n (fun h9 => absurd h9.1 (by decide)), ef301, zu_n (fun h9 => zt_5_17 n h9.2), ef289, zu_n (fun h9 => absurd h9.1 (by decide)), ef290, zu_n (fun h9 => zt_5_16 n h9.2), ef277, zu_n (fun h9 => absurd h9.1 (by decide)), ef278, zu_n (fun h9 => zt_5_15 n h9.2), ef266, zu_n (fun h9 => absurd h9.1 (by decide)), ef267, zu_n (fun h9 => zt_5_14 n h9.2), ef255, zu_n (fun h9 => absurd h9.1 (by decide)), ef256, zu_n (fun h9 => zt_5_13 n h9.2), ef244, zu_n (fun h9 => absurd h9.1 (by decide)), ef245, zu_n (fun h9 => zt_5_12 n h9.2), ef232, zu_n (fun h9 => absurd h9.1 (by decide)), ef233, zu_n (fun h9 => zt_5_11 n h9.2), ef221, zu_n (fun h9 => absurd h9.1 (by decide)), ef222, zu_n (fun h9 => zt_5_10 n h9.2), ef210, zu_n (fun h9 => absurd h9.1 (by decide)), ef211, zu_n (fun h9 => zt_5_9 n h9.2), ef199, zu_n (fun h9 => absurd h9.1 (by decide)), ef200, zu_n (fun h9 => zt_5_8 n h9.2), ef187, zu_n (fun h9 => absurd h9.1 (by decide)), ef188, zu_n (fun h9 => zt_5_7 n h9.2), ef176, zu_n (fun h9 => absurd h9.1 (by decide)), ef177, zu_n (fun h9 => zt_5_6 n h9.2), ef165, zu_n (fun h9 => absurd h9.1 (by decide)), ef166, zu_s, ev163]; rfl, by rw [ef322, zu_n (fun h9 => absurd h9.1 (by decide)), ef323, zu_n (fun h9 => zt_6_19 n h9.2), ef311, zu_n (fun h9 => absurd h9.1 (by decide)), ef312, zu_n (fun h9 => zt_6_18 n h9.2), ef300, zu_n (fun h9 => absurd h9.1 (by decide)), ef301, zu_n (fun h9 => zt_6_17 n h9.2), ef289, zu_n (fun h9 => absurd h9.1 (by decide)), ef290, zu_n (fun h9 => zt_6_16 n h9.2), ef277, zu_n (fun h9 => absurd h9.1 (by decide)), ef278, zu_n (fun h9 => zt_6_15 n h9.2), ef266, zu_n (fun h9 => absurd h9.1 (by decide)), ef267, zu_n (fun h9 => zt_6_14 n h9.2), ef255, zu_n (fun h9 => absurd h9.1 (by decide)), ef256, zu_n (fun h9 => zt_6_13 n h9.2), ef244, zu_n (fun h9 => absurd h9.1 (by decide)), ef245, zu_n (fun h9 => zt_6_12 n h9.2), ef232, zu_n (fun h9 => absurd h9.1 (by decide)), ef233, zu_n (fun h9 => zt_6_11 n h9.2), ef221, zu_n (fun h9 => absurd h9.1 (by decide)), ef222, zu_n (fun h9 => zt_6_10 n h9.2), ef210, zu_n (fun h9 => absurd h9.1 (by decide)), ef211, zu_n (fun h9 => zt_6_9 n h9.2), ef199, zu_n (fun h9 => absurd h9.1 (by decide)), ef200, zu_n (fun h9 => zt_6_8 n h9.2), ef187, zu_n (fun h9 => absurd h9.1 (by decide)), ef188, zu_n (fun h9 => zt_6_7 n h9.2), ef176, zu_n (fun h9 => absurd h9.1 (by decide)), ef177, zu_s, ev174]; rfl, by rw [ef322, zu_n (fun h9 => absurd h9.1 (by decide)), ef323, zu_n (fun h9 => zt_7_19 n h9.2), ef311, zu_n (fun h9 => absurd h9.1 (by decide)), ef312, zu_n (fun h9 => zt_7_18 n h9.2), ef300, zu_n (fun h9 => absurd h9.1 (by decide)), ef301, zu_n (fun h9 => zt_7_17 n h9.2), ef289, zu_n (fun h9 => absurd h9.1 (by decide)), ef290, zu_n (fun h9 => zt_7_16 n h9.2), ef277, zu_n (fun h9 => absurd h9.1 (by decide)), ef278, zu_n (fun h9 => zt_7_15 n h9.2), ef266, zu_n (fun h9 => absurd h9.1 (by decide)), ef267, zu_n (fun h9 => zt_7_14 n h9.2), ef255, zu_n (fun h9 => absurd h9.1 (by decide)), ef256, zu_n (fun h9 => zt_7_13 n h9.2), ef244, zu_n (fun h9 => absurd h9.1 (by decide)), ef245, zu_n (fun h9 => zt_7_12 n h9.2), ef232, zu_n (fun h9 => absurd h9.1 (by decide)), ef233, zu_n (fun h9 => zt_7_11 n h9.2), ef221, zu_n (fun h9 => absurd h9.1 (by decide)), ef222, zu_n (fun h9 => zt_7_10 n h9.2), ef210, zu_n (fun h9 => absurd h9.1 (by decide)), ef211, zu_n (fun h9 => zt_7_9 n h9.2), ef199, zu_n (fun h9 => absurd h9.1 (by decide)), ef200, zu_n (fun h9 => zt_7_8 n h9.2), ef187, zu_n (fun h9 => absurd h9.1 (by decide)), ef188, zu_s, ev185]; rfl, by rw [ef322, zu_n (fun h9 => absurd h9.1 (by decide)), ef323, zu_n (fun h9 => zt_8_19 n h9.2), ef311, zu_n (fun h9 => absurd h9.1 (by decide)), ef312, zu_n (fun h9 => zt_8_18 n h9.2), ef300, zu_n (fun h9 => absurd h9.1 (by decide)), ef301, zu_n (fun h9 => zt_8_17 n h9.2), ef289, zu_n (fun h9 => absurd h9.1 (by decide)), ef290, zu_n (fun h9 => zt_8_16 n h9.2), ef277, zu_n (fun h9 => absurd h9.1 (by decide)), ef278, zu_n (fun h9 => zt_8_15 n h9.2), ef266, zu_n (fun h9 => absurd h9.1 (by decide)), ef267, zu_n (fun h9 => zt_8_14 n h9.2), ef255, zu_n (fun h9 => absurd h9.1 (by decide)), ef256, zu_n (fun h9 => zt_8_13 n h9.2), ef244, zu_n (fun h9 => absurd h9.1 (by decide)), ef245, zu_n (fun h9 => zt_8_12 n h9.2), ef232, zu_n (fun h9 => absurd h9.1 (by decide)), ef233, zu_n (fun h9 => zt_8_11 n h9.2), ef221, zu_n (fun h9 => absurd h9.1 (by decide)), ef222, zu_n (fun h9 => zt_8_10 n h9.2), ef210, zu_n (fun h9 => absurd h9.1 (by decide)), ef211, zu_n (fun h9 => zt_8_9 n h9.2), ef199, zu_n (fun h9 => absurd h9.1 (by decide)), ef200, zu_s, ev197]; rfl, by rw [ef322, zu_n (fun h9 => absurd h9.1 (by decide)), ef323, zu_n (fun h9 => zt_9_19 n h9.2), ef311, zu_n (fun h9 => absurd h9.1 (by decide)), ef312, zu_n (fun h9 => zt_9_18 n h9.2), ef300, zu_n (fun h9 => absurd h9.1 (by decide)), ef301, zu_n (fun h9 => zt_9_17 n h9.2), ef289, zu_n (fun h9 => absurd h9.1 (by decide)), ef290, zu_n (fun h9 => zt_9_16 n h9.2), ef277, zu_n (fun h9 => absurd h9.1 (by decide)), ef278, zu_n (fun h9 => zt_9_15 n h9.2), ef266, zu_n (fun h9 => absurd h9.1 (by decide)), ef267, zu_n (fun h9 => zt_9_14 n h9.2), ef255, zu_n (fun h9 => absurd h9.1 (by decide)), ef256, zu_n (fun h9 => zt_9_13 n h9.2), ef244, zu_n (fun h9 => absurd h9.1 (by decide)), ef245, zu_n (fun h9 => zt_9_12 n h9.2), ef232, zu_n (fun h9 => absurd h9.1 (by decide)), ef233, zu_n (fun h9 => zt_9_11 n h9.2), ef221, zu_n (fun h9 => absurd h9.1 (by decide)), ef222, zu_n (fun h9 => zt_9_10 n h9.2), ef210, zu_n (fun h9 => absurd h9.1 (by decide)), ef211, zu_s, ev208]; rfl, by rw [ef322, zu_n (fun h9 => absurd h9.1 (by decide)), ef323, zu_n (fun h9 => zt_10_19 n h9.2), ef311, zu_n (fun h9 => absurd h9.1 (by decide)), ef312, zu_n (fun h9 => zt_10_18 n h9.2), ef300, zu_n (fun h9 => absurd h9.1 (by decide)), ef301, zu_n (fun h9 => zt_10_17 n h9.2), ef289, zu_n (fun h9 => absurd h9.1 (by decide)), ef290, zu_n (fun h9 => zt_10_16 n h9.2), ef277, zu_n (fun h9 => absurd h9.1 (by decide)), ef278, zu_n (fun h9 => zt_10_15 n h9.2), ef266, zu_n (fun h9 => absurd h9.1 (by decide)), ef267, zu_n (fun h9 => zt_10_14 n h9.2), ef255, zu_n (fun h9 => absurd h9.1 (by decide)), ef256, zu_n (fun h9 => zt_10_13 n h9.2), ef244, zu_n (fun h9 => absurd h9.1 (by decide)), ef245, zu_n (fun h9 => zt_10_12 n h9.2), ef232, zu_n (fun h9 => absurd h9.1 (by decide)), ef233, zu_n (fun h9 => zt_10_11 n h9.2), ef221, zu_n (fun h9 => absurd h9.1 (by decide)), ef222, zu_s, ev219]; rfl, by rw [ef322, zu_n (fun h9 => absurd h9.1 (by decide)), ef323, zu_n (fun h9 => zt_11_19 n h9.2), ef311, zu_n (fun h9 => absurd h9.1 (by decide)), ef312, zu_n (fun h9 => zt_11_18 n h9.2), ef300, zu_n (fun h9 => absurd h9.1 (by decide)), ef301, zu_n (fun h9 => zt_11_17 n h9.2), ef289, zu_n (fun h9 => absurd h9.1 (by decide)), ef290, zu_n (fun h9 => zt_11_16 n h9.2), ef277, zu_n (fun h9 => absurd h9.1 (by decide)), ef278, zu_n (fun h9 => zt_11_15 n h9.2), ef266, zu_n (fun h9 => absurd h9.1 (by decide)), ef267, zu_n (fun h9 => zt_11_14 n h9.2), ef255, zu_n (fun h9 => absurd h9.1 (by decide)), ef256, zu_n (fun h9 => zt_11_13 n h9.2), ef244, zu_n (fun h9 => absurd h9.1 (by decide)), ef245, zu_n (fun h9 => zt_11_12 n h9.2), ef232, zu_n (fun h9 => absurd h9.1 (by decide)), ef233, zu_s, ev230]; rfl, by rw [ef322, zu_n (fun h9 => absurd h9.1 (by decide)), ef323, zu_n (fun h9 => zt_12_19 n h9.2), ef311, zu_n (fun h9 => absurd h9.1 (by decide)), ef312, zu_n (fun h9 => zt_12_18 n h9.2), ef300, zu_n (fun h9 => absurd h9.1 (by decide)), ef301, zu_n (fun h9 => zt_12_17 n h9.2), ef289, zu_n (fun h9 => absurd h9.1 (by decide)), ef290, zu_n (fun h9 => zt_12_16 n h9.2), ef277, zu_n (fun h9 => absurd h9.1 (by decide)), ef278, zu_n (fun h9 => zt_12_15 n h9.2), ef266, zu_n (fun h9 => absurd h9.1 (by decide)), ef267, zu_n (fun h9 => zt_12_14 n h9.2), ef255, zu_n (fun h9 => absurd h9.1 (by decide)), ef256, zu_n (fun h9 => zt_12_13 n h9.2), ef244, zu_n (fun h9 => absurd h9.1 (by decide)), ef245, zu_s, ev242]; rfl, by rw [ef322, zu_n (fun h9 => absurd h9.1 (by decide)), ef323, zu_n (fun h9 => zt_13_19 n h9.2), ef311, zu_n (fun h9 => absurd h9.1 (by decide)), ef312, zu_n (fun h9 => zt_13_18 n h9.2), ef300, zu_n (fun h9 => absurd h9.1 (by decide)), ef301, zu_n (fun h9 => zt_13_17 n h9.2), ef289, zu_n (fun h9 => absurd h9.1 (by decide)), ef290, zu_n (fun h9 => zt_13_16 n h9.2), ef277, zu_n (fun h9 => absurd h9.1 (by decide)), ef278, zu_n (fun h9 => zt_13_15 n h9.2), ef266, zu_n (fun h9 => absurd h9.1 (by decide)), ef267, zu_n (fun h9 => zt_13_14 n h9.2), ef255, zu_n (fun h9 => absurd h9.1 (by decide)), ef256, zu_s, ev253]; rfl, by rw [ef322, zu_n (fun h9 => absurd h9.1 (by decide)), ef323, zu_n (fun h9 => zt_14_19 n h9.2), ef311, zu_n (fun h9 => absurd h9.1 (by decide)), ef312, zu_n (fun h9 => zt_14_18 n h9.2), ef300, zu_n (fun h9 => absurd h9.1 (by decide)), ef301, zu_n (fun h9 => zt_14_17 n h9.2), ef289, zu_n (fun h9 => absurd h9.1 (by decide)), ef290, zu_n (fun h9 => zt_14_16 n h9.2), ef277, zu_n (fun h9 => absurd h9.1 (by decide)), ef278, zu_n (fun h9 => zt_14_15 n h9.2), ef266, zu_n (fun h9 => absurd h9.1 (by decide)), ef267, zu_s, ev264]; rfl, by rw [ef322, zu_n (fun h9 => absurd h9.1 (by decide)), ef323, zu_n (fun h9 => zt_15_19 n h9.2), ef311, zu_n (fun h9 => absurd h9.1 (by decide)), ef312, zu_n (fun h9 => zt_15_18 n h9.2), ef300, zu_n (fun h9 => absurd h9.1 (by decide)), ef301, zu_n (fun h9 => zt_15_17 n h9.2), ef289, zu_n (fun h9 => absurd h9.1 (by decide)), ef290, zu_n (fun h9 => zt_15_16 n h9.2), ef277, zu_n (fun h9 => absurd h9.1 (by decide)), ef278, zu_s, ev275]; rfl, by rw [ef322, zu_n (fun h9 => absurd h9.1 (by decide)), ef323, zu_n (fun h9 => zt_16_19 n h9.2), ef311, zu_n (fun h9 => absurd h9.1 (by decide)), ef312, zu_n (fun h9 => zt_16_18 n h9.2), ef300, zu_n (fun h9 => absurd h9.1 (by decide)), ef301, zu_n (fun h9 => zt_16_17 n h9.2), ef289, zu_n (fun h9 => absurd h9.1 (by decide)), ef290, zu_s, ev287]; rfl, by rw [ef322, zu_n (fun h9 => absurd h9.1 (by decide)), ef323, zu_n (fun h9 => zt_17_19 n h9.2), ef311, zu_n (fun h9 => absurd h9.1 (by decide)), ef312, zu_n (fun h9 => zt_17_18 n h9.2), ef300, zu_n (fun h9 => absurd h9.1 (by decide)), ef301, zu_s, ev298]; rfl, by rw [ef322, zu_n (fun h9 => absurd h9.1 (by decide)), ef323, zu_n (fun h9 => zt_18_19 n h9.2), ef311, zu_n (fun h9 => absurd h9.1 (by decide)), ef312, zu_s, ev309]; rfl, by rw [ef322, zu_n (fun h9 => absurd h9.1 (by decide)), ef323, zu_s, ev320]; rfl⟩, fun h => absurd h (by omega)⟩, zEnd1 hH ht9 hW9⟩, hS.F ht9⟩) hS.2.2 dX12_feed_141
  · have zc105 := c105
    replace zc105 := zc_nle (nI_toInt (by omega)) (nI_toInt (by omega)) zc105
    refine lv_iconst (v := (-1)) hx hb dX12_feed_18 (by decide) ?_
    refine W.widen (k := 0) (n := 0) (by decide) (by decide) ?_
    exact W.iret (v := (-1)) hx hb hr (fun t9 ht9 hW9 => ⟨⟨(-1), f101, rfl, ⟨⟨Or.inr ⟨by omega, rfl, q102⟩, fun a b h => by rw [ef101, zu_n (by omega)]⟩, fun h => absurd h (by omega), fun _ b => by rw [ef101, zu_n (by omega)]⟩, zEnd1 hH ht9 hW9⟩, hS.F ht9⟩) hS.2.2 dX12_feed_19
set_option maxHeartbeats 4000000 in
set_option maxRecDepth 100000 in
/-- says -/
theorem m_saysX (l : Launch) (hl0 : l.stackTraces = false) (D : va_G) (A : Nat → Prop) (sad : Nat → Nat) (τ : zTy) (fi : zFi) (fr : zFr) (ol : Int64) (x : Int32) (hF : zFix τ fr) : Met l yX12_says wsX12_says ({ frames := 1, cells := 0, slots := 0, locals := 22 }) (va_Pc [.ref (τ.1 30), .int x] (zQc D A sad τ fi fr ol)) (va_Qi (fun (r : Int32) (u : zFi) => (∃ k, k < 4 ∧ x = nI k ∧ r = fi 44 k ∧ u = zu fi 30 0 (nI 0)) ∨ (¬ (0 ≤ x.toInt ∧ x.toInt ≤ 3) ∧ r = nI 0 ∧ u = zu fi 30 0 (nI 1))) (fun (u : zFi) (t : State) => zH D A τ u fr ol t t.heap) A) 0 0 A := by
  refine Met.ofW (cc := cX12_says) (maxL := 2) (ret := (some .int)) (by decide) rfl ?_
  intro p9 e9 s m args below meth c9 s₁ B hml hv
  obtain ⟨rfl, hz, hH, hA⟩ := hv
  have hx := B.exec
  have hb := B.bytes
  have hr := B.returns
  have hts := atoms_spec (ws := wsX12_says) B.pre
  have hown : s.vm.findClass RX12 = some m.cls := findClass_of_methodNamed B.named
  have hlocks := B.notSynchronized
  have hS : va_S A s.heap s.heap [] := va_S.rf
  have hl := lv_entry ([.ref (τ.1 30), .int x]) (n := 2) (Nat.le_of_ble_eq_true rfl)
  rw [lg_entry_eq]
  generalize (lg_sl ([.ref (τ.1 30), .int x]) ++ List.replicate (2 - (lg_sl ([.ref (τ.1 30), .int x])).length) Slot.unset).toArray = ls at hl ⊢
  have hl : lv_has ls 2 [(0, .ref (τ.1 30)), (1, .int x)] := hl
  have hw0 := hts (.fieldLink RX12 165 "PostHouseModel" "thrown" "I") (by decide +kernel)
  have hiX12 : ∀ w ∈ u_ws RX12 TX12 71, w ∈ wsX12_says := fun _ h => List.mem_cons_of_mem _ (List.mem_append_right _ h)
  have hw2 := hts (.fieldLink RX12 49 "PostHouseModel" "rule" "[I") (by decide +kernel)
  refine lv_aload_n hx hb dX12_says_0 rfl (lv_at hl 0 rfl) ?_
  refine lv_iload_n hx hb dX12_says_1 rfl (lv_at hl 1 rfl) ?_
  refine lv_iconst (v := nI 0) hx hb dX12_says_2 (by decide) ?_
  refine lv_iconst (v := nI 3) hx hb dX12_says_3 (by decide) ?_
  refine va_calli (va_runS (As := [.int x, .int (nI 0), .int (nI 3)]) (rest := [.ref (τ.1 30)]) ⟨hx, hb, hml, hown, hts⟩ (m_isIn l hl0 D A sad τ fi fr ol x (nI 0) (nI 3)) (cwS 3 hts gX12_says_X12_isIn rfl rfl rfl (by decide +kernel) ⟨Nat.le_of_ble_eq_true rfl, Nat.le_of_ble_eq_true rfl⟩) ⟨zQc_bl, zQc_at hz hS hA hH⟩ rfl rfl hl.1 rfl (lv_room (Nat.le_of_ble_eq_true rfl)) dX12_says_4 ⟨Nat.le_of_ble_eq_true rfl, Nat.le_of_ble_eq_true rfl⟩) hS (fun q _ h => h) (fun q h => h) (fun r101 u9 t9 H1 locs ht9 hvm9 hw hB hz1 hk1 hS => ?_)
  have hH := zMv ht9 hvm9 hB
  generalize H1 = H at hH hS ⊢
  rcases hw with ⟨rfl, hy102⟩ | ⟨rfl, hn103⟩
  · skip
    replace hy102 := zWi1 (rfl) (nI_toInt (by omega)) (nI_toInt (by omega)) hy102
    refine lv_if_ne (tgt := 14) hx hb dX12_says_7 (by decide) (fun c104 => ?_) (fun c104 => absurd c104 (by decide))
    refine lv_iconst (v := nI 0) hx hb dX12_says_14 (by decide) ?_
    refine zPutI (D := D) (ci := 12) (ty := .int) (C := RX12) (T := TX12) (N := 71) hx hb hts hiX12 tyX12 tyX12_ok nmX12 hown hH hS (zk_30 hF) rfl 0 (by decide) rfl hw0 (fun _ h9 => h9) rfl (by decide +kernel) rfl rfl dX12_says_15 (fun H locs hH hS => ?_)
    obtain ⟨f105, ef105⟩ : ∃ f9 : zFi, f9 = zu fi 30 0 (nI 0) := ⟨_, rfl⟩
    rw [← ef105] at hH
    have q106 : f105 30 0 = nI 0 := by rw [ef105]; exact zu_s
    refine lv_aload_n hx hb dX12_says_18 rfl (lv_at hl 0 rfl) ?_
    refine zGetI (D := D) (ci := 12) (C := RX12) (T := TX12) (N := 71) hx hb hts hiX12 hown hH (zk_30 hF) rfl 0 (by decide) rfl hw0 (fun _ h9 => h9) dX12_says_19 q106 ?_
    refine lv_if_le (tgt := 29) hx hb dX12_says_22 (by decide) (fun c107 => ?_) (fun c107 => absurd (by decide) c107)
    refine lv_aload_n hx hb dX12_says_29 rfl (lv_at hl 0 rfl) ?_
    refine zGetR (D := D) (ci := 12) (C := RX12) (T := TX12) (N := 71) hx hb hts hiX12 hown hH (zk_30 hF) rfl 17 (by decide) rfl hw2 (fun _ h9 => h9) dX12_says_30 (zr_30_17 hF) ?_
    refine lv_iload_n hx hb dX12_says_33 rfl (lv_at hl 1 rfl) ?_
    obtain ⟨k, hk, rfl⟩ : ∃ k : Nat, k < 4 ∧ x = nI k := zNatB (by omega) (by omega)
    refine zIaldN (D := D) hx hb hH (zk_44 hF) (zn_44 hF) (by omega) (by omega) rfl dX12_says_34 ?_
    refine W.widen (k := 0) (n := 0) (by decide) (by decide) ?_
    exact W.iret (v := f105 44 k) hx hb hr (fun t9 ht9 hW9 => ⟨⟨f105 44 k, f105, rfl, Or.inl ⟨k, hk, rfl, by rw [ef105, zu_n (by omega)], by rw [ef105]⟩, zEnd1 hH ht9 hW9⟩, hS.F ht9⟩) hS.2.2 dX12_says_35
  · skip
    replace hn103 := zWi0 (rfl) (nI_toInt (by omega)) (nI_toInt (by omega)) hn103
    refine lv_if_ne (tgt := 14) hx hb dX12_says_7 (by decide) (fun c108 => absurd (by decide) c108) (fun c108 => ?_)
    refine lv_iconst (v := nI 1) hx hb dX12_says_10 (by decide) ?_
    refine lv_goto (tgt := 15) hx hb dX12_says_11 (by decide) ?_
    refine zPutI (D := D) (ci := 12) (ty := .int) (C := RX12) (T := TX12) (N := 71) hx hb hts hiX12 tyX12 tyX12_ok nmX12 hown hH hS (zk_30 hF) rfl 0 (by decide) rfl hw0 (fun _ h9 => h9) rfl (by decide +kernel) rfl rfl dX12_says_15 (fun H locs hH hS => ?_)
    obtain ⟨f109, ef109⟩ : ∃ f9 : zFi, f9 = zu fi 30 0 (nI 1) := ⟨_, rfl⟩
    rw [← ef109] at hH
    have q110 : f109 30 0 = nI 1 := by rw [ef109]; exact zu_s
    refine lv_aload_n hx hb dX12_says_18 rfl (lv_at hl 0 rfl) ?_
    refine zGetI (D := D) (ci := 12) (C := RX12) (T := TX12) (N := 71) hx hb hts hiX12 hown hH (zk_30 hF) rfl 0 (by decide) rfl hw0 (fun _ h9 => h9) dX12_says_19 q110 ?_
    refine lv_if_le (tgt := 29) hx hb dX12_says_22 (by decide) (fun c111 => absurd c111 (by decide)) (fun c111 => ?_)
    refine lv_iconst (v := nI 0) hx hb dX12_says_25 (by decide) ?_
    refine lv_goto (tgt := 35) hx hb dX12_says_26 (by decide) ?_
    refine W.widen (k := 0) (n := 0) (by decide) (by decide) ?_
    exact W.iret (v := nI 0) hx hb hr (fun t9 ht9 hW9 => ⟨⟨nI 0, f109, rfl, Or.inr ⟨by have h9 := hn103; omega, rfl, by rw [ef109]⟩, zEnd1 hH ht9 hW9⟩, hS.F ht9⟩) hS.2.2 dX12_says_35
set_option maxHeartbeats 4000000 in
set_option maxRecDepth 100000 in
/-- instead -/
theorem m_insteadX (l : Launch) (hl0 : l.stackTraces = false) (D : va_G) (A : Nat → Prop) (sad : Nat → Nat) (τ : zTy) (fi : zFi) (fr : zFr) (ol : Int64) (x : Int32) (hF : zFix τ fr) (n : Nat) (hMt : zMt fi n) : Met l yX12_instead wsX12_instead ({ frames := 1, cells := 0, slots := 0, locals := 21 }) (va_Pc [.ref (τ.1 30), .int x] (zQc D A sad τ fi fr ol)) (va_Qi (fun (r : Int32) (u : zFi) => (∃ t, t < n ∧ x = nI t ∧ r = fi 40 t ∧ u = zu fi 30 0 (nI 0)) ∨ (¬ (0 ≤ x.toInt ∧ x.toInt < (n : Int)) ∧ r = nI 0 ∧ u = zu fi 30 0 (nI 1))) (fun (u : zFi) (t : State) => zH D A τ u fr ol t t.heap) A) 0 0 A := by
  refine Met.ofW (cc := cX12_instead) (maxL := 2) (ret := (some .int)) (by decide) rfl ?_
  intro p9 e9 s m args below meth c9 s₁ B hml hv
  obtain ⟨rfl, hz, hH, hA⟩ := hv
  have hx := B.exec
  have hb := B.bytes
  have hr := B.returns
  have hts := atoms_spec (ws := wsX12_instead) B.pre
  have hown : s.vm.findClass RX12 = some m.cls := findClass_of_methodNamed B.named
  have hlocks := B.notSynchronized
  have hS : va_S A s.heap s.heap [] := va_S.rf
  have hl := lv_entry ([.ref (τ.1 30), .int x]) (n := 2) (Nat.le_of_ble_eq_true rfl)
  rw [lg_entry_eq]
  generalize (lg_sl ([.ref (τ.1 30), .int x]) ++ List.replicate (2 - (lg_sl ([.ref (τ.1 30), .int x])).length) Slot.unset).toArray = ls at hl ⊢
  have hl : lv_has ls 2 [(0, .ref (τ.1 30)), (1, .int x)] := hl
  have hm30 := hMt.1
  have hw0 := hts (.fieldLink RX12 165 "PostHouseModel" "thrown" "I") (by decide +kernel)
  have hiX12 : ∀ w ∈ u_ws RX12 TX12 71, w ∈ wsX12_instead := fun _ h => List.mem_cons_of_mem _ (List.mem_append_right _ h)
  have hw2 := hts (.fieldLink RX12 37 "PostHouseModel" "other" "[I") (by decide +kernel)
  refine lv_aload_n hx hb dX12_instead_0 rfl (lv_at hl 0 rfl) ?_
  refine lv_aload_n hx hb dX12_instead_1 rfl (lv_at hl 0 rfl) ?_
  refine lv_iload_n hx hb dX12_instead_2 rfl (lv_at hl 1 rfl) ?_
  refine va_calli (va_runV (As := [.int x]) (rest := [.ref (τ.1 30)]) ⟨hx, hb, hml, hown, hts⟩ (m_isThing l hl0 D A sad τ fi fr ol x n hF hMt.2.1 (by omega)) (cwV 1 hts gX12_instead_X12_isThing rfl rfl rfl (by decide +kernel) ⟨Nat.le_of_ble_eq_true rfl, Nat.le_of_ble_eq_true rfl⟩) ⟨zQc_bl, zRecv hH (zk_30 hF) rfl, zQc_at hz hS hA hH⟩ rfl rfl hl.1 rfl (lv_room (Nat.le_of_ble_eq_true rfl)) dX12_instead_3 ⟨Nat.le_of_ble_eq_true rfl, Nat.le_of_ble_eq_true rfl⟩) hS (fun q _ h => h) (fun q h => h) (fun r101 u9 t9 H1 locs ht9 hvm9 hw hB hz1 hk1 hS => ?_)
  have hH := zMv ht9 hvm9 hB
  generalize H1 = H at hH hS ⊢
  rcases hw with ⟨t, ht, rfl, rfl⟩ | ⟨hno, rfl⟩
  · skip
    refine lv_if_ne (tgt := 13) hx hb dX12_instead_6 (by decide) (fun c102 => ?_) (fun c102 => absurd c102 (by decide))
    refine lv_iconst (v := nI 0) hx hb dX12_instead_13 (by decide) ?_
    refine zPutI (D := D) (ci := 12) (ty := .int) (C := RX12) (T := TX12) (N := 71) hx hb hts hiX12 tyX12 tyX12_ok nmX12 hown hH hS (zk_30 hF) rfl 0 (by decide) rfl hw0 (fun _ h9 => h9) rfl (by decide +kernel) rfl rfl dX12_instead_14 (fun H locs hH hS => ?_)
    obtain ⟨f103, ef103⟩ : ∃ f9 : zFi, f9 = zu fi 30 0 (nI 0) := ⟨_, rfl⟩
    rw [← ef103] at hH
    have q104 : f103 30 2 = nI n := by rw [ef103, zu_n (fun h9 => absurd h9.2 (by decide))]; exact hMt.2.1
    have q105 : f103 30 0 = nI 0 := by rw [ef103]; exact zu_s
    refine lv_aload_n hx hb dX12_instead_17 rfl (lv_at hl 0 rfl) ?_
    refine zGetI (D := D) (ci := 12) (C := RX12) (T := TX12) (N := 71) hx hb hts hiX12 hown hH (zk_30 hF) rfl 0 (by decide) rfl hw0 (fun _ h9 => h9) dX12_instead_18 q105 ?_
    refine lv_if_le (tgt := 28) hx hb dX12_instead_21 (by decide) (fun c106 => ?_) (fun c106 => absurd (by decide) c106)
    refine lv_aload_n hx hb dX12_instead_28 rfl (lv_at hl 0 rfl) ?_
    refine zGetR (D := D) (ci := 12) (C := RX12) (T := TX12) (N := 71) hx hb hts hiX12 hown hH (zk_30 hF) rfl 12 (by decide) rfl hw2 (fun _ h9 => h9) dX12_instead_29 (zr_30_12 hF) ?_
    refine lv_iload_n hx hb dX12_instead_32 rfl (lv_at hl 1 rfl) ?_
    refine zIaldN (D := D) hx hb hH (zk_40 hF) (zn_40 hF) (by omega) (by omega) rfl dX12_instead_33 ?_
    refine W.widen (k := 0) (n := 0) (by decide) (by decide) ?_
    exact W.iret (v := f103 40 t) hx hb hr (fun t9 ht9 hW9 => ⟨⟨f103 40 t, f103, rfl, Or.inl ⟨t, ht, rfl, by rw [ef103, zu_n (by omega)], by rw [ef103]⟩, zEnd1 hH ht9 hW9⟩, hS.F ht9⟩) hS.2.2 dX12_instead_34
  · skip
    refine lv_if_ne (tgt := 13) hx hb dX12_instead_6 (by decide) (fun c107 => absurd (by decide) c107) (fun c107 => ?_)
    refine lv_iconst (v := nI 1) hx hb dX12_instead_9 (by decide) ?_
    refine lv_goto (tgt := 14) hx hb dX12_instead_10 (by decide) ?_
    refine zPutI (D := D) (ci := 12) (ty := .int) (C := RX12) (T := TX12) (N := 71) hx hb hts hiX12 tyX12 tyX12_ok nmX12 hown hH hS (zk_30 hF) rfl 0 (by decide) rfl hw0 (fun _ h9 => h9) rfl (by decide +kernel) rfl rfl dX12_instead_14 (fun H locs hH hS => ?_)
    obtain ⟨f108, ef108⟩ : ∃ f9 : zFi, f9 = zu fi 30 0 (nI 1) := ⟨_, rfl⟩
    rw [← ef108] at hH
    have q109 : f108 30 2 = nI n := by rw [ef108, zu_n (fun h9 => absurd h9.2 (by decide))]; exact hMt.2.1
    have q110 : f108 30 0 = nI 1 := by rw [ef108]; exact zu_s
    refine lv_aload_n hx hb dX12_instead_17 rfl (lv_at hl 0 rfl) ?_
    refine zGetI (D := D) (ci := 12) (C := RX12) (T := TX12) (N := 71) hx hb hts hiX12 hown hH (zk_30 hF) rfl 0 (by decide) rfl hw0 (fun _ h9 => h9) dX12_instead_18 q110 ?_
    refine lv_if_le (tgt := 28) hx hb dX12_instead_21 (by decide) (fun c111 => absurd c111 (by decide)) (fun c111 => ?_)
    refine lv_iconst (v := nI 0) hx hb dX12_instead_24 (by decide) ?_
    refine lv_goto (tgt := 34) hx hb dX12_instead_25 (by decide) ?_
    refine W.widen (k := 0) (n := 0) (by decide) (by decide) ?_
    exact W.iret (v := nI 0) hx hb hr (fun t9 ht9 hW9 => ⟨⟨nI 0, f108, rfl, Or.inr ⟨hno, rfl, by rw [ef108]⟩, zEnd1 hH ht9 hW9⟩, hS.F ht9⟩) hS.2.2 dX12_instead_34
set_option maxHeartbeats 4000000 in
set_option maxRecDepth 100000 in
/-- fault -/
theorem m_faultX (l : Launch) (hl0 : l.stackTraces = false) (D : va_G) (A : Nat → Prop) (sad : Nat → Nat) (τ : zTy) (fi : zFi) (fr : zFr) (ol : Int64) (hF : zFix τ fr) : Met l yX12_fault wsX12_fault ({ frames := 0, cells := 0, slots := 0, locals := 0 }) (va_Pc [.ref (τ.1 30)] (zQc D A sad τ fi fr ol)) (va_Qi (fun (r : Int32) (u : zFi) => r = fi 30 24 ∧ u = zu fi 30 0 (nI 0)) (fun (u : zFi) (t : State) => zH D A τ u fr ol t t.heap) A) 0 0 A := by
  refine Met.ofW (cc := cX12_fault) (maxL := 1) (ret := (some .int)) (by decide) rfl ?_
  intro p9 e9 s m args below meth c9 s₁ B hml hv
  obtain ⟨rfl, hz, hH, hA⟩ := hv
  have hx := B.exec
  have hb := B.bytes
  have hr := B.returns
  have hts := atoms_spec (ws := wsX12_fault) B.pre
  have hown : s.vm.findClass RX12 = some m.cls := findClass_of_methodNamed B.named
  have hlocks := B.notSynchronized
  have hS : va_S A s.heap s.heap [] := va_S.rf
  have hl := lv_entry ([.ref (τ.1 30)]) (n := 1) (Nat.le_of_ble_eq_true rfl)
  rw [lg_entry_eq]
  generalize (lg_sl ([.ref (τ.1 30)]) ++ List.replicate (1 - (lg_sl ([.ref (τ.1 30)])).length) Slot.unset).toArray = ls at hl ⊢
  have hl : lv_has ls 1 [(0, .ref (τ.1 30))] := hl
  have hw0 := hts (.fieldLink RX12 165 "PostHouseModel" "thrown" "I") (by decide +kernel)
  have hiX12 : ∀ w ∈ u_ws RX12 TX12 71, w ∈ wsX12_fault := fun _ h => List.mem_cons_of_mem _ (List.mem_append_right _ h)
  have hw2 := hts (.fieldLink RX12 61 "PostHouseModel" "fault" "I") (by decide +kernel)
  refine lv_aload_n hx hb dX12_fault_0 rfl (lv_at hl 0 rfl) ?_
  refine lv_iconst (v := nI 0) hx hb dX12_fault_1 (by decide) ?_
  refine zPutI (D := D) (ci := 12) (ty := .int) (C := RX12) (T := TX12) (N := 71) hx hb hts hiX12 tyX12 tyX12_ok nmX12 hown hH hS (zk_30 hF) rfl 0 (by decide) rfl hw0 (fun _ h9 => h9) rfl (by decide +kernel) rfl rfl dX12_fault_2 (fun H locs hH hS => ?_)
  obtain ⟨f101, ef101⟩ : ∃ f9 : zFi, f9 = zu fi 30 0 (nI 0) := ⟨_, rfl⟩
  rw [← ef101] at hH
  have q102 : f101 30 0 = nI 0 := by rw [ef101]; exact zu_s
  refine lv_aload_n hx hb dX12_fault_5 rfl (lv_at hl 0 rfl) ?_
  refine zGetI (D := D) (ci := 12) (C := RX12) (T := TX12) (N := 71) hx hb hts hiX12 hown hH (zk_30 hF) rfl 24 (by decide) rfl hw2 (fun _ h9 => h9) dX12_fault_6 rfl ?_
  refine W.widen (k := 0) (n := 0) (by decide) (by decide) ?_
  exact W.iret (v := f101 30 24) hx hb hr (fun t9 ht9 hW9 => ⟨⟨f101 30 24, f101, rfl, ⟨by rw [ef101, zu_n (by omega)], ef101⟩, zEnd1 hH ht9 hW9⟩, hS.F ht9⟩) hS.2.2 dX12_fault_9
