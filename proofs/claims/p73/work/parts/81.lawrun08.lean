/-! Roads of the law. -/
theorem lp_l72_56 : lp_L 72 (lgL 120 1 (lgL 120 2 (lgL 120 4 (lgR 120 0 (lgA lp_G3.2.2 (lgR 118 3 (lgR 118 2 (lgL 118 4 (lgR 118 0 (lp_S 72)))))))))) = true := by
  rw [← zlp_L_eq, ← zlp_S_eq]
  decide +kernel
theorem lp_l72_57 : lp_L 72 (lgR 120 1 (lgL 120 2 (lgL 120 4 (lgR 120 0 (lgA lp_G3.2.2 (lgR 118 3 (lgR 118 2 (lgL 118 4 (lgR 118 0 (lp_S 72)))))))))) = true := by
  rw [← zlp_L_eq, ← zlp_S_eq]
  decide +kernel
theorem lp_l72_58 : lp_L 72 (lgL 120 3 (lgR 120 2 (lgL 120 4 (lgR 120 0 (lgA lp_G3.2.2 (lgR 118 3 (lgR 118 2 (lgL 118 4 (lgR 118 0 (lp_S 72)))))))))) = true := by
  rw [← zlp_L_eq, ← zlp_S_eq]
  decide +kernel
theorem lp_l72_59 : lp_L 72 (lgR 120 3 (lgR 120 2 (lgL 120 4 (lgR 120 0 (lgA lp_G3.2.2 (lgR 118 3 (lgR 118 2 (lgL 118 4 (lgR 118 0 (lp_S 72)))))))))) = true := by
  rw [← zlp_L_eq, ← zlp_S_eq]
  decide +kernel
theorem lp_l72_60 : lp_L 72 (lgR 120 4 (lgR 120 0 (lgA lp_G3.2.2 (lgR 118 3 (lgR 118 2 (lgL 118 4 (lgR 118 0 (lp_S 72)))))))) = true := by
  rw [← zlp_L_eq, ← zlp_S_eq]
  decide +kernel
theorem lp_l72_61 : lp_L 72 (lgR 118 4 (lgR 118 0 (lp_S 72))) = true := by
  rw [← zlp_L_eq, ← zlp_S_eq]
  decide +kernel
theorem lp_t72 : lp_I 72 := by
  unfold lp_I
  exact lgT_cut 118 0 (lgT_leaf lp_l72_0) (lgT_cut 118 4 (lgT_cut 118 2 (lgT_cut 118 1 (lgT_grp lp_G0 lp_m0 (lgT_cut 120 0 (lgT_leaf lp_l72_1) (lgT_cut 120 4 (lgT_cut 120 2 (lgT_cut 120 1 (lgT_leaf lp_l72_2) (lgT_grp lp_G1 lp_m1 (lgT_leaf lp_l72_3) (lgT_leaf lp_l72_4))) (lgT_cut 120 3 (lgT_grp lp_G2 lp_m2 (lgT_leaf lp_l72_5) (lgT_leaf lp_l72_6)) (lgT_grp lp_G3 lp_m3 (lgT_leaf lp_l72_7) (lgT_leaf lp_l72_8)))) (lgT_leaf lp_l72_9))) (lgT_cut 120 0 (lgT_leaf lp_l72_10) (lgT_cut 120 4 (lgT_cut 120 2 (lgT_cut 120 1 (lgT_leaf lp_l72_11) (lgT_leaf lp_l72_12)) (lgT_cut 120 3 (lgT_leaf lp_l72_13) (lgT_leaf lp_l72_14))) (lgT_leaf lp_l72_15)))) (lgT_grp lp_G1 lp_m1 (lgT_cut 120 0 (lgT_leaf lp_l72_16) (lgT_cut 120 4 (lgT_cut 120 2 (lgT_cut 120 1 (lgT_grp lp_G0 lp_m0 (lgT_leaf lp_l72_17) (lgT_leaf lp_l72_18)) (lgT_leaf lp_l72_19)) (lgT_cut 120 3 (lgT_grp lp_G2 lp_m2 (lgT_leaf lp_l72_20) (lgT_leaf lp_l72_21)) (lgT_grp lp_G3 lp_m3 (lgT_leaf lp_l72_22) (lgT_leaf lp_l72_23)))) (lgT_leaf lp_l72_24))) (lgT_cut 120 0 (lgT_leaf lp_l72_25) (lgT_cut 120 4 (lgT_cut 120 2 (lgT_cut 120 1 (lgT_leaf lp_l72_26) (lgT_leaf lp_l72_27)) (lgT_cut 120 3 (lgT_leaf lp_l72_28) (lgT_leaf lp_l72_29))) (lgT_leaf lp_l72_30))))) (lgT_cut 118 3 (lgT_grp lp_G2 lp_m2 (lgT_cut 120 0 (lgT_leaf lp_l72_31) (lgT_cut 120 4 (lgT_cut 120 2 (lgT_cut 120 1 (lgT_grp lp_G0 lp_m0 (lgT_leaf lp_l72_32) (lgT_leaf lp_l72_33)) (lgT_grp lp_G1 lp_m1 (lgT_leaf lp_l72_34) (lgT_leaf lp_l72_35))) (lgT_cut 120 3 (lgT_leaf lp_l72_36) (lgT_grp lp_G3 lp_m3 (lgT_leaf lp_l72_37) (lgT_leaf lp_l72_38)))) (lgT_leaf lp_l72_39))) (lgT_cut 120 0 (lgT_leaf lp_l72_40) (lgT_cut 120 4 (lgT_cut 120 2 (lgT_cut 120 1 (lgT_leaf lp_l72_41) (lgT_leaf lp_l72_42)) (lgT_cut 120 3 (lgT_leaf lp_l72_43) (lgT_leaf lp_l72_44))) (lgT_leaf lp_l72_45)))) (lgT_grp lp_G3 lp_m3 (lgT_cut 120 0 (lgT_leaf lp_l72_46) (lgT_cut 120 4 (lgT_cut 120 2 (lgT_cut 120 1 (lgT_grp lp_G0 lp_m0 (lgT_leaf lp_l72_47) (lgT_leaf lp_l72_48)) (lgT_grp lp_G1 lp_m1 (lgT_leaf lp_l72_49) (lgT_leaf lp_l72_50))) (lgT_cut 120 3 (lgT_grp lp_G2 lp_m2 (lgT_leaf lp_l72_51) (lgT_leaf lp_l72_52)) (lgT_leaf lp_l72_53))) (lgT_leaf lp_l72_54))) (lgT_cut 120 0 (lgT_leaf lp_l72_55) (lgT_cut 120 4 (lgT_cut 120 2 (lgT_cut 120 1 (lgT_leaf lp_l72_56) (lgT_leaf lp_l72_57)) (lgT_cut 120 3 (lgT_leaf lp_l72_58) (lgT_leaf lp_l72_59))) (lgT_leaf lp_l72_60)))))) (lgT_leaf lp_l72_61))
theorem lp_all (k : Nat) (hk : k < 73) : lp_I k := by
  by_cases h0 : 0 ≤ k ∧ k < 0 + 4
  · exact x_shift (P := lp_I) (a := 0) (n := 4) (fun i hi => lgT_leaf (lp_g0 i hi)) h0.1 h0.2
  by_cases h4 : 4 ≤ k ∧ k < 4 + 4
  · exact x_shift (P := lp_I) (a := 4) (n := 4) (fun i hi => lgT_leaf (lp_g4 i hi)) h4.1 h4.2
  by_cases h8 : 8 ≤ k ∧ k < 8 + 4
  · exact x_shift (P := lp_I) (a := 8) (n := 4) (fun i hi => lgT_leaf (lp_g8 i hi)) h8.1 h8.2
  by_cases h12 : 12 ≤ k ∧ k < 12 + 4
  · exact x_shift (P := lp_I) (a := 12) (n := 4) (fun i hi => lgT_leaf (lp_g12 i hi)) h12.1 h12.2
  by_cases h16 : 16 ≤ k ∧ k < 16 + 4
  · exact x_shift (P := lp_I) (a := 16) (n := 4) (fun i hi => lgT_leaf (lp_g16 i hi)) h16.1 h16.2
  by_cases h20 : 20 ≤ k ∧ k < 20 + 4
  · exact x_shift (P := lp_I) (a := 20) (n := 4) (fun i hi => lgT_leaf (lp_g20 i hi)) h20.1 h20.2
  by_cases h24 : 24 ≤ k ∧ k < 24 + 4
  · exact x_shift (P := lp_I) (a := 24) (n := 4) (fun i hi => lgT_leaf (lp_g24 i hi)) h24.1 h24.2
  by_cases h28 : 28 ≤ k ∧ k < 28 + 4
  · exact x_shift (P := lp_I) (a := 28) (n := 4) (fun i hi => lgT_leaf (lp_g28 i hi)) h28.1 h28.2
  by_cases h32 : 32 ≤ k ∧ k < 32 + 4
  · exact x_shift (P := lp_I) (a := 32) (n := 4) (fun i hi => lgT_leaf (lp_g32 i hi)) h32.1 h32.2
  by_cases h36 : 36 ≤ k ∧ k < 36 + 4
  · exact x_shift (P := lp_I) (a := 36) (n := 4) (fun i hi => lgT_leaf (lp_g36 i hi)) h36.1 h36.2
  by_cases h40 : 40 ≤ k ∧ k < 40 + 4
  · exact x_shift (P := lp_I) (a := 40) (n := 4) (fun i hi => lgT_leaf (lp_g40 i hi)) h40.1 h40.2
  by_cases h44 : 44 ≤ k ∧ k < 44 + 4
  · exact x_shift (P := lp_I) (a := 44) (n := 4) (fun i hi => lgT_leaf (lp_g44 i hi)) h44.1 h44.2
  by_cases h48 : 48 ≤ k ∧ k < 48 + 4
  · exact x_shift (P := lp_I) (a := 48) (n := 4) (fun i hi => lgT_leaf (lp_g48 i hi)) h48.1 h48.2
  by_cases h52 : 52 ≤ k ∧ k < 52 + 4
  · exact x_shift (P := lp_I) (a := 52) (n := 4) (fun i hi => lgT_leaf (lp_g52 i hi)) h52.1 h52.2
  by_cases h56 : 56 ≤ k ∧ k < 56 + 4
  · exact x_shift (P := lp_I) (a := 56) (n := 4) (fun i hi => lgT_leaf (lp_g56 i hi)) h56.1 h56.2
  by_cases h60 : 60 ≤ k ∧ k < 60 + 4
  · exact x_shift (P := lp_I) (a := 60) (n := 4) (fun i hi => lgT_leaf (lp_g60 i hi)) h60.1 h60.2
  by_cases h64 : 64 ≤ k ∧ k < 64 + 2
  · exact x_shift (P := lp_I) (a := 64) (n := 2) (fun i hi => lgT_leaf (lp_g64 i hi)) h64.1 h64.2
  by_cases h66 : 66 ≤ k ∧ k < 66 + 1
  · exact x_shift (P := lp_I) (a := 66) (n := 1) (fun i hi => lgT_leaf (lp_g66 i hi)) h66.1 h66.2
  by_cases h67 : 67 ≤ k ∧ k < 67 + 1
  · exact x_shift (P := lp_I) (a := 67) (n := 1) (fun i hi => lgT_leaf (lp_g67 i hi)) h67.1 h67.2
  by_cases h68 : 68 ≤ k ∧ k < 68 + 1
  · have e : k = 68 := by omega
    subst e
    exact lp_t68
  by_cases h69 : 69 ≤ k ∧ k < 69 + 1
  · exact x_shift (P := lp_I) (a := 69) (n := 1) (fun i hi => lgT_leaf (lp_g69 i hi)) h69.1 h69.2
  by_cases h70 : 70 ≤ k ∧ k < 70 + 1
  · have e : k = 70 := by omega
    subst e
    exact lp_t70
  by_cases h71 : 71 ≤ k ∧ k < 71 + 1
  · exact x_shift (P := lp_I) (a := 71) (n := 1) (fun i hi => lgT_leaf (lp_g71 i hi)) h71.1 h71.2
  by_cases h72 : 72 ≤ k ∧ k < 72 + 1
  · have e : k = 72 := by omega
    subst e
    exact lp_t72
  exfalso
  omega
theorem lp_R : lgRound lp_T xHt lp_hl lp_P0 lp_gs 0 122 5715 300 73 := ⟨lp_k0, lp_n0, lp_a0, lp_b0, lp_all⟩
