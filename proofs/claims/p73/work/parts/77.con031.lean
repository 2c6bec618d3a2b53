/-! Contracts, printed by a program: part 31. -/
theorem xw_561_68 : ((xu_561.drop 68).take 1).all (xVerCs xT_561 xHt 100000 308 xm_X10_laws xc_561 xu_561 [0] [68]) = true := by
  rw [← zVerCs_eq]
  decide +kernel
theorem xw_561_69 : ((xu_561.drop 69).take 1).all (xVerCs xT_561 xHt 100000 308 xm_X10_laws xc_561 xu_561 [0] [69]) = true := by
  rw [← zVerCs_eq]
  decide +kernel
theorem xw_561_70 : ((xu_561.drop 70).take 1).all (xVerCs xT_561 xHt 100000 308 xm_X10_laws xc_561 xu_561 [0] [70]) = true := by
  rw [← zVerCs_eq]
  decide +kernel
theorem xw_561_71 : ((xu_561.drop 71).take 1).all (xVerCs xT_561 xHt 100000 308 xm_X10_laws xc_561 xu_561 [0] [71]) = true := by
  rw [← zVerCs_eq]
  decide +kernel
theorem xw_561_72 : ((xu_561.drop 72).take 1).all (xVerCs xT_561 xHt 100000 308 xm_X10_laws xc_561 xu_561 [0] [72]) = true := by
  rw [← zVerCs_eq]
  decide +kernel
theorem xw_561_73 : ((xu_561.drop 73).take 1).all (xVerCs xT_561 xHt 100000 308 xm_X10_laws xc_561 xu_561 [0] [73]) = true := by
  rw [← zVerCs_eq]
  decide +kernel
theorem xw_561_74 : ((xu_561.drop 74).take 1).all (xVerCs xT_561 xHt 100000 308 xm_X10_laws xc_561 xu_561 [0] [74]) = true := by
  rw [← zVerCs_eq]
  decide +kernel
theorem xw_561_75 : ((xu_561.drop 75).take 1).all (xVerCs xT_561 xHt 100000 308 xm_X10_laws xc_561 xu_561 [0] [75]) = true := by
  rw [← zVerCs_eq]
  decide +kernel
theorem xw_561_76 : ((xu_561.drop 76).take 1).all (xVerCs xT_561 xHt 100000 308 xm_X10_laws xc_561 xu_561 [0] [76]) = true := by
  rw [← zVerCs_eq]
  decide +kernel
theorem xw_561_77 : ((xu_561.drop 77).take 1).all (xVerCs xT_561 xHt 100000 308 xm_X10_laws xc_561 xu_561 [0] [77]) = true := by
  rw [← zVerCs_eq]
  decide +kernel
theorem xw_561_78 : ((xu_561.drop 78).take 1).all (xVerCs xT_561 xHt 100000 308 xm_X10_laws xc_561 xu_561 [0] [78]) = true := by
  rw [← zVerCs_eq]
  decide +kernel
theorem xw_561_79 : ((xu_561.drop 79).take 1).all (xVerCs xT_561 xHt 100000 308 xm_X10_laws xc_561 xu_561 [0] [79]) = true := by
  rw [← zVerCs_eq]
  decide +kernel
theorem xw_561_80 : ((xu_561.drop 80).take 1).all (xVerCs xT_561 xHt 100000 308 xm_X10_laws xc_561 xu_561 [0] [80]) = true := by
  rw [← zVerCs_eq]
  decide +kernel
theorem xw_561_81 : ((xu_561.drop 81).take 1).all (xVerCs xT_561 xHt 100000 308 xm_X10_laws xc_561 xu_561 [0] [81]) = true := by
  rw [← zVerCs_eq]
  decide +kernel
theorem xw_561_82 : ((xu_561.drop 82).take 1).all (xVerCs xT_561 xHt 100000 308 xm_X10_laws xc_561 xu_561 [0] [82]) = true := by
  rw [← zVerCs_eq]
  decide +kernel
theorem xw_561_83 : ((xu_561.drop 83).take 1).all (xVerCs xT_561 xHt 100000 308 xm_X10_laws xc_561 xu_561 [0] [83]) = true := by
  rw [← zVerCs_eq]
  decide +kernel
theorem xok_561 (l : Launch) : xCk l 308 xc_561 := ⟨xm_X10_laws, rfl, xVer_okRU xk_all (xHt_ok l) (T := xT_561) (xTc (xok_248 l) (xTc (xok_254 l) (xTc (xok_258 l) (xTn l)))) rfl (f := 100000) (k := 0) (n := 3) (cuts := xu_561) xs_561 (xRg0 (xRgS 0 1 (xRgO (fun τ h => ⟨xT_561_0, xTc (xok_553 l) (xTn l), xFromS_ok h⟩) xv_561_0) (xRgS 1 1 (xRgO (fun τ h => ⟨xT_561_1, xTc (xok_549 l) (xTn l), xFromS_ok h⟩) xv_561_1) (xRgS 2 1 (xRgO (fun τ h => ⟨xT_561_2, xTc (xok_550 l) (xTn l), xFromS_ok h⟩) xv_561_2) (xRgS 3 1 (xRgO (fun τ h => ⟨xT_561_3, xTc (xok_551 l) (xTn l), xFromS_ok h⟩) xv_561_3) (xRgS 4 1 (xRgO (fun τ h => ⟨xT_561_4, xTc (xok_552 l) (xTn l), xFromS_ok h⟩) xv_561_4) (xRgS 5 1 (xRgO (fun τ h => ⟨xT_561_5, xTc (xok_554 l) (xTn l), xFromS_ok h⟩) xv_561_5) (xRgZ (by decide +kernel))))))))) (xAll0 (xAllS 0 1 (xAllCs xw_561_0) (xAllS 1 1 (xAllCs xw_561_1) (xAllS 2 1 (xAllCs xw_561_2) (xAllS 3 1 (xAllCs xw_561_3) (xAllS 4 1 (xAllCs xw_561_4) (xAllS 5 1 (xAllCs xw_561_5) (xAllS 6 1 (xAllCs xw_561_6) (xAllS 7 1 (xAllCs xw_561_7) (xAllS 8 1 (xAllCs xw_561_8) (xAllS 9 1 (xAllCs xw_561_9) (xAllS 10 1 (xAllCs xw_561_10) (xAllS 11 1 (xAllCs xw_561_11) (xAllS 12 1 (xAllCs xw_561_12) (xAllS 13 1 (xAllCs xw_561_13) (xAllS 14 1 (xAllCs xw_561_14) (xAllS 15 1 (xAllCs xw_561_15) (xAllS 16 1 (xAllCs xw_561_16) (xAllS 17 1 (xAllCs xw_561_17) (xAllS 18 1 (xAllCs xw_561_18) (xAllS 19 1 (xAllCs xw_561_19) (xAllS 20 1 (xAllCs xw_561_20) (xAllS 21 1 (xAllCs xw_561_21) (xAllS 22 1 (xAllCs xw_561_22) (xAllS 23 1 (xAllCs xw_561_23) (xAllS 24 1 (xAllCs xw_561_24) (xAllS 25 1 (xAllCs xw_561_25) (xAllS 26 1 (xAllCs xw_561_26) (xAllS 27 1 (xAllCs xw_561_27) (xAllS 28 1 (xAllCs xw_561_28) (xAllS 29 1 (xAllCs xw_561_29) (xAllS 30 1 (xAllCs xw_561_30) (xAllS 31 1 (xAllCs xw_561_31) (xAllS 32 1 (xAllCs xw_561_32) (xAllS 33 1 (xAllCs xw_561_33) (xAllS 34 1 (xAllCs xw_561_34) (xAllS 35 1 (xAllCs xw_561_35) (xAllS 36 1 (xAllCs xw_561_36) (xAllS 37 1 (xAllCs xw_561_37) (xAllS 38 1 (xAllCs xw_561_38) (xAllS 39 1 (xAllCs xw_561_39) (xAllS 40 1 (xAllCs xw_561_40) (xAllS 41 1 (xAllCs xw_561_41) (xAllS 42 1 (xAllCs xw_561_42) (xAllS 43 1 (xAllCs xw_561_43) (xAllS 44 1 (xAllCs xw_561_44) (xAllS 45 1 (xAllCs xw_561_45) (xAllS 46 1 (xAllCs xw_561_46) (xAllS 47 1 (xAllCs xw_561_47) (xAllS 48 1 (xAllCs xw_561_48) (xAllS 49 1 (xAllCs xw_561_49) (xAllS 50 1 (xAllCs xw_561_50) (xAllS 51 1 (xAllCs xw_561_51) (xAllS 52 1 (xAllCs xw_561_52) (xAllS 53 1 (xAllCs xw_561_53) (xAllS 54 1 (xAllCs xw_561_54) (xAllS 55 1 (xAllCs xw_561_55) (xAllS 56 1 (xAllCs xw_561_56) (xAllS 57 1 (xAllCs xw_561_57) (xAllS 58 1 (xAllCs xw_561_58) (xAllS 59 1 (xAllCs xw_561_59) (xAllS 60 1 (xAllCs xw_561_60) (xAllS 61 1 (xAllCs xw_561_61) (xAllS 62 1 (xAllCs xw_561_62) (xAllS 63 1 (xAllCs xw_561_63) (xAllS 64 1 (xAllCs xw_561_64) (xAllS 65 1 (xAllCs xw_561_65) (xAllS 66 1 (xAllCs xw_561_66) (xAllS 67 1 (xAllCs xw_561_67) (xAllS 68 1 (xAllCs xw_561_68) (xAllS 69 1 (xAllCs xw_561_69) (xAllS 70 1 (xAllCs xw_561_70) (xAllS 71 1 (xAllCs xw_561_71) (xAllS 72 1 (xAllCs xw_561_72) (xAllS 73 1 (xAllCs xw_561_73) (xAllS 74 1 (xAllCs xw_561_74) (xAllS 75 1 (xAllCs xw_561_75) (xAllS 76 1 (xAllCs xw_561_76) (xAllS 77 1 (xAllCs xw_561_77) (xAllS 78 1 (xAllCs xw_561_78) (xAllS 79 1 (xAllCs xw_561_79) (xAllS 80 1 (xAllCs xw_561_80) (xAllS 81 1 (xAllCs xw_561_81) (xAllS 82 1 (xAllCs xw_561_82) (xAllS 83 1 (xAllCs xw_561_83) (xAllZ (by decide +kernel)))))))))))))))))))))))))))))))))))))))))))))))))))))))))))))))))))))))))))))))))))))))⟩
