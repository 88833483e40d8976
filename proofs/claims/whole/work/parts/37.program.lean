/-! THE PROGRAM IS WHAT THE TABLES SAY (printed by wip/whole/gen36.py) -/
theorem am_pt0 : am_ppt 0 0 = true := am_ppt_cons (oc := 0) (a := 0) am_pool_0_0 (am_ppt_cons (oc := 0) (a := 5) am_pool_0_1 (am_ppt_cons (oc := 0) (a := 10) am_pool_0_2 (am_ppt_cons (oc := 0) (a := 15) am_pool_0_3 (am_ppt_cons (oc := 0) (a := 20) am_pool_0_4 (am_ppt_cons (oc := 0) (a := 25) am_pool_0_5 (am_ppt_cons (oc := 0) (a := 30) am_pool_0_6 (by decide +kernel)))))))
theorem am_pt1 : am_ppt 1 0 = true := am_ppt_cons (oc := 1) (a := 0) am_pool_1_0 (am_ppt_cons (oc := 1) (a := 5) am_pool_1_1 (am_ppt_cons (oc := 1) (a := 10) am_pool_1_2 (am_ppt_cons (oc := 1) (a := 15) am_pool_1_3 (am_ppt_cons (oc := 1) (a := 20) am_pool_1_4 (am_ppt_cons (oc := 1) (a := 25) am_pool_1_5 (am_ppt_cons (oc := 1) (a := 30) am_pool_1_6 (am_ppt_cons (oc := 1) (a := 35) am_pool_1_7 (am_ppt_cons (oc := 1) (a := 40) am_pool_1_8 (am_ppt_cons (oc := 1) (a := 45) am_pool_1_9 (am_ppt_cons (oc := 1) (a := 50) am_pool_1_10 (am_ppt_cons (oc := 1) (a := 55) am_pool_1_11 (am_ppt_cons (oc := 1) (a := 60) am_pool_1_12 (am_ppt_cons (oc := 1) (a := 65) am_pool_1_13 (am_ppt_cons (oc := 1) (a := 70) am_pool_1_14 (am_ppt_cons (oc := 1) (a := 75) am_pool_1_15 (am_ppt_cons (oc := 1) (a := 80) am_pool_1_16 (am_ppt_cons (oc := 1) (a := 85) am_pool_1_17 (by decide +kernel))))))))))))))))))
theorem am_pt2 : am_ppt 2 0 = true := am_ppt_cons (oc := 2) (a := 0) am_pool_2_0 (am_ppt_cons (oc := 2) (a := 5) am_pool_2_1 (am_ppt_cons (oc := 2) (a := 10) am_pool_2_2 (am_ppt_cons (oc := 2) (a := 15) am_pool_2_3 (am_ppt_cons (oc := 2) (a := 20) am_pool_2_4 (am_ppt_cons (oc := 2) (a := 25) am_pool_2_5 (am_ppt_cons (oc := 2) (a := 30) am_pool_2_6 (am_ppt_cons (oc := 2) (a := 35) am_pool_2_7 (am_ppt_cons (oc := 2) (a := 40) am_pool_2_8 (am_ppt_cons (oc := 2) (a := 45) am_pool_2_9 (by decide +kernel))))))))))
theorem am_pt3 : am_ppt 3 0 = true := am_ppt_cons (oc := 3) (a := 0) am_pool_3_0 (am_ppt_cons (oc := 3) (a := 5) am_pool_3_1 (am_ppt_cons (oc := 3) (a := 10) am_pool_3_2 (am_ppt_cons (oc := 3) (a := 15) am_pool_3_3 (am_ppt_cons (oc := 3) (a := 20) am_pool_3_4 (am_ppt_cons (oc := 3) (a := 25) am_pool_3_5 (by decide +kernel))))))
theorem am_pt4 : am_ppt 4 0 = true := am_ppt_cons (oc := 4) (a := 0) am_pool_4_0 (am_ppt_cons (oc := 4) (a := 5) am_pool_4_1 (am_ppt_cons (oc := 4) (a := 10) am_pool_4_2 (am_ppt_cons (oc := 4) (a := 15) am_pool_4_3 (am_ppt_cons (oc := 4) (a := 20) am_pool_4_4 (am_ppt_cons (oc := 4) (a := 25) am_pool_4_5 (am_ppt_cons (oc := 4) (a := 30) am_pool_4_6 (am_ppt_cons (oc := 4) (a := 35) am_pool_4_7 (am_ppt_cons (oc := 4) (a := 40) am_pool_4_8 (by decide +kernel)))))))))
theorem am_pt5 : am_ppt 5 0 = true := am_ppt_cons (oc := 5) (a := 0) am_pool_5_0 (am_ppt_cons (oc := 5) (a := 5) am_pool_5_1 (am_ppt_cons (oc := 5) (a := 10) am_pool_5_2 (am_ppt_cons (oc := 5) (a := 15) am_pool_5_3 (by decide +kernel))))
theorem am_pt6 : am_ppt 6 0 = true := am_ppt_cons (oc := 6) (a := 0) am_pool_6_0 (am_ppt_cons (oc := 6) (a := 5) am_pool_6_1 (am_ppt_cons (oc := 6) (a := 10) am_pool_6_2 (am_ppt_cons (oc := 6) (a := 15) am_pool_6_3 (am_ppt_cons (oc := 6) (a := 20) am_pool_6_4 (am_ppt_cons (oc := 6) (a := 25) am_pool_6_5 (by decide +kernel))))))
theorem am_pt7 : am_ppt 7 0 = true := am_ppt_cons (oc := 7) (a := 0) am_pool_7_0 (am_ppt_cons (oc := 7) (a := 5) am_pool_7_1 (am_ppt_cons (oc := 7) (a := 10) am_pool_7_2 (am_ppt_cons (oc := 7) (a := 15) am_pool_7_3 (am_ppt_cons (oc := 7) (a := 20) am_pool_7_4 (am_ppt_cons (oc := 7) (a := 25) am_pool_7_5 (am_ppt_cons (oc := 7) (a := 30) am_pool_7_6 (am_ppt_cons (oc := 7) (a := 35) am_pool_7_7 (am_ppt_cons (oc := 7) (a := 40) am_pool_7_8 (am_ppt_cons (oc := 7) (a := 45) am_pool_7_9 (am_ppt_cons (oc := 7) (a := 50) am_pool_7_10 (by decide +kernel)))))))))))
theorem am_pt8 : am_ppt 8 0 = true := am_ppt_cons (oc := 8) (a := 0) am_pool_8_0 (am_ppt_cons (oc := 8) (a := 5) am_pool_8_1 (am_ppt_cons (oc := 8) (a := 10) am_pool_8_2 (am_ppt_cons (oc := 8) (a := 15) am_pool_8_3 (am_ppt_cons (oc := 8) (a := 20) am_pool_8_4 (am_ppt_cons (oc := 8) (a := 25) am_pool_8_5 (am_ppt_cons (oc := 8) (a := 30) am_pool_8_6 (am_ppt_cons (oc := 8) (a := 35) am_pool_8_7 (am_ppt_cons (oc := 8) (a := 40) am_pool_8_8 (am_ppt_cons (oc := 8) (a := 45) am_pool_8_9 (by decide +kernel))))))))))
theorem am_pt9 : am_ppt 9 0 = true := am_ppt_cons (oc := 9) (a := 0) am_pool_9_0 (am_ppt_cons (oc := 9) (a := 5) am_pool_9_1 (am_ppt_cons (oc := 9) (a := 10) am_pool_9_2 (am_ppt_cons (oc := 9) (a := 15) am_pool_9_3 (am_ppt_cons (oc := 9) (a := 20) am_pool_9_4 (am_ppt_cons (oc := 9) (a := 25) am_pool_9_5 (by decide +kernel))))))
theorem am_pt10 : am_ppt 10 0 = true := am_ppt_cons (oc := 10) (a := 0) am_pool_10_0 (am_ppt_cons (oc := 10) (a := 5) am_pool_10_1 (am_ppt_cons (oc := 10) (a := 10) am_pool_10_2 (am_ppt_cons (oc := 10) (a := 15) am_pool_10_3 (am_ppt_cons (oc := 10) (a := 20) am_pool_10_4 (am_ppt_cons (oc := 10) (a := 25) am_pool_10_5 (am_ppt_cons (oc := 10) (a := 30) am_pool_10_6 (am_ppt_cons (oc := 10) (a := 35) am_pool_10_7 (am_ppt_cons (oc := 10) (a := 40) am_pool_10_8 (am_ppt_cons (oc := 10) (a := 45) am_pool_10_9 (am_ppt_cons (oc := 10) (a := 50) am_pool_10_10 (am_ppt_cons (oc := 10) (a := 55) am_pool_10_11 (am_ppt_cons (oc := 10) (a := 60) am_pool_10_12 (am_ppt_cons (oc := 10) (a := 65) am_pool_10_13 (am_ppt_cons (oc := 10) (a := 70) am_pool_10_14 (am_ppt_cons (oc := 10) (a := 75) am_pool_10_15 (am_ppt_cons (oc := 10) (a := 80) am_pool_10_16 (am_ppt_cons (oc := 10) (a := 85) am_pool_10_17 (am_ppt_cons (oc := 10) (a := 90) am_pool_10_18 (am_ppt_cons (oc := 10) (a := 95) am_pool_10_19 (am_ppt_cons (oc := 10) (a := 100) am_pool_10_20 (am_ppt_cons (oc := 10) (a := 105) am_pool_10_21 (am_ppt_cons (oc := 10) (a := 110) am_pool_10_22 (am_ppt_cons (oc := 10) (a := 115) am_pool_10_23 (am_ppt_cons (oc := 10) (a := 120) am_pool_10_24 (am_ppt_cons (oc := 10) (a := 125) am_pool_10_25 (am_ppt_cons (oc := 10) (a := 130) am_pool_10_26 (am_ppt_cons (oc := 10) (a := 135) am_pool_10_27 (am_ppt_cons (oc := 10) (a := 140) am_pool_10_28 (am_ppt_cons (oc := 10) (a := 145) am_pool_10_29 (am_ppt_cons (oc := 10) (a := 150) am_pool_10_30 (am_ppt_cons (oc := 10) (a := 155) am_pool_10_31 (am_ppt_cons (oc := 10) (a := 160) am_pool_10_32 (am_ppt_cons (oc := 10) (a := 165) am_pool_10_33 (am_ppt_cons (oc := 10) (a := 170) am_pool_10_34 (am_ppt_cons (oc := 10) (a := 175) am_pool_10_35 (am_ppt_cons (oc := 10) (a := 180) am_pool_10_36 (am_ppt_cons (oc := 10) (a := 185) am_pool_10_37 (by decide +kernel))))))))))))))))))))))))))))))))))))))
theorem am_pt11 : am_ppt 11 0 = true := by decide +kernel
theorem am_pt12 : am_ppt 12 0 = true := am_ppt_cons (oc := 12) (a := 0) am_pool_12_0 (by decide +kernel)
theorem am_pt13 : am_ppt 13 0 = true := am_ppt_cons (oc := 13) (a := 0) am_pool_13_0 (am_ppt_cons (oc := 13) (a := 5) am_pool_13_1 (am_ppt_cons (oc := 13) (a := 10) am_pool_13_2 (am_ppt_cons (oc := 13) (a := 15) am_pool_13_3 (am_ppt_cons (oc := 13) (a := 20) am_pool_13_4 (am_ppt_cons (oc := 13) (a := 25) am_pool_13_5 (am_ppt_cons (oc := 13) (a := 30) am_pool_13_6 (am_ppt_cons (oc := 13) (a := 35) am_pool_13_7 (am_ppt_cons (oc := 13) (a := 40) am_pool_13_8 (by decide +kernel)))))))))
theorem am_pt14 : am_ppt 14 0 = true := am_ppt_cons (oc := 14) (a := 0) am_pool_14_0 (am_ppt_cons (oc := 14) (a := 5) am_pool_14_1 (by decide +kernel))
theorem am_pt15 : am_ppt 15 0 = true := am_ppt_cons (oc := 15) (a := 0) am_pool_15_0 (am_ppt_cons (oc := 15) (a := 5) am_pool_15_1 (am_ppt_cons (oc := 15) (a := 10) am_pool_15_2 (by decide +kernel)))
theorem am_pt16 : am_ppt 16 0 = true := am_ppt_cons (oc := 16) (a := 0) am_pool_16_0 (by decide +kernel)
theorem am_pt17 : am_ppt 17 0 = true := am_ppt_cons (oc := 17) (a := 0) am_pool_17_0 (by decide +kernel)
theorem am_pt18 : am_ppt 18 0 = true := am_ppt_cons (oc := 18) (a := 0) am_pool_18_0 (by decide +kernel)
theorem am_pt19 : am_ppt 19 0 = true := am_ppt_cons (oc := 19) (a := 0) am_pool_19_0 (am_ppt_cons (oc := 19) (a := 5) am_pool_19_1 (am_ppt_cons (oc := 19) (a := 10) am_pool_19_2 (am_ppt_cons (oc := 19) (a := 15) am_pool_19_3 (am_ppt_cons (oc := 19) (a := 20) am_pool_19_4 (am_ppt_cons (oc := 19) (a := 25) am_pool_19_5 (am_ppt_cons (oc := 19) (a := 30) am_pool_19_6 (am_ppt_cons (oc := 19) (a := 35) am_pool_19_7 (by decide +kernel))))))))
theorem am_pt20 : am_ppt 20 0 = true := by decide +kernel
theorem am_pok_all : am_pok := fun oc => by
  match oc with
  | 0 => exact am_pt0
  | 1 => exact am_pt1
  | 2 => exact am_pt2
  | 3 => exact am_pt3
  | 4 => exact am_pt4
  | 5 => exact am_pt5
  | 6 => exact am_pt6
  | 7 => exact am_pt7
  | 8 => exact am_pt8
  | 9 => exact am_pt9
  | 10 => exact am_pt10
  | 11 => exact am_pt11
  | 12 => exact am_pt12
  | 13 => exact am_pt13
  | 14 => exact am_pt14
  | 15 => exact am_pt15
  | 16 => exact am_pt16
  | 17 => exact am_pt17
  | 18 => exact am_pt18
  | 19 => exact am_pt19
  | 20 => exact am_pt20
  | n + 21 => rfl
theorem am_program (ad : Nat → Nat) {v1 v2 : Value} (hv1 : v1.isRef = true) (hv2 : v2.isRef = true) : am_prog am_Ts (am_Fd ad v1 v2) (am_pr ad) am_mt ∧ am_meths am_Ts (am_pr ad) am_mt := ⟨am_prog_of am_pok_all am_cok2_all am_rok_all am_mok_all ad hv1 hv2, am_meths_of am_mok_all ad⟩
