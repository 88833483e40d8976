/-! THE ROWS OF ALL METHODS (printed by wip/whole/gen36.py) -/
theorem am_rtc {l : List (Nat × am_T)} {f : Nat × am_T → Bool} {a : Nat} (h : ((l.drop a).take 50).all f = true) (h2 : (l.drop (a + 50)).all f = true) : (l.drop a).all f = true := by
  rw [← List.drop_drop] at h2
  rw [← List.take_append_drop 50 (l.drop a), List.all_append, h, h2]
  rfl
def am_rP (a b : Nat) : Prop := ∀ mi, a ≤ mi → mi < b → (am_code mi).all (am_rowm mi) = true ∧ am_metb mi = true
theorem am_rP.and {a b c : Nat} (h : am_rP a b) (h2 : am_rP b c) : am_rP a c := fun mi h1 h3 => by
  rcases Nat.lt_or_ge mi b with q | q
  · exact h mi h1 q
  · exact h2 mi q h3
theorem am_rP.of {a n : Nat} (h : (List.range' a n).all (fun mi => (am_code mi).all (am_rowm mi) && am_metb mi) = true) : am_rP a (a + n) := fun mi h1 h2 => by
  have := List.all_eq_true.mp h mi (List.mem_range'_1.mpr ⟨h1, h2⟩)
  simpa using this
theorem am_rP.one {a : Nat} {l : List (Nat × am_T)} (hl : am_code a = l) (h : (l.drop 0).all (am_rowm a) = true) (hm : am_metb a = true) : am_rP a (a + 1) := fun mi h1 h2 => by
  have : mi = a := by omega
  subst this
  rw [hl]
  exact ⟨h, hm⟩
theorem am_q0 : am_metb 0 = true := by
  have h1 : am_mem (am_cw (am_mt 0).1 (am_mt 0).2.1 (am_mt 0).2.2.1 (am_mt 0).2.2.2.1 (am_mt 0).2.2.2.2) = true := by
    unfold am_mem
    rw [Bool.or_eq_true]
    refine .inr (decide_eq_true ?_)
    unfold am_nots am_cw
    rw [if_pos (show (am_mt 0).2.2.2.2 = [] from rfl)]
    exact List.mem_cons_of_mem _ (List.mem_singleton.mpr rfl)
  have h2 : decide (am_ocn.getD (am_oc.getD 0 0) "" = (am_mt 0).1.cls) = true := by decide +kernel
  have h3 : plainFor (am_mt 0).1 = true := by decide +kernel
  have h4 : decide ((am_inf.getD 0 (0, 0)).1 = (am_mt 0).2.2.1) = true := by decide +kernel
  have h5 : decide ((am_mt 0).2.2.1 ≤ 23) = true := by decide +kernel
  have h6 : am_rkb (am_inf.getD 0 (0, 0)).2 (am_mt 0).2.2.2.1 = true := by decide +kernel
  unfold am_metb
  rw [h1, h2, h3, h4, h5, h6]
  rfl
theorem am_r0_0 : ((am_c0.drop 0).take 50).all (am_rowm 0) = true := by decide +kernel
theorem am_r0_50 : ((am_c0.drop 50).take 50).all (am_rowm 0) = true := by decide +kernel
theorem am_r0_100 : ((am_c0.drop 100).take 50).all (am_rowm 0) = true := by decide +kernel
theorem am_r0_150 : ((am_c0.drop 150).take 50).all (am_rowm 0) = true := by decide +kernel
theorem am_r0_200 : ((am_c0.drop 200).take 50).all (am_rowm 0) = true := by decide +kernel
theorem am_r0_250 : ((am_c0.drop 250).take 50).all (am_rowm 0) = true := by decide +kernel
theorem am_r0_300 : ((am_c0.drop 300).take 50).all (am_rowm 0) = true := by decide +kernel
theorem am_r0_350 : ((am_c0.drop 350).take 50).all (am_rowm 0) = true := by decide +kernel
theorem am_g0 : am_rP 0 1 := am_rP.one (a := 0) (l := am_c0) rfl (am_rtc (a := 0) am_r0_0 (am_rtc (a := 50) am_r0_50 (am_rtc (a := 100) am_r0_100 (am_rtc (a := 150) am_r0_150 (am_rtc (a := 200) am_r0_200 (am_rtc (a := 250) am_r0_250 (am_rtc (a := 300) am_r0_300 (am_rtc (a := 350) am_r0_350 (by decide +kernel))))))))) am_q0
theorem am_g1 : am_rP 1 2 := am_rP.of (a := 1) (n := 1) (by decide +kernel)
theorem am_r2_0 : ((am_c2.drop 0).take 50).all (am_rowm 2) = true := by decide +kernel
theorem am_r2_50 : ((am_c2.drop 50).take 50).all (am_rowm 2) = true := by decide +kernel
theorem am_g2 : am_rP 2 3 := am_rP.one (a := 2) (l := am_c2) rfl (am_rtc (a := 0) am_r2_0 (am_rtc (a := 50) am_r2_50 (by decide +kernel))) (by decide +kernel)
theorem am_g3 : am_rP 3 7 := am_rP.of (a := 3) (n := 4) (by decide +kernel)
theorem am_g7 : am_rP 7 10 := am_rP.of (a := 7) (n := 3) (by decide +kernel)
theorem am_r10_0 : ((am_c10.drop 0).take 50).all (am_rowm 10) = true := by decide +kernel
theorem am_r10_50 : ((am_c10.drop 50).take 50).all (am_rowm 10) = true := by decide +kernel
theorem am_r10_100 : ((am_c10.drop 100).take 50).all (am_rowm 10) = true := by decide +kernel
theorem am_r10_150 : ((am_c10.drop 150).take 50).all (am_rowm 10) = true := by decide +kernel
theorem am_g10 : am_rP 10 11 := am_rP.one (a := 10) (l := am_c10) rfl (am_rtc (a := 0) am_r10_0 (am_rtc (a := 50) am_r10_50 (am_rtc (a := 100) am_r10_100 (am_rtc (a := 150) am_r10_150 (by decide +kernel))))) (by decide +kernel)
theorem am_g11 : am_rP 11 14 := am_rP.of (a := 11) (n := 3) (by decide +kernel)
theorem am_g14 : am_rP 14 16 := am_rP.of (a := 14) (n := 2) (by decide +kernel)
theorem am_r16_0 : ((am_c16.drop 0).take 50).all (am_rowm 16) = true := by decide +kernel
theorem am_r16_50 : ((am_c16.drop 50).take 50).all (am_rowm 16) = true := by decide +kernel
theorem am_g16 : am_rP 16 17 := am_rP.one (a := 16) (l := am_c16) rfl (am_rtc (a := 0) am_r16_0 (am_rtc (a := 50) am_r16_50 (by decide +kernel))) (by decide +kernel)
theorem am_g17 : am_rP 17 22 := am_rP.of (a := 17) (n := 5) (by decide +kernel)
theorem am_g22 : am_rP 22 23 := am_rP.of (a := 22) (n := 1) (by decide +kernel)
theorem am_g23 : am_rP 23 25 := am_rP.of (a := 23) (n := 2) (by decide +kernel)
theorem am_g25 : am_rP 25 27 := am_rP.of (a := 25) (n := 2) (by decide +kernel)
theorem am_g27 : am_rP 27 29 := am_rP.of (a := 27) (n := 2) (by decide +kernel)
theorem am_r29_0 : ((am_c29.drop 0).take 50).all (am_rowm 29) = true := by decide +kernel
theorem am_r29_50 : ((am_c29.drop 50).take 50).all (am_rowm 29) = true := by decide +kernel
theorem am_r29_100 : ((am_c29.drop 100).take 50).all (am_rowm 29) = true := by decide +kernel
theorem am_g29 : am_rP 29 30 := am_rP.one (a := 29) (l := am_c29) rfl (am_rtc (a := 0) am_r29_0 (am_rtc (a := 50) am_r29_50 (am_rtc (a := 100) am_r29_100 (by decide +kernel)))) (by decide +kernel)
theorem am_g30 : am_rP 30 33 := am_rP.of (a := 30) (n := 3) (by decide +kernel)
theorem am_r33_0 : ((am_c33.drop 0).take 50).all (am_rowm 33) = true := by decide +kernel
theorem am_r33_50 : ((am_c33.drop 50).take 50).all (am_rowm 33) = true := by decide +kernel
theorem am_g33 : am_rP 33 34 := am_rP.one (a := 33) (l := am_c33) rfl (am_rtc (a := 0) am_r33_0 (am_rtc (a := 50) am_r33_50 (by decide +kernel))) (by decide +kernel)
theorem am_g34 : am_rP 34 37 := am_rP.of (a := 34) (n := 3) (by decide +kernel)
theorem am_r37_0 : ((am_c37.drop 0).take 50).all (am_rowm 37) = true := by decide +kernel
theorem am_r37_50 : ((am_c37.drop 50).take 50).all (am_rowm 37) = true := by decide +kernel
theorem am_g37 : am_rP 37 38 := am_rP.one (a := 37) (l := am_c37) rfl (am_rtc (a := 0) am_r37_0 (am_rtc (a := 50) am_r37_50 (by decide +kernel))) (by decide +kernel)
theorem am_g38 : am_rP 38 42 := am_rP.of (a := 38) (n := 4) (by decide +kernel)
theorem am_g42 : am_rP 42 44 := am_rP.of (a := 42) (n := 2) (by decide +kernel)
theorem am_r44_0 : ((am_c44.drop 0).take 50).all (am_rowm 44) = true := by decide +kernel
theorem am_r44_50 : ((am_c44.drop 50).take 50).all (am_rowm 44) = true := by decide +kernel
theorem am_g44 : am_rP 44 45 := am_rP.one (a := 44) (l := am_c44) rfl (am_rtc (a := 0) am_r44_0 (am_rtc (a := 50) am_r44_50 (by decide +kernel))) (by decide +kernel)
theorem am_g45 : am_rP 45 46 := am_rP.of (a := 45) (n := 1) (by decide +kernel)
theorem am_g46 : am_rP 46 47 := am_rP.of (a := 46) (n := 1) (by decide +kernel)
theorem am_r47_0 : ((am_c47.drop 0).take 50).all (am_rowm 47) = true := by decide +kernel
theorem am_r47_50 : ((am_c47.drop 50).take 50).all (am_rowm 47) = true := by decide +kernel
theorem am_g47 : am_rP 47 48 := am_rP.one (a := 47) (l := am_c47) rfl (am_rtc (a := 0) am_r47_0 (am_rtc (a := 50) am_r47_50 (by decide +kernel))) (by decide +kernel)
theorem am_g48 : am_rP 48 52 := am_rP.of (a := 48) (n := 4) (by decide +kernel)
theorem am_g52 : am_rP 52 58 := am_rP.of (a := 52) (n := 6) (by decide +kernel)
theorem am_g58 : am_rP 58 60 := am_rP.of (a := 58) (n := 2) (by decide +kernel)
theorem am_g60 : am_rP 60 62 := am_rP.of (a := 60) (n := 2) (by decide +kernel)
theorem am_g62 : am_rP 62 67 := am_rP.of (a := 62) (n := 5) (by decide +kernel)
theorem am_g67 : am_rP 67 70 := am_rP.of (a := 67) (n := 3) (by decide +kernel)
theorem am_r70_0 : ((am_c70.drop 0).take 50).all (am_rowm 70) = true := by decide +kernel
theorem am_r70_50 : ((am_c70.drop 50).take 50).all (am_rowm 70) = true := by decide +kernel
theorem am_g70 : am_rP 70 71 := am_rP.one (a := 70) (l := am_c70) rfl (am_rtc (a := 0) am_r70_0 (am_rtc (a := 50) am_r70_50 (by decide +kernel))) (by decide +kernel)
theorem am_g71 : am_rP 71 73 := am_rP.of (a := 71) (n := 2) (by decide +kernel)
theorem am_g73 : am_rP 73 76 := am_rP.of (a := 73) (n := 3) (by decide +kernel)
theorem am_g76 : am_rP 76 77 := am_rP.of (a := 76) (n := 1) (by decide +kernel)
theorem am_g77 : am_rP 77 79 := am_rP.of (a := 77) (n := 2) (by decide +kernel)
theorem am_g79 : am_rP 79 80 := am_rP.of (a := 79) (n := 1) (by decide +kernel)
theorem am_g80 : am_rP 80 82 := am_rP.of (a := 80) (n := 2) (by decide +kernel)
theorem am_g82 : am_rP 82 83 := am_rP.of (a := 82) (n := 1) (by decide +kernel)
theorem am_g83 : am_rP 83 84 := am_rP.of (a := 83) (n := 1) (by decide +kernel)
theorem am_g84 : am_rP 84 85 := am_rP.of (a := 84) (n := 1) (by decide +kernel)
theorem am_g85 : am_rP 85 86 := am_rP.of (a := 85) (n := 1) (by decide +kernel)
theorem am_g86 : am_rP 86 88 := am_rP.of (a := 86) (n := 2) (by decide +kernel)
theorem am_g88 : am_rP 88 91 := am_rP.of (a := 88) (n := 3) (by decide +kernel)
theorem am_g91 : am_rP 91 93 := am_rP.of (a := 91) (n := 2) (by decide +kernel)
theorem am_g93 : am_rP 93 96 := am_rP.of (a := 93) (n := 3) (by decide +kernel)
theorem am_g96 : am_rP 96 98 := am_rP.of (a := 96) (n := 2) (by decide +kernel)
theorem am_g98 : am_rP 98 100 := am_rP.of (a := 98) (n := 2) (by decide +kernel)
theorem am_g100 : am_rP 100 101 := am_rP.of (a := 100) (n := 1) (by decide +kernel)
theorem am_r101_0 : ((am_c101.drop 0).take 50).all (am_rowm 101) = true := by decide +kernel
theorem am_r101_50 : ((am_c101.drop 50).take 50).all (am_rowm 101) = true := by decide +kernel
theorem am_g101 : am_rP 101 102 := am_rP.one (a := 101) (l := am_c101) rfl (am_rtc (a := 0) am_r101_0 (am_rtc (a := 50) am_r101_50 (by decide +kernel))) (by decide +kernel)
theorem am_r102_0 : ((am_c102.drop 0).take 50).all (am_rowm 102) = true := by decide +kernel
theorem am_r102_50 : ((am_c102.drop 50).take 50).all (am_rowm 102) = true := by decide +kernel
theorem am_g102 : am_rP 102 103 := am_rP.one (a := 102) (l := am_c102) rfl (am_rtc (a := 0) am_r102_0 (am_rtc (a := 50) am_r102_50 (by decide +kernel))) (by decide +kernel)
theorem am_g103 : am_rP 103 108 := am_rP.of (a := 103) (n := 5) (by decide +kernel)
theorem am_g108 : am_rP 108 110 := am_rP.of (a := 108) (n := 2) (by decide +kernel)
theorem am_g110 : am_rP 110 113 := am_rP.of (a := 110) (n := 3) (by decide +kernel)
theorem am_g113 : am_rP 113 116 := am_rP.of (a := 113) (n := 3) (by decide +kernel)
theorem am_r116_0 : ((am_c116.drop 0).take 50).all (am_rowm 116) = true := by decide +kernel
theorem am_r116_50 : ((am_c116.drop 50).take 50).all (am_rowm 116) = true := by decide +kernel
theorem am_g116 : am_rP 116 117 := am_rP.one (a := 116) (l := am_c116) rfl (am_rtc (a := 0) am_r116_0 (am_rtc (a := 50) am_r116_50 (by decide +kernel))) (by decide +kernel)
theorem am_g117 : am_rP 117 119 := am_rP.of (a := 117) (n := 2) (by decide +kernel)
theorem am_g119 : am_rP 119 121 := am_rP.of (a := 119) (n := 2) (by decide +kernel)
theorem am_g121 : am_rP 121 123 := am_rP.of (a := 121) (n := 2) (by decide +kernel)
theorem am_r123_0 : ((am_c123.drop 0).take 50).all (am_rowm 123) = true := by decide +kernel
theorem am_r123_50 : ((am_c123.drop 50).take 50).all (am_rowm 123) = true := by decide +kernel
theorem am_g123 : am_rP 123 124 := am_rP.one (a := 123) (l := am_c123) rfl (am_rtc (a := 0) am_r123_0 (am_rtc (a := 50) am_r123_50 (by decide +kernel))) (by decide +kernel)
theorem am_g124 : am_rP 124 125 := am_rP.of (a := 124) (n := 1) (by decide +kernel)
theorem am_r125_0 : ((am_c125.drop 0).take 50).all (am_rowm 125) = true := by decide +kernel
theorem am_r125_50 : ((am_c125.drop 50).take 50).all (am_rowm 125) = true := by decide +kernel
theorem am_g125 : am_rP 125 126 := am_rP.one (a := 125) (l := am_c125) rfl (am_rtc (a := 0) am_r125_0 (am_rtc (a := 50) am_r125_50 (by decide +kernel))) (by decide +kernel)
theorem am_g126 : am_rP 126 129 := am_rP.of (a := 126) (n := 3) (by decide +kernel)
theorem am_r129_0 : ((am_c129.drop 0).take 50).all (am_rowm 129) = true := by decide +kernel
