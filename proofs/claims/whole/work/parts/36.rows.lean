/-! THE ROWS OF ALL METHODS (printed by wip/whole/gen36.py) -/
theorem am_rtc {l : List (Nat × am_T)} {f : Nat × am_T → Bool} {a : Nat} (h : ((l.drop a).take 50).all f = true) (h2 : (l.drop (a + 50)).all f = true) : (l.drop a).all f = true := by
  rw [← List.drop_drop] at h2
  rw [← List.take_append_drop 50 (l.drop a), List.all_append, h, h2]
  rfl
def am_rP (a b : Nat) : Prop := ∀ mi, a ≤ mi → mi < b → (am_code mi).all (am_rowm mi) = true ∧ am_metb mi = true
theorem am_rP.and {a b c : Nat} (h : am_rP a b) (h2 : am_rP b c) : am_rP a c := fun mi h1 h3 => by
  rcases Nat.lt_or_ge mi b with q | q
  · exact h mi h1 q
  · exact h2 mi q h3
theorem am_rP.of {a n : Nat} (h : (List.range' a n).all (fun mi => (am_code mi).all (am_rowm mi) && am_metb mi) = true) : am_rP a (a + n) := fun mi h1 h2 => by
  have := List.all_eq_true.mp h mi (List.mem_range'_1.mpr ⟨h1, h2⟩)
  simpa using this
theorem am_rP.one {a : Nat} {l : List (Nat × am_T)} (hl : am_code a = l) (h : (l.drop 0).all (am_rowm a) = true) (hm : am_metb a = true) : am_rP a (a + 1) := fun mi h1 h2 => by
  have : mi = a := by omega
  subst this
  rw [hl]
  exact ⟨h, hm⟩
theorem am_r0_0 : ((am_c0.drop 0).take 50).all (am_rowm 0) = true := by decide +kernel
theorem am_r0_50 : ((am_c0.drop 50).take 50).all (am_rowm 0) = true := by decide +kernel
theorem am_r0_100 : ((am_c0.drop 100).take 50).all (am_rowm 0) = true := by decide +kernel
theorem am_r0_150 : ((am_c0.drop 150).take 50).all (am_rowm 0) = true := by decide +kernel
theorem am_r0_200 : ((am_c0.drop 200).take 50).all (am_rowm 0) = true := by decide +kernel
theorem am_r0_250 : ((am_c0.drop 250).take 50).all (am_rowm 0) = true := by decide +kernel
theorem am_r0_300 : ((am_c0.drop 300).take 50).all (am_rowm 0) = true := by decide +kernel
theorem am_r0_350 : ((am_c0.drop 350).take 50).all (am_rowm 0) = true := by decide +kernel
theorem am_g0 : am_rP 0 1 := am_rP.one (a := 0) (l := am_c0) rfl (am_rtc (a := 0) am_r0_0 (am_rtc (a := 50) am_r0_50 (am_rtc (a := 100) am_r0_100 (am_rtc (a := 150) am_r0_150 (am_rtc (a := 200) am_r0_200 (am_rtc (a := 250) am_r0_250 (am_rtc (a := 300) am_r0_300 (am_rtc (a := 350) am_r0_350 (by decide +kernel))))))))) (by decide +kernel)
theorem am_g1 : am_rP 1 2 := am_rP.of (a := 1) (n := 1) (by decide +kernel)
theorem am_r2_0 : ((am_c2.drop 0).take 50).all (am_rowm 2) = true := by decide +kernel
theorem am_r2_50 : ((am_c2.drop 50).take 50).all (am_rowm 2) = true := by decide +kernel
theorem am_g2 : am_rP 2 3 := am_rP.one (a := 2) (l := am_c2) rfl (am_rtc (a := 0) am_r2_0 (am_rtc (a := 50) am_r2_50 (by decide +kernel))) (by decide +kernel)
theorem am_g3 : am_rP 3 7 := am_rP.of (a := 3) (n := 4) (by decide +kernel)
theorem am_g7 : am_rP 7 10 := am_rP.of (a := 7) (n := 3) (by decide +kernel)
theorem am_r10_0 : ((am_c10.drop 0).take 50).all (am_rowm 10) = true := by decide +kernel
theorem am_r10_50 : ((am_c10.drop 50).take 50).all (am_rowm 10) = true := by decide +kernel
theorem am_r10_100 : ((am_c10.drop 100).take 50).all (am_rowm 10) = true := by decide +kernel
theorem am_r10_150 : ((am_c10.drop 150).take 50).all (am_rowm 10) = true := by decide +kernel
theorem am_g10 : am_rP 10 11 := am_rP.one (a := 10) (l := am_c10) rfl (am_rtc (a := 0) am_r10_0 (am_rtc (a := 50) am_r10_50 (am_rtc (a := 100) am_r10_100 (am_rtc (a := 150) am_r10_150 (by decide +kernel))))) (by decide +kernel)
theorem am_g11 : am_rP 11 14 := am_rP.of (a := 11) (n := 3) (by decide +kernel)
theorem am_g14 : am_rP 14 16 := am_rP.of (a := 14) (n := 2) (by decide +kernel)
theorem am_r16_0 : ((am_c16.drop 0).take 50).all (am_rowm 16) = true := by decide +kernel
theorem am_r16_50 : ((am_c16.drop 50).take 50).all (am_rowm 16) = true := by decide +kernel
theorem am_g16 : am_rP 16 17 := am_rP.one (a := 16) (l := am_c16) rfl (am_rtc (a := 0) am_r16_0 (am_rtc (a := 50) am_r16_50 (by decide +kernel))) (by decide +kernel)
theorem am_g17 : am_rP 17 22 := am_rP.of (a := 17) (n := 5) (by decide +kernel)
theorem am_g22 : am_rP 22 23 := am_rP.of (a := 22) (n := 1) (by decide +kernel)
theorem am_g23 : am_rP 23 25 := am_rP.of (a := 23) (n := 2) (by decide +kernel)
theorem am_g25 : am_rP 25 27 := am_rP.of (a := 25) (n := 2) (by decide +kernel)
theorem am_g27 : am_rP 27 29 := am_rP.of (a := 27) (n := 2) (by decide +kernel)
theorem am_r29_0 : ((am_c29.drop 0).take 50).all (am_rowm 29) = true := by decide +kernel
theorem am_r29_50 : ((am_c29.drop 50).take 50).all (am_rowm 29) = true := by decide +kernel
theorem am_r29_100 : ((am_c29.drop 100).take 50).all (am_rowm 29) = true := by decide +kernel
theorem am_g29 : am_rP 29 30 := am_rP.one (a := 29) (l := am_c29) rfl (am_rtc (a := 0) am_r29_0 (am_rtc (a := 50) am_r29_50 (am_rtc (a := 100) am_r29_100 (by decide +kernel)))) (by decide +kernel)
theorem am_g30 : am_rP 30 33 := am_rP.of (a := 30) (n := 3) (by decide +kernel)
theorem am_r33_0 : ((am_c33.drop 0).take 50).all (am_rowm 33) = true := by decide +kernel
theorem am_r33_50 : ((am_c33.drop 50).take 50).all (am_rowm 33) = true := by decide +kernel
theorem am_g33 : am_rP 33 34 := am_rP.one (a := 33) (l := am_c33) rfl (am_rtc (a := 0) am_r33_0 (am_rtc (a := 50) am_r33_50 (by decide +kernel))) (by decide +kernel)
theorem am_g34 : am_rP 34 37 := am_rP.of (a := 34) (n := 3) (by decide +kernel)
theorem am_r37_0 : ((am_c37.drop 0).take 50).all (am_rowm 37) = true := by decide +kernel
theorem am_r37_50 : ((am_c37.drop 50).take 50).all (am_rowm 37) = true := by decide +kernel
theorem am_g37 : am_rP 37 38 := am_rP.one (a := 37) (l := am_c37) rfl (am_rtc (a := 0) am_r37_0 (am_rtc (a := 50) am_r37_50 (by decide +kernel))) (by decide +kernel)
theorem am_g38 : am_rP 38 42 := am_rP.of (a := 38) (n := 4) (by decide +kernel)
theorem am_g42 : am_rP 42 44 := am_rP.of (a := 42) (n := 2) (by decide +kernel)
theorem am_r44_0 : ((am_c44.drop 0).take 50).all (am_rowm 44) = true := by decide +kernel
theorem am_r44_50 : ((am_c44.drop 50).take 50).all (am_rowm 44) = true := by decide +kernel
theorem am_g44 : am_rP 44 45 := am_rP.one (a := 44) (l := am_c44) rfl (am_rtc (a := 0) am_r44_0 (am_rtc (a := 50) am_r44_50 (by decide +kernel))) (by decide +kernel)
theorem am_g45 : am_rP 45 46 := am_rP.of (a := 45) (n := 1) (by decide +kernel)
theorem am_g46 : am_rP 46 47 := am_rP.of (a := 46) (n := 1) (by decide +kernel)
theorem am_r47_0 : ((am_c47.drop 0).take 50).all (am_rowm 47) = true := by decide +kernel
theorem am_r47_50 : ((am_c47.drop 50).take 50).all (am_rowm 47) = true := by decide +kernel
theorem am_g47 : am_rP 47 48 := am_rP.one (a := 47) (l := am_c47) rfl (am_rtc (a := 0) am_r47_0 (am_rtc (a := 50) am_r47_50 (by decide +kernel))) (by decide +kernel)
theorem am_g48 : am_rP 48 52 := am_rP.of (a := 48) (n := 4) (by decide +kernel)
theorem am_g52 : am_rP 52 58 := am_rP.of (a := 52) (n := 6) (by decide +kernel)
theorem am_g58 : am_rP 58 60 := am_rP.of (a := 58) (n := 2) (by decide +kernel)
theorem am_g60 : am_rP 60 62 := am_rP.of (a := 60) (n := 2) (by decide +kernel)
theorem am_g62 : am_rP 62 67 := am_rP.of (a := 62) (n := 5) (by decide +kernel)
theorem am_g67 : am_rP 67 70 := am_rP.of (a := 67) (n := 3) (by decide +kernel)
theorem am_r70_0 : ((am_c70.drop 0).take 50).all (am_rowm 70) = true := by decide +kernel
theorem am_r70_50 : ((am_c70.drop 50).take 50).all (am_rowm 70) = true := by decide +kernel
theorem am_g70 : am_rP 70 71 := am_rP.one (a := 70) (l := am_c70) rfl (am_rtc (a := 0) am_r70_0 (am_rtc (a := 50) am_r70_50 (by decide +kernel))) (by decide +kernel)
theorem am_g71 : am_rP 71 73 := am_rP.of (a := 71) (n := 2) (by decide +kernel)
theorem am_g73 : am_rP 73 76 := am_rP.of (a := 73) (n := 3) (by decide +kernel)
theorem am_g76 : am_rP 76 77 := am_rP.of (a := 76) (n := 1) (by decide +kernel)
theorem am_g77 : am_rP 77 79 := am_rP.of (a := 77) (n := 2) (by decide +kernel)
theorem am_g79 : am_rP 79 80 := am_rP.of (a := 79) (n := 1) (by decide +kernel)
theorem am_g80 : am_rP 80 82 := am_rP.of (a := 80) (n := 2) (by decide +kernel)
theorem am_g82 : am_rP 82 83 := am_rP.of (a := 82) (n := 1) (by decide +kernel)
theorem am_g83 : am_rP 83 84 := am_rP.of (a := 83) (n := 1) (by decide +kernel)
theorem am_g84 : am_rP 84 85 := am_rP.of (a := 84) (n := 1) (by decide +kernel)
theorem am_g85 : am_rP 85 86 := am_rP.of (a := 85) (n := 1) (by decide +kernel)
theorem am_g86 : am_rP 86 88 := am_rP.of (a := 86) (n := 2) (by decide +kernel)
theorem am_g88 : am_rP 88 91 := am_rP.of (a := 88) (n := 3) (by decide +kernel)
theorem am_g91 : am_rP 91 93 := am_rP.of (a := 91) (n := 2) (by decide +kernel)
theorem am_g93 : am_rP 93 96 := am_rP.of (a := 93) (n := 3) (by decide +kernel)
theorem am_g96 : am_rP 96 98 := am_rP.of (a := 96) (n := 2) (by decide +kernel)
theorem am_g98 : am_rP 98 100 := am_rP.of (a := 98) (n := 2) (by decide +kernel)
theorem am_g100 : am_rP 100 101 := am_rP.of (a := 100) (n := 1) (by decide +kernel)
theorem am_r101_0 : ((am_c101.drop 0).take 50).all (am_rowm 101) = true := by decide +kernel
theorem am_r101_50 : ((am_c101.drop 50).take 50).all (am_rowm 101) = true := by decide +kernel
theorem am_g101 : am_rP 101 102 := am_rP.one (a := 101) (l := am_c101) rfl (am_rtc (a := 0) am_r101_0 (am_rtc (a := 50) am_r101_50 (by decide +kernel))) (by decide +kernel)
theorem am_r102_0 : ((am_c102.drop 0).take 50).all (am_rowm 102) = true := by decide +kernel
theorem am_r102_50 : ((am_c102.drop 50).take 50).all (am_rowm 102) = true := by decide +kernel
theorem am_g102 : am_rP 102 103 := am_rP.one (a := 102) (l := am_c102) rfl (am_rtc (a := 0) am_r102_0 (am_rtc (a := 50) am_r102_50 (by decide +kernel))) (by decide +kernel)
theorem am_g103 : am_rP 103 108 := am_rP.of (a := 103) (n := 5) (by decide +kernel)
theorem am_g108 : am_rP 108 110 := am_rP.of (a := 108) (n := 2) (by decide +kernel)
theorem am_g110 : am_rP 110 113 := am_rP.of (a := 110) (n := 3) (by decide +kernel)
theorem am_g113 : am_rP 113 116 := am_rP.of (a := 113) (n := 3) (by decide +kernel)
theorem am_r116_0 : ((am_c116.drop 0).take 50).all (am_rowm 116) = true := by decide +kernel
theorem am_r116_50 : ((am_c116.drop 50).take 50).all (am_rowm 116) = true := by decide +kernel
theorem am_g116 : am_rP 116 117 := am_rP.one (a := 116) (l := am_c116) rfl (am_rtc (a := 0) am_r116_0 (am_rtc (a := 50) am_r116_50 (by decide +kernel))) (by decide +kernel)
theorem am_g117 : am_rP 117 119 := am_rP.of (a := 117) (n := 2) (by decide +kernel)
theorem am_g119 : am_rP 119 121 := am_rP.of (a := 119) (n := 2) (by decide +kernel)
theorem am_g121 : am_rP 121 123 := am_rP.of (a := 121) (n := 2) (by decide +kernel)
theorem am_r123_0 : ((am_c123.drop 0).take 50).all (am_rowm 123) = true := by decide +kernel
theorem am_r123_50 : ((am_c123.drop 50).take 50).all (am_rowm 123) = true := by decide +kernel
theorem am_g123 : am_rP 123 124 := am_rP.one (a := 123) (l := am_c123) rfl (am_rtc (a := 0) am_r123_0 (am_rtc (a := 50) am_r123_50 (by decide +kernel))) (by decide +kernel)
theorem am_g124 : am_rP 124 125 := am_rP.of (a := 124) (n := 1) (by decide +kernel)
theorem am_r125_0 : ((am_c125.drop 0).take 50).all (am_rowm 125) = true := by decide +kernel
theorem am_r125_50 : ((am_c125.drop 50).take 50).all (am_rowm 125) = true := by decide +kernel
theorem am_g125 : am_rP 125 126 := am_rP.one (a := 125) (l := am_c125) rfl (am_rtc (a := 0) am_r125_0 (am_rtc (a := 50) am_r125_50 (by decide +kernel))) (by decide +kernel)
theorem am_g126 : am_rP 126 129 := am_rP.of (a := 126) (n := 3) (by decide +kernel)
theorem am_r129_0 : ((am_c129.drop 0).take 50).all (am_rowm 129) = true := by decide +kernel
theorem am_r129_50 : ((am_c129.drop 50).take 50).all (am_rowm 129) = true := by decide +kernel
theorem am_g129 : am_rP 129 130 := am_rP.one (a := 129) (l := am_c129) rfl (am_rtc (a := 0) am_r129_0 (am_rtc (a := 50) am_r129_50 (by decide +kernel))) (by decide +kernel)
theorem am_g130 : am_rP 130 133 := am_rP.of (a := 130) (n := 3) (by decide +kernel)
theorem am_g133 : am_rP 133 134 := am_rP.of (a := 133) (n := 1) (by decide +kernel)
theorem am_r134_0 : ((am_c134.drop 0).take 50).all (am_rowm 134) = true := by decide +kernel
theorem am_r134_50 : ((am_c134.drop 50).take 50).all (am_rowm 134) = true := by decide +kernel
theorem am_g134 : am_rP 134 135 := am_rP.one (a := 134) (l := am_c134) rfl (am_rtc (a := 0) am_r134_0 (am_rtc (a := 50) am_r134_50 (by decide +kernel))) (by decide +kernel)
theorem am_g135 : am_rP 135 136 := am_rP.of (a := 135) (n := 1) (by decide +kernel)
theorem am_r136_0 : ((am_c136.drop 0).take 50).all (am_rowm 136) = true := by decide +kernel
theorem am_r136_50 : ((am_c136.drop 50).take 50).all (am_rowm 136) = true := by decide +kernel
theorem am_g136 : am_rP 136 137 := am_rP.one (a := 136) (l := am_c136) rfl (am_rtc (a := 0) am_r136_0 (am_rtc (a := 50) am_r136_50 (by decide +kernel))) (by decide +kernel)
theorem am_g137 : am_rP 137 139 := am_rP.of (a := 137) (n := 2) (by decide +kernel)
theorem am_g139 : am_rP 139 140 := am_rP.of (a := 139) (n := 1) (by decide +kernel)
theorem am_r140_0 : ((am_c140.drop 0).take 50).all (am_rowm 140) = true := by decide +kernel
theorem am_r140_50 : ((am_c140.drop 50).take 50).all (am_rowm 140) = true := by decide +kernel
theorem am_g140 : am_rP 140 141 := am_rP.one (a := 140) (l := am_c140) rfl (am_rtc (a := 0) am_r140_0 (am_rtc (a := 50) am_r140_50 (by decide +kernel))) (by decide +kernel)
theorem am_g141 : am_rP 141 142 := am_rP.of (a := 141) (n := 1) (by decide +kernel)
theorem am_r142_0 : ((am_c142.drop 0).take 50).all (am_rowm 142) = true := by decide +kernel
theorem am_r142_50 : ((am_c142.drop 50).take 50).all (am_rowm 142) = true := by decide +kernel
theorem am_g142 : am_rP 142 143 := am_rP.one (a := 142) (l := am_c142) rfl (am_rtc (a := 0) am_r142_0 (am_rtc (a := 50) am_r142_50 (by decide +kernel))) (by decide +kernel)
theorem am_r143_0 : ((am_c143.drop 0).take 50).all (am_rowm 143) = true := by decide +kernel
theorem am_r143_50 : ((am_c143.drop 50).take 50).all (am_rowm 143) = true := by decide +kernel
theorem am_r143_100 : ((am_c143.drop 100).take 50).all (am_rowm 143) = true := by decide +kernel
theorem am_g143 : am_rP 143 144 := am_rP.one (a := 143) (l := am_c143) rfl (am_rtc (a := 0) am_r143_0 (am_rtc (a := 50) am_r143_50 (am_rtc (a := 100) am_r143_100 (by decide +kernel)))) (by decide +kernel)
theorem am_g144 : am_rP 144 146 := am_rP.of (a := 144) (n := 2) (by decide +kernel)
theorem am_g146 : am_rP 146 147 := am_rP.of (a := 146) (n := 1) (by decide +kernel)
theorem am_r147_0 : ((am_c147.drop 0).take 50).all (am_rowm 147) = true := by decide +kernel
theorem am_r147_50 : ((am_c147.drop 50).take 50).all (am_rowm 147) = true := by decide +kernel
theorem am_g147 : am_rP 147 148 := am_rP.one (a := 147) (l := am_c147) rfl (am_rtc (a := 0) am_r147_0 (am_rtc (a := 50) am_r147_50 (by decide +kernel))) (by decide +kernel)
theorem am_r148_0 : ((am_c148.drop 0).take 50).all (am_rowm 148) = true := by decide +kernel
theorem am_r148_50 : ((am_c148.drop 50).take 50).all (am_rowm 148) = true := by decide +kernel
theorem am_r148_100 : ((am_c148.drop 100).take 50).all (am_rowm 148) = true := by decide +kernel
theorem am_g148 : am_rP 148 149 := am_rP.one (a := 148) (l := am_c148) rfl (am_rtc (a := 0) am_r148_0 (am_rtc (a := 50) am_r148_50 (am_rtc (a := 100) am_r148_100 (by decide +kernel)))) (by decide +kernel)
theorem am_g149 : am_rP 149 150 := am_rP.of (a := 149) (n := 1) (by decide +kernel)
theorem am_r150_0 : ((am_c150.drop 0).take 50).all (am_rowm 150) = true := by decide +kernel
theorem am_r150_50 : ((am_c150.drop 50).take 50).all (am_rowm 150) = true := by decide +kernel
theorem am_g150 : am_rP 150 151 := am_rP.one (a := 150) (l := am_c150) rfl (am_rtc (a := 0) am_r150_0 (am_rtc (a := 50) am_r150_50 (by decide +kernel))) (by decide +kernel)
theorem am_r151_0 : ((am_c151.drop 0).take 50).all (am_rowm 151) = true := by decide +kernel
theorem am_r151_50 : ((am_c151.drop 50).take 50).all (am_rowm 151) = true := by decide +kernel
theorem am_g151 : am_rP 151 152 := am_rP.one (a := 151) (l := am_c151) rfl (am_rtc (a := 0) am_r151_0 (am_rtc (a := 50) am_r151_50 (by decide +kernel))) (by decide +kernel)
theorem am_g152 : am_rP 152 154 := am_rP.of (a := 152) (n := 2) (by decide +kernel)
theorem am_g154 : am_rP 154 157 := am_rP.of (a := 154) (n := 3) (by decide +kernel)
theorem am_g157 : am_rP 157 158 := am_rP.of (a := 157) (n := 1) (by decide +kernel)
theorem am_r158_0 : ((am_c158.drop 0).take 50).all (am_rowm 158) = true := by decide +kernel
theorem am_r158_50 : ((am_c158.drop 50).take 50).all (am_rowm 158) = true := by decide +kernel
theorem am_r158_100 : ((am_c158.drop 100).take 50).all (am_rowm 158) = true := by decide +kernel
theorem am_g158 : am_rP 158 159 := am_rP.one (a := 158) (l := am_c158) rfl (am_rtc (a := 0) am_r158_0 (am_rtc (a := 50) am_r158_50 (am_rtc (a := 100) am_r158_100 (by decide +kernel)))) (by decide +kernel)
theorem am_g159 : am_rP 159 161 := am_rP.of (a := 159) (n := 2) (by decide +kernel)
theorem am_g161 : am_rP 161 162 := am_rP.of (a := 161) (n := 1) (by decide +kernel)
theorem am_g162 : am_rP 162 163 := am_rP.of (a := 162) (n := 1) (by decide +kernel)
theorem am_g163 : am_rP 163 164 := am_rP.of (a := 163) (n := 1) (by decide +kernel)
theorem am_r164_0 : ((am_c164.drop 0).take 50).all (am_rowm 164) = true := by decide +kernel
theorem am_r164_50 : ((am_c164.drop 50).take 50).all (am_rowm 164) = true := by decide +kernel
theorem am_g164 : am_rP 164 165 := am_rP.one (a := 164) (l := am_c164) rfl (am_rtc (a := 0) am_r164_0 (am_rtc (a := 50) am_r164_50 (by decide +kernel))) (by decide +kernel)
theorem am_g165 : am_rP 165 167 := am_rP.of (a := 165) (n := 2) (by decide +kernel)
theorem am_r167_0 : ((am_c167.drop 0).take 50).all (am_rowm 167) = true := by decide +kernel
theorem am_r167_50 : ((am_c167.drop 50).take 50).all (am_rowm 167) = true := by decide +kernel
theorem am_r167_100 : ((am_c167.drop 100).take 50).all (am_rowm 167) = true := by decide +kernel
theorem am_g167 : am_rP 167 168 := am_rP.one (a := 167) (l := am_c167) rfl (am_rtc (a := 0) am_r167_0 (am_rtc (a := 50) am_r167_50 (am_rtc (a := 100) am_r167_100 (by decide +kernel)))) (by decide +kernel)
theorem am_g168 : am_rP 168 170 := am_rP.of (a := 168) (n := 2) (by decide +kernel)
theorem am_g170 : am_rP 170 172 := am_rP.of (a := 170) (n := 2) (by decide +kernel)
theorem am_g172 : am_rP 172 173 := am_rP.of (a := 172) (n := 1) (by decide +kernel)
theorem am_g173 : am_rP 173 174 := am_rP.of (a := 173) (n := 1) (by decide +kernel)
theorem am_r174_0 : ((am_c174.drop 0).take 50).all (am_rowm 174) = true := by decide +kernel
theorem am_r174_50 : ((am_c174.drop 50).take 50).all (am_rowm 174) = true := by decide +kernel
theorem am_r174_100 : ((am_c174.drop 100).take 50).all (am_rowm 174) = true := by decide +kernel
theorem am_g174 : am_rP 174 175 := am_rP.one (a := 174) (l := am_c174) rfl (am_rtc (a := 0) am_r174_0 (am_rtc (a := 50) am_r174_50 (am_rtc (a := 100) am_r174_100 (by decide +kernel)))) (by decide +kernel)
theorem am_g175 : am_rP 175 178 := am_rP.of (a := 175) (n := 3) (by decide +kernel)
theorem am_r178_0 : ((am_c178.drop 0).take 50).all (am_rowm 178) = true := by decide +kernel
theorem am_r178_50 : ((am_c178.drop 50).take 50).all (am_rowm 178) = true := by decide +kernel
theorem am_r178_100 : ((am_c178.drop 100).take 50).all (am_rowm 178) = true := by decide +kernel
theorem am_g178 : am_rP 178 179 := am_rP.one (a := 178) (l := am_c178) rfl (am_rtc (a := 0) am_r178_0 (am_rtc (a := 50) am_r178_50 (am_rtc (a := 100) am_r178_100 (by decide +kernel)))) (by decide +kernel)
theorem am_r179_0 : ((am_c179.drop 0).take 50).all (am_rowm 179) = true := by decide +kernel
theorem am_r179_50 : ((am_c179.drop 50).take 50).all (am_rowm 179) = true := by decide +kernel
theorem am_r179_100 : ((am_c179.drop 100).take 50).all (am_rowm 179) = true := by decide +kernel
theorem am_g179 : am_rP 179 180 := am_rP.one (a := 179) (l := am_c179) rfl (am_rtc (a := 0) am_r179_0 (am_rtc (a := 50) am_r179_50 (am_rtc (a := 100) am_r179_100 (by decide +kernel)))) (by decide +kernel)
theorem am_g180 : am_rP 180 182 := am_rP.of (a := 180) (n := 2) (by decide +kernel)
theorem am_r182_0 : ((am_c182.drop 0).take 50).all (am_rowm 182) = true := by decide +kernel
theorem am_r182_50 : ((am_c182.drop 50).take 50).all (am_rowm 182) = true := by decide +kernel
theorem am_g182 : am_rP 182 183 := am_rP.one (a := 182) (l := am_c182) rfl (am_rtc (a := 0) am_r182_0 (am_rtc (a := 50) am_r182_50 (by decide +kernel))) (by decide +kernel)
theorem am_g183 : am_rP 183 184 := am_rP.of (a := 183) (n := 1) (by decide +kernel)
theorem am_r184_0 : ((am_c184.drop 0).take 50).all (am_rowm 184) = true := by decide +kernel
theorem am_r184_50 : ((am_c184.drop 50).take 50).all (am_rowm 184) = true := by decide +kernel
theorem am_r184_100 : ((am_c184.drop 100).take 50).all (am_rowm 184) = true := by decide +kernel
theorem am_g184 : am_rP 184 185 := am_rP.one (a := 184) (l := am_c184) rfl (am_rtc (a := 0) am_r184_0 (am_rtc (a := 50) am_r184_50 (am_rtc (a := 100) am_r184_100 (by decide +kernel)))) (by decide +kernel)
theorem am_r185_0 : ((am_c185.drop 0).take 50).all (am_rowm 185) = true := by decide +kernel
theorem am_r185_50 : ((am_c185.drop 50).take 50).all (am_rowm 185) = true := by decide +kernel
theorem am_r185_100 : ((am_c185.drop 100).take 50).all (am_rowm 185) = true := by decide +kernel
theorem am_g185 : am_rP 185 186 := am_rP.one (a := 185) (l := am_c185) rfl (am_rtc (a := 0) am_r185_0 (am_rtc (a := 50) am_r185_50 (am_rtc (a := 100) am_r185_100 (by decide +kernel)))) (by decide +kernel)
theorem am_r186_0 : ((am_c186.drop 0).take 50).all (am_rowm 186) = true := by decide +kernel
theorem am_r186_50 : ((am_c186.drop 50).take 50).all (am_rowm 186) = true := by decide +kernel
theorem am_g186 : am_rP 186 187 := am_rP.one (a := 186) (l := am_c186) rfl (am_rtc (a := 0) am_r186_0 (am_rtc (a := 50) am_r186_50 (by decide +kernel))) (by decide +kernel)
theorem am_g187 : am_rP 187 189 := am_rP.of (a := 187) (n := 2) (by decide +kernel)
theorem am_r189_0 : ((am_c189.drop 0).take 50).all (am_rowm 189) = true := by decide +kernel
theorem am_r189_50 : ((am_c189.drop 50).take 50).all (am_rowm 189) = true := by decide +kernel
theorem am_g189 : am_rP 189 190 := am_rP.one (a := 189) (l := am_c189) rfl (am_rtc (a := 0) am_r189_0 (am_rtc (a := 50) am_r189_50 (by decide +kernel))) (by decide +kernel)
theorem am_g190 : am_rP 190 192 := am_rP.of (a := 190) (n := 2) (by decide +kernel)
theorem am_g192 : am_rP 192 193 := am_rP.of (a := 192) (n := 1) (by decide +kernel)
theorem am_g193 : am_rP 193 194 := am_rP.of (a := 193) (n := 1) (by decide +kernel)
theorem am_r194_0 : ((am_c194.drop 0).take 50).all (am_rowm 194) = true := by decide +kernel
theorem am_r194_50 : ((am_c194.drop 50).take 50).all (am_rowm 194) = true := by decide +kernel
theorem am_g194 : am_rP 194 195 := am_rP.one (a := 194) (l := am_c194) rfl (am_rtc (a := 0) am_r194_0 (am_rtc (a := 50) am_r194_50 (by decide +kernel))) (by decide +kernel)
theorem am_r195_0 : ((am_c195.drop 0).take 50).all (am_rowm 195) = true := by decide +kernel
theorem am_r195_50 : ((am_c195.drop 50).take 50).all (am_rowm 195) = true := by decide +kernel
theorem am_g195 : am_rP 195 196 := am_rP.one (a := 195) (l := am_c195) rfl (am_rtc (a := 0) am_r195_0 (am_rtc (a := 50) am_r195_50 (by decide +kernel))) (by decide +kernel)
theorem am_r196_0 : ((am_c196.drop 0).take 50).all (am_rowm 196) = true := by decide +kernel
theorem am_r196_50 : ((am_c196.drop 50).take 50).all (am_rowm 196) = true := by decide +kernel
theorem am_r196_100 : ((am_c196.drop 100).take 50).all (am_rowm 196) = true := by decide +kernel
theorem am_g196 : am_rP 196 197 := am_rP.one (a := 196) (l := am_c196) rfl (am_rtc (a := 0) am_r196_0 (am_rtc (a := 50) am_r196_50 (am_rtc (a := 100) am_r196_100 (by decide +kernel)))) (by decide +kernel)
theorem am_g197 : am_rP 197 198 := am_rP.of (a := 197) (n := 1) (by decide +kernel)
theorem am_g198 : am_rP 198 200 := am_rP.of (a := 198) (n := 2) (by decide +kernel)
theorem am_r200_0 : ((am_c200.drop 0).take 50).all (am_rowm 200) = true := by decide +kernel
theorem am_r200_50 : ((am_c200.drop 50).take 50).all (am_rowm 200) = true := by decide +kernel
theorem am_r200_100 : ((am_c200.drop 100).take 50).all (am_rowm 200) = true := by decide +kernel
theorem am_g200 : am_rP 200 201 := am_rP.one (a := 200) (l := am_c200) rfl (am_rtc (a := 0) am_r200_0 (am_rtc (a := 50) am_r200_50 (am_rtc (a := 100) am_r200_100 (by decide +kernel)))) (by decide +kernel)
theorem am_g201 : am_rP 201 202 := am_rP.of (a := 201) (n := 1) (by decide +kernel)
theorem am_r202_0 : ((am_c202.drop 0).take 50).all (am_rowm 202) = true := by decide +kernel
theorem am_r202_50 : ((am_c202.drop 50).take 50).all (am_rowm 202) = true := by decide +kernel
theorem am_r202_100 : ((am_c202.drop 100).take 50).all (am_rowm 202) = true := by decide +kernel
theorem am_g202 : am_rP 202 203 := am_rP.one (a := 202) (l := am_c202) rfl (am_rtc (a := 0) am_r202_0 (am_rtc (a := 50) am_r202_50 (am_rtc (a := 100) am_r202_100 (by decide +kernel)))) (by decide +kernel)
theorem am_g203 : am_rP 203 207 := am_rP.of (a := 203) (n := 4) (by decide +kernel)
theorem am_r207_0 : ((am_c207.drop 0).take 50).all (am_rowm 207) = true := by decide +kernel
theorem am_r207_50 : ((am_c207.drop 50).take 50).all (am_rowm 207) = true := by decide +kernel
theorem am_r207_100 : ((am_c207.drop 100).take 50).all (am_rowm 207) = true := by decide +kernel
theorem am_g207 : am_rP 207 208 := am_rP.one (a := 207) (l := am_c207) rfl (am_rtc (a := 0) am_r207_0 (am_rtc (a := 50) am_r207_50 (am_rtc (a := 100) am_r207_100 (by decide +kernel)))) (by decide +kernel)
theorem am_g208 : am_rP 208 210 := am_rP.of (a := 208) (n := 2) (by decide +kernel)
theorem am_r210_0 : ((am_c210.drop 0).take 50).all (am_rowm 210) = true := by decide +kernel
theorem am_r210_50 : ((am_c210.drop 50).take 50).all (am_rowm 210) = true := by decide +kernel
theorem am_g210 : am_rP 210 211 := am_rP.one (a := 210) (l := am_c210) rfl (am_rtc (a := 0) am_r210_0 (am_rtc (a := 50) am_r210_50 (by decide +kernel))) (by decide +kernel)
theorem am_g211 : am_rP 211 212 := am_rP.of (a := 211) (n := 1) (by decide +kernel)
theorem am_r212_0 : ((am_c212.drop 0).take 50).all (am_rowm 212) = true := by decide +kernel
theorem am_r212_50 : ((am_c212.drop 50).take 50).all (am_rowm 212) = true := by decide +kernel
theorem am_g212 : am_rP 212 213 := am_rP.one (a := 212) (l := am_c212) rfl (am_rtc (a := 0) am_r212_0 (am_rtc (a := 50) am_r212_50 (by decide +kernel))) (by decide +kernel)
theorem am_r213_0 : ((am_c213.drop 0).take 50).all (am_rowm 213) = true := by decide +kernel
theorem am_r213_50 : ((am_c213.drop 50).take 50).all (am_rowm 213) = true := by decide +kernel
theorem am_g213 : am_rP 213 214 := am_rP.one (a := 213) (l := am_c213) rfl (am_rtc (a := 0) am_r213_0 (am_rtc (a := 50) am_r213_50 (by decide +kernel))) (by decide +kernel)
theorem am_g214 : am_rP 214 215 := am_rP.of (a := 214) (n := 1) (by decide +kernel)
theorem am_r215_0 : ((am_c215.drop 0).take 50).all (am_rowm 215) = true := by decide +kernel
theorem am_r215_50 : ((am_c215.drop 50).take 50).all (am_rowm 215) = true := by decide +kernel
theorem am_r215_100 : ((am_c215.drop 100).take 50).all (am_rowm 215) = true := by decide +kernel
theorem am_g215 : am_rP 215 216 := am_rP.one (a := 215) (l := am_c215) rfl (am_rtc (a := 0) am_r215_0 (am_rtc (a := 50) am_r215_50 (am_rtc (a := 100) am_r215_100 (by decide +kernel)))) (by decide +kernel)
theorem am_g216 : am_rP 216 217 := am_rP.of (a := 216) (n := 1) (by decide +kernel)
theorem am_r217_0 : ((am_c217.drop 0).take 50).all (am_rowm 217) = true := by decide +kernel
theorem am_r217_50 : ((am_c217.drop 50).take 50).all (am_rowm 217) = true := by decide +kernel
theorem am_g217 : am_rP 217 218 := am_rP.one (a := 217) (l := am_c217) rfl (am_rtc (a := 0) am_r217_0 (am_rtc (a := 50) am_r217_50 (by decide +kernel))) (by decide +kernel)
theorem am_r218_0 : ((am_c218.drop 0).take 50).all (am_rowm 218) = true := by decide +kernel
theorem am_r218_50 : ((am_c218.drop 50).take 50).all (am_rowm 218) = true := by decide +kernel
theorem am_g218 : am_rP 218 219 := am_rP.one (a := 218) (l := am_c218) rfl (am_rtc (a := 0) am_r218_0 (am_rtc (a := 50) am_r218_50 (by decide +kernel))) (by decide +kernel)
theorem am_g219 : am_rP 219 222 := am_rP.of (a := 219) (n := 3) (by decide +kernel)
theorem am_g222 : am_rP 222 224 := am_rP.of (a := 222) (n := 2) (by decide +kernel)
theorem am_g224 : am_rP 224 225 := am_rP.of (a := 224) (n := 1) (by decide +kernel)
theorem am_r225_0 : ((am_c225.drop 0).take 50).all (am_rowm 225) = true := by decide +kernel
theorem am_r225_50 : ((am_c225.drop 50).take 50).all (am_rowm 225) = true := by decide +kernel
theorem am_g225 : am_rP 225 226 := am_rP.one (a := 225) (l := am_c225) rfl (am_rtc (a := 0) am_r225_0 (am_rtc (a := 50) am_r225_50 (by decide +kernel))) (by decide +kernel)
theorem am_g226 : am_rP 226 228 := am_rP.of (a := 226) (n := 2) (by decide +kernel)
theorem am_r228_0 : ((am_c228.drop 0).take 50).all (am_rowm 228) = true := by decide +kernel
theorem am_r228_50 : ((am_c228.drop 50).take 50).all (am_rowm 228) = true := by decide +kernel
theorem am_g228 : am_rP 228 229 := am_rP.one (a := 228) (l := am_c228) rfl (am_rtc (a := 0) am_r228_0 (am_rtc (a := 50) am_r228_50 (by decide +kernel))) (by decide +kernel)
theorem am_r229_0 : ((am_c229.drop 0).take 50).all (am_rowm 229) = true := by decide +kernel
theorem am_r229_50 : ((am_c229.drop 50).take 50).all (am_rowm 229) = true := by decide +kernel
theorem am_g229 : am_rP 229 230 := am_rP.one (a := 229) (l := am_c229) rfl (am_rtc (a := 0) am_r229_0 (am_rtc (a := 50) am_r229_50 (by decide +kernel))) (by decide +kernel)
theorem am_r230_0 : ((am_c230.drop 0).take 50).all (am_rowm 230) = true := by decide +kernel
theorem am_r230_50 : ((am_c230.drop 50).take 50).all (am_rowm 230) = true := by decide +kernel
theorem am_g230 : am_rP 230 231 := am_rP.one (a := 230) (l := am_c230) rfl (am_rtc (a := 0) am_r230_0 (am_rtc (a := 50) am_r230_50 (by decide +kernel))) (by decide +kernel)
theorem am_r231_0 : ((am_c231.drop 0).take 50).all (am_rowm 231) = true := by decide +kernel
theorem am_r231_50 : ((am_c231.drop 50).take 50).all (am_rowm 231) = true := by decide +kernel
theorem am_r231_100 : ((am_c231.drop 100).take 50).all (am_rowm 231) = true := by decide +kernel
theorem am_r231_150 : ((am_c231.drop 150).take 50).all (am_rowm 231) = true := by decide +kernel
theorem am_g231 : am_rP 231 232 := am_rP.one (a := 231) (l := am_c231) rfl (am_rtc (a := 0) am_r231_0 (am_rtc (a := 50) am_r231_50 (am_rtc (a := 100) am_r231_100 (am_rtc (a := 150) am_r231_150 (by decide +kernel))))) (by decide +kernel)
theorem am_g232 : am_rP 232 234 := am_rP.of (a := 232) (n := 2) (by decide +kernel)
theorem am_r234_0 : ((am_c234.drop 0).take 50).all (am_rowm 234) = true := by decide +kernel
theorem am_r234_50 : ((am_c234.drop 50).take 50).all (am_rowm 234) = true := by decide +kernel
theorem am_r234_100 : ((am_c234.drop 100).take 50).all (am_rowm 234) = true := by decide +kernel
theorem am_r234_150 : ((am_c234.drop 150).take 50).all (am_rowm 234) = true := by decide +kernel
theorem am_g234 : am_rP 234 235 := am_rP.one (a := 234) (l := am_c234) rfl (am_rtc (a := 0) am_r234_0 (am_rtc (a := 50) am_r234_50 (am_rtc (a := 100) am_r234_100 (am_rtc (a := 150) am_r234_150 (by decide +kernel))))) (by decide +kernel)
theorem am_g235 : am_rP 235 236 := am_rP.of (a := 235) (n := 1) (by decide +kernel)
theorem am_r236_0 : ((am_c236.drop 0).take 50).all (am_rowm 236) = true := by decide +kernel
theorem am_r236_50 : ((am_c236.drop 50).take 50).all (am_rowm 236) = true := by decide +kernel
theorem am_r236_100 : ((am_c236.drop 100).take 50).all (am_rowm 236) = true := by decide +kernel
theorem am_r236_150 : ((am_c236.drop 150).take 50).all (am_rowm 236) = true := by decide +kernel
theorem am_g236 : am_rP 236 237 := am_rP.one (a := 236) (l := am_c236) rfl (am_rtc (a := 0) am_r236_0 (am_rtc (a := 50) am_r236_50 (am_rtc (a := 100) am_r236_100 (am_rtc (a := 150) am_r236_150 (by decide +kernel))))) (by decide +kernel)
theorem am_g237 : am_rP 237 239 := am_rP.of (a := 237) (n := 2) (by decide +kernel)
theorem am_r239_0 : ((am_c239.drop 0).take 50).all (am_rowm 239) = true := by decide +kernel
theorem am_r239_50 : ((am_c239.drop 50).take 50).all (am_rowm 239) = true := by decide +kernel
theorem am_g239 : am_rP 239 240 := am_rP.one (a := 239) (l := am_c239) rfl (am_rtc (a := 0) am_r239_0 (am_rtc (a := 50) am_r239_50 (by decide +kernel))) (by decide +kernel)
theorem am_r240_0 : ((am_c240.drop 0).take 50).all (am_rowm 240) = true := by decide +kernel
theorem am_r240_50 : ((am_c240.drop 50).take 50).all (am_rowm 240) = true := by decide +kernel
theorem am_r240_100 : ((am_c240.drop 100).take 50).all (am_rowm 240) = true := by decide +kernel
theorem am_g240 : am_rP 240 241 := am_rP.one (a := 240) (l := am_c240) rfl (am_rtc (a := 0) am_r240_0 (am_rtc (a := 50) am_r240_50 (am_rtc (a := 100) am_r240_100 (by decide +kernel)))) (by decide +kernel)
theorem am_g241 : am_rP 241 242 := am_rP.of (a := 241) (n := 1) (by decide +kernel)
theorem am_g242 : am_rP 242 244 := am_rP.of (a := 242) (n := 2) (by decide +kernel)
theorem am_r244_0 : ((am_c244.drop 0).take 50).all (am_rowm 244) = true := by decide +kernel
theorem am_r244_50 : ((am_c244.drop 50).take 50).all (am_rowm 244) = true := by decide +kernel
theorem am_r244_100 : ((am_c244.drop 100).take 50).all (am_rowm 244) = true := by decide +kernel
theorem am_g244 : am_rP 244 245 := am_rP.one (a := 244) (l := am_c244) rfl (am_rtc (a := 0) am_r244_0 (am_rtc (a := 50) am_r244_50 (am_rtc (a := 100) am_r244_100 (by decide +kernel)))) (by decide +kernel)
theorem am_r245_0 : ((am_c245.drop 0).take 50).all (am_rowm 245) = true := by decide +kernel
theorem am_r245_50 : ((am_c245.drop 50).take 50).all (am_rowm 245) = true := by decide +kernel
theorem am_r245_100 : ((am_c245.drop 100).take 50).all (am_rowm 245) = true := by decide +kernel
theorem am_g245 : am_rP 245 246 := am_rP.one (a := 245) (l := am_c245) rfl (am_rtc (a := 0) am_r245_0 (am_rtc (a := 50) am_r245_50 (am_rtc (a := 100) am_r245_100 (by decide +kernel)))) (by decide +kernel)
theorem am_r246_0 : ((am_c246.drop 0).take 50).all (am_rowm 246) = true := by decide +kernel
theorem am_r246_50 : ((am_c246.drop 50).take 50).all (am_rowm 246) = true := by decide +kernel
theorem am_g246 : am_rP 246 247 := am_rP.one (a := 246) (l := am_c246) rfl (am_rtc (a := 0) am_r246_0 (am_rtc (a := 50) am_r246_50 (by decide +kernel))) (by decide +kernel)
theorem am_g247 : am_rP 247 255 := am_rP.of (a := 247) (n := 8) (by decide +kernel)
theorem am_g255 : am_rP 255 259 := am_rP.of (a := 255) (n := 4) (by decide +kernel)
theorem am_g259 : am_rP 259 262 := am_rP.of (a := 259) (n := 3) (by decide +kernel)
theorem am_g262 : am_rP 262 264 := am_rP.of (a := 262) (n := 2) (by decide +kernel)
theorem am_k0 : am_rP 0 2 := am_g0.and am_g1
theorem am_k1 : am_rP 0 3 := am_k0.and am_g2
theorem am_k2 : am_rP 0 7 := am_k1.and am_g3
theorem am_k3 : am_rP 0 10 := am_k2.and am_g7
theorem am_k4 : am_rP 0 11 := am_k3.and am_g10
theorem am_k5 : am_rP 0 14 := am_k4.and am_g11
theorem am_k6 : am_rP 0 16 := am_k5.and am_g14
theorem am_k7 : am_rP 0 17 := am_k6.and am_g16
theorem am_k8 : am_rP 0 22 := am_k7.and am_g17
theorem am_k9 : am_rP 0 23 := am_k8.and am_g22
theorem am_k10 : am_rP 0 25 := am_k9.and am_g23
theorem am_k11 : am_rP 0 27 := am_k10.and am_g25
theorem am_k12 : am_rP 0 29 := am_k11.and am_g27
theorem am_k13 : am_rP 0 30 := am_k12.and am_g29
theorem am_k14 : am_rP 0 33 := am_k13.and am_g30
theorem am_k15 : am_rP 0 34 := am_k14.and am_g33
theorem am_k16 : am_rP 0 37 := am_k15.and am_g34
theorem am_k17 : am_rP 0 38 := am_k16.and am_g37
theorem am_k18 : am_rP 0 42 := am_k17.and am_g38
theorem am_k19 : am_rP 0 44 := am_k18.and am_g42
theorem am_k20 : am_rP 0 45 := am_k19.and am_g44
theorem am_k21 : am_rP 0 46 := am_k20.and am_g45
theorem am_k22 : am_rP 0 47 := am_k21.and am_g46
theorem am_k23 : am_rP 0 48 := am_k22.and am_g47
theorem am_k24 : am_rP 0 52 := am_k23.and am_g48
theorem am_k25 : am_rP 0 58 := am_k24.and am_g52
theorem am_k26 : am_rP 0 60 := am_k25.and am_g58
theorem am_k27 : am_rP 0 62 := am_k26.and am_g60
theorem am_k28 : am_rP 0 67 := am_k27.and am_g62
theorem am_k29 : am_rP 0 70 := am_k28.and am_g67
theorem am_k30 : am_rP 0 71 := am_k29.and am_g70
theorem am_k31 : am_rP 0 73 := am_k30.and am_g71
theorem am_k32 : am_rP 0 76 := am_k31.and am_g73
theorem am_k33 : am_rP 0 77 := am_k32.and am_g76
theorem am_k34 : am_rP 0 79 := am_k33.and am_g77
theorem am_k35 : am_rP 0 80 := am_k34.and am_g79
theorem am_k36 : am_rP 0 82 := am_k35.and am_g80
theorem am_k37 : am_rP 0 83 := am_k36.and am_g82
theorem am_k38 : am_rP 0 84 := am_k37.and am_g83
theorem am_k39 : am_rP 0 85 := am_k38.and am_g84
theorem am_k40 : am_rP 0 86 := am_k39.and am_g85
theorem am_k41 : am_rP 0 88 := am_k40.and am_g86
theorem am_k42 : am_rP 0 91 := am_k41.and am_g88
theorem am_k43 : am_rP 0 93 := am_k42.and am_g91
theorem am_k44 : am_rP 0 96 := am_k43.and am_g93
theorem am_k45 : am_rP 0 98 := am_k44.and am_g96
theorem am_k46 : am_rP 0 100 := am_k45.and am_g98
theorem am_k47 : am_rP 0 101 := am_k46.and am_g100
theorem am_k48 : am_rP 0 102 := am_k47.and am_g101
theorem am_k49 : am_rP 0 103 := am_k48.and am_g102
theorem am_k50 : am_rP 0 108 := am_k49.and am_g103
theorem am_k51 : am_rP 0 110 := am_k50.and am_g108
theorem am_k52 : am_rP 0 113 := am_k51.and am_g110
theorem am_k53 : am_rP 0 116 := am_k52.and am_g113
theorem am_k54 : am_rP 0 117 := am_k53.and am_g116
theorem am_k55 : am_rP 0 119 := am_k54.and am_g117
theorem am_k56 : am_rP 0 121 := am_k55.and am_g119
theorem am_k57 : am_rP 0 123 := am_k56.and am_g121
theorem am_k58 : am_rP 0 124 := am_k57.and am_g123
theorem am_k59 : am_rP 0 125 := am_k58.and am_g124
theorem am_k60 : am_rP 0 126 := am_k59.and am_g125
theorem am_k61 : am_rP 0 129 := am_k60.and am_g126
theorem am_k62 : am_rP 0 130 := am_k61.and am_g129
theorem am_k63 : am_rP 0 133 := am_k62.and am_g130
theorem am_k64 : am_rP 0 134 := am_k63.and am_g133
theorem am_k65 : am_rP 0 135 := am_k64.and am_g134
theorem am_k66 : am_rP 0 136 := am_k65.and am_g135
theorem am_k67 : am_rP 0 137 := am_k66.and am_g136
theorem am_k68 : am_rP 0 139 := am_k67.and am_g137
theorem am_k69 : am_rP 0 140 := am_k68.and am_g139
theorem am_k70 : am_rP 0 141 := am_k69.and am_g140
theorem am_k71 : am_rP 0 142 := am_k70.and am_g141
theorem am_k72 : am_rP 0 143 := am_k71.and am_g142
theorem am_k73 : am_rP 0 144 := am_k72.and am_g143
theorem am_k74 : am_rP 0 146 := am_k73.and am_g144
theorem am_k75 : am_rP 0 147 := am_k74.and am_g146
theorem am_k76 : am_rP 0 148 := am_k75.and am_g147
theorem am_k77 : am_rP 0 149 := am_k76.and am_g148
theorem am_k78 : am_rP 0 150 := am_k77.and am_g149
theorem am_k79 : am_rP 0 151 := am_k78.and am_g150
theorem am_k80 : am_rP 0 152 := am_k79.and am_g151
theorem am_k81 : am_rP 0 154 := am_k80.and am_g152
theorem am_k82 : am_rP 0 157 := am_k81.and am_g154
theorem am_k83 : am_rP 0 158 := am_k82.and am_g157
theorem am_k84 : am_rP 0 159 := am_k83.and am_g158
theorem am_k85 : am_rP 0 161 := am_k84.and am_g159
theorem am_k86 : am_rP 0 162 := am_k85.and am_g161
theorem am_k87 : am_rP 0 163 := am_k86.and am_g162
theorem am_k88 : am_rP 0 164 := am_k87.and am_g163
theorem am_k89 : am_rP 0 165 := am_k88.and am_g164
theorem am_k90 : am_rP 0 167 := am_k89.and am_g165
theorem am_k91 : am_rP 0 168 := am_k90.and am_g167
theorem am_k92 : am_rP 0 170 := am_k91.and am_g168
theorem am_k93 : am_rP 0 172 := am_k92.and am_g170
theorem am_k94 : am_rP 0 173 := am_k93.and am_g172
theorem am_k95 : am_rP 0 174 := am_k94.and am_g173
theorem am_k96 : am_rP 0 175 := am_k95.and am_g174
theorem am_k97 : am_rP 0 178 := am_k96.and am_g175
theorem am_k98 : am_rP 0 179 := am_k97.and am_g178
theorem am_k99 : am_rP 0 180 := am_k98.and am_g179
theorem am_k100 : am_rP 0 182 := am_k99.and am_g180
theorem am_k101 : am_rP 0 183 := am_k100.and am_g182
theorem am_k102 : am_rP 0 184 := am_k101.and am_g183
theorem am_k103 : am_rP 0 185 := am_k102.and am_g184
theorem am_k104 : am_rP 0 186 := am_k103.and am_g185
theorem am_k105 : am_rP 0 187 := am_k104.and am_g186
theorem am_k106 : am_rP 0 189 := am_k105.and am_g187
theorem am_k107 : am_rP 0 190 := am_k106.and am_g189
theorem am_k108 : am_rP 0 192 := am_k107.and am_g190
theorem am_k109 : am_rP 0 193 := am_k108.and am_g192
theorem am_k110 : am_rP 0 194 := am_k109.and am_g193
theorem am_k111 : am_rP 0 195 := am_k110.and am_g194
theorem am_k112 : am_rP 0 196 := am_k111.and am_g195
theorem am_k113 : am_rP 0 197 := am_k112.and am_g196
theorem am_k114 : am_rP 0 198 := am_k113.and am_g197
theorem am_k115 : am_rP 0 200 := am_k114.and am_g198
theorem am_k116 : am_rP 0 201 := am_k115.and am_g200
theorem am_k117 : am_rP 0 202 := am_k116.and am_g201
theorem am_k118 : am_rP 0 203 := am_k117.and am_g202
theorem am_k119 : am_rP 0 207 := am_k118.and am_g203
theorem am_k120 : am_rP 0 208 := am_k119.and am_g207
theorem am_k121 : am_rP 0 210 := am_k120.and am_g208
theorem am_k122 : am_rP 0 211 := am_k121.and am_g210
theorem am_k123 : am_rP 0 212 := am_k122.and am_g211
theorem am_k124 : am_rP 0 213 := am_k123.and am_g212
theorem am_k125 : am_rP 0 214 := am_k124.and am_g213
theorem am_k126 : am_rP 0 215 := am_k125.and am_g214
theorem am_k127 : am_rP 0 216 := am_k126.and am_g215
theorem am_k128 : am_rP 0 217 := am_k127.and am_g216
theorem am_k129 : am_rP 0 218 := am_k128.and am_g217
theorem am_k130 : am_rP 0 219 := am_k129.and am_g218
theorem am_k131 : am_rP 0 222 := am_k130.and am_g219
theorem am_k132 : am_rP 0 224 := am_k131.and am_g222
theorem am_k133 : am_rP 0 225 := am_k132.and am_g224
theorem am_k134 : am_rP 0 226 := am_k133.and am_g225
theorem am_k135 : am_rP 0 228 := am_k134.and am_g226
theorem am_k136 : am_rP 0 229 := am_k135.and am_g228
theorem am_k137 : am_rP 0 230 := am_k136.and am_g229
theorem am_k138 : am_rP 0 231 := am_k137.and am_g230
theorem am_k139 : am_rP 0 232 := am_k138.and am_g231
theorem am_k140 : am_rP 0 234 := am_k139.and am_g232
theorem am_k141 : am_rP 0 235 := am_k140.and am_g234
theorem am_k142 : am_rP 0 236 := am_k141.and am_g235
theorem am_k143 : am_rP 0 237 := am_k142.and am_g236
theorem am_k144 : am_rP 0 239 := am_k143.and am_g237
theorem am_k145 : am_rP 0 240 := am_k144.and am_g239
theorem am_k146 : am_rP 0 241 := am_k145.and am_g240
theorem am_k147 : am_rP 0 242 := am_k146.and am_g241
theorem am_k148 : am_rP 0 244 := am_k147.and am_g242
theorem am_k149 : am_rP 0 245 := am_k148.and am_g244
theorem am_k150 : am_rP 0 246 := am_k149.and am_g245
theorem am_k151 : am_rP 0 247 := am_k150.and am_g246
theorem am_k152 : am_rP 0 255 := am_k151.and am_g247
theorem am_k153 : am_rP 0 259 := am_k152.and am_g255
theorem am_k154 : am_rP 0 262 := am_k153.and am_g259
theorem am_k155 : am_rP 0 264 := am_k154.and am_g262
theorem am_rall : am_rP 0 264 := am_k155
theorem am_rok_all : am_rok := fun mi => by
  rcases Nat.lt_or_ge mi 264 with q | q
  · exact (am_rall mi (Nat.zero_le _) q).1
  · rw [am_code_ge q]; rfl
theorem am_mok_all : am_mok := fun mi h => (am_rall mi (Nat.zero_le _) h).2
theorem am_cok2_all : am_cok2 := by
  intro q hq
  have h : am_cts.all (fun q => am_ctb "TextTools" q.1 q.2) = true := by decide +kernel
  exact List.all_eq_true.mp h q hq
