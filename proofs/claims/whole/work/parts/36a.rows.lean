theorem am_r129_50 : ((am_c129.drop 50).take 50).all (am_rowm 129) = true := by decide +kernel
theorem am_g129 : am_rP 129 130 := am_rP.one (a := 129) (l := am_c129) rfl (am_rtc (a := 0) am_r129_0 (am_rtc (a := 50) am_r129_50 (by decide +kernel))) (by decide +kernel)
theorem am_g130 : am_rP 130 133 := am_rP.of (a := 130) (n := 3) (by decide +kernel)
theorem am_g133 : am_rP 133 134 := am_rP.of (a := 133) (n := 1) (by decide +kernel)
theorem am_r134_0 : ((am_c134.drop 0).take 50).all (am_rowm 134) = true := by decide +kernel
theorem am_r134_50 : ((am_c134.drop 50).take 50).all (am_rowm 134) = true := by decide +kernel
theorem am_g134 : am_rP 134 135 := am_rP.one (a := 134) (l := am_c134) rfl (am_rtc (a := 0) am_r134_0 (am_rtc (a := 50) am_r134_50 (by decide +kernel))) (by decide +kernel)
theorem am_g135 : am_rP 135 136 := am_rP.of (a := 135) (n := 1) (by decide +kernel)
theorem am_r136_0 : ((am_c136.drop 0).take 50).all (am_rowm 136) = true := by decide +kernel
theorem am_r136_50 : ((am_c136.drop 50).take 50).all (am_rowm 136) = true := by decide +kernel
theorem am_g136 : am_rP 136 137 := am_rP.one (a := 136) (l := am_c136) rfl (am_rtc (a := 0) am_r136_0 (am_rtc (a := 50) am_r136_50 (by decide +kernel))) (by decide +kernel)
theorem am_g137 : am_rP 137 139 := am_rP.of (a := 137) (n := 2) (by decide +kernel)
theorem am_g139 : am_rP 139 140 := am_rP.of (a := 139) (n := 1) (by decide +kernel)
theorem am_r140_0 : ((am_c140.drop 0).take 50).all (am_rowm 140) = true := by decide +kernel
theorem am_r140_50 : ((am_c140.drop 50).take 50).all (am_rowm 140) = true := by decide +kernel
theorem am_g140 : am_rP 140 141 := am_rP.one (a := 140) (l := am_c140) rfl (am_rtc (a := 0) am_r140_0 (am_rtc (a := 50) am_r140_50 (by decide +kernel))) (by decide +kernel)
theorem am_g141 : am_rP 141 142 := am_rP.of (a := 141) (n := 1) (by decide +kernel)
theorem am_r142_0 : ((am_c142.drop 0).take 50).all (am_rowm 142) = true := by decide +kernel
theorem am_r142_50 : ((am_c142.drop 50).take 50).all (am_rowm 142) = true := by decide +kernel
theorem am_g142 : am_rP 142 143 := am_rP.one (a := 142) (l := am_c142) rfl (am_rtc (a := 0) am_r142_0 (am_rtc (a := 50) am_r142_50 (by decide +kernel))) (by decide +kernel)
theorem am_r143_0 : ((am_c143.drop 0).take 50).all (am_rowm 143) = true := by decide +kernel
theorem am_r143_50 : ((am_c143.drop 50).take 50).all (am_rowm 143) = true := by decide +kernel
theorem am_r143_100 : ((am_c143.drop 100).take 50).all (am_rowm 143) = true := by decide +kernel
theorem am_g143 : am_rP 143 144 := am_rP.one (a := 143) (l := am_c143) rfl (am_rtc (a := 0) am_r143_0 (am_rtc (a := 50) am_r143_50 (am_rtc (a := 100) am_r143_100 (by decide +kernel)))) (by decide +kernel)
theorem am_g144 : am_rP 144 146 := am_rP.of (a := 144) (n := 2) (by decide +kernel)
theorem am_g146 : am_rP 146 147 := am_rP.of (a := 146) (n := 1) (by decide +kernel)
theorem am_r147_0 : ((am_c147.drop 0).take 50).all (am_rowm 147) = true := by decide +kernel
theorem am_r147_50 : ((am_c147.drop 50).take 50).all (am_rowm 147) = true := by decide +kernel
theorem am_g147 : am_rP 147 148 := am_rP.one (a := 147) (l := am_c147) rfl (am_rtc (a := 0) am_r147_0 (am_rtc (a := 50) am_r147_50 (by decide +kernel))) (by decide +kernel)
theorem am_r148_0 : ((am_c148.drop 0).take 50).all (am_rowm 148) = true := by decide +kernel
theorem am_r148_50 : ((am_c148.drop 50).take 50).all (am_rowm 148) = true := by decide +kernel
theorem am_r148_100 : ((am_c148.drop 100).take 50).all (am_rowm 148) = true := by decide +kernel
theorem am_g148 : am_rP 148 149 := am_rP.one (a := 148) (l := am_c148) rfl (am_rtc (a := 0) am_r148_0 (am_rtc (a := 50) am_r148_50 (am_rtc (a := 100) am_r148_100 (by decide +kernel)))) (by decide +kernel)
theorem am_g149 : am_rP 149 150 := am_rP.of (a := 149) (n := 1) (by decide +kernel)
theorem am_r150_0 : ((am_c150.drop 0).take 50).all (am_rowm 150) = true := by decide +kernel
theorem am_r150_50 : ((am_c150.drop 50).take 50).all (am_rowm 150) = true := by decide +kernel
theorem am_g150 : am_rP 150 151 := am_rP.one (a := 150) (l := am_c150) rfl (am_rtc (a := 0) am_r150_0 (am_rtc (a := 50) am_r150_50 (by decide +kernel))) (by decide +kernel)
theorem am_r151_0 : ((am_c151.drop 0).take 50).all (am_rowm 151) = true := by decide +kernel
theorem am_r151_50 : ((am_c151.drop 50).take 50).all (am_rowm 151) = true := by decide +kernel
theorem am_g151 : am_rP 151 152 := am_rP.one (a := 151) (l := am_c151) rfl (am_rtc (a := 0) am_r151_0 (am_rtc (a := 50) am_r151_50 (by decide +kernel))) (by decide +kernel)
theorem am_g152 : am_rP 152 154 := am_rP.of (a := 152) (n := 2) (by decide +kernel)
theorem am_g154 : am_rP 154 157 := am_rP.of (a := 154) (n := 3) (by decide +kernel)
theorem am_g157 : am_rP 157 158 := am_rP.of (a := 157) (n := 1) (by decide +kernel)
theorem am_r158_0 : ((am_c158.drop 0).take 50).all (am_rowm 158) = true := by decide +kernel
theorem am_r158_50 : ((am_c158.drop 50).take 50).all (am_rowm 158) = true := by decide +kernel
theorem am_r158_100 : ((am_c158.drop 100).take 50).all (am_rowm 158) = true := by decide +kernel
theorem am_g158 : am_rP 158 159 := am_rP.one (a := 158) (l := am_c158) rfl (am_rtc (a := 0) am_r158_0 (am_rtc (a := 50) am_r158_50 (am_rtc (a := 100) am_r158_100 (by decide +kernel)))) (by decide +kernel)
theorem am_g159 : am_rP 159 161 := am_rP.of (a := 159) (n := 2) (by decide +kernel)
theorem am_g161 : am_rP 161 162 := am_rP.of (a := 161) (n := 1) (by decide +kernel)
theorem am_g162 : am_rP 162 163 := am_rP.of (a := 162) (n := 1) (by decide +kernel)
theorem am_g163 : am_rP 163 164 := am_rP.of (a := 163) (n := 1) (by decide +kernel)
theorem am_r164_0 : ((am_c164.drop 0).take 50).all (am_rowm 164) = true := by decide +kernel
theorem am_r164_50 : ((am_c164.drop 50).take 50).all (am_rowm 164) = true := by decide +kernel
theorem am_g164 : am_rP 164 165 := am_rP.one (a := 164) (l := am_c164) rfl (am_rtc (a := 0) am_r164_0 (am_rtc (a := 50) am_r164_50 (by decide +kernel))) (by decide +kernel)
theorem am_g165 : am_rP 165 167 := am_rP.of (a := 165) (n := 2) (by decide +kernel)
theorem am_r167_0 : ((am_c167.drop 0).take 50).all (am_rowm 167) = true := by decide +kernel
theorem am_r167_50 : ((am_c167.drop 50).take 50).all (am_rowm 167) = true := by decide +kernel
theorem am_r167_100 : ((am_c167.drop 100).take 50).all (am_rowm 167) = true := by decide +kernel
theorem am_g167 : am_rP 167 168 := am_rP.one (a := 167) (l := am_c167) rfl (am_rtc (a := 0) am_r167_0 (am_rtc (a := 50) am_r167_50 (am_rtc (a := 100) am_r167_100 (by decide +kernel)))) (by decide +kernel)
theorem am_g168 : am_rP 168 170 := am_rP.of (a := 168) (n := 2) (by decide +kernel)
theorem am_g170 : am_rP 170 172 := am_rP.of (a := 170) (n := 2) (by decide +kernel)
theorem am_g172 : am_rP 172 173 := am_rP.of (a := 172) (n := 1) (by decide +kernel)
theorem am_g173 : am_rP 173 174 := am_rP.of (a := 173) (n := 1) (by decide +kernel)
theorem am_r174_0 : ((am_c174.drop 0).take 50).all (am_rowm 174) = true := by decide +kernel
theorem am_r174_50 : ((am_c174.drop 50).take 50).all (am_rowm 174) = true := by decide +kernel
theorem am_r174_100 : ((am_c174.drop 100).take 50).all (am_rowm 174) = true := by decide +kernel
theorem am_g174 : am_rP 174 175 := am_rP.one (a := 174) (l := am_c174) rfl (am_rtc (a := 0) am_r174_0 (am_rtc (a := 50) am_r174_50 (am_rtc (a := 100) am_r174_100 (by decide +kernel)))) (by decide +kernel)
theorem am_g175 : am_rP 175 178 := am_rP.of (a := 175) (n := 3) (by decide +kernel)
theorem am_r178_0 : ((am_c178.drop 0).take 50).all (am_rowm 178) = true := by decide +kernel
theorem am_r178_50 : ((am_c178.drop 50).take 50).all (am_rowm 178) = true := by decide +kernel
theorem am_r178_100 : ((am_c178.drop 100).take 50).all (am_rowm 178) = true := by decide +kernel
theorem am_g178 : am_rP 178 179 := am_rP.one (a := 178) (l := am_c178) rfl (am_rtc (a := 0) am_r178_0 (am_rtc (a := 50) am_r178_50 (am_rtc (a := 100) am_r178_100 (by decide +kernel)))) (by decide +kernel)
theorem am_r179_0 : ((am_c179.drop 0).take 50).all (am_rowm 179) = true := by decide +kernel
theorem am_r179_50 : ((am_c179.drop 50).take 50).all (am_rowm 179) = true := by decide +kernel
theorem am_r179_100 : ((am_c179.drop 100).take 50).all (am_rowm 179) = true := by decide +kernel
theorem am_g179 : am_rP 179 180 := am_rP.one (a := 179) (l := am_c179) rfl (am_rtc (a := 0) am_r179_0 (am_rtc (a := 50) am_r179_50 (am_rtc (a := 100) am_r179_100 (by decide +kernel)))) (by decide +kernel)
theorem am_g180 : am_rP 180 182 := am_rP.of (a := 180) (n := 2) (by decide +kernel)
theorem am_r182_0 : ((am_c182.drop 0).take 50).all (am_rowm 182) = true := by decide +kernel
theorem am_r182_50 : ((am_c182.drop 50).take 50).all (am_rowm 182) = true := by decide +kernel
theorem am_g182 : am_rP 182 183 := am_rP.one (a := 182) (l := am_c182) rfl (am_rtc (a := 0) am_r182_0 (am_rtc (a := 50) am_r182_50 (by decide +kernel))) (by decide +kernel)
theorem am_g183 : am_rP 183 184 := am_rP.of (a := 183) (n := 1) (by decide +kernel)
theorem am_r184_0 : ((am_c184.drop 0).take 50).all (am_rowm 184) = true := by decide +kernel
theorem am_r184_50 : ((am_c184.drop 50).take 50).all (am_rowm 184) = true := by decide +kernel
theorem am_r184_100 : ((am_c184.drop 100).take 50).all (am_rowm 184) = true := by decide +kernel
theorem am_g184 : am_rP 184 185 := am_rP.one (a := 184) (l := am_c184) rfl (am_rtc (a := 0) am_r184_0 (am_rtc (a := 50) am_r184_50 (am_rtc (a := 100) am_r184_100 (by decide +kernel)))) (by decide +kernel)
theorem am_r185_0 : ((am_c185.drop 0).take 50).all (am_rowm 185) = true := by decide +kernel
theorem am_r185_50 : ((am_c185.drop 50).take 50).all (am_rowm 185) = true := by decide +kernel
theorem am_r185_100 : ((am_c185.drop 100).take 50).all (am_rowm 185) = true := by decide +kernel
theorem am_g185 : am_rP 185 186 := am_rP.one (a := 185) (l := am_c185) rfl (am_rtc (a := 0) am_r185_0 (am_rtc (a := 50) am_r185_50 (am_rtc (a := 100) am_r185_100 (by decide +kernel)))) (by decide +kernel)
theorem am_r186_0 : ((am_c186.drop 0).take 50).all (am_rowm 186) = true := by decide +kernel
theorem am_r186_50 : ((am_c186.drop 50).take 50).all (am_rowm 186) = true := by decide +kernel
theorem am_g186 : am_rP 186 187 := am_rP.one (a := 186) (l := am_c186) rfl (am_rtc (a := 0) am_r186_0 (am_rtc (a := 50) am_r186_50 (by decide +kernel))) (by decide +kernel)
theorem am_g187 : am_rP 187 189 := am_rP.of (a := 187) (n := 2) (by decide +kernel)
theorem am_r189_0 : ((am_c189.drop 0).take 50).all (am_rowm 189) = true := by decide +kernel
theorem am_r189_50 : ((am_c189.drop 50).take 50).all (am_rowm 189) = true := by decide +kernel
theorem am_g189 : am_rP 189 190 := am_rP.one (a := 189) (l := am_c189) rfl (am_rtc (a := 0) am_r189_0 (am_rtc (a := 50) am_r189_50 (by decide +kernel))) (by decide +kernel)
theorem am_g190 : am_rP 190 192 := am_rP.of (a := 190) (n := 2) (by decide +kernel)
theorem am_g192 : am_rP 192 193 := am_rP.of (a := 192) (n := 1) (by decide +kernel)
theorem am_g193 : am_rP 193 194 := am_rP.of (a := 193) (n := 1) (by decide +kernel)
theorem am_r194_0 : ((am_c194.drop 0).take 50).all (am_rowm 194) = true := by decide +kernel
theorem am_r194_50 : ((am_c194.drop 50).take 50).all (am_rowm 194) = true := by decide +kernel
theorem am_g194 : am_rP 194 195 := am_rP.one (a := 194) (l := am_c194) rfl (am_rtc (a := 0) am_r194_0 (am_rtc (a := 50) am_r194_50 (by decide +kernel))) (by decide +kernel)
theorem am_r195_0 : ((am_c195.drop 0).take 50).all (am_rowm 195) = true := by decide +kernel
