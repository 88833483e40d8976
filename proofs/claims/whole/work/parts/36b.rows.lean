theorem am_r195_50 : ((am_c195.drop 50).take 50).all (am_rowm 195) = true := by decide +kernel
theorem am_g195 : am_rP 195 196 := am_rP.one (a := 195) (l := am_c195) rfl (am_rtc (a := 0) am_r195_0 (am_rtc (a := 50) am_r195_50 (by decide +kernel))) (by decide +kernel)
theorem am_r196_0 : ((am_c196.drop 0).take 50).all (am_rowm 196) = true := by decide +kernel
theorem am_r196_50 : ((am_c196.drop 50).take 50).all (am_rowm 196) = true := by decide +kernel
theorem am_r196_100 : ((am_c196.drop 100).take 50).all (am_rowm 196) = true := by decide +kernel
theorem am_g196 : am_rP 196 197 := am_rP.one (a := 196) (l := am_c196) rfl (am_rtc (a := 0) am_r196_0 (am_rtc (a := 50) am_r196_50 (am_rtc (a := 100) am_r196_100 (by decide +kernel)))) (by decide +kernel)
theorem am_g197 : am_rP 197 198 := am_rP.of (a := 197) (n := 1) (by decide +kernel)
theorem am_g198 : am_rP 198 200 := am_rP.of (a := 198) (n := 2) (by decide +kernel)
theorem am_r200_0 : ((am_c200.drop 0).take 50).all (am_rowm 200) = true := by decide +kernel
theorem am_r200_50 : ((am_c200.drop 50).take 50).all (am_rowm 200) = true := by decide +kernel
theorem am_r200_100 : ((am_c200.drop 100).take 50).all (am_rowm 200) = true := by decide +kernel
theorem am_g200 : am_rP 200 201 := am_rP.one (a := 200) (l := am_c200) rfl (am_rtc (a := 0) am_r200_0 (am_rtc (a := 50) am_r200_50 (am_rtc (a := 100) am_r200_100 (by decide +kernel)))) (by decide +kernel)
theorem am_g201 : am_rP 201 202 := am_rP.of (a := 201) (n := 1) (by decide +kernel)
theorem am_r202_0 : ((am_c202.drop 0).take 50).all (am_rowm 202) = true := by decide +kernel
theorem am_r202_50 : ((am_c202.drop 50).take 50).all (am_rowm 202) = true := by decide +kernel
theorem am_r202_100 : ((am_c202.drop 100).take 50).all (am_rowm 202) = true := by decide +kernel
theorem am_g202 : am_rP 202 203 := am_rP.one (a := 202) (l := am_c202) rfl (am_rtc (a := 0) am_r202_0 (am_rtc (a := 50) am_r202_50 (am_rtc (a := 100) am_r202_100 (by decide +kernel)))) (by decide +kernel)
theorem am_g203 : am_rP 203 207 := am_rP.of (a := 203) (n := 4) (by decide +kernel)
theorem am_r207_0 : ((am_c207.drop 0).take 50).all (am_rowm 207) = true := by decide +kernel
theorem am_r207_50 : ((am_c207.drop 50).take 50).all (am_rowm 207) = true := by decide +kernel
theorem am_r207_100 : ((am_c207.drop 100).take 50).all (am_rowm 207) = true := by decide +kernel
theorem am_g207 : am_rP 207 208 := am_rP.one (a := 207) (l := am_c207) rfl (am_rtc (a := 0) am_r207_0 (am_rtc (a := 50) am_r207_50 (am_rtc (a := 100) am_r207_100 (by decide +kernel)))) (by decide +kernel)
theorem am_g208 : am_rP 208 210 := am_rP.of (a := 208) (n := 2) (by decide +kernel)
theorem am_r210_0 : ((am_c210.drop 0).take 50).all (am_rowm 210) = true := by decide +kernel
theorem am_r210_50 : ((am_c210.drop 50).take 50).all (am_rowm 210) = true := by decide +kernel
theorem am_g210 : am_rP 210 211 := am_rP.one (a := 210) (l := am_c210) rfl (am_rtc (a := 0) am_r210_0 (am_rtc (a := 50) am_r210_50 (by decide +kernel))) (by decide +kernel)
theorem am_g211 : am_rP 211 212 := am_rP.of (a := 211) (n := 1) (by decide +kernel)
theorem am_r212_0 : ((am_c212.drop 0).take 50).all (am_rowm 212) = true := by decide +kernel
theorem am_r212_50 : ((am_c212.drop 50).take 50).all (am_rowm 212) = true := by decide +kernel
theorem am_g212 : am_rP 212 213 := am_rP.one (a := 212) (l := am_c212) rfl (am_rtc (a := 0) am_r212_0 (am_rtc (a := 50) am_r212_50 (by decide +kernel))) (by decide +kernel)
theorem am_r213_0 : ((am_c213.drop 0).take 50).all (am_rowm 213) = true := by decide +kernel
theorem am_r213_50 : ((am_c213.drop 50).take 50).all (am_rowm 213) = true := by decide +kernel
theorem am_g213 : am_rP 213 214 := am_rP.one (a := 213) (l := am_c213) rfl (am_rtc (a := 0) am_r213_0 (am_rtc (a := 50) am_r213_50 (by decide +kernel))) (by decide +kernel)
theorem am_g214 : am_rP 214 215 := am_rP.of (a := 214) (n := 1) (by decide +kernel)
theorem am_r215_0 : ((am_c215.drop 0).take 50).all (am_rowm 215) = true := by decide +kernel
theorem am_r215_50 : ((am_c215.drop 50).take 50).all (am_rowm 215) = true := by decide +kernel
theorem am_r215_100 : ((am_c215.drop 100).take 50).all (am_rowm 215) = true := by decide +kernel
theorem am_g215 : am_rP 215 216 := am_rP.one (a := 215) (l := am_c215) rfl (am_rtc (a := 0) am_r215_0 (am_rtc (a := 50) am_r215_50 (am_rtc (a := 100) am_r215_100 (by decide +kernel)))) (by decide +kernel)
theorem am_g216 : am_rP 216 217 := am_rP.of (a := 216) (n := 1) (by decide +kernel)
theorem am_r217_0 : ((am_c217.drop 0).take 50).all (am_rowm 217) = true := by decide +kernel
theorem am_r217_50 : ((am_c217.drop 50).take 50).all (am_rowm 217) = true := by decide +kernel
theorem am_g217 : am_rP 217 218 := am_rP.one (a := 217) (l := am_c217) rfl (am_rtc (a := 0) am_r217_0 (am_rtc (a := 50) am_r217_50 (by decide +kernel))) (by decide +kernel)
theorem am_r218_0 : ((am_c218.drop 0).take 50).all (am_rowm 218) = true := by decide +kernel
theorem am_r218_50 : ((am_c218.drop 50).take 50).all (am_rowm 218) = true := by decide +kernel
theorem am_g218 : am_rP 218 219 := am_rP.one (a := 218) (l := am_c218) rfl (am_rtc (a := 0) am_r218_0 (am_rtc (a := 50) am_r218_50 (by decide +kernel))) (by decide +kernel)
theorem am_g219 : am_rP 219 222 := am_rP.of (a := 219) (n := 3) (by decide +kernel)
theorem am_g222 : am_rP 222 224 := am_rP.of (a := 222) (n := 2) (by decide +kernel)
theorem am_g224 : am_rP 224 225 := am_rP.of (a := 224) (n := 1) (by decide +kernel)
theorem am_r225_0 : ((am_c225.drop 0).take 50).all (am_rowm 225) = true := by decide +kernel
theorem am_r225_50 : ((am_c225.drop 50).take 50).all (am_rowm 225) = true := by decide +kernel
theorem am_g225 : am_rP 225 226 := am_rP.one (a := 225) (l := am_c225) rfl (am_rtc (a := 0) am_r225_0 (am_rtc (a := 50) am_r225_50 (by decide +kernel))) (by decide +kernel)
theorem am_g226 : am_rP 226 228 := am_rP.of (a := 226) (n := 2) (by decide +kernel)
theorem am_r228_0 : ((am_c228.drop 0).take 50).all (am_rowm 228) = true := by decide +kernel
theorem am_r228_50 : ((am_c228.drop 50).take 50).all (am_rowm 228) = true := by decide +kernel
theorem am_g228 : am_rP 228 229 := am_rP.one (a := 228) (l := am_c228) rfl (am_rtc (a := 0) am_r228_0 (am_rtc (a := 50) am_r228_50 (by decide +kernel))) (by decide +kernel)
theorem am_r229_0 : ((am_c229.drop 0).take 50).all (am_rowm 229) = true := by decide +kernel
theorem am_r229_50 : ((am_c229.drop 50).take 50).all (am_rowm 229) = true := by decide +kernel
theorem am_g229 : am_rP 229 230 := am_rP.one (a := 229) (l := am_c229) rfl (am_rtc (a := 0) am_r229_0 (am_rtc (a := 50) am_r229_50 (by decide +kernel))) (by decide +kernel)
theorem am_r230_0 : ((am_c230.drop 0).take 50).all (am_rowm 230) = true := by decide +kernel
theorem am_r230_50 : ((am_c230.drop 50).take 50).all (am_rowm 230) = true := by decide +kernel
theorem am_g230 : am_rP 230 231 := am_rP.one (a := 230) (l := am_c230) rfl (am_rtc (a := 0) am_r230_0 (am_rtc (a := 50) am_r230_50 (by decide +kernel))) (by decide +kernel)
theorem am_r231_0 : ((am_c231.drop 0).take 50).all (am_rowm 231) = true := by decide +kernel
theorem am_r231_50 : ((am_c231.drop 50).take 50).all (am_rowm 231) = true := by decide +kernel
theorem am_r231_100 : ((am_c231.drop 100).take 50).all (am_rowm 231) = true := by decide +kernel
theorem am_r231_150 : ((am_c231.drop 150).take 50).all (am_rowm 231) = true := by decide +kernel
theorem am_g231 : am_rP 231 232 := am_rP.one (a := 231) (l := am_c231) rfl (am_rtc (a := 0) am_r231_0 (am_rtc (a := 50) am_r231_50 (am_rtc (a := 100) am_r231_100 (am_rtc (a := 150) am_r231_150 (by decide +kernel))))) (by decide +kernel)
theorem am_g232 : am_rP 232 234 := am_rP.of (a := 232) (n := 2) (by decide +kernel)
theorem am_r234_0 : ((am_c234.drop 0).take 50).all (am_rowm 234) = true := by decide +kernel
theorem am_r234_50 : ((am_c234.drop 50).take 50).all (am_rowm 234) = true := by decide +kernel
theorem am_r234_100 : ((am_c234.drop 100).take 50).all (am_rowm 234) = true := by decide +kernel
theorem am_r234_150 : ((am_c234.drop 150).take 50).all (am_rowm 234) = true := by decide +kernel
theorem am_g234 : am_rP 234 235 := am_rP.one (a := 234) (l := am_c234) rfl (am_rtc (a := 0) am_r234_0 (am_rtc (a := 50) am_r234_50 (am_rtc (a := 100) am_r234_100 (am_rtc (a := 150) am_r234_150 (by decide +kernel))))) (by decide +kernel)
theorem am_g235 : am_rP 235 236 := am_rP.of (a := 235) (n := 1) (by decide +kernel)
theorem am_r236_0 : ((am_c236.drop 0).take 50).all (am_rowm 236) = true := by decide +kernel
theorem am_r236_50 : ((am_c236.drop 50).take 50).all (am_rowm 236) = true := by decide +kernel
theorem am_r236_100 : ((am_c236.drop 100).take 50).all (am_rowm 236) = true := by decide +kernel
theorem am_r236_150 : ((am_c236.drop 150).take 50).all (am_rowm 236) = true := by decide +kernel
theorem am_g236 : am_rP 236 237 := am_rP.one (a := 236) (l := am_c236) rfl (am_rtc (a := 0) am_r236_0 (am_rtc (a := 50) am_r236_50 (am_rtc (a := 100) am_r236_100 (am_rtc (a := 150) am_r236_150 (by decide +kernel))))) (by decide +kernel)
theorem am_g237 : am_rP 237 239 := am_rP.of (a := 237) (n := 2) (by decide +kernel)
theorem am_r239_0 : ((am_c239.drop 0).take 50).all (am_rowm 239) = true := by decide +kernel
theorem am_r239_50 : ((am_c239.drop 50).take 50).all (am_rowm 239) = true := by decide +kernel
theorem am_g239 : am_rP 239 240 := am_rP.one (a := 239) (l := am_c239) rfl (am_rtc (a := 0) am_r239_0 (am_rtc (a := 50) am_r239_50 (by decide +kernel))) (by decide +kernel)
theorem am_r240_0 : ((am_c240.drop 0).take 50).all (am_rowm 240) = true := by decide +kernel
theorem am_r240_50 : ((am_c240.drop 50).take 50).all (am_rowm 240) = true := by decide +kernel
theorem am_r240_100 : ((am_c240.drop 100).take 50).all (am_rowm 240) = true := by decide +kernel
theorem am_g240 : am_rP 240 241 := am_rP.one (a := 240) (l := am_c240) rfl (am_rtc (a := 0) am_r240_0 (am_rtc (a := 50) am_r240_50 (am_rtc (a := 100) am_r240_100 (by decide +kernel)))) (by decide +kernel)
theorem am_g241 : am_rP 241 242 := am_rP.of (a := 241) (n := 1) (by decide +kernel)
theorem am_g242 : am_rP 242 244 := am_rP.of (a := 242) (n := 2) (by decide +kernel)
theorem am_r244_0 : ((am_c244.drop 0).take 50).all (am_rowm 244) = true := by decide +kernel
theorem am_r244_50 : ((am_c244.drop 50).take 50).all (am_rowm 244) = true := by decide +kernel
theorem am_r244_100 : ((am_c244.drop 100).take 50).all (am_rowm 244) = true := by decide +kernel
theorem am_g244 : am_rP 244 245 := am_rP.one (a := 244) (l := am_c244) rfl (am_rtc (a := 0) am_r244_0 (am_rtc (a := 50) am_r244_50 (am_rtc (a := 100) am_r244_100 (by decide +kernel)))) (by decide +kernel)
theorem am_r245_0 : ((am_c245.drop 0).take 50).all (am_rowm 245) = true := by decide +kernel
theorem am_r245_50 : ((am_c245.drop 50).take 50).all (am_rowm 245) = true := by decide +kernel
theorem am_r245_100 : ((am_c245.drop 100).take 50).all (am_rowm 245) = true := by decide +kernel
theorem am_g245 : am_rP 245 246 := am_rP.one (a := 245) (l := am_c245) rfl (am_rtc (a := 0) am_r245_0 (am_rtc (a := 50) am_r245_50 (am_rtc (a := 100) am_r245_100 (by decide +kernel)))) (by decide +kernel)
theorem am_r246_0 : ((am_c246.drop 0).take 50).all (am_rowm 246) = true := by decide +kernel
theorem am_r246_50 : ((am_c246.drop 50).take 50).all (am_rowm 246) = true := by decide +kernel
theorem am_g246 : am_rP 246 247 := am_rP.one (a := 246) (l := am_c246) rfl (am_rtc (a := 0) am_r246_0 (am_rtc (a := 50) am_r246_50 (by decide +kernel))) (by decide +kernel)
theorem am_g247 : am_rP 247 255 := am_rP.of (a := 247) (n := 8) (by decide +kernel)
theorem am_g255 : am_rP 255 259 := am_rP.of (a := 255) (n := 4) (by decide +kernel)
theorem am_g259 : am_rP 259 262 := am_rP.of (a := 259) (n := 3) (by decide +kernel)
theorem am_g262 : am_rP 262 264 := am_rP.of (a := 262) (n := 2) (by decide +kernel)
