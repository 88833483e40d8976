/-! WHOLE NUMBERS -/
theorem h_nI (n : Nat) : nI n = h_ii n := Int32.ofInt_eq_ofNat.symm
theorem h_add (a b : Int) : h_ii a + h_ii b = h_ii (a + b) := (Int32.ofInt_add a b).symm
theorem h_sub (a b : Int) : h_ii a - h_ii b = h_ii (a - b) := (Int32.ofInt_sub a b).symm
theorem h_mul (a b : Int) : h_ii a * h_ii b = h_ii (a * b) := (Int32.ofInt_mul a b).symm
theorem h_neg (a : Int) : -(h_ii a) = h_ii (-a) := (Int32.ofInt_neg a).symm
theorem h_zero : (0 : Int32) = h_ii 0 := rfl
theorem h_of (x : Int32) : x = h_ii x.toInt := by
  apply Int32.toInt_inj.mp
  have h1 : -2 ^ 31 ≤ x.toInt := Int32.le_toInt x
  have h2 : x.toInt < 2 ^ 31 := Int32.toInt_lt x
  rw [h_toInt (by omega) (by omega)]
theorem h_inj {a b : Int} (h1 : -2147483648 ≤ a) (h2 : a < 2147483648) (h3 : -2147483648 ≤ b) (h4 : b < 2147483648) : (h_ii a = h_ii b) = (a = b) := by
  refine propext ⟨fun h => ?_, fun h => by rw [h]⟩
  rw [← h_toInt h1 h2, ← h_toInt h3 h4, h]
section HC
variable {a b : Int}
theorem h_clt (h1 : -2147483648 ≤ a) (h2 : a < 2147483648) (h3 : -2147483648 ≤ b) (h4 : b < 2147483648) : (am_cond .lt (h_ii a) (h_ii b) = true) = (a < b) := by
  unfold am_cond
  rw [decide_eq_true_eq, Int32.lt_iff_toInt_lt, h_toInt h1 h2, h_toInt h3 h4]
theorem h_cge (h1 : -2147483648 ≤ a) (h2 : a < 2147483648) (h3 : -2147483648 ≤ b) (h4 : b < 2147483648) : (am_cond .ge (h_ii a) (h_ii b) = true) = (b ≤ a) := by
  unfold am_cond
  rw [decide_eq_true_eq, Int32.le_iff_toInt_le, h_toInt h1 h2, h_toInt h3 h4]
theorem h_cgt (h1 : -2147483648 ≤ a) (h2 : a < 2147483648) (h3 : -2147483648 ≤ b) (h4 : b < 2147483648) : (am_cond .gt (h_ii a) (h_ii b) = true) = (b < a) := by
  unfold am_cond
  rw [decide_eq_true_eq, Int32.lt_iff_toInt_lt, h_toInt h1 h2, h_toInt h3 h4]
theorem h_cle (h1 : -2147483648 ≤ a) (h2 : a < 2147483648) (h3 : -2147483648 ≤ b) (h4 : b < 2147483648) : (am_cond .le (h_ii a) (h_ii b) = true) = (a ≤ b) := by
  unfold am_cond
  rw [decide_eq_true_eq, Int32.le_iff_toInt_le, h_toInt h1 h2, h_toInt h3 h4]
theorem h_ceq (h1 : -2147483648 ≤ a) (h2 : a < 2147483648) (h3 : -2147483648 ≤ b) (h4 : b < 2147483648) : (am_cond .eq (h_ii a) (h_ii b) = true) = (a = b) := by
  unfold am_cond
  rw [decide_eq_true_eq, h_inj h1 h2 h3 h4]
theorem h_cne (h1 : -2147483648 ≤ a) (h2 : a < 2147483648) (h3 : -2147483648 ≤ b) (h4 : b < 2147483648) : (am_cond .ne (h_ii a) (h_ii b) = true) = (¬ a = b) := by
  unfold am_cond
  rw [decide_eq_true_eq, h_inj h1 h2 h3 h4]
theorem h_div (h1 : 0 ≤ a) (h2 : a < 2147483648) (h3 : 0 < b) (h4 : b < 2147483648) : h_ii a / h_ii b = h_ii (a / b) := by
  apply Int32.toInt_inj.mp
  have hq : a / b ≤ a := Int.ediv_le_self b h1
  have hq0 : 0 ≤ a / b := Int.ediv_nonneg h1 (by omega)
  rw [Int32.toInt_div, h_toInt (by omega) h2, h_toInt (by omega) h4, h_toInt (by omega) (by omega), Int.tdiv_eq_ediv_of_nonneg h1]
  exact Int.bmod_eq_of_le (by omega) (by omega)
theorem h_rem (h1 : 0 ≤ a) (h2 : a < 2147483648) (h3 : 0 < b) (h4 : b < 2147483648) : h_ii a - h_ii a / h_ii b * h_ii b = h_ii (a % b) := by
  rw [h_div h1 h2 h3 h4, h_mul, h_sub]
  congr 1
  rw [Int.mul_comm]
  exact (Int.emod_def a b).symm
end HC
theorem h_and (a : Int) (k : Nat) (hk : k ≤ 30) : h_ii a &&& h_ii ((2 ^ k - 1 : Nat) : Int) = h_ii (a % (2 ^ k : Nat)) := by
  apply Int32.toBitVec_inj.mp
  unfold h_ii
  rw [Int32.toBitVec_and, Int32.toBitVec_ofInt, Int32.toBitVec_ofInt, Int32.toBitVec_ofInt]
  apply BitVec.eq_of_toNat_eq
  have hp : (2 : Nat) ^ k ≤ 2 ^ 30 := Nat.pow_le_pow_right (by decide) hk
  have hp0 : 0 < (2 : Nat) ^ k := Nat.pow_pos (by decide)
  have hd : (2 : Nat) ^ k ∣ 2 ^ 32 := Nat.pow_dvd_pow 2 (by omega)
  rw [BitVec.toNat_and, BitVec.toNat_ofInt, BitVec.toNat_ofInt, BitVec.toNat_ofInt]
  have e2 : ((((2 ^ k - 1 : Nat) : Int)) % ((2 ^ 32 : Nat) : Int)).toNat = 2 ^ k - 1 := by
    rw [← Int.natCast_emod, Int.toNat_natCast]
    exact Nat.mod_eq_of_lt (by omega)
  rw [e2, Nat.and_two_pow_sub_one_eq_mod]
  have h0 : 0 ≤ a % ((2 ^ 32 : Nat) : Int) := Int.emod_nonneg _ (by decide)
  have h1 : 0 ≤ a % ((2 ^ k : Nat) : Int) := Int.emod_nonneg _ (by omega)
  have h2 : a % ((2 ^ k : Nat) : Int) < ((2 ^ k : Nat) : Int) := Int.emod_lt_of_pos _ (by omega)
  apply Int.ofNat.inj
  show (((a % ((2 ^ 32 : Nat) : Int)).toNat % 2 ^ k : Nat) : Int) = (((a % ((2 ^ k : Nat) : Int)) % ((2 ^ 32 : Nat) : Int)).toNat : Int)
  rw [Int.natCast_emod, Int.toNat_of_nonneg h0, Int.toNat_of_nonneg (Int.emod_nonneg _ (by decide)), Int.emod_emod_of_dvd _ (Int.natCast_dvd_natCast.mpr hd)]
  rw [Int.emod_eq_of_lt h1 (by omega)]
theorem h_and255 (a : Int) : h_ii a &&& h_ii 255 = h_ii (a % 256) := h_and a 8 (by decide)
theorem h_and15 (a : Int) : h_ii a &&& h_ii 15 = h_ii (a % 16) := h_and a 4 (by decide)
theorem h_and3 (a : Int) : h_ii a &&& h_ii 3 = h_ii (a % 4) := h_and a 2 (by decide)
theorem h_and31 (a : Int) : h_ii a &&& 31 = h_ii (a % 32) := h_and a 5 (by decide)
theorem h_bm (a : Int) : Int.bmod a 256 % 256 = a % 256 := Int.bmod_emod
theorem h_bm1 (a : Int) : -128 ≤ Int.bmod a 256 := by have := @Int.le_bmod a 256 (by decide); omega
theorem h_bm2 (a : Int) : Int.bmod a 256 < 128 := by have := @Int.bmod_lt a 256 (by decide); omega
