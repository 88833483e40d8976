/-! THE CLASS'S STATE, AS A RECORD (printed by wip/whole/gen53.py) -/
/-- offsets of the thirteen rows of lines -/
abbrev c_lp (p : Nat) : Prop := p = 22 ∨ p = 25 ∨ (48 ≤ p ∧ p < 81 ∧ p % 3 = 0)
/-- numbers of the arrays that may be made anew: the tape, the bare words, the sorter's rows; 100 + p bytes of lines, 200 + p their stops -/
abbrev c_vr (r : Nat) : Prop := r = 1 ∨ r = 7 ∨ (29 ≤ r ∧ r ≤ 36) ∨ (100 ≤ r ∧ c_lp (r - 100)) ∨ (200 ≤ r ∧ c_lp (r - 200))
def c_kl : List Nat := [1, 0, 1004, 1002, 5, 3, 0, 0, 4, 1002, 1001, 1002, 1001, 1001, 1002, 6, 0, 1001, 1001, 1001, 1001, 1004, 0, 0, 0, 0, 0, 0, 7, 0, 0, 0, 0, 0, 0, 0, 0, 8, 1005, 1001, 1001, 1005, 1001, 1001, 9, 1001, 1001, 1002]
def c_nl : List Nat := [0, 0, 11, 11, 0, 0, 0, 0, 0, 128, 128, 242, 300, 242, 3, 0, 0, 20, 20, 2, 2, 20, 0, 0, 0, 0, 0, 0, 0, 0, 0, 0, 0, 0, 0, 0, 0, 0, 2, 300, 300, 2, 300, 300, 0, 256, 256, 256]
/-- what stands at an offset: 0 nothing, c + 1 an object, 1000 + t an array -/
def c_kd (k : Nat) : Nat := if c_lp k then 2 else c_kl.getD k 0
def c_ln (k : Nat) : Nat := c_nl.getD k 0
def c_da (da ba ta : Nat → Nat) (r : Nat) : Nat := if r < 100 then da r else if r < 200 then ba (r - 100) else ta (r - 200)
abbrev c_D : Type := Nat × Nat × (Nat → Nat) × (Nat → Nat) × (Nat → Nat) × (Nat → Nat) × (Nat → Nat) × (Nat → Nat) × (Nat → Nat) × (Nat → Nat → Int) × (Nat → Nat → Int) × (Nat → Nat → Int) × (Nat → Nat → Int) × (Nat → Nat) × (Nat → Nat) × (Nat → Option va_E)
def c_ok (b : Nat) (nx : Nat) (ro da ba ta L : Nat → Nat) : Prop :=
  (∀ r, c_vr r → ro (c_da da ba ta r) = r) ∧ (∀ q, ro q ≠ 0 → c_vr (ro q) ∧ c_da da ba ta (ro q) = q) ∧ b + 105 ≤ nx ∧ (∀ q, ro q ≠ 0 → b ≤ q ∧ q < nx ∧ (b + 105 ≤ q ∨ (q < b + 81 ∧ c_kd (q - b) = 0))) ∧ (∀ k, c_lp (L k))
def c_S (b : Nat) : Type := { d : c_D // c_ok b d.1 d.2.2.1 d.2.2.2.1 d.2.2.2.2.2.1 d.2.2.2.2.2.2.2.1 d.2.2.2.2.2.2.2.2.2.2.2.2.2.1 }
def c_S.nx {b : Nat} (σ : c_S b) : Nat := (Subtype.val σ).1
def c_S.sl {b : Nat} (σ : c_S b) : Nat := (Subtype.val σ).2.1
def c_S.ro {b : Nat} (σ : c_S b) : (Nat → Nat) := (Subtype.val σ).2.2.1
def c_S.da {b : Nat} (σ : c_S b) : (Nat → Nat) := (Subtype.val σ).2.2.2.1
def c_S.dn {b : Nat} (σ : c_S b) : (Nat → Nat) := (Subtype.val σ).2.2.2.2.1
def c_S.ba {b : Nat} (σ : c_S b) : (Nat → Nat) := (Subtype.val σ).2.2.2.2.2.1
def c_S.bn {b : Nat} (σ : c_S b) : (Nat → Nat) := (Subtype.val σ).2.2.2.2.2.2.1
def c_S.ta {b : Nat} (σ : c_S b) : (Nat → Nat) := (Subtype.val σ).2.2.2.2.2.2.2.1
def c_S.tn {b : Nat} (σ : c_S b) : (Nat → Nat) := (Subtype.val σ).2.2.2.2.2.2.2.2.1
def c_S.A {b : Nat} (σ : c_S b) : (Nat → Nat → Int) := (Subtype.val σ).2.2.2.2.2.2.2.2.2.1
def c_S.B {b : Nat} (σ : c_S b) : (Nat → Nat → Int) := (Subtype.val σ).2.2.2.2.2.2.2.2.2.2.1
def c_S.T {b : Nat} (σ : c_S b) : (Nat → Nat → Int) := (Subtype.val σ).2.2.2.2.2.2.2.2.2.2.2.1
def c_S.I {b : Nat} (σ : c_S b) : (Nat → Nat → Int) := (Subtype.val σ).2.2.2.2.2.2.2.2.2.2.2.2.1
def c_S.L {b : Nat} (σ : c_S b) : (Nat → Nat) := (Subtype.val σ).2.2.2.2.2.2.2.2.2.2.2.2.2.1
def c_S.P {b : Nat} (σ : c_S b) : (Nat → Nat) := (Subtype.val σ).2.2.2.2.2.2.2.2.2.2.2.2.2.2.1
def c_S.old {b : Nat} (σ : c_S b) : (Nat → Option va_E) := (Subtype.val σ).2.2.2.2.2.2.2.2.2.2.2.2.2.2.2
theorem c_S.ok {b : Nat} (σ : c_S b) : c_ok b σ.nx σ.ro σ.da σ.ba σ.ta σ.L := Subtype.property σ
theorem c_S.hv {b : Nat} (σ : c_S b) : ∀ r, c_vr r → σ.ro (c_da σ.da σ.ba σ.ta r) = r := σ.ok.1
theorem c_S.hw {b : Nat} (σ : c_S b) : ∀ q, σ.ro q ≠ 0 → c_vr (σ.ro q) ∧ c_da σ.da σ.ba σ.ta (σ.ro q) = q := σ.ok.2.1
theorem c_S.hn {b : Nat} (σ : c_S b) : b + 105 ≤ σ.nx := σ.ok.2.2.1
theorem c_S.hm {b : Nat} (σ : c_S b) : ∀ q, σ.ro q ≠ 0 → b ≤ q ∧ q < σ.nx ∧ (b + 105 ≤ q ∨ (q < b + 81 ∧ c_kd (q - b) = 0)) := σ.ok.2.2.2.1
theorem c_S.hL {b : Nat} (σ : c_S b) : ∀ k, c_lp (σ.L k) := σ.ok.2.2.2.2
def c_mk {b : Nat} (nx : Nat) (sl : Nat) (ro : (Nat → Nat)) (da : (Nat → Nat)) (dn : (Nat → Nat)) (ba : (Nat → Nat)) (bn : (Nat → Nat)) (ta : (Nat → Nat)) (tn : (Nat → Nat)) (A : (Nat → Nat → Int)) (B : (Nat → Nat → Int)) (T : (Nat → Nat → Int)) (I : (Nat → Nat → Int)) (L : (Nat → Nat)) (P : (Nat → Nat)) (old : (Nat → Option va_E)) (h : c_ok b nx ro da ba ta L) : c_S b := ⟨(nx, sl, ro, da, dn, ba, bn, ta, tn, A, B, T, I, L, P, old), h⟩
def c_wA {b : Nat} (σ : c_S b) (f : (Nat → Nat → Int)) : c_S b := c_mk σ.nx σ.sl σ.ro σ.da σ.dn σ.ba σ.bn σ.ta σ.tn f σ.B σ.T σ.I σ.L σ.P σ.old σ.ok
def c_wB {b : Nat} (σ : c_S b) (f : (Nat → Nat → Int)) : c_S b := c_mk σ.nx σ.sl σ.ro σ.da σ.dn σ.ba σ.bn σ.ta σ.tn σ.A f σ.T σ.I σ.L σ.P σ.old σ.ok
def c_wT {b : Nat} (σ : c_S b) (f : (Nat → Nat → Int)) : c_S b := c_mk σ.nx σ.sl σ.ro σ.da σ.dn σ.ba σ.bn σ.ta σ.tn σ.A σ.B f σ.I σ.L σ.P σ.old σ.ok
def c_wI {b : Nat} (σ : c_S b) (f : (Nat → Nat → Int)) : c_S b := c_mk σ.nx σ.sl σ.ro σ.da σ.dn σ.ba σ.bn σ.ta σ.tn σ.A σ.B σ.T f σ.L σ.P σ.old σ.ok
def c_wP {b : Nat} (σ : c_S b) (f : (Nat → Nat)) : c_S b := c_mk σ.nx σ.sl σ.ro σ.da σ.dn σ.ba σ.bn σ.ta σ.tn σ.A σ.B σ.T σ.I σ.L f σ.old σ.ok
theorem c_nx_wA {b : Nat} (σ : c_S b) (f) : (c_wA σ f).nx = σ.nx := rfl
theorem c_sl_wA {b : Nat} (σ : c_S b) (f) : (c_wA σ f).sl = σ.sl := rfl
theorem c_ro_wA {b : Nat} (σ : c_S b) (f) : (c_wA σ f).ro = σ.ro := rfl
theorem c_da_wA {b : Nat} (σ : c_S b) (f) : (c_wA σ f).da = σ.da := rfl
theorem c_dn_wA {b : Nat} (σ : c_S b) (f) : (c_wA σ f).dn = σ.dn := rfl
theorem c_ba_wA {b : Nat} (σ : c_S b) (f) : (c_wA σ f).ba = σ.ba := rfl
theorem c_bn_wA {b : Nat} (σ : c_S b) (f) : (c_wA σ f).bn = σ.bn := rfl
theorem c_ta_wA {b : Nat} (σ : c_S b) (f) : (c_wA σ f).ta = σ.ta := rfl
theorem c_tn_wA {b : Nat} (σ : c_S b) (f) : (c_wA σ f).tn = σ.tn := rfl
theorem c_A_wA {b : Nat} (σ : c_S b) (f) : (c_wA σ f).A = f := rfl
theorem c_B_wA {b : Nat} (σ : c_S b) (f) : (c_wA σ f).B = σ.B := rfl
theorem c_T_wA {b : Nat} (σ : c_S b) (f) : (c_wA σ f).T = σ.T := rfl
theorem c_I_wA {b : Nat} (σ : c_S b) (f) : (c_wA σ f).I = σ.I := rfl
theorem c_L_wA {b : Nat} (σ : c_S b) (f) : (c_wA σ f).L = σ.L := rfl
theorem c_P_wA {b : Nat} (σ : c_S b) (f) : (c_wA σ f).P = σ.P := rfl
theorem c_old_wA {b : Nat} (σ : c_S b) (f) : (c_wA σ f).old = σ.old := rfl
theorem c_nx_wB {b : Nat} (σ : c_S b) (f) : (c_wB σ f).nx = σ.nx := rfl
theorem c_sl_wB {b : Nat} (σ : c_S b) (f) : (c_wB σ f).sl = σ.sl := rfl
theorem c_ro_wB {b : Nat} (σ : c_S b) (f) : (c_wB σ f).ro = σ.ro := rfl
theorem c_da_wB {b : Nat} (σ : c_S b) (f) : (c_wB σ f).da = σ.da := rfl
theorem c_dn_wB {b : Nat} (σ : c_S b) (f) : (c_wB σ f).dn = σ.dn := rfl
theorem c_ba_wB {b : Nat} (σ : c_S b) (f) : (c_wB σ f).ba = σ.ba := rfl
theorem c_bn_wB {b : Nat} (σ : c_S b) (f) : (c_wB σ f).bn = σ.bn := rfl
theorem c_ta_wB {b : Nat} (σ : c_S b) (f) : (c_wB σ f).ta = σ.ta := rfl
theorem c_tn_wB {b : Nat} (σ : c_S b) (f) : (c_wB σ f).tn = σ.tn := rfl
theorem c_A_wB {b : Nat} (σ : c_S b) (f) : (c_wB σ f).A = σ.A := rfl
theorem c_B_wB {b : Nat} (σ : c_S b) (f) : (c_wB σ f).B = f := rfl
theorem c_T_wB {b : Nat} (σ : c_S b) (f) : (c_wB σ f).T = σ.T := rfl
theorem c_I_wB {b : Nat} (σ : c_S b) (f) : (c_wB σ f).I = σ.I := rfl
theorem c_L_wB {b : Nat} (σ : c_S b) (f) : (c_wB σ f).L = σ.L := rfl
theorem c_P_wB {b : Nat} (σ : c_S b) (f) : (c_wB σ f).P = σ.P := rfl
theorem c_old_wB {b : Nat} (σ : c_S b) (f) : (c_wB σ f).old = σ.old := rfl
theorem c_nx_wT {b : Nat} (σ : c_S b) (f) : (c_wT σ f).nx = σ.nx := rfl
theorem c_sl_wT {b : Nat} (σ : c_S b) (f) : (c_wT σ f).sl = σ.sl := rfl
theorem c_ro_wT {b : Nat} (σ : c_S b) (f) : (c_wT σ f).ro = σ.ro := rfl
theorem c_da_wT {b : Nat} (σ : c_S b) (f) : (c_wT σ f).da = σ.da := rfl
theorem c_dn_wT {b : Nat} (σ : c_S b) (f) : (c_wT σ f).dn = σ.dn := rfl
theorem c_ba_wT {b : Nat} (σ : c_S b) (f) : (c_wT σ f).ba = σ.ba := rfl
theorem c_bn_wT {b : Nat} (σ : c_S b) (f) : (c_wT σ f).bn = σ.bn := rfl
theorem c_ta_wT {b : Nat} (σ : c_S b) (f) : (c_wT σ f).ta = σ.ta := rfl
theorem c_tn_wT {b : Nat} (σ : c_S b) (f) : (c_wT σ f).tn = σ.tn := rfl
theorem c_A_wT {b : Nat} (σ : c_S b) (f) : (c_wT σ f).A = σ.A := rfl
theorem c_B_wT {b : Nat} (σ : c_S b) (f) : (c_wT σ f).B = σ.B := rfl
theorem c_T_wT {b : Nat} (σ : c_S b) (f) : (c_wT σ f).T = f := rfl
theorem c_I_wT {b : Nat} (σ : c_S b) (f) : (c_wT σ f).I = σ.I := rfl
theorem c_L_wT {b : Nat} (σ : c_S b) (f) : (c_wT σ f).L = σ.L := rfl
theorem c_P_wT {b : Nat} (σ : c_S b) (f) : (c_wT σ f).P = σ.P := rfl
theorem c_old_wT {b : Nat} (σ : c_S b) (f) : (c_wT σ f).old = σ.old := rfl
theorem c_nx_wI {b : Nat} (σ : c_S b) (f) : (c_wI σ f).nx = σ.nx := rfl
theorem c_sl_wI {b : Nat} (σ : c_S b) (f) : (c_wI σ f).sl = σ.sl := rfl
theorem c_ro_wI {b : Nat} (σ : c_S b) (f) : (c_wI σ f).ro = σ.ro := rfl
theorem c_da_wI {b : Nat} (σ : c_S b) (f) : (c_wI σ f).da = σ.da := rfl
theorem c_dn_wI {b : Nat} (σ : c_S b) (f) : (c_wI σ f).dn = σ.dn := rfl
theorem c_ba_wI {b : Nat} (σ : c_S b) (f) : (c_wI σ f).ba = σ.ba := rfl
theorem c_bn_wI {b : Nat} (σ : c_S b) (f) : (c_wI σ f).bn = σ.bn := rfl
theorem c_ta_wI {b : Nat} (σ : c_S b) (f) : (c_wI σ f).ta = σ.ta := rfl
theorem c_tn_wI {b : Nat} (σ : c_S b) (f) : (c_wI σ f).tn = σ.tn := rfl
theorem c_A_wI {b : Nat} (σ : c_S b) (f) : (c_wI σ f).A = σ.A := rfl
theorem c_B_wI {b : Nat} (σ : c_S b) (f) : (c_wI σ f).B = σ.B := rfl
theorem c_T_wI {b : Nat} (σ : c_S b) (f) : (c_wI σ f).T = σ.T := rfl
theorem c_I_wI {b : Nat} (σ : c_S b) (f) : (c_wI σ f).I = f := rfl
theorem c_L_wI {b : Nat} (σ : c_S b) (f) : (c_wI σ f).L = σ.L := rfl
theorem c_P_wI {b : Nat} (σ : c_S b) (f) : (c_wI σ f).P = σ.P := rfl
theorem c_old_wI {b : Nat} (σ : c_S b) (f) : (c_wI σ f).old = σ.old := rfl
theorem c_nx_wP {b : Nat} (σ : c_S b) (f) : (c_wP σ f).nx = σ.nx := rfl
theorem c_sl_wP {b : Nat} (σ : c_S b) (f) : (c_wP σ f).sl = σ.sl := rfl
theorem c_ro_wP {b : Nat} (σ : c_S b) (f) : (c_wP σ f).ro = σ.ro := rfl
theorem c_da_wP {b : Nat} (σ : c_S b) (f) : (c_wP σ f).da = σ.da := rfl
theorem c_dn_wP {b : Nat} (σ : c_S b) (f) : (c_wP σ f).dn = σ.dn := rfl
theorem c_ba_wP {b : Nat} (σ : c_S b) (f) : (c_wP σ f).ba = σ.ba := rfl
theorem c_bn_wP {b : Nat} (σ : c_S b) (f) : (c_wP σ f).bn = σ.bn := rfl
theorem c_ta_wP {b : Nat} (σ : c_S b) (f) : (c_wP σ f).ta = σ.ta := rfl
theorem c_tn_wP {b : Nat} (σ : c_S b) (f) : (c_wP σ f).tn = σ.tn := rfl
theorem c_A_wP {b : Nat} (σ : c_S b) (f) : (c_wP σ f).A = σ.A := rfl
theorem c_B_wP {b : Nat} (σ : c_S b) (f) : (c_wP σ f).B = σ.B := rfl
theorem c_T_wP {b : Nat} (σ : c_S b) (f) : (c_wP σ f).T = σ.T := rfl
theorem c_I_wP {b : Nat} (σ : c_S b) (f) : (c_wP σ f).I = σ.I := rfl
theorem c_L_wP {b : Nat} (σ : c_S b) (f) : (c_wP σ f).L = σ.L := rfl
theorem c_P_wP {b : Nat} (σ : c_S b) (f) : (c_wP σ f).P = f := rfl
theorem c_old_wP {b : Nat} (σ : c_S b) (f) : (c_wP σ f).old = σ.old := rfl
def c_rv {b : Nat} (σ : c_S b) (k c f : Nat) : Nat := match c, f with
  | 0, 0 => σ.da 1
  | 0, 2 => b + 2
  | 0, 3 => b + 3
  | 0, 4 => b + 4
  | 0, 5 => b + 28
  | 0, 6 => b + 37
  | 0, 7 => b + 44
  | 1, 0 => σ.ba k
  | 1, 1 => σ.ta k
  | 2, 0 => σ.P 1
  | 2, 3 => σ.da 7
  | 3, 0 => b + 9
  | 3, 1 => b + 10
  | 3, 2 => b + 11
  | 3, 3 => b + 12
  | 3, 5 => b + 13
  | 3, 11 => b + 14
  | 4, 0 => b + 5
  | 4, 1 => b + 8
  | 4, 2 => b + 15
  | 4, 3 => σ.P 0
  | 4, 6 => b + 17
  | 4, 7 => b + 18
  | 4, 9 => b + 19
  | 4, 10 => b + 20
  | 4, 12 => b + 21
  | 4, 13 => b + σ.L 11
  | 4, 14 => b + σ.L 12
  | 5, 0 => σ.P 2
  | 6, 0 => σ.P 10
  | 6, 1 => σ.P 11
  | 6, 2 => σ.P 12
  | 6, 3 => σ.P 13
  | 6, 4 => σ.P 14
  | 6, 5 => σ.P 15
  | 6, 6 => σ.P 16
  | 6, 7 => σ.P 17
  | 7, 0 => b + 38
  | 7, 1 => b + 41
  | 8, 0 => b + 45
  | 8, 1 => b + 46
  | 8, 2 => b + 47
  | _, _ => 0
def c_rr {b : Nat} (σ : c_S b) (k i : Nat) : Option Nat :=
  if k = 2 then (if i < 11 then some (b + σ.L i) else none) else if k = 21 then (if i < 20 then some (b + σ.L (20 + i)) else none) else if i < 2 then some (b + k + 1 + i) else none
def c_fv {b : Nat} (σ : c_S b) (k c : Nat) : List Value := (List.range (h_fk.getD c []).length).map (fun f => if (h_fk.getD c []).getD f false = true then .ref (c_rv σ k c f) else .int (h_ii (σ.I k (20 * c + f))))
def c_fx {b : Nat} (σ : c_S b) (k : Nat) : Option va_E :=
  if c_kd k < 1000 then some (.inr (c_kd k - 1, c_fv σ k (c_kd k - 1)))
  else if c_kd k ≤ 1002 then some (.inl (c_kd k - 1000, c_ln k, .inl (fun i => h_ii (σ.A k i))))
  else some (.inl (c_kd k - 1000, c_ln k, .inr (.inr (.inr (.inr (fun i => c_rr σ k i))))))
def c_dy {b : Nat} (σ : c_S b) (r : Nat) : Option va_E :=
  if r < 100 then some (.inl (if r ≤ 7 then 0 else 1, σ.dn r, .inl (fun i => h_ii (σ.A r i))))
  else if r < 200 then some (.inl (0, σ.bn (r - 100), .inl (fun i => h_ii (σ.B (r - 100) i))))
  else some (.inl (1, σ.tn (r - 200), .inl (fun i => h_ii (σ.T (r - 200) i))))
def c_ce {b : Nat} (R : Nat → Option va_E) (σ : c_S b) (q : Nat) : Option va_E :=
  if q < b ∨ (b + 81 ≤ q ∧ q < b + 105) then R q
  else if σ.ro q = 0 then (if c_kd (q - b) = 0 then σ.old q else c_fx σ (q - b))
  else c_dy σ (σ.ro q)
def c_t {b : Nat} (R : Nat → Option va_E) (σ : c_S b) : am_M := (σ.nx, σ.sl, c_ce R σ)
/-! what changes -/
def c_uI {b : Nat} (σ : c_S b) (k f : Nat) (v : Int) : c_S b := c_wI σ (fun k' f' => if k' = k ∧ f' = f then v else σ.I k' f')
def c_uA {b : Nat} (σ : c_S b) (z i : Nat) (v : Int) : c_S b := c_wA σ (fun z' i' => if z' = z ∧ i' = i then v else σ.A z' i')
def c_uB {b : Nat} (σ : c_S b) (p i : Nat) (v : Int) : c_S b := c_wB σ (fun p' i' => if p' = p ∧ i' = i then v else σ.B p' i')
def c_uT {b : Nat} (σ : c_S b) (p i : Nat) (v : Int) : c_S b := c_wT σ (fun p' i' => if p' = p ∧ i' = i then v else σ.T p' i')
def c_uP {b : Nat} (σ : c_S b) (k a : Nat) : c_S b := c_wP σ (fun k' => if k' = k then a else σ.P k')
theorem c_hLp {b : Nat} (σ : c_S b) (k p k' : Nat) : c_lp (if k' = k then (if c_lp p then p else 22) else σ.L k') := by
  split
  · split
    · assumption
    · exact .inl rfl
  · exact σ.hL k'
def c_uL {b : Nat} (σ : c_S b) (k p : Nat) : c_S b := c_mk σ.nx σ.sl σ.ro σ.da σ.dn σ.ba σ.bn σ.ta σ.tn σ.A σ.B σ.T σ.I (fun k' => if k' = k then (if c_lp p then p else 22) else σ.L k') σ.P σ.old ⟨σ.hv, σ.hw, σ.hn, σ.hm, c_hLp σ k p⟩
/-- bytes are copied into the bytes of p -/
def c_cB {b : Nat} (σ : c_S b) (p' sp p dp n : Nat) : c_S b := c_wB σ (fun q i => if q = p ∧ dp ≤ i ∧ i < dp + n then σ.B p' (sp + (i - dp)) else σ.B q i)
theorem c_nx_uI {b : Nat} (σ : c_S b) (k f : Nat) (v : Int) : (c_uI σ k f v).nx  = σ.nx  := (rfl)
theorem c_sl_uI {b : Nat} (σ : c_S b) (k f : Nat) (v : Int) : (c_uI σ k f v).sl  = σ.sl  := (rfl)
theorem c_ro_uI {b : Nat} (σ : c_S b) (k f : Nat) (v : Int) (q : Nat) : (c_uI σ k f v).ro q = σ.ro q := (rfl)
theorem c_da_uI {b : Nat} (σ : c_S b) (k f : Nat) (v : Int) (q : Nat) : (c_uI σ k f v).da q = σ.da q := (rfl)
theorem c_dn_uI {b : Nat} (σ : c_S b) (k f : Nat) (v : Int) (q : Nat) : (c_uI σ k f v).dn q = σ.dn q := (rfl)
theorem c_ba_uI {b : Nat} (σ : c_S b) (k f : Nat) (v : Int) (q : Nat) : (c_uI σ k f v).ba q = σ.ba q := (rfl)
theorem c_bn_uI {b : Nat} (σ : c_S b) (k f : Nat) (v : Int) (q : Nat) : (c_uI σ k f v).bn q = σ.bn q := (rfl)
theorem c_ta_uI {b : Nat} (σ : c_S b) (k f : Nat) (v : Int) (q : Nat) : (c_uI σ k f v).ta q = σ.ta q := (rfl)
theorem c_tn_uI {b : Nat} (σ : c_S b) (k f : Nat) (v : Int) (q : Nat) : (c_uI σ k f v).tn q = σ.tn q := (rfl)
theorem c_A_uI {b : Nat} (σ : c_S b) (k f : Nat) (v : Int) (q j : Nat) : (c_uI σ k f v).A q j = σ.A q j := (rfl)
theorem c_B_uI {b : Nat} (σ : c_S b) (k f : Nat) (v : Int) (q j : Nat) : (c_uI σ k f v).B q j = σ.B q j := (rfl)
theorem c_T_uI {b : Nat} (σ : c_S b) (k f : Nat) (v : Int) (q j : Nat) : (c_uI σ k f v).T q j = σ.T q j := (rfl)
theorem c_I_uI {b : Nat} (σ : c_S b) (k f : Nat) (v : Int) (q j : Nat) : (c_uI σ k f v).I q j = if q = k ∧ j = f then v else σ.I q j := (rfl)
theorem c_L_uI {b : Nat} (σ : c_S b) (k f : Nat) (v : Int) (q : Nat) : (c_uI σ k f v).L q = σ.L q := (rfl)
theorem c_P_uI {b : Nat} (σ : c_S b) (k f : Nat) (v : Int) (q : Nat) : (c_uI σ k f v).P q = σ.P q := (rfl)
theorem c_old_uI {b : Nat} (σ : c_S b) (k f : Nat) (v : Int) (q : Nat) : (c_uI σ k f v).old q = σ.old q := (rfl)
theorem c_nx_uA {b : Nat} (σ : c_S b) (z i : Nat) (v : Int) : (c_uA σ z i v).nx  = σ.nx  := (rfl)
theorem c_sl_uA {b : Nat} (σ : c_S b) (z i : Nat) (v : Int) : (c_uA σ z i v).sl  = σ.sl  := (rfl)
theorem c_ro_uA {b : Nat} (σ : c_S b) (z i : Nat) (v : Int) (q : Nat) : (c_uA σ z i v).ro q = σ.ro q := (rfl)
theorem c_da_uA {b : Nat} (σ : c_S b) (z i : Nat) (v : Int) (q : Nat) : (c_uA σ z i v).da q = σ.da q := (rfl)
theorem c_dn_uA {b : Nat} (σ : c_S b) (z i : Nat) (v : Int) (q : Nat) : (c_uA σ z i v).dn q = σ.dn q := (rfl)
theorem c_ba_uA {b : Nat} (σ : c_S b) (z i : Nat) (v : Int) (q : Nat) : (c_uA σ z i v).ba q = σ.ba q := (rfl)
theorem c_bn_uA {b : Nat} (σ : c_S b) (z i : Nat) (v : Int) (q : Nat) : (c_uA σ z i v).bn q = σ.bn q := (rfl)
theorem c_ta_uA {b : Nat} (σ : c_S b) (z i : Nat) (v : Int) (q : Nat) : (c_uA σ z i v).ta q = σ.ta q := (rfl)
theorem c_tn_uA {b : Nat} (σ : c_S b) (z i : Nat) (v : Int) (q : Nat) : (c_uA σ z i v).tn q = σ.tn q := (rfl)
theorem c_A_uA {b : Nat} (σ : c_S b) (z i : Nat) (v : Int) (q j : Nat) : (c_uA σ z i v).A q j = if q = z ∧ j = i then v else σ.A q j := (rfl)
theorem c_B_uA {b : Nat} (σ : c_S b) (z i : Nat) (v : Int) (q j : Nat) : (c_uA σ z i v).B q j = σ.B q j := (rfl)
theorem c_T_uA {b : Nat} (σ : c_S b) (z i : Nat) (v : Int) (q j : Nat) : (c_uA σ z i v).T q j = σ.T q j := (rfl)
theorem c_I_uA {b : Nat} (σ : c_S b) (z i : Nat) (v : Int) (q j : Nat) : (c_uA σ z i v).I q j = σ.I q j := (rfl)
theorem c_L_uA {b : Nat} (σ : c_S b) (z i : Nat) (v : Int) (q : Nat) : (c_uA σ z i v).L q = σ.L q := (rfl)
theorem c_P_uA {b : Nat} (σ : c_S b) (z i : Nat) (v : Int) (q : Nat) : (c_uA σ z i v).P q = σ.P q := (rfl)
theorem c_old_uA {b : Nat} (σ : c_S b) (z i : Nat) (v : Int) (q : Nat) : (c_uA σ z i v).old q = σ.old q := (rfl)
theorem c_nx_uB {b : Nat} (σ : c_S b) (p i : Nat) (v : Int) : (c_uB σ p i v).nx  = σ.nx  := (rfl)
theorem c_sl_uB {b : Nat} (σ : c_S b) (p i : Nat) (v : Int) : (c_uB σ p i v).sl  = σ.sl  := (rfl)
theorem c_ro_uB {b : Nat} (σ : c_S b) (p i : Nat) (v : Int) (q : Nat) : (c_uB σ p i v).ro q = σ.ro q := (rfl)
theorem c_da_uB {b : Nat} (σ : c_S b) (p i : Nat) (v : Int) (q : Nat) : (c_uB σ p i v).da q = σ.da q := (rfl)
theorem c_dn_uB {b : Nat} (σ : c_S b) (p i : Nat) (v : Int) (q : Nat) : (c_uB σ p i v).dn q = σ.dn q := (rfl)
theorem c_ba_uB {b : Nat} (σ : c_S b) (p i : Nat) (v : Int) (q : Nat) : (c_uB σ p i v).ba q = σ.ba q := (rfl)
theorem c_bn_uB {b : Nat} (σ : c_S b) (p i : Nat) (v : Int) (q : Nat) : (c_uB σ p i v).bn q = σ.bn q := (rfl)
theorem c_ta_uB {b : Nat} (σ : c_S b) (p i : Nat) (v : Int) (q : Nat) : (c_uB σ p i v).ta q = σ.ta q := (rfl)
theorem c_tn_uB {b : Nat} (σ : c_S b) (p i : Nat) (v : Int) (q : Nat) : (c_uB σ p i v).tn q = σ.tn q := (rfl)
theorem c_A_uB {b : Nat} (σ : c_S b) (p i : Nat) (v : Int) (q j : Nat) : (c_uB σ p i v).A q j = σ.A q j := (rfl)
theorem c_B_uB {b : Nat} (σ : c_S b) (p i : Nat) (v : Int) (q j : Nat) : (c_uB σ p i v).B q j = if q = p ∧ j = i then v else σ.B q j := (rfl)
theorem c_T_uB {b : Nat} (σ : c_S b) (p i : Nat) (v : Int) (q j : Nat) : (c_uB σ p i v).T q j = σ.T q j := (rfl)
theorem c_I_uB {b : Nat} (σ : c_S b) (p i : Nat) (v : Int) (q j : Nat) : (c_uB σ p i v).I q j = σ.I q j := (rfl)
theorem c_L_uB {b : Nat} (σ : c_S b) (p i : Nat) (v : Int) (q : Nat) : (c_uB σ p i v).L q = σ.L q := (rfl)
theorem c_P_uB {b : Nat} (σ : c_S b) (p i : Nat) (v : Int) (q : Nat) : (c_uB σ p i v).P q = σ.P q := (rfl)
theorem c_old_uB {b : Nat} (σ : c_S b) (p i : Nat) (v : Int) (q : Nat) : (c_uB σ p i v).old q = σ.old q := (rfl)
theorem c_nx_uT {b : Nat} (σ : c_S b) (p i : Nat) (v : Int) : (c_uT σ p i v).nx  = σ.nx  := (rfl)
theorem c_sl_uT {b : Nat} (σ : c_S b) (p i : Nat) (v : Int) : (c_uT σ p i v).sl  = σ.sl  := (rfl)
theorem c_ro_uT {b : Nat} (σ : c_S b) (p i : Nat) (v : Int) (q : Nat) : (c_uT σ p i v).ro q = σ.ro q := (rfl)
theorem c_da_uT {b : Nat} (σ : c_S b) (p i : Nat) (v : Int) (q : Nat) : (c_uT σ p i v).da q = σ.da q := (rfl)
theorem c_dn_uT {b : Nat} (σ : c_S b) (p i : Nat) (v : Int) (q : Nat) : (c_uT σ p i v).dn q = σ.dn q := (rfl)
theorem c_ba_uT {b : Nat} (σ : c_S b) (p i : Nat) (v : Int) (q : Nat) : (c_uT σ p i v).ba q = σ.ba q := (rfl)
theorem c_bn_uT {b : Nat} (σ : c_S b) (p i : Nat) (v : Int) (q : Nat) : (c_uT σ p i v).bn q = σ.bn q := (rfl)
theorem c_ta_uT {b : Nat} (σ : c_S b) (p i : Nat) (v : Int) (q : Nat) : (c_uT σ p i v).ta q = σ.ta q := (rfl)
theorem c_tn_uT {b : Nat} (σ : c_S b) (p i : Nat) (v : Int) (q : Nat) : (c_uT σ p i v).tn q = σ.tn q := (rfl)
theorem c_A_uT {b : Nat} (σ : c_S b) (p i : Nat) (v : Int) (q j : Nat) : (c_uT σ p i v).A q j = σ.A q j := (rfl)
theorem c_B_uT {b : Nat} (σ : c_S b) (p i : Nat) (v : Int) (q j : Nat) : (c_uT σ p i v).B q j = σ.B q j := (rfl)
theorem c_T_uT {b : Nat} (σ : c_S b) (p i : Nat) (v : Int) (q j : Nat) : (c_uT σ p i v).T q j = if q = p ∧ j = i then v else σ.T q j := (rfl)
theorem c_I_uT {b : Nat} (σ : c_S b) (p i : Nat) (v : Int) (q j : Nat) : (c_uT σ p i v).I q j = σ.I q j := (rfl)
theorem c_L_uT {b : Nat} (σ : c_S b) (p i : Nat) (v : Int) (q : Nat) : (c_uT σ p i v).L q = σ.L q := (rfl)
theorem c_P_uT {b : Nat} (σ : c_S b) (p i : Nat) (v : Int) (q : Nat) : (c_uT σ p i v).P q = σ.P q := (rfl)
theorem c_old_uT {b : Nat} (σ : c_S b) (p i : Nat) (v : Int) (q : Nat) : (c_uT σ p i v).old q = σ.old q := (rfl)
theorem c_nx_uP {b : Nat} (σ : c_S b) (k a : Nat) : (c_uP σ k a).nx  = σ.nx  := (rfl)
theorem c_sl_uP {b : Nat} (σ : c_S b) (k a : Nat) : (c_uP σ k a).sl  = σ.sl  := (rfl)
theorem c_ro_uP {b : Nat} (σ : c_S b) (k a : Nat) (q : Nat) : (c_uP σ k a).ro q = σ.ro q := (rfl)
theorem c_da_uP {b : Nat} (σ : c_S b) (k a : Nat) (q : Nat) : (c_uP σ k a).da q = σ.da q := (rfl)
theorem c_dn_uP {b : Nat} (σ : c_S b) (k a : Nat) (q : Nat) : (c_uP σ k a).dn q = σ.dn q := (rfl)
theorem c_ba_uP {b : Nat} (σ : c_S b) (k a : Nat) (q : Nat) : (c_uP σ k a).ba q = σ.ba q := (rfl)
theorem c_bn_uP {b : Nat} (σ : c_S b) (k a : Nat) (q : Nat) : (c_uP σ k a).bn q = σ.bn q := (rfl)
theorem c_ta_uP {b : Nat} (σ : c_S b) (k a : Nat) (q : Nat) : (c_uP σ k a).ta q = σ.ta q := (rfl)
theorem c_tn_uP {b : Nat} (σ : c_S b) (k a : Nat) (q : Nat) : (c_uP σ k a).tn q = σ.tn q := (rfl)
theorem c_A_uP {b : Nat} (σ : c_S b) (k a : Nat) (q j : Nat) : (c_uP σ k a).A q j = σ.A q j := (rfl)
theorem c_B_uP {b : Nat} (σ : c_S b) (k a : Nat) (q j : Nat) : (c_uP σ k a).B q j = σ.B q j := (rfl)
theorem c_T_uP {b : Nat} (σ : c_S b) (k a : Nat) (q j : Nat) : (c_uP σ k a).T q j = σ.T q j := (rfl)
theorem c_I_uP {b : Nat} (σ : c_S b) (k a : Nat) (q j : Nat) : (c_uP σ k a).I q j = σ.I q j := (rfl)
theorem c_L_uP {b : Nat} (σ : c_S b) (k a : Nat) (q : Nat) : (c_uP σ k a).L q = σ.L q := (rfl)
theorem c_P_uP {b : Nat} (σ : c_S b) (k a : Nat) (q : Nat) : (c_uP σ k a).P q = if q = k then a else σ.P q := (rfl)
theorem c_old_uP {b : Nat} (σ : c_S b) (k a : Nat) (q : Nat) : (c_uP σ k a).old q = σ.old q := (rfl)
theorem c_nx_uL {b : Nat} (σ : c_S b) (k p : Nat) : (c_uL σ k p).nx  = σ.nx  := (rfl)
theorem c_sl_uL {b : Nat} (σ : c_S b) (k p : Nat) : (c_uL σ k p).sl  = σ.sl  := (rfl)
theorem c_ro_uL {b : Nat} (σ : c_S b) (k p : Nat) (q : Nat) : (c_uL σ k p).ro q = σ.ro q := (rfl)
theorem c_da_uL {b : Nat} (σ : c_S b) (k p : Nat) (q : Nat) : (c_uL σ k p).da q = σ.da q := (rfl)
theorem c_dn_uL {b : Nat} (σ : c_S b) (k p : Nat) (q : Nat) : (c_uL σ k p).dn q = σ.dn q := (rfl)
theorem c_ba_uL {b : Nat} (σ : c_S b) (k p : Nat) (q : Nat) : (c_uL σ k p).ba q = σ.ba q := (rfl)
theorem c_bn_uL {b : Nat} (σ : c_S b) (k p : Nat) (q : Nat) : (c_uL σ k p).bn q = σ.bn q := (rfl)
theorem c_ta_uL {b : Nat} (σ : c_S b) (k p : Nat) (q : Nat) : (c_uL σ k p).ta q = σ.ta q := (rfl)
theorem c_tn_uL {b : Nat} (σ : c_S b) (k p : Nat) (q : Nat) : (c_uL σ k p).tn q = σ.tn q := (rfl)
theorem c_A_uL {b : Nat} (σ : c_S b) (k p : Nat) (q j : Nat) : (c_uL σ k p).A q j = σ.A q j := (rfl)
theorem c_B_uL {b : Nat} (σ : c_S b) (k p : Nat) (q j : Nat) : (c_uL σ k p).B q j = σ.B q j := (rfl)
theorem c_T_uL {b : Nat} (σ : c_S b) (k p : Nat) (q j : Nat) : (c_uL σ k p).T q j = σ.T q j := (rfl)
theorem c_I_uL {b : Nat} (σ : c_S b) (k p : Nat) (q j : Nat) : (c_uL σ k p).I q j = σ.I q j := (rfl)
theorem c_P_uL {b : Nat} (σ : c_S b) (k p : Nat) (q : Nat) : (c_uL σ k p).P q = σ.P q := (rfl)
theorem c_old_uL {b : Nat} (σ : c_S b) (k p : Nat) (q : Nat) : (c_uL σ k p).old q = σ.old q := (rfl)
theorem c_nx_cB {b : Nat} (σ : c_S b) (p' sp p dp n : Nat) : (c_cB σ p' sp p dp n).nx  = σ.nx  := (rfl)
theorem c_sl_cB {b : Nat} (σ : c_S b) (p' sp p dp n : Nat) : (c_cB σ p' sp p dp n).sl  = σ.sl  := (rfl)
theorem c_ro_cB {b : Nat} (σ : c_S b) (p' sp p dp n : Nat) (q : Nat) : (c_cB σ p' sp p dp n).ro q = σ.ro q := (rfl)
theorem c_da_cB {b : Nat} (σ : c_S b) (p' sp p dp n : Nat) (q : Nat) : (c_cB σ p' sp p dp n).da q = σ.da q := (rfl)
theorem c_dn_cB {b : Nat} (σ : c_S b) (p' sp p dp n : Nat) (q : Nat) : (c_cB σ p' sp p dp n).dn q = σ.dn q := (rfl)
theorem c_ba_cB {b : Nat} (σ : c_S b) (p' sp p dp n : Nat) (q : Nat) : (c_cB σ p' sp p dp n).ba q = σ.ba q := (rfl)
theorem c_bn_cB {b : Nat} (σ : c_S b) (p' sp p dp n : Nat) (q : Nat) : (c_cB σ p' sp p dp n).bn q = σ.bn q := (rfl)
theorem c_ta_cB {b : Nat} (σ : c_S b) (p' sp p dp n : Nat) (q : Nat) : (c_cB σ p' sp p dp n).ta q = σ.ta q := (rfl)
theorem c_tn_cB {b : Nat} (σ : c_S b) (p' sp p dp n : Nat) (q : Nat) : (c_cB σ p' sp p dp n).tn q = σ.tn q := (rfl)
theorem c_A_cB {b : Nat} (σ : c_S b) (p' sp p dp n : Nat) (q j : Nat) : (c_cB σ p' sp p dp n).A q j = σ.A q j := (rfl)
theorem c_B_cB {b : Nat} (σ : c_S b) (p' sp p dp n : Nat) (q j : Nat) : (c_cB σ p' sp p dp n).B q j = if q = p ∧ dp ≤ j ∧ j < dp + n then σ.B p' (sp + (j - dp)) else σ.B q j := (rfl)
theorem c_T_cB {b : Nat} (σ : c_S b) (p' sp p dp n : Nat) (q j : Nat) : (c_cB σ p' sp p dp n).T q j = σ.T q j := (rfl)
theorem c_I_cB {b : Nat} (σ : c_S b) (p' sp p dp n : Nat) (q j : Nat) : (c_cB σ p' sp p dp n).I q j = σ.I q j := (rfl)
theorem c_L_cB {b : Nat} (σ : c_S b) (p' sp p dp n : Nat) (q : Nat) : (c_cB σ p' sp p dp n).L q = σ.L q := (rfl)
theorem c_P_cB {b : Nat} (σ : c_S b) (p' sp p dp n : Nat) (q : Nat) : (c_cB σ p' sp p dp n).P q = σ.P q := (rfl)
theorem c_old_cB {b : Nat} (σ : c_S b) (p' sp p dp n : Nat) (q : Nat) : (c_cB σ p' sp p dp n).old q = σ.old q := (rfl)
theorem c_L_uL {b : Nat} (σ : c_S b) {k p : Nat} (hp : c_lp p) (q : Nat) : (c_uL σ k p).L q = if q = k then p else σ.L q := by
  show (if q = k then (if c_lp p then p else 22) else σ.L q) = _
  rw [if_pos hp]
theorem c_kd_lp {p : Nat} (h : c_lp p) : c_kd p = 2 := if_pos h
theorem c_kd_lt {k : Nat} (h : c_kd k ≠ 0) : k < 81 := by
  unfold c_kd at h
  split at h
  · rename_i q; unfold c_lp at q; omega
  · refine Nat.lt_of_not_le fun hk => h ?_
    rw [List.getD_eq_getElem?_getD, List.getElem?_eq_none (by show 48 ≤ k; omega)]
    rfl
theorem c_kd45 {j : Nat} (h : 1002 < c_kd j) : c_kd j = 1004 ∨ c_kd j = 1005 := by
  have : c_kd j = 2 ∨ c_kd j ∈ c_kl ∨ c_kd j = 0 := by
    unfold c_kd
    split
    · exact .inl rfl
    · rw [List.getD_eq_getElem?_getD]
      cases hz : c_kl[j]? with
      | none => exact .inr (.inr rfl)
      | some x => exact .inr (.inl (List.mem_of_getElem? hz))
  rcases this with w | w | w
  · omega
  · have hd : ∀ x ∈ c_kl, 1002 < x → x = 1004 ∨ x = 1005 := by decide
    exact hd _ w h
  · omega
section CT
variable {b : Nat} {R : Nat → Option va_E} {σ : c_S b}
theorem c_ro0 {k : Nat} (h : c_kd k ≠ 0) : σ.ro (b + k) = 0 := by
  refine Decidable.byContradiction fun hq => ?_
  have h1 := σ.hm _ hq
  have h2 := c_kd_lt h
  rcases h1.2.2 with q | q
  · omega
  · rw [Nat.add_sub_cancel_left] at q
    exact h q.2
theorem c_at {k : Nat} (h : c_kd k ≠ 0) : (c_t R σ).2.2 (b + k) = c_fx σ k := by
  show c_ce R σ (b + k) = _
  have h2 := c_kd_lt h
  unfold c_ce
  rw [if_neg (by omega), if_pos (c_ro0 h), Nat.add_sub_cancel_left, if_neg h]
theorem c_rne {r : Nat} (h : c_vr r) : r ≠ 0 := by
  unfold c_vr c_lp at h
  omega
theorem c_atd {r : Nat} (h : c_vr r) : (c_t R σ).2.2 (c_da σ.da σ.ba σ.ta r) = c_dy σ r := by
  have h1 := σ.hv r h
  have hn := c_rne h
  have h2 := σ.hm (c_da σ.da σ.ba σ.ta r) (by rw [h1]; exact hn)
  show c_ce R σ _ = _
  unfold c_ce
  rw [if_neg (by omega), h1, if_neg hn]
theorem c_atB {p : Nat} (h : c_lp p) : (c_t R σ).2.2 (σ.ba p) = some (.inl (0, σ.bn p, .inl (fun i => h_ii (σ.B p i)))) := by
  have h1 := c_atd (R := R) (σ := σ) (r := 100 + p) (.inr (.inr (.inr (.inl ⟨by omega, by rw [Nat.add_sub_cancel_left]; exact h⟩))))
  have hp : p < 81 := by unfold c_lp at h; omega
  unfold c_da c_dy at h1
  rw [if_neg (by omega), if_pos (by omega), if_neg (by omega), if_pos (by omega), Nat.add_sub_cancel_left] at h1
  exact h1
theorem c_atT {p : Nat} (h : c_lp p) : (c_t R σ).2.2 (σ.ta p) = some (.inl (1, σ.tn p, .inl (fun i => h_ii (σ.T p i)))) := by
  have h1 := c_atd (R := R) (σ := σ) (r := 200 + p) (.inr (.inr (.inr (.inr ⟨by omega, by rw [Nat.add_sub_cancel_left]; exact h⟩))))
  have hp : p < 81 := by unfold c_lp at h; omega
  unfold c_da c_dy at h1
  rw [if_neg (by omega), if_neg (by omega), if_neg (by omega), if_neg (by omega), Nat.add_sub_cancel_left] at h1
  exact h1
theorem c_atD {z : Nat} (hz : z < 100) (h : c_vr z) : (c_t R σ).2.2 (σ.da z) = some (.inl (if z ≤ 7 then 0 else 1, σ.dn z, .inl (fun i => h_ii (σ.A z i)))) := by
  have h1 := c_atd (R := R) (σ := σ) h
  unfold c_da c_dy at h1
  rw [if_pos hz, if_pos hz] at h1
  exact h1
theorem c_fvat {k c f : Nat} {t : Bool} (h : (h_fk.getD c [])[f]? = some t) : (c_fv σ k c)[f]? = some (if t = true then .ref (c_rv σ k c f) else .int (h_ii (σ.I k (20 * c + f)))) := by
  have hk := (List.getElem?_eq_some_iff.mp h).1
  unfold c_fv
  rw [List.getElem?_map, List.getElem?_range hk]
  simp only [Option.map_some]
  rw [List.getD_eq_getElem?_getD, h]
  rfl
theorem c_fvl {k c : Nat} : (c_fv σ k c).length = (h_fk.getD c []).length := by simp [c_fv]
theorem c_ob {k c : Nat} (h : c_kd k = c + 1) (hc : c < 900) : (c_t R σ).2.2 (b + k) = some (.inr (c, c_fv σ k c)) := by
  rw [c_at (by omega)]
  unfold c_fx
  rw [if_pos (by omega), h]
  rfl
theorem c_gi {k c f : Nat} (h : c_kd k = c + 1) (hc : c < 900) (hf : (h_fk.getD c [])[f]? = some false) : am_gi (c_t R σ) (b + k) c f = some (h_ii (σ.I k (20 * c + f))) := by
  simp only [am_gi, am_gv, c_ob h hc, if_true, c_fvat hf]
  rfl
theorem c_gr {k c f : Nat} (h : c_kd k = c + 1) (hc : c < 900) (hf : (h_fk.getD c [])[f]? = some true) : am_gr (c_t R σ) (b + k) c f = some (c_rv σ k c f) := by
  simp only [am_gr, am_gv, c_ob h hc, if_true, c_fvat hf]
theorem c_clr {k c : Nat} (h : c_kd k = c + 1) (hc : c < 900) : am_cls (c_t R σ) (b + k) c = true := by
  have e := c_ob (R := R) (σ := σ) h hc
  simp [am_cls, e]
theorem c_ue {σ' : c_S b} {a : Nat} {e : va_E} (h1 : σ'.nx = σ.nx) (h2 : σ'.sl = σ.sl) (h3 : c_ce R σ' a = some e) (h4 : ∀ q, q ≠ a → c_ce R σ' q = c_ce R σ q) : am_upd (c_t R σ) a e = c_t R σ' := by
  unfold am_upd c_t
  rw [h1, h2]
  congr 2
  funext q
  show (if q = a then some e else c_ce R σ q) = c_ce R σ' q
  split
  · rename_i hq; rw [hq, h3]
  · rename_i hq; rw [h4 q hq]
/-- a change of what stands at one offset -/
theorem c_ux {σ' : c_S b} {k : Nat} {e : va_E} (hk : c_kd k ≠ 0) (h1 : σ'.nx = σ.nx) (h2 : σ'.sl = σ.sl) (h3 : σ'.ro = σ.ro) (h4 : σ'.old = σ.old) (h5 : ∀ r, c_vr r → c_dy σ' r = c_dy σ r) (h6 : c_fx σ' k = some e) (h7 : ∀ j, c_kd j ≠ 0 → j ≠ k → c_fx σ' j = c_fx σ j) : am_upd (c_t R σ) (b + k) e = c_t R σ' := by
  refine c_ue h1 h2 ?_ ?_
  · rw [← h6]; exact c_at (R := R) (σ := σ') hk
  · intro q hq
    unfold c_ce
    rw [h3, h4]
    split
    · rfl
    · rename_i hb
      split
      · split
        · rfl
        · rename_i hz
          exact h7 _ hz (by omega)
      · rename_i hr
        exact h5 _ (σ.hw q hr).1
theorem c_pI {k c f ty : Nat} {v : Int} (h : c_kd k = c + 1) (hc : c < 100) (hf : (h_fk.getD c [])[f]? = some false) (hty : am_fit ty (.int (h_ii v)) = true) : am_pf (c_t R σ) (b + k) c f ty (.int (h_ii v)) = some (c_t R (c_uI σ k (20 * c + f) v)) := by
  have e := c_ob (R := R) (σ := σ) h (by omega)
  have hk := (List.getElem?_eq_some_iff.mp hf).1
  simp only [am_pf, e]
  rw [if_pos ⟨trivial, hc, by rw [c_fvl]; exact hk, hty⟩]
  refine congrArg some (c_ux (by omega) rfl rfl rfl rfl (fun r _ => rfl) ?_ ?_)
  · unfold c_fx
    rw [if_pos (by omega), h]
    refine congrArg (fun z : List Value => (some (Sum.inr (c, z)) : Option va_E)) ?_
    show c_fv (c_uI σ k (20 * c + f) v) k c = (c_fv σ k c).set f (.int (h_ii v))
    apply List.ext_getElem?
    intro j
    rw [List.getElem?_set]
    by_cases hj : j < (h_fk.getD c []).length
    · have hb : (h_fk.getD c [])[j]? = some ((h_fk.getD c [])[j]'hj) := List.getElem?_eq_getElem hj
      rw [c_fvat hb, c_fvat hb]
      by_cases hjk : f = j
      · subst hjk
        have hb2 : (h_fk.getD c [])[f]'hj = false := Option.some.inj (hb.symm.trans hf)
        rw [hb2, c_I_uI]
        simp [c_fvl]
        exact hj
      · have : ¬ j = f := fun w => hjk w.symm
        simp [c_I_uI, hjk, this]
        rfl
    · rw [List.getElem?_eq_none (by rw [c_fvl]; omega), List.getElem?_eq_none (by rw [c_fvl]; omega)]
      rw [if_neg (by omega)]
  · intro j _ hj
    have hfv : ∀ c, c_fv (c_uI σ k (20 * c_kd k - 20 + f) v) j c = c_fv σ j c := by
      intro c
      unfold c_fv
      refine List.map_congr_left fun i _ => ?_
      simp only [c_I_uI, hj, false_and, if_false]
      rfl
    rw [show 20 * c + f = 20 * c_kd k - 20 + f by omega]
    unfold c_fx
    rw [hfv]
    rfl
/-- what a reference field of an object becomes -/
theorem c_pR {σ' : c_S b} {k c f ty r : Nat} (h : c_kd k = c + 1) (hc : c < 100) (hf : (h_fk.getD c [])[f]? = some true) (hty : ty = 2 ∨ ty = 3) (h1 : σ'.nx = σ.nx) (h2 : σ'.sl = σ.sl) (h3 : σ'.ro = σ.ro) (h4 : σ'.old = σ.old) (h5 : ∀ r, c_vr r → c_dy σ' r = c_dy σ r) (h6 : σ'.I = σ.I) (h7 : σ'.A = σ.A) (h8 : ∀ k' i, c_kd k' = 1004 ∨ c_kd k' = 1005 → c_rr σ' k' i = c_rr σ k' i) (h9 : ∀ k' c' f', c_kd k' = c' + 1 → ¬ (k' = k ∧ f' = f) → c_rv σ' k' c' f' = c_rv σ k' c' f') (h10 : c_rv σ' k c f = r) : am_pf (c_t R σ) (b + k) c f ty (.ref r) = some (c_t R σ') := by
  have e := c_ob (R := R) (σ := σ) h (by omega)
  have hk := (List.getElem?_eq_some_iff.mp hf).1
  have hfit : am_fit ty (.ref r) = true := by rcases hty with rfl | rfl <;> rfl
  simp only [am_pf, e]
  rw [if_pos ⟨trivial, hc, by rw [c_fvl]; exact hk, hfit⟩]
  refine congrArg some (c_ux (by omega) h1 h2 h3 h4 h5 ?_ ?_)
  · unfold c_fx
    rw [if_pos (by omega), h]
    refine congrArg (fun z : List Value => (some (Sum.inr (c, z)) : Option va_E)) ?_
    show c_fv σ' k c = (c_fv σ k c).set f (.ref r)
    apply List.ext_getElem?
    intro j
    rw [List.getElem?_set]
    by_cases hj : j < (h_fk.getD c []).length
    · have hb : (h_fk.getD c [])[j]? = some ((h_fk.getD c [])[j]'hj) := List.getElem?_eq_getElem hj
      rw [c_fvat hb, c_fvat hb]
      by_cases hjk : f = j
      · subst hjk
        have hb2 : (h_fk.getD c [])[f]'hj = true := Option.some.inj (hb.symm.trans hf)
        rw [hb2, h10]
        simp [c_fvl]
        exact hj
      · rw [h6, h9 k c j h (fun w => hjk w.2.symm), if_neg hjk]
    · rw [List.getElem?_eq_none (by rw [c_fvl]; omega), List.getElem?_eq_none (by rw [c_fvl]; omega)]
      rw [if_neg (by omega)]
  · intro j q0 hj
    unfold c_fx
    rw [h7]
    by_cases q : c_kd j < 1000
    · rw [if_pos q, if_pos q]
      have : c_fv σ' j (c_kd j - 1) = c_fv σ j (c_kd j - 1) := by
        unfold c_fv
        refine List.map_congr_left fun i _ => ?_
        rw [h6, h9 j (c_kd j - 1) i (by omega) (fun w => hj w.1)]
      rw [this]
    · rw [if_neg q, if_neg q]
      by_cases q2 : c_kd j ≤ 1002
      · rw [if_pos q2, if_pos q2]
      · rw [if_neg q2, if_neg q2]
        have : (fun i => c_rr σ' j i) = (fun i => c_rr σ j i) := funext fun i => h8 j i (c_kd45 (by omega))
        rw [this]
end CT
section CA
variable {b : Nat} {R : Nat → Option va_E} {σ : c_S b}
theorem c_ar {k t : Nat} (h : c_kd k = 1000 + t) (ht : t < 3) : (c_t R σ).2.2 (b + k) = some (.inl (t, c_ln k, .inl (fun i => h_ii (σ.A k i)))) := by
  rw [c_at (by omega)]
  unfold c_fx
  rw [if_neg (by omega), if_pos (by omega), h, show 1000 + t - 1000 = t by omega]
theorem c_arr {k t : Nat} (h : c_kd k = 1000 + t) (ht : 3 ≤ t) : (c_t R σ).2.2 (b + k) = some (.inl (t, c_ln k, .inr (.inr (.inr (.inr (fun i => c_rr σ k i)))))) := by
  rw [c_at (by omega)]
  unfold c_fx
  rw [if_neg (by omega), if_neg (by omega), h, show 1000 + t - 1000 = t by omega]
/-- reads and writes of an array whose cell is known -/
theorem c_il {M : am_M} {a t n : Nat} {f : Nat → Int} {i : Int} {ts : List Nat} (e : M.2.2 a = some (.inl (t, n, .inl (fun i => h_ii (f i))))) (ht : t ∈ ts) (h0 : 0 ≤ i) (h1 : i < n) (h2 : n ≤ 60000000) : am_il M a (h_ii i) ts = some (h_ii (f i.toNat)) := by
  simp only [am_il, e, if_pos ht, h_ix h0 h1 (by omega), Option.map_some]
theorem c_is {M : am_M} {a t n : Nat} {f : Nat → Int} {i v : Int} {ts : List Nat} (e : M.2.2 a = some (.inl (t, n, .inl (fun i => h_ii (f i))))) (ht : t ∈ ts) (hn : am_nar t (h_ii v) = h_ii (h_nr t v)) (h0 : 0 ≤ i) (h1 : i < n) (h2 : n ≤ 60000000) : am_is M a (h_ii i) ts (h_ii v) = some (am_upd M a (.inl (t, n, .inl (fun j => h_ii (if j = i.toNat then h_nr t v else f j))))) := by
  simp only [am_is, e, if_pos ht, h_ix h0 h1 (by omega), Option.map_some, hn]
  refine congrArg (fun f : Nat → Int32 => some (am_upd M a (Sum.inl (t, n, Sum.inl f)))) (funext fun j => ?_)
  unfold upd
  by_cases hj : j = i.toNat <;> simp [hj]
theorem c_len {M : am_M} {a t n : Nat} {r} (e : M.2.2 a = some (.inl (t, n, r))) : am_len M a = some (h_ii n) := by
  simp only [am_len, e]
  rfl
/-- an array at an offset, written -/
theorem c_uf {k t : Nat} {i v : Int} (h : c_kd k = 1000 + t) (ht : t < 3) : am_upd (c_t R σ) (b + k) (.inl (t, c_ln k, .inl (fun j => h_ii (if j = i.toNat then v else σ.A k j)))) = c_t R (c_uA σ k i.toNat v) := by
  have hnv : ¬ c_vr k := by
    intro hv
    unfold c_vr at hv
    have hk := c_kd_lt (k := k) (by omega)
    rcases hv with rfl | rfl | hv | hv | hv
    · revert h; decide +revert
    · revert h; decide +revert
    · have hd : ∀ z : Fin 81, 29 ≤ z.val ∧ z.val ≤ 36 → c_kd z.val = 0 := by decide
      have := hd ⟨k, hk⟩ hv
      dsimp only at this
      omega
    · omega
    · omega
  refine c_ux (by omega) rfl rfl rfl rfl (fun r hr => ?_) ?_ ?_
  · unfold c_dy
    have e : ∀ i', (c_uA σ k i.toNat v).A r i' = σ.A r i' := fun i' => by
      rw [c_A_uA, if_neg]
      rintro ⟨rfl, _⟩
      exact hnv hr
    simp only [e]
    rfl
  · unfold c_fx
    rw [if_neg (by omega), if_pos (by omega), h, show 1000 + t - 1000 = t by omega]
    refine congrArg (fun f : Nat → Int32 => (some (Sum.inl (t, c_ln k, Sum.inl f)) : Option va_E)) (funext fun j => ?_)
    rw [c_A_uA]
    by_cases hj : j = i.toNat <;> simp [hj]
  · intro j hj hk
    unfold c_fx
    have e : ∀ i', (c_uA σ k i.toNat v).A j i' = σ.A j i' := fun i' => by
      rw [c_A_uA, if_neg (fun w => hk w.1)]
    simp only [e]
    rfl
/-- a change of one of the arrays that may be made anew -/
theorem c_ud {σ' : c_S b} {r : Nat} {e : va_E} (hr : c_vr r) (h1 : σ'.nx = σ.nx) (h2 : σ'.sl = σ.sl) (h3 : σ'.ro = σ.ro) (h4 : σ'.old = σ.old) (h5 : ∀ r', c_vr r' → r' ≠ r → c_dy σ' r' = c_dy σ r') (h6 : c_dy σ' r = some e) (h7 : ∀ j, c_kd j ≠ 0 → c_fx σ' j = c_fx σ j) : am_upd (c_t R σ) (c_da σ.da σ.ba σ.ta r) e = c_t R σ' := by
  have hrr := σ.hv r hr
  have hm := σ.hm _ (by rw [hrr]; exact c_rne hr)
  refine c_ue h1 h2 ?_ ?_
  · unfold c_ce
    rw [h3, if_neg (by omega), hrr, if_neg (c_rne hr), h6]
  · intro q hq
    unfold c_ce
    rw [h3, h4]
    split
    · rfl
    · split
      · split
        · rfl
        · rename_i hz
          exact h7 _ hz
      · rename_i hz
        refine h5 _ (σ.hw q hz).1 (fun w => hq ?_)
        rw [← w]
        exact (σ.hw q hz).2.symm
theorem c_udB {p n : Nat} {f : Nat → Int} (hp : c_lp p) {σ' : c_S b} (hs : σ' = c_wB σ (fun p' i => if p' = p then f i else σ.B p' i)) (hn : n = σ.bn p) : am_upd (c_t R σ) (σ.ba p) (.inl (0, n, .inl (fun i => h_ii (f i)))) = c_t R σ' := by
  subst hs; subst hn
  have hp8 : p < 81 := by unfold c_lp at hp; omega
  have e := c_ud (R := R) (σ := σ) (σ' := c_wB σ (fun p' i => if p' = p then f i else σ.B p' i)) (r := 100 + p) (e := .inl (0, σ.bn p, .inl (fun i => h_ii (f i)))) (.inr (.inr (.inr (.inl ⟨by omega, by rw [Nat.add_sub_cancel_left]; exact hp⟩)))) rfl rfl rfl rfl ?_ ?_ (fun _ _ => rfl)
  · unfold c_da at e
    rw [if_neg (by omega), if_pos (by omega), Nat.add_sub_cancel_left] at e
    exact e
  · intro r' hr' hne
    unfold c_dy
    by_cases h1 : r' < 100
    · rw [if_pos h1, if_pos h1]
      rfl
    · rw [if_neg h1, if_neg h1]
      by_cases h2 : r' < 200
      · rw [if_pos h2, if_pos h2]
        have : ¬ r' - 100 = p := by omega
        simp only [c_nx_wA, c_sl_wA, c_ro_wA, c_da_wA, c_dn_wA, c_ba_wA, c_bn_wA, c_ta_wA, c_tn_wA, c_A_wA, c_B_wA, c_T_wA, c_I_wA, c_L_wA, c_P_wA, c_old_wA, c_nx_wB, c_sl_wB, c_ro_wB, c_da_wB, c_dn_wB, c_ba_wB, c_bn_wB, c_ta_wB, c_tn_wB, c_A_wB, c_B_wB, c_T_wB, c_I_wB, c_L_wB, c_P_wB, c_old_wB, c_nx_wT, c_sl_wT, c_ro_wT, c_da_wT, c_dn_wT, c_ba_wT, c_bn_wT, c_ta_wT, c_tn_wT, c_A_wT, c_B_wT, c_T_wT, c_I_wT, c_L_wT, c_P_wT, c_old_wT, c_nx_wI, c_sl_wI, c_ro_wI, c_da_wI, c_dn_wI, c_ba_wI, c_bn_wI, c_ta_wI, c_tn_wI, c_A_wI, c_B_wI, c_T_wI, c_I_wI, c_L_wI, c_P_wI, c_old_wI, c_nx_wP, c_sl_wP, c_ro_wP, c_da_wP, c_dn_wP, c_ba_wP, c_bn_wP, c_ta_wP, c_tn_wP, c_A_wP, c_B_wP, c_T_wP, c_I_wP, c_L_wP, c_P_wP, c_old_wP, if_neg this]
      · rw [if_neg h2, if_neg h2]
        rfl
  · unfold c_dy
    rw [if_neg (by omega), if_pos (by omega), Nat.add_sub_cancel_left]
    simp only [c_nx_wA, c_sl_wA, c_ro_wA, c_da_wA, c_dn_wA, c_ba_wA, c_bn_wA, c_ta_wA, c_tn_wA, c_A_wA, c_B_wA, c_T_wA, c_I_wA, c_L_wA, c_P_wA, c_old_wA, c_nx_wB, c_sl_wB, c_ro_wB, c_da_wB, c_dn_wB, c_ba_wB, c_bn_wB, c_ta_wB, c_tn_wB, c_A_wB, c_B_wB, c_T_wB, c_I_wB, c_L_wB, c_P_wB, c_old_wB, c_nx_wT, c_sl_wT, c_ro_wT, c_da_wT, c_dn_wT, c_ba_wT, c_bn_wT, c_ta_wT, c_tn_wT, c_A_wT, c_B_wT, c_T_wT, c_I_wT, c_L_wT, c_P_wT, c_old_wT, c_nx_wI, c_sl_wI, c_ro_wI, c_da_wI, c_dn_wI, c_ba_wI, c_bn_wI, c_ta_wI, c_tn_wI, c_A_wI, c_B_wI, c_T_wI, c_I_wI, c_L_wI, c_P_wI, c_old_wI, c_nx_wP, c_sl_wP, c_ro_wP, c_da_wP, c_dn_wP, c_ba_wP, c_bn_wP, c_ta_wP, c_tn_wP, c_A_wP, c_B_wP, c_T_wP, c_I_wP, c_L_wP, c_P_wP, c_old_wP, if_true]
theorem c_udT {p n : Nat} {f : Nat → Int} (hp : c_lp p) {σ' : c_S b} (hs : σ' = c_wT σ (fun p' i => if p' = p then f i else σ.T p' i)) (hn : n = σ.tn p) : am_upd (c_t R σ) (σ.ta p) (.inl (1, n, .inl (fun i => h_ii (f i)))) = c_t R σ' := by
  subst hs; subst hn
  have hp8 : p < 81 := by unfold c_lp at hp; omega
  have e := c_ud (R := R) (σ := σ) (σ' := c_wT σ (fun p' i => if p' = p then f i else σ.T p' i)) (r := 200 + p) (e := .inl (1, σ.tn p, .inl (fun i => h_ii (f i)))) (.inr (.inr (.inr (.inr ⟨by omega, by rw [Nat.add_sub_cancel_left]; exact hp⟩)))) rfl rfl rfl rfl ?_ ?_ (fun _ _ => rfl)
  · unfold c_da at e
    rw [if_neg (by omega), if_neg (by omega), Nat.add_sub_cancel_left] at e
    exact e
  · intro r' hr' hne
    unfold c_dy
    by_cases h1 : r' < 100
    · rw [if_pos h1, if_pos h1]
      rfl
    · rw [if_neg h1, if_neg h1]
      by_cases h2 : r' < 200
      · rw [if_pos h2, if_pos h2]
        rfl
      · rw [if_neg h2, if_neg h2]
        have : ¬ r' - 200 = p := by
          unfold c_vr at hr'
          omega
        simp only [c_nx_wA, c_sl_wA, c_ro_wA, c_da_wA, c_dn_wA, c_ba_wA, c_bn_wA, c_ta_wA, c_tn_wA, c_A_wA, c_B_wA, c_T_wA, c_I_wA, c_L_wA, c_P_wA, c_old_wA, c_nx_wB, c_sl_wB, c_ro_wB, c_da_wB, c_dn_wB, c_ba_wB, c_bn_wB, c_ta_wB, c_tn_wB, c_A_wB, c_B_wB, c_T_wB, c_I_wB, c_L_wB, c_P_wB, c_old_wB, c_nx_wT, c_sl_wT, c_ro_wT, c_da_wT, c_dn_wT, c_ba_wT, c_bn_wT, c_ta_wT, c_tn_wT, c_A_wT, c_B_wT, c_T_wT, c_I_wT, c_L_wT, c_P_wT, c_old_wT, c_nx_wI, c_sl_wI, c_ro_wI, c_da_wI, c_dn_wI, c_ba_wI, c_bn_wI, c_ta_wI, c_tn_wI, c_A_wI, c_B_wI, c_T_wI, c_I_wI, c_L_wI, c_P_wI, c_old_wI, c_nx_wP, c_sl_wP, c_ro_wP, c_da_wP, c_dn_wP, c_ba_wP, c_bn_wP, c_ta_wP, c_tn_wP, c_A_wP, c_B_wP, c_T_wP, c_I_wP, c_L_wP, c_P_wP, c_old_wP, if_neg this]
  · unfold c_dy
    rw [if_neg (by omega), if_neg (by omega), Nat.add_sub_cancel_left]
    simp only [c_nx_wA, c_sl_wA, c_ro_wA, c_da_wA, c_dn_wA, c_ba_wA, c_bn_wA, c_ta_wA, c_tn_wA, c_A_wA, c_B_wA, c_T_wA, c_I_wA, c_L_wA, c_P_wA, c_old_wA, c_nx_wB, c_sl_wB, c_ro_wB, c_da_wB, c_dn_wB, c_ba_wB, c_bn_wB, c_ta_wB, c_tn_wB, c_A_wB, c_B_wB, c_T_wB, c_I_wB, c_L_wB, c_P_wB, c_old_wB, c_nx_wT, c_sl_wT, c_ro_wT, c_da_wT, c_dn_wT, c_ba_wT, c_bn_wT, c_ta_wT, c_tn_wT, c_A_wT, c_B_wT, c_T_wT, c_I_wT, c_L_wT, c_P_wT, c_old_wT, c_nx_wI, c_sl_wI, c_ro_wI, c_da_wI, c_dn_wI, c_ba_wI, c_bn_wI, c_ta_wI, c_tn_wI, c_A_wI, c_B_wI, c_T_wI, c_I_wI, c_L_wI, c_P_wI, c_old_wI, c_nx_wP, c_sl_wP, c_ro_wP, c_da_wP, c_dn_wP, c_ba_wP, c_bn_wP, c_ta_wP, c_tn_wP, c_A_wP, c_B_wP, c_T_wP, c_I_wP, c_L_wP, c_P_wP, c_old_wP, if_true]
theorem c_udD {z n t : Nat} {f : Nat → Int} (hz : z < 100) (hr : c_vr z) {σ' : c_S b} (hs : σ' = c_wA σ (fun z' i => if z' = z then f i else σ.A z' i)) (hn : n = σ.dn z) (ht : t = if z ≤ 7 then 0 else 1) : am_upd (c_t R σ) (σ.da z) (.inl (t, n, .inl (fun i => h_ii (f i)))) = c_t R σ' := by
  subst hs; subst hn; subst ht
  have e := c_ud (R := R) (σ := σ) (σ' := c_wA σ (fun z' i => if z' = z then f i else σ.A z' i)) (r := z) (e := .inl (if z ≤ 7 then 0 else 1, σ.dn z, .inl (fun i => h_ii (f i)))) hr rfl rfl rfl rfl ?_ ?_ ?_
  · unfold c_da at e
    rw [if_pos hz] at e
    exact e
  · intro r' hr' hne
    unfold c_dy
    simp only [c_nx_wA, c_sl_wA, c_ro_wA, c_da_wA, c_dn_wA, c_ba_wA, c_bn_wA, c_ta_wA, c_tn_wA, c_A_wA, c_B_wA, c_T_wA, c_I_wA, c_L_wA, c_P_wA, c_old_wA, c_nx_wB, c_sl_wB, c_ro_wB, c_da_wB, c_dn_wB, c_ba_wB, c_bn_wB, c_ta_wB, c_tn_wB, c_A_wB, c_B_wB, c_T_wB, c_I_wB, c_L_wB, c_P_wB, c_old_wB, c_nx_wT, c_sl_wT, c_ro_wT, c_da_wT, c_dn_wT, c_ba_wT, c_bn_wT, c_ta_wT, c_tn_wT, c_A_wT, c_B_wT, c_T_wT, c_I_wT, c_L_wT, c_P_wT, c_old_wT, c_nx_wI, c_sl_wI, c_ro_wI, c_da_wI, c_dn_wI, c_ba_wI, c_bn_wI, c_ta_wI, c_tn_wI, c_A_wI, c_B_wI, c_T_wI, c_I_wI, c_L_wI, c_P_wI, c_old_wI, c_nx_wP, c_sl_wP, c_ro_wP, c_da_wP, c_dn_wP, c_ba_wP, c_bn_wP, c_ta_wP, c_tn_wP, c_A_wP, c_B_wP, c_T_wP, c_I_wP, c_L_wP, c_P_wP, c_old_wP, if_neg hne]
  · unfold c_dy
    rw [if_pos hz]
    simp only [c_nx_wA, c_sl_wA, c_ro_wA, c_da_wA, c_dn_wA, c_ba_wA, c_bn_wA, c_ta_wA, c_tn_wA, c_A_wA, c_B_wA, c_T_wA, c_I_wA, c_L_wA, c_P_wA, c_old_wA, c_nx_wB, c_sl_wB, c_ro_wB, c_da_wB, c_dn_wB, c_ba_wB, c_bn_wB, c_ta_wB, c_tn_wB, c_A_wB, c_B_wB, c_T_wB, c_I_wB, c_L_wB, c_P_wB, c_old_wB, c_nx_wT, c_sl_wT, c_ro_wT, c_da_wT, c_dn_wT, c_ba_wT, c_bn_wT, c_ta_wT, c_tn_wT, c_A_wT, c_B_wT, c_T_wT, c_I_wT, c_L_wT, c_P_wT, c_old_wT, c_nx_wI, c_sl_wI, c_ro_wI, c_da_wI, c_dn_wI, c_ba_wI, c_bn_wI, c_ta_wI, c_tn_wI, c_A_wI, c_B_wI, c_T_wI, c_I_wI, c_L_wI, c_P_wI, c_old_wI, c_nx_wP, c_sl_wP, c_ro_wP, c_da_wP, c_dn_wP, c_ba_wP, c_bn_wP, c_ta_wP, c_tn_wP, c_A_wP, c_B_wP, c_T_wP, c_I_wP, c_L_wP, c_P_wP, c_old_wP, if_true]
  · intro j hj
    have hk : c_kd z = 0 := by
      have hd : ∀ z : Fin 100, (c_vr z.val → c_kd z.val = 0) := by decide
      exact hd ⟨z, hz⟩ hr
    have : ¬ j = z := by
      intro w
      subst w
      exact hj hk
    unfold c_fx
    simp only [c_nx_wA, c_sl_wA, c_ro_wA, c_da_wA, c_dn_wA, c_ba_wA, c_bn_wA, c_ta_wA, c_tn_wA, c_A_wA, c_B_wA, c_T_wA, c_I_wA, c_L_wA, c_P_wA, c_old_wA, c_nx_wB, c_sl_wB, c_ro_wB, c_da_wB, c_dn_wB, c_ba_wB, c_bn_wB, c_ta_wB, c_tn_wB, c_A_wB, c_B_wB, c_T_wB, c_I_wB, c_L_wB, c_P_wB, c_old_wB, c_nx_wT, c_sl_wT, c_ro_wT, c_da_wT, c_dn_wT, c_ba_wT, c_bn_wT, c_ta_wT, c_tn_wT, c_A_wT, c_B_wT, c_T_wT, c_I_wT, c_L_wT, c_P_wT, c_old_wT, c_nx_wI, c_sl_wI, c_ro_wI, c_da_wI, c_dn_wI, c_ba_wI, c_bn_wI, c_ta_wI, c_tn_wI, c_A_wI, c_B_wI, c_T_wI, c_I_wI, c_L_wI, c_P_wI, c_old_wI, c_nx_wP, c_sl_wP, c_ro_wP, c_da_wP, c_dn_wP, c_ba_wP, c_bn_wP, c_ta_wP, c_tn_wP, c_A_wP, c_B_wP, c_T_wP, c_I_wP, c_L_wP, c_P_wP, c_old_wP, if_neg this]
    rfl
/-! reads and writes, as they come -/
section RW
variable {τ : c_S b} {p : Nat} {i v : Int}
theorem c_lB (hp : c_lp p) (hh : σ.ba p = τ.ba p) (h0 : 0 ≤ i) (h1 : i < σ.bn p) (h2 : σ.bn p ≤ 60000000) : am_il (c_t R σ) (τ.ba p) (h_ii i) [0, 2, 100] = some (h_ii (σ.B p i.toNat)) := by
  rw [← hh]; exact c_il (c_atB hp) (by decide) h0 h1 h2
theorem c_sB (hp : c_lp p) (hh : σ.ba p = τ.ba p) (h0 : 0 ≤ i) (h1 : i < σ.bn p) (h2 : σ.bn p ≤ 60000000) : am_is (c_t R σ) (τ.ba p) (h_ii i) [0, 2] (h_ii v) = some (c_t R (c_uB σ p i.toNat (Int.bmod v 256))) := by
  rw [← hh, c_is (t := 0) (c_atB hp) (by decide) (by show (h_ii v).toInt8.toInt32 = _; exact h_b8 v) h0 h1 h2]
  refine congrArg some (c_udB hp ?_ rfl)
  unfold c_uB
  congr 1
  funext p' j
  by_cases h : p' = p
  · subst h
    by_cases hj : j = i.toNat <;> simp [hj, h_nr]
  · simp [h]
theorem c_nB (hp : c_lp p) (hh : σ.ba p = τ.ba p) : am_len (c_t R σ) (τ.ba p) = some (h_ii (σ.bn p)) := by
  rw [← hh]; exact c_len (c_atB hp)
theorem c_lT (hp : c_lp p) (hh : σ.ta p = τ.ta p) (h0 : 0 ≤ i) (h1 : i < σ.tn p) (h2 : σ.tn p ≤ 60000000) : am_il (c_t R σ) (τ.ta p) (h_ii i) [1, 101] = some (h_ii (σ.T p i.toNat)) := by
  rw [← hh]; exact c_il (c_atT hp) (by decide) h0 h1 h2
theorem c_sT (hp : c_lp p) (hh : σ.ta p = τ.ta p) (h0 : 0 ≤ i) (h1 : i < σ.tn p) (h2 : σ.tn p ≤ 60000000) : am_is (c_t R σ) (τ.ta p) (h_ii i) [1] (h_ii v) = some (c_t R (c_uT σ p i.toNat v)) := by
  rw [← hh, c_is (t := 1) (c_atT hp) (by decide) rfl h0 h1 h2]
  refine congrArg some (c_udT hp ?_ rfl)
  unfold c_uT
  congr 1
  funext p' j
  by_cases h : p' = p
  · subst h
    by_cases hj : j = i.toNat <;> simp [hj, h_nr]
  · simp [h]
theorem c_nT (hp : c_lp p) (hh : σ.ta p = τ.ta p) : am_len (c_t R σ) (τ.ta p) = some (h_ii (σ.tn p)) := by
  rw [← hh]; exact c_len (c_atT hp)
theorem c_lD {z : Nat} (hz : z = 1 ∨ z = 7) (hh : σ.da z = τ.da z) (h0 : 0 ≤ i) (h1 : i < σ.dn z) (h2 : σ.dn z ≤ 60000000) : am_il (c_t R σ) (τ.da z) (h_ii i) [0, 2, 100] = some (h_ii (σ.A z i.toNat)) := by
  rw [← hh]
  refine c_il (t := 0) ?_ (by decide) h0 h1 h2
  rw [c_atD (by omega) (by unfold c_vr; omega), if_pos (by omega)]
theorem c_sD {z : Nat} (hz : z = 1 ∨ z = 7) (hh : σ.da z = τ.da z) (h0 : 0 ≤ i) (h1 : i < σ.dn z) (h2 : σ.dn z ≤ 60000000) : am_is (c_t R σ) (τ.da z) (h_ii i) [0, 2] (h_ii v) = some (c_t R (c_uA σ z i.toNat (Int.bmod v 256))) := by
  rw [← hh, c_is (t := 0) (n := σ.dn z) (f := σ.A z) (by rw [c_atD (by omega) (by unfold c_vr; omega), if_pos (by omega)]) (by decide) (by show (h_ii v).toInt8.toInt32 = _; exact h_b8 v) h0 h1 h2]
  refine congrArg some (c_udD (z := z) (by omega) (by unfold c_vr; omega) ?_ rfl (by rw [if_pos (by omega)]))
  unfold c_uA
  congr 1
  funext p' j
  by_cases h : p' = z
  · subst h
    by_cases hj : j = i.toNat <;> simp [hj, h_nr]
  · simp [h]
theorem c_nD {z : Nat} (hz : z < 100) (hr : c_vr z) (hh : σ.da z = τ.da z) : am_len (c_t R σ) (τ.da z) = some (h_ii (σ.dn z)) := by
  rw [← hh]; exact c_len (c_atD hz hr)
theorem c_lS {z : Nat} (hz : 29 ≤ z ∧ z ≤ 36) (hh : σ.da z = τ.da z) (h0 : 0 ≤ i) (h1 : i < σ.dn z) (h2 : σ.dn z ≤ 60000000) : am_il (c_t R σ) (τ.da z) (h_ii i) [1, 101] = some (h_ii (σ.A z i.toNat)) := by
  rw [← hh]
  refine c_il (t := 1) ?_ (by decide) h0 h1 h2
  rw [c_atD (by omega) (by unfold c_vr; omega), if_neg (by omega)]
theorem c_sS {z : Nat} (hz : 29 ≤ z ∧ z ≤ 36) (hh : σ.da z = τ.da z) (h0 : 0 ≤ i) (h1 : i < σ.dn z) (h2 : σ.dn z ≤ 60000000) : am_is (c_t R σ) (τ.da z) (h_ii i) [1] (h_ii v) = some (c_t R (c_uA σ z i.toNat v)) := by
  rw [← hh, c_is (t := 1) (n := σ.dn z) (f := σ.A z) (by rw [c_atD (by omega) (by unfold c_vr; omega), if_neg (by omega)]) (by decide) rfl h0 h1 h2]
  refine congrArg some (c_udD (z := z) (by omega) (by unfold c_vr; omega) ?_ rfl (by rw [if_neg (by omega)]))
  unfold c_uA
  congr 1
  funext p' j
  by_cases h : p' = z
  · subst h
    by_cases hj : j = i.toNat <;> simp [hj, h_nr]
  · simp [h]
/-! arrays at an offset -/
theorem c_f4 {k : Nat} (h : c_kd k = 1001) (h0 : 0 ≤ i) (h1 : i < c_ln k) (h2 : c_ln k ≤ 60000000) : am_il (c_t R σ) (b + k) (h_ii i) [1, 101] = some (h_ii (σ.A k i.toNat)) := c_il (c_ar (t := 1) h (by decide)) (by decide) h0 h1 h2
theorem c_fz {k : Nat} (h : c_kd k = 1002) (h0 : 0 ≤ i) (h1 : i < c_ln k) (h2 : c_ln k ≤ 60000000) : am_il (c_t R σ) (b + k) (h_ii i) [0, 2, 100] = some (h_ii (σ.A k i.toNat)) := c_il (c_ar (t := 2) h (by decide)) (by decide) h0 h1 h2
theorem c_w4 {k : Nat} (h : c_kd k = 1001) (h0 : 0 ≤ i) (h1 : i < c_ln k) (h2 : c_ln k ≤ 60000000) : am_is (c_t R σ) (b + k) (h_ii i) [1] (h_ii v) = some (c_t R (c_uA σ k i.toNat v)) := by
  rw [c_is (t := 1) (c_ar (t := 1) h (by decide)) (by decide) rfl h0 h1 h2]
  exact congrArg some (c_uf (t := 1) h (by decide))
theorem c_wz {k : Nat} (h : c_kd k = 1002) (hv : v = 0 ∨ v = 1) (h0 : 0 ≤ i) (h1 : i < c_ln k) (h2 : c_ln k ≤ 60000000) : am_is (c_t R σ) (b + k) (h_ii i) [0, 2] (h_ii v) = some (c_t R (c_uA σ k i.toNat v)) := by
  rw [c_is (t := 2) (c_ar (t := 2) h (by decide)) (by decide) (by rcases hv with rfl | rfl <;> rfl) h0 h1 h2, show h_nr 2 v = v by rcases hv with rfl | rfl <;> rfl]
  exact congrArg some (c_uf (t := 2) h (by decide))
theorem c_fn {k t : Nat} (h : c_kd k = 1000 + t) (ht : t < 3) : am_len (c_t R σ) (b + k) = some (h_ii (c_ln k)) := c_len (c_ar h ht)
theorem c_fnr {k t : Nat} (h : c_kd k = 1000 + t) (ht : 3 ≤ t) : am_len (c_t R σ) (b + k) = some (h_ii (c_ln k)) := c_len (c_arr h ht)
theorem c_alr {k t n a : Nat} (h : c_kd k = 1000 + t) (ht : t = 4 ∨ t = 5) (hn : c_ln k = n) (h0 : 0 ≤ i) (h1 : i < n) (h2 : n ≤ 60000000) (hr : c_rr σ k i.toNat = some a) : am_al (c_t R σ) (b + k) (h_ii i) = some a := by
  have e := c_arr (R := R) (σ := σ) h (by omega)
  subst hn
  simp only [am_al, e]
  rw [if_pos (by rcases ht with rfl | rfl <;> simp), h_ix h0 h1 (by omega)]
  simp [hr]
theorem al2 (h0 : 0 ≤ i) (h1 : i < 11) : am_al (c_t R σ) (b + 2) (h_ii i) = some (b + σ.L i.toNat) := c_alr (k := 2) (t := 4) (n := 11) rfl (.inl rfl) rfl h0 h1 (by decide) (by
  unfold c_rr
  rw [if_pos rfl, if_pos (by omega)])
theorem al21 (h0 : 0 ≤ i) (h1 : i < 20) : am_al (c_t R σ) (b + 21) (h_ii i) = some (b + σ.L (20 + i.toNat)) := c_alr (k := 21) (t := 4) (n := 20) rfl (.inl rfl) rfl h0 h1 (by decide) (by
  unfold c_rr
  rw [if_neg (by decide), if_pos rfl, if_pos (by omega)])
theorem al38a : am_al (c_t R σ) (b + 38) (h_ii 0) = some (b + 39) := c_alr (k := 38) (t := 5) (n := 2) rfl (.inr rfl) rfl (by decide) (by decide) (by decide) rfl
theorem al38b : am_al (c_t R σ) (b + 38) (h_ii 1) = some (b + 40) := c_alr (k := 38) (t := 5) (n := 2) rfl (.inr rfl) rfl (by decide) (by decide) (by decide) rfl
theorem al41a : am_al (c_t R σ) (b + 41) (h_ii 0) = some (b + 42) := c_alr (k := 41) (t := 5) (n := 2) rfl (.inr rfl) rfl (by decide) (by decide) (by decide) rfl
theorem al41b : am_al (c_t R σ) (b + 41) (h_ii 1) = some (b + 43) := c_alr (k := 41) (t := 5) (n := 2) rfl (.inr rfl) rfl (by decide) (by decide) (by decide) rfl
theorem c_asr {k n : Nat} {w : Nat} (hk : k = 2 ∧ n = 11 ∧ w = 0 ∨ k = 21 ∧ n = 20 ∧ w = 20) (hp : c_lp p) (h0 : 0 ≤ i) (h1 : i < n) : am_as (c_t R σ) (b + k) (h_ii i) (b + p) = some (c_t R (c_uL σ (w + i.toNat) p)) := by
  have hkd : c_kd k = 1000 + 4 := by rcases hk with ⟨rfl, _, _⟩ | ⟨rfl, _, _⟩ <;> rfl
  have hln : c_ln k = n := by rcases hk with ⟨rfl, rfl, _⟩ | ⟨rfl, rfl, _⟩ <;> rfl
  have e := c_arr (R := R) (σ := σ) hkd (by decide)
  have e2 := c_ob (R := R) (σ := σ) (k := p) (c := 1) (c_kd_lp hp) (by decide)
  have hn : n ≤ 60000000 := by omega
  simp only [am_as, e, e2]
  rw [if_pos ⟨trivial, trivial⟩, hln, h_ix h0 h1 (by omega), Option.map_some]
  refine congrArg some (c_ux (by omega) rfl rfl rfl rfl (fun r hr => rfl) ?_ ?_)
  · unfold c_fx
    rw [if_neg (by omega), if_neg (by omega), hkd, hln]
    refine congrArg (fun f : Nat → Option Nat => (some (Sum.inl (4, n, Sum.inr (Sum.inr (Sum.inr (Sum.inr f))))) : Option va_E)) (funext fun j => ?_)
    unfold va_up c_rr
    simp only [c_L_uL σ hp]
    rcases hk with ⟨rfl, rfl, rfl⟩ | ⟨rfl, rfl, rfl⟩
    · by_cases hj : j = i.toNat
      · subst hj
        simp
        omega
      · simp [hj]
    · by_cases hj : j = i.toNat
      · subst hj
        simp
        omega
      · simp [hj]
  · intro j hj hjk
    have e1 : ∀ c, c_kd j = c + 1 → c_fv (c_uL σ (w + i.toNat) p) j c = c_fv σ j c := by
      intro c hc
      unfold c_fv
      refine List.map_congr_left fun f _ => ?_
      have : c_rv (c_uL σ (w + i.toNat) p) j c f = c_rv σ j c f := by
        unfold c_rv
        split <;> first | rfl | (rw [c_L_uL σ hp, if_neg (by omega)])
      rw [this]
      rfl
    have e2 : (c_kd j = 1004 ∨ c_kd j = 1005) → ∀ i', c_rr (c_uL σ (w + i.toNat) p) j i' = c_rr σ j i' := by
      intro _ i'
      unfold c_rr
      rcases hk with ⟨rfl, rfl, rfl⟩ | ⟨rfl, rfl, rfl⟩
      · have hz : ¬ 20 + i' = 0 + i.toNat := by omega
        simp only [if_neg hjk, c_L_uL σ hp, if_neg hz]
      · simp only [if_neg hjk, c_L_uL σ hp]
        by_cases h2 : j = 2
        · simp only [if_pos h2]
          by_cases h3 : i' < 11
          · have hz : ¬ i' = 20 + i.toNat := by omega
            simp only [if_pos h3, if_neg hz]
          · simp only [if_neg h3]
        · simp only [if_neg h2]
    unfold c_fx
    by_cases q : c_kd j < 1000
    · rw [if_pos q, if_pos q, e1 (c_kd j - 1) (by omega)]
    · rw [if_neg q, if_neg q]
      by_cases q2 : c_kd j ≤ 1002
      · rw [if_pos q2, if_pos q2]
        rfl
      · rw [if_neg q2, if_neg q2]
        rw [show (fun i' => c_rr (c_uL σ (w + i.toNat) p) j i') = (fun i' => c_rr σ j i') from funext fun i' => e2 (c_kd45 (by omega)) i']
theorem as2 (hp : c_lp p) (h0 : 0 ≤ i) (h1 : i < 11) : am_as (c_t R σ) (b + 2) (h_ii i) (b + p) = some (c_t R (c_uL σ i.toNat p)) := by
  have := c_asr (R := R) (σ := σ) (k := 2) (n := 11) (w := 0) (.inl ⟨rfl, rfl, rfl⟩) hp h0 h1
  rw [Nat.zero_add] at this
  exact this
theorem as21 (hp : c_lp p) (h0 : 0 ≤ i) (h1 : i < 20) : am_as (c_t R σ) (b + 21) (h_ii i) (b + p) = some (c_t R (c_uL σ (20 + i.toNat) p)) := c_asr (k := 21) (n := 20) (w := 20) (.inr ⟨rfl, rfl, rfl⟩) hp h0 h1
end RW
end CA
theorem c_kdu_0 {k : Nat} (h : c_kd k = 0 + 1) : k = 0 := by
  have hk := c_kd_lt (k := k) (by omega)
  have hd : ∀ z : Fin 81, c_kd z.val = 0 + 1 → z.val = 0 := by decide
  exact hd ⟨k, hk⟩ h
theorem c_kdu_4 {k : Nat} (h : c_kd k = 4 + 1) : k = 4 := by
  have hk := c_kd_lt (k := k) (by omega)
  have hd : ∀ z : Fin 81, c_kd z.val = 4 + 1 → z.val = 4 := by decide
  exact hd ⟨k, hk⟩ h
theorem c_kdu_2 {k : Nat} (h : c_kd k = 2 + 1) : k = 5 := by
  have hk := c_kd_lt (k := k) (by omega)
  have hd : ∀ z : Fin 81, c_kd z.val = 2 + 1 → z.val = 5 := by decide
  exact hd ⟨k, hk⟩ h
theorem c_kdu_5 {k : Nat} (h : c_kd k = 5 + 1) : k = 15 := by
  have hk := c_kd_lt (k := k) (by omega)
  have hd : ∀ z : Fin 81, c_kd z.val = 5 + 1 → z.val = 15 := by decide
  exact hd ⟨k, hk⟩ h
theorem c_kdu_6 {k : Nat} (h : c_kd k = 6 + 1) : k = 28 := by
  have hk := c_kd_lt (k := k) (by omega)
  have hd : ∀ z : Fin 81, c_kd z.val = 6 + 1 → z.val = 28 := by decide
  exact hd ⟨k, hk⟩ h
/-! an array made anew -/
theorem c_dan {b : Nat} {σ : c_S b} {r r' : Nat} : c_da (fun z => if z = r then σ.nx else σ.da z) (fun p => if 100 + p = r then σ.nx else σ.ba p) (fun p => if 200 + p = r then σ.nx else σ.ta p) r' = if r' = r then σ.nx else c_da σ.da σ.ba σ.ta r' := by
  unfold c_da
  by_cases h1 : r' < 100
  · simp only [if_pos h1]
  · simp only [if_neg h1]
    by_cases h2 : r' < 200
    · simp only [if_pos h2, show 100 + (r' - 100) = r' by omega]
    · simp only [if_neg h2, show 200 + (r' - 200) = r' by omega]
theorem c_ron {b : Nat} (σ : c_S b) : σ.ro σ.nx = 0 := by
  refine Decidable.byContradiction fun hq => ?_
  have := (σ.hm _ hq).2.1
  omega
theorem c_dlt {b : Nat} (σ : c_S b) {r : Nat} (hr : c_vr r) : c_da σ.da σ.ba σ.ta r < σ.nx := (σ.hm _ (by rw [σ.hv r hr]; exact c_rne hr)).2.1
theorem c_nok {b : Nat} (σ : c_S b) (r : Nat) (hr : c_vr r) : c_ok b (σ.nx + 1) (fun x => if x = σ.nx then r else if x = c_da σ.da σ.ba σ.ta r then 0 else σ.ro x) (fun z => if z = r then σ.nx else σ.da z) (fun p => if 100 + p = r then σ.nx else σ.ba p) (fun p => if 200 + p = r then σ.nx else σ.ta p) σ.L := by
  refine ⟨?_, ?_, ?_, ?_, σ.hL⟩
  · intro r' hr'
    rw [c_dan]
    dsimp only
    by_cases h : r' = r
    · rw [if_pos h, if_pos rfl, h]
    · have h1 := c_dlt σ hr'
      rw [if_neg h, if_neg (by omega), if_neg, σ.hv r' hr']
      intro w
      have := σ.hv r' hr'
      rw [w, σ.hv r hr] at this
      exact h this.symm
  · intro q hq
    dsimp only at hq ⊢
    by_cases h : q = σ.nx
    · subst h
      rw [if_pos rfl] at hq ⊢
      exact ⟨hr, by rw [c_dan, if_pos rfl]⟩
    · rw [if_neg h] at hq ⊢
      by_cases h2 : q = c_da σ.da σ.ba σ.ta r
      · rw [if_pos h2] at hq; exact absurd rfl hq
      · rw [if_neg h2] at hq ⊢
        have h3 := σ.hw q hq
        refine ⟨h3.1, ?_⟩
        rw [c_dan, if_neg, h3.2]
        intro w
        rw [← w, h3.2] at h2
        exact h2 rfl
  · have := σ.hn; omega
  · intro q hq
    dsimp only at hq ⊢
    have hn := σ.hn
    by_cases h : q = σ.nx
    · subst h
      exact ⟨by omega, by omega, .inl (by omega)⟩
    · rw [if_neg h] at hq
      by_cases h2 : q = c_da σ.da σ.ba σ.ta r
      · rw [if_pos h2] at hq; exact absurd rfl hq
      · rw [if_neg h2] at hq
        have h3 := σ.hm q hq
        exact ⟨h3.1, by omega, h3.2.2⟩
def c_nr {b : Nat} (σ : c_S b) (r n : Nat) (c : Nat → Int) (hr : c_vr r) : c_S b := c_mk (σ.nx + 1) (σ.sl + n) (fun x => if x = σ.nx then r else if x = c_da σ.da σ.ba σ.ta r then 0 else σ.ro x) (fun z => if z = r then σ.nx else σ.da z) (fun z => if z = r then n else σ.dn z) (fun p => if 100 + p = r then σ.nx else σ.ba p) (fun p => if 100 + p = r then n else σ.bn p) (fun p => if 200 + p = r then σ.nx else σ.ta p) (fun p => if 200 + p = r then n else σ.tn p) (fun z i => if z = r then c i else σ.A z i) (fun p i => if 100 + p = r then c i else σ.B p i) (fun p i => if 200 + p = r then c i else σ.T p i) σ.I σ.L σ.P (fun x => if x = c_da σ.da σ.ba σ.ta r then c_dy σ r else σ.old x) (c_nok σ r hr)

theorem c_nx_nr {b : Nat} (σ : c_S b) (r n : Nat) (g : Nat → Int) (hr : c_vr r) : (c_nr σ r n g hr).nx  = σ.nx + 1 := rfl
theorem c_sl_nr {b : Nat} (σ : c_S b) (r n : Nat) (g : Nat → Int) (hr : c_vr r) : (c_nr σ r n g hr).sl  = σ.sl + n := rfl
theorem c_da_nr {b : Nat} (σ : c_S b) (r n : Nat) (g : Nat → Int) (hr : c_vr r) (q : Nat) : (c_nr σ r n g hr).da q = if q = r then σ.nx else σ.da q := rfl
theorem c_dn_nr {b : Nat} (σ : c_S b) (r n : Nat) (g : Nat → Int) (hr : c_vr r) (q : Nat) : (c_nr σ r n g hr).dn q = if q = r then n else σ.dn q := rfl
theorem c_ba_nr {b : Nat} (σ : c_S b) (r n : Nat) (g : Nat → Int) (hr : c_vr r) (q : Nat) : (c_nr σ r n g hr).ba q = if 100 + q = r then σ.nx else σ.ba q := rfl
theorem c_bn_nr {b : Nat} (σ : c_S b) (r n : Nat) (g : Nat → Int) (hr : c_vr r) (q : Nat) : (c_nr σ r n g hr).bn q = if 100 + q = r then n else σ.bn q := rfl
theorem c_ta_nr {b : Nat} (σ : c_S b) (r n : Nat) (g : Nat → Int) (hr : c_vr r) (q : Nat) : (c_nr σ r n g hr).ta q = if 200 + q = r then σ.nx else σ.ta q := rfl
theorem c_tn_nr {b : Nat} (σ : c_S b) (r n : Nat) (g : Nat → Int) (hr : c_vr r) (q : Nat) : (c_nr σ r n g hr).tn q = if 200 + q = r then n else σ.tn q := rfl
theorem c_A_nr {b : Nat} (σ : c_S b) (r n : Nat) (g : Nat → Int) (hr : c_vr r) (q j : Nat) : (c_nr σ r n g hr).A q j = if q = r then g j else σ.A q j := rfl
theorem c_B_nr {b : Nat} (σ : c_S b) (r n : Nat) (g : Nat → Int) (hr : c_vr r) (q j : Nat) : (c_nr σ r n g hr).B q j = if 100 + q = r then g j else σ.B q j := rfl
theorem c_T_nr {b : Nat} (σ : c_S b) (r n : Nat) (g : Nat → Int) (hr : c_vr r) (q j : Nat) : (c_nr σ r n g hr).T q j = if 200 + q = r then g j else σ.T q j := rfl
theorem c_I_nr {b : Nat} (σ : c_S b) (r n : Nat) (g : Nat → Int) (hr : c_vr r) (q j : Nat) : (c_nr σ r n g hr).I q j = σ.I q j := rfl
theorem c_L_nr {b : Nat} (σ : c_S b) (r n : Nat) (g : Nat → Int) (hr : c_vr r) (q : Nat) : (c_nr σ r n g hr).L q = σ.L q := rfl
theorem c_P_nr {b : Nat} (σ : c_S b) (r n : Nat) (g : Nat → Int) (hr : c_vr r) (q : Nat) : (c_nr σ r n g hr).P q = σ.P q := rfl
theorem c_old_nr {b : Nat} (σ : c_S b) (r n : Nat) (g : Nat → Int) (hr : c_vr r) (q : Nat) : (c_nr σ r n g hr).old q = if q = c_da σ.da σ.ba σ.ta r then c_dy σ r else σ.old q := rfl
theorem c_ro_nr {b : Nat} (σ : c_S b) (r n : Nat) (g : Nat → Int) (hr : c_vr r) (q : Nat) : (c_nr σ r n g hr).ro q = if q = σ.nx then r else if q = c_da σ.da σ.ba σ.ta r then 0 else σ.ro q := rfl
def c_dt (r : Nat) : Nat := if r < 100 then (if r ≤ 7 then 0 else 1) else if r < 200 then 0 else 1
/-- a new array, and the field that now tells of it -/
theorem c_pn {b : Nat} {R : Nat → Option va_E} {σ σ' : c_S b} {k c f r n t : Nat} {g : Nat → Int} (hr : c_vr r) (ht : t = c_dt r) (h : c_kd k = c + 1) (hc : c < 100) (hf : (h_fk.getD c [])[f]? = some true) (hs : ∃ P, σ' = c_wP (c_nr σ r n g hr) P) (h9 : ∀ k' c' f', c_kd k' = c' + 1 → ¬ (k' = k ∧ f' = f) → c_rv σ' k' c' f' = c_rv σ k' c' f') (h10 : c_rv σ' k c f = σ.nx) : am_pf (am_push (c_t R σ) n (.inl (t, n, .inl (fun i => h_ii (g i))))) (b + k) c f 3 (.ref σ.nx) = some (c_t R σ') := by
  have hk81 := c_kd_lt (k := k) (by omega)
  have hn := σ.hn
  obtain ⟨P, rfl⟩ := hs
  have e0 : (am_push (c_t R σ) n (.inl (t, n, .inl (fun i => h_ii (g i))))).2.2 (b + k) = some (.inr (c, c_fv σ k c)) := by
    show (if b + k = σ.nx then _ else (c_t R σ).2.2 (b + k)) = _
    rw [if_neg (by omega)]
    exact c_ob h (by omega)
  have hk := (List.getElem?_eq_some_iff.mp hf).1
  simp only [am_pf, e0]
  rw [if_pos ⟨trivial, hc, by rw [c_fvl]; exact hk, rfl⟩]
  refine congrArg some ?_
  unfold am_upd am_push
  show (σ.nx + 1, σ.sl + n, fun q => if q = b + k then some (Sum.inr (c, (c_fv σ k c).set f (.ref σ.nx))) else if q = σ.nx then _ else c_ce R σ q) = (σ.nx + 1, σ.sl + n, _)
  refine congrArg (fun z => (σ.nx + 1, σ.sl + n, z)) (funext fun q => ?_)
  have hdl := c_dlt σ hr
  have hdm := σ.hm _ (show σ.ro (c_da σ.da σ.ba σ.ta r) ≠ 0 by rw [σ.hv r hr]; exact c_rne hr)
  by_cases q1 : q = b + k
  · subst q1
    rw [if_pos rfl]
    refine Eq.symm ?_
    refine (c_ob (R := R) (k := k) h (by omega)).trans ?_
    refine congrArg (fun z : List Value => (some (Sum.inr (c, z)) : Option va_E)) ?_
    apply List.ext_getElem?
    intro j
    rw [List.getElem?_set]
    by_cases hj : j < (h_fk.getD c []).length
    · have hb : (h_fk.getD c [])[j]? = some ((h_fk.getD c [])[j]'hj) := List.getElem?_eq_getElem hj
      rw [c_fvat hb, c_fvat hb]
      by_cases hjk : f = j
      · subst hjk
        have hb2 : (h_fk.getD c [])[f]'hj = true := Option.some.inj (hb.symm.trans hf)
        rw [hb2, h10]
        simp [c_fvl]
        exact hj
      · rw [h9 k c j h (fun w => hjk w.2.symm), if_neg hjk]
        rfl
    · rw [List.getElem?_eq_none (by rw [c_fvl]; omega), List.getElem?_eq_none (by rw [c_fvl]; omega)]
      rw [if_neg (by omega)]
  · rw [if_neg q1]
    by_cases q2 : q = σ.nx
    · subst q2
      rw [if_pos rfl]
      unfold c_ce
      rw [if_neg (by omega)]
      show _ = (if (if σ.nx = σ.nx then r else _) = 0 then _ else c_dy _ (if σ.nx = σ.nx then r else _))
      rw [if_pos rfl, if_neg (c_rne hr)]
      subst ht
      unfold c_dy c_dt
      by_cases h1 : r < 100
      · rw [if_pos h1, if_pos h1]
        simp only [c_nx_nr, c_sl_nr, c_da_nr, c_dn_nr, c_ba_nr, c_bn_nr, c_ta_nr, c_tn_nr, c_A_nr, c_B_nr, c_T_nr, c_I_nr, c_L_nr, c_P_nr, c_old_nr, c_ro_nr, c_nx_wP, c_sl_wP, c_ro_wP, c_da_wP, c_dn_wP, c_ba_wP, c_bn_wP, c_ta_wP, c_tn_wP, c_A_wP, c_B_wP, c_T_wP, c_I_wP, c_L_wP, c_P_wP, c_old_wP, c_nx_uP, c_sl_uP, c_ro_uP, c_da_uP, c_dn_uP, c_ba_uP, c_bn_uP, c_ta_uP, c_tn_uP, c_A_uP, c_B_uP, c_T_uP, c_I_uP, c_L_uP, c_P_uP, c_old_uP, if_true]
      · rw [if_neg h1, if_neg h1]
        by_cases h2 : r < 200
        · rw [if_pos h2, if_pos h2]
          simp only [c_nx_nr, c_sl_nr, c_da_nr, c_dn_nr, c_ba_nr, c_bn_nr, c_ta_nr, c_tn_nr, c_A_nr, c_B_nr, c_T_nr, c_I_nr, c_L_nr, c_P_nr, c_old_nr, c_ro_nr, c_nx_wP, c_sl_wP, c_ro_wP, c_da_wP, c_dn_wP, c_ba_wP, c_bn_wP, c_ta_wP, c_tn_wP, c_A_wP, c_B_wP, c_T_wP, c_I_wP, c_L_wP, c_P_wP, c_old_wP, c_nx_uP, c_sl_uP, c_ro_uP, c_da_uP, c_dn_uP, c_ba_uP, c_bn_uP, c_ta_uP, c_tn_uP, c_A_uP, c_B_uP, c_T_uP, c_I_uP, c_L_uP, c_P_uP, c_old_uP, show 100 + (r - 100) = r by omega, if_true]
        · rw [if_neg h2, if_neg h2]
          simp only [c_nx_nr, c_sl_nr, c_da_nr, c_dn_nr, c_ba_nr, c_bn_nr, c_ta_nr, c_tn_nr, c_A_nr, c_B_nr, c_T_nr, c_I_nr, c_L_nr, c_P_nr, c_old_nr, c_ro_nr, c_nx_wP, c_sl_wP, c_ro_wP, c_da_wP, c_dn_wP, c_ba_wP, c_bn_wP, c_ta_wP, c_tn_wP, c_A_wP, c_B_wP, c_T_wP, c_I_wP, c_L_wP, c_P_wP, c_old_wP, c_nx_uP, c_sl_uP, c_ro_uP, c_da_uP, c_dn_uP, c_ba_uP, c_bn_uP, c_ta_uP, c_tn_uP, c_A_uP, c_B_uP, c_T_uP, c_I_uP, c_L_uP, c_P_uP, c_old_uP, show 200 + (r - 200) = r by omega, if_true]
    · rw [if_neg q2]
      unfold c_ce
      split
      · rfl
      · rename_i hq0
        show _ = (if (if q = σ.nx then r else if q = c_da σ.da σ.ba σ.ta r then 0 else σ.ro q) = 0 then _ else c_dy _ (if q = σ.nx then r else if q = c_da σ.da σ.ba σ.ta r then 0 else σ.ro q))
        rw [if_neg q2]
        by_cases q3 : q = c_da σ.da σ.ba σ.ta r
        · rw [if_pos q3, if_pos rfl]
          have hz : σ.ro q = r := by rw [q3]; exact σ.hv r hr
          rw [if_neg (by rw [hz]; exact c_rne hr), hz, if_pos]
          · show _ = (if q = c_da σ.da σ.ba σ.ta r then c_dy σ r else σ.old q)
            rw [if_pos q3]
          · subst q3
            refine Decidable.byContradiction fun w => ?_
            have := c_kd_lt w
            rcases hdm.2.2 with z | z
            · omega
            · exact w z.2
        · rw [if_neg q3]
          by_cases q4 : σ.ro q = 0
          · rw [if_pos q4, if_pos q4]
            by_cases q5 : c_kd (q - b) = 0
            · rw [if_pos q5, if_pos q5]
              show _ = (if q = c_da σ.da σ.ba σ.ta r then c_dy σ r else σ.old q)
              rw [if_neg q3]
            · rw [if_neg q5, if_neg q5]
              have hjk : q - b ≠ k := by omega
              unfold c_fx
              by_cases q6 : c_kd (q - b) < 1000
              · rw [if_pos q6, if_pos q6]
                have : c_fv (c_wP (c_nr σ r n g hr) P) (q - b) (c_kd (q - b) - 1) = c_fv σ (q - b) (c_kd (q - b) - 1) := by
                  unfold c_fv
                  refine List.map_congr_left fun i _ => ?_
                  rw [h9 (q - b) (c_kd (q - b) - 1) i (by omega) (fun w => hjk w.1)]
                  rfl
                rw [this]
              · rw [if_neg q6, if_neg q6]
                by_cases q7 : c_kd (q - b) ≤ 1002
                · rw [if_pos q7, if_pos q7]
                  have hne : ¬ q - b = r := by
                    intro w
                    have hd : ∀ z : Fin 81, (c_vr z.val → c_kd z.val = 0) := by decide
                    have hlt := c_kd_lt q5
                    have := hd ⟨q - b, hlt⟩ (by show c_vr (q - b); rw [w]; exact hr)
                    exact q5 this
                  simp only [c_nx_nr, c_sl_nr, c_da_nr, c_dn_nr, c_ba_nr, c_bn_nr, c_ta_nr, c_tn_nr, c_A_nr, c_B_nr, c_T_nr, c_I_nr, c_L_nr, c_P_nr, c_old_nr, c_ro_nr, c_nx_wP, c_sl_wP, c_ro_wP, c_da_wP, c_dn_wP, c_ba_wP, c_bn_wP, c_ta_wP, c_tn_wP, c_A_wP, c_B_wP, c_T_wP, c_I_wP, c_L_wP, c_P_wP, c_old_wP, c_nx_uP, c_sl_uP, c_ro_uP, c_da_uP, c_dn_uP, c_ba_uP, c_bn_uP, c_ta_uP, c_tn_uP, c_A_uP, c_B_uP, c_T_uP, c_I_uP, c_L_uP, c_P_uP, c_old_uP, if_neg hne]
                · rw [if_neg q7, if_neg q7]
                  rfl
          · rw [if_neg q4, if_neg q4]
            have hne : σ.ro q ≠ r := by
              intro w
              apply q3
              rw [← w]
              exact (σ.hw q q4).2.symm
            unfold c_dy
            by_cases h1 : σ.ro q < 100
            · rw [if_pos h1, if_pos h1]
              simp only [c_nx_nr, c_sl_nr, c_da_nr, c_dn_nr, c_ba_nr, c_bn_nr, c_ta_nr, c_tn_nr, c_A_nr, c_B_nr, c_T_nr, c_I_nr, c_L_nr, c_P_nr, c_old_nr, c_ro_nr, c_nx_wP, c_sl_wP, c_ro_wP, c_da_wP, c_dn_wP, c_ba_wP, c_bn_wP, c_ta_wP, c_tn_wP, c_A_wP, c_B_wP, c_T_wP, c_I_wP, c_L_wP, c_P_wP, c_old_wP, c_nx_uP, c_sl_uP, c_ro_uP, c_da_uP, c_dn_uP, c_ba_uP, c_bn_uP, c_ta_uP, c_tn_uP, c_A_uP, c_B_uP, c_T_uP, c_I_uP, c_L_uP, c_P_uP, c_old_uP, if_neg hne]
            · rw [if_neg h1, if_neg h1]
              by_cases h2 : σ.ro q < 200
              · rw [if_pos h2, if_pos h2]
                have : ¬ 100 + (σ.ro q - 100) = r := by omega
                simp only [c_nx_nr, c_sl_nr, c_da_nr, c_dn_nr, c_ba_nr, c_bn_nr, c_ta_nr, c_tn_nr, c_A_nr, c_B_nr, c_T_nr, c_I_nr, c_L_nr, c_P_nr, c_old_nr, c_ro_nr, c_nx_wP, c_sl_wP, c_ro_wP, c_da_wP, c_dn_wP, c_ba_wP, c_bn_wP, c_ta_wP, c_tn_wP, c_A_wP, c_B_wP, c_T_wP, c_I_wP, c_L_wP, c_P_wP, c_old_wP, c_nx_uP, c_sl_uP, c_ro_uP, c_da_uP, c_dn_uP, c_ba_uP, c_bn_uP, c_ta_uP, c_tn_uP, c_A_uP, c_B_uP, c_T_uP, c_I_uP, c_L_uP, c_P_uP, c_old_uP, if_neg this]
              · rw [if_neg h2, if_neg h2]
                have : ¬ 200 + (σ.ro q - 200) = r := by omega
                simp only [c_nx_nr, c_sl_nr, c_da_nr, c_dn_nr, c_ba_nr, c_bn_nr, c_ta_nr, c_tn_nr, c_A_nr, c_B_nr, c_T_nr, c_I_nr, c_L_nr, c_P_nr, c_old_nr, c_ro_nr, c_nx_wP, c_sl_wP, c_ro_wP, c_da_wP, c_dn_wP, c_ba_wP, c_bn_wP, c_ta_wP, c_tn_wP, c_A_wP, c_B_wP, c_T_wP, c_I_wP, c_L_wP, c_P_wP, c_old_wP, c_nx_uP, c_sl_uP, c_ro_uP, c_da_uP, c_dn_uP, c_ba_uP, c_bn_uP, c_ta_uP, c_tn_uP, c_A_uP, c_B_uP, c_T_uP, c_I_uP, c_L_uP, c_P_uP, c_old_uP, if_neg this]
theorem c_vB {p : Nat} (h : c_lp p) : c_vr (100 + p) := .inr (.inr (.inr (.inl ⟨by omega, by rw [Nat.add_sub_cancel_left]; exact h⟩)))
theorem c_vT {p : Nat} (h : c_lp p) : c_vr (200 + p) := .inr (.inr (.inr (.inr ⟨by omega, by rw [Nat.add_sub_cancel_left]; exact h⟩)))
theorem c_l8 {p : Nat} (h : c_lp p) : p < 81 := by unfold c_lp at h; omega
/-- new bytes for the lines p, new stops, a new tape or new bare bytes, a new row of the sorter -/
def c_xB {b : Nat} (σ : c_S b) (p n : Nat) (c : Nat → Int) (hp : c_lp p) : c_S b := c_nr σ (100 + p) n c (c_vB hp)
def c_xT {b : Nat} (σ : c_S b) (p n : Nat) (c : Nat → Int) (hp : c_lp p) : c_S b := c_nr σ (200 + p) n c (c_vT hp)
def c_xD {b : Nat} (σ : c_S b) (z n : Nat) (c : Nat → Int) (hz : c_vr z) : c_S b := c_nr σ z n c hz
section CX
variable {b : Nat} {R : Nat → Option va_E} {σ : c_S b} {p n : Nat} {g : Nat → Int}
theorem c_pxB (hp : c_lp p) : am_pf (am_push (c_t R σ) n (.inl (0, n, .inl (fun i => h_ii (g i))))) (b + p) 1 0 3 (.ref σ.nx) = some (c_t R (c_xB σ p n g hp)) := by
  have h8 := c_l8 hp
  refine c_pn (c_vB hp) ?_ (c_kd_lp hp) (by decide) rfl ⟨_, rfl⟩ ?_ ?_
  · unfold c_dt; rw [if_neg (by omega), if_pos (by omega)]
  · intro k' c' f' hk hne
    have := c_kd_lt (k := k') (by omega)
    unfold c_rv
    split <;> first | rfl | (simp only [c_xB, c_nx_nr, c_sl_nr, c_da_nr, c_dn_nr, c_ba_nr, c_bn_nr, c_ta_nr, c_tn_nr, c_A_nr, c_B_nr, c_T_nr, c_I_nr, c_L_nr, c_P_nr, c_old_nr, c_ro_nr, c_nx_wP, c_sl_wP, c_ro_wP, c_da_wP, c_dn_wP, c_ba_wP, c_bn_wP, c_ta_wP, c_tn_wP, c_A_wP, c_B_wP, c_T_wP, c_I_wP, c_L_wP, c_P_wP, c_old_wP, c_nx_uP, c_sl_uP, c_ro_uP, c_da_uP, c_dn_uP, c_ba_uP, c_bn_uP, c_ta_uP, c_tn_uP, c_A_uP, c_B_uP, c_T_uP, c_I_uP, c_L_uP, c_P_uP, c_old_uP]; rw [if_neg (by omega)]) | (simp only [c_xB, c_nx_nr, c_sl_nr, c_da_nr, c_dn_nr, c_ba_nr, c_bn_nr, c_ta_nr, c_tn_nr, c_A_nr, c_B_nr, c_T_nr, c_I_nr, c_L_nr, c_P_nr, c_old_nr, c_ro_nr, c_nx_wP, c_sl_wP, c_ro_wP, c_da_wP, c_dn_wP, c_ba_wP, c_bn_wP, c_ta_wP, c_tn_wP, c_A_wP, c_B_wP, c_T_wP, c_I_wP, c_L_wP, c_P_wP, c_old_wP, c_nx_uP, c_sl_uP, c_ro_uP, c_da_uP, c_dn_uP, c_ba_uP, c_bn_uP, c_ta_uP, c_tn_uP, c_A_uP, c_B_uP, c_T_uP, c_I_uP, c_L_uP, c_P_uP, c_old_uP]; rw [if_neg]; intro w; exact hne ⟨by omega, rfl⟩)
  · show (if 100 + p = 100 + p then σ.nx else σ.ba p) = σ.nx
    rw [if_pos rfl]
theorem c_pxT (hp : c_lp p) : am_pf (am_push (c_t R σ) n (.inl (1, n, .inl (fun i => h_ii (g i))))) (b + p) 1 1 3 (.ref σ.nx) = some (c_t R (c_xT σ p n g hp)) := by
  have h8 := c_l8 hp
  refine c_pn (c_vT hp) ?_ (c_kd_lp hp) (by decide) rfl ⟨_, rfl⟩ ?_ ?_
  · unfold c_dt; rw [if_neg (by omega), if_neg (by omega)]
  · intro k' c' f' hk hne
    have := c_kd_lt (k := k') (by omega)
    unfold c_rv
    split <;> first | rfl | (simp only [c_xT, c_nx_nr, c_sl_nr, c_da_nr, c_dn_nr, c_ba_nr, c_bn_nr, c_ta_nr, c_tn_nr, c_A_nr, c_B_nr, c_T_nr, c_I_nr, c_L_nr, c_P_nr, c_old_nr, c_ro_nr, c_nx_wP, c_sl_wP, c_ro_wP, c_da_wP, c_dn_wP, c_ba_wP, c_bn_wP, c_ta_wP, c_tn_wP, c_A_wP, c_B_wP, c_T_wP, c_I_wP, c_L_wP, c_P_wP, c_old_wP, c_nx_uP, c_sl_uP, c_ro_uP, c_da_uP, c_dn_uP, c_ba_uP, c_bn_uP, c_ta_uP, c_tn_uP, c_A_uP, c_B_uP, c_T_uP, c_I_uP, c_L_uP, c_P_uP, c_old_uP]; rw [if_neg (by omega)]) | (simp only [c_xT, c_nx_nr, c_sl_nr, c_da_nr, c_dn_nr, c_ba_nr, c_bn_nr, c_ta_nr, c_tn_nr, c_A_nr, c_B_nr, c_T_nr, c_I_nr, c_L_nr, c_P_nr, c_old_nr, c_ro_nr, c_nx_wP, c_sl_wP, c_ro_wP, c_da_wP, c_dn_wP, c_ba_wP, c_bn_wP, c_ta_wP, c_tn_wP, c_A_wP, c_B_wP, c_T_wP, c_I_wP, c_L_wP, c_P_wP, c_old_wP, c_nx_uP, c_sl_uP, c_ro_uP, c_da_uP, c_dn_uP, c_ba_uP, c_bn_uP, c_ta_uP, c_tn_uP, c_A_uP, c_B_uP, c_T_uP, c_I_uP, c_L_uP, c_P_uP, c_old_uP]; rw [if_neg]; intro w; exact hne ⟨by omega, rfl⟩)
  · show (if 200 + p = 200 + p then σ.nx else σ.ta p) = σ.nx
    rw [if_pos rfl]
theorem c_px1 : am_pf (am_push (c_t R σ) n (.inl (0, n, .inl (fun i => h_ii (g i))))) b 0 0 3 (.ref σ.nx) = some (c_t R (c_xD σ 1 n g (.inl rfl))) := by
  refine c_pn (k := 0) (c := 0) (f := 0) (r := 1) (.inl rfl) rfl rfl (by decide) rfl ⟨_, rfl⟩ ?_ ?_
  · intro k' c' f' hk hne
    have := c_kd_lt (k := k') (by omega)
    unfold c_rv
    split <;> first | rfl | (simp only [c_xD, c_nx_nr, c_sl_nr, c_da_nr, c_dn_nr, c_ba_nr, c_bn_nr, c_ta_nr, c_tn_nr, c_A_nr, c_B_nr, c_T_nr, c_I_nr, c_L_nr, c_P_nr, c_old_nr, c_ro_nr, c_nx_wP, c_sl_wP, c_ro_wP, c_da_wP, c_dn_wP, c_ba_wP, c_bn_wP, c_ta_wP, c_tn_wP, c_A_wP, c_B_wP, c_T_wP, c_I_wP, c_L_wP, c_P_wP, c_old_wP, c_nx_uP, c_sl_uP, c_ro_uP, c_da_uP, c_dn_uP, c_ba_uP, c_bn_uP, c_ta_uP, c_tn_uP, c_A_uP, c_B_uP, c_T_uP, c_I_uP, c_L_uP, c_P_uP, c_old_uP]; rw [if_neg (by omega)]) | (exfalso; refine hne ⟨?_, rfl⟩; exact c_kdu_0 hk)
  · rfl
theorem c_px7 : am_pf (am_push (c_t R σ) n (.inl (0, n, .inl (fun i => h_ii (g i))))) (b + 5) 2 3 3 (.ref σ.nx) = some (c_t R (c_xD σ 7 n g (.inr (.inl rfl)))) := by
  refine c_pn (k := 5) (c := 2) (f := 3) (r := 7) (.inr (.inl rfl)) rfl rfl (by decide) rfl ⟨_, rfl⟩ ?_ ?_
  · intro k' c' f' hk hne
    have := c_kd_lt (k := k') (by omega)
    unfold c_rv
    split <;> first | rfl | (simp only [c_xD, c_nx_nr, c_sl_nr, c_da_nr, c_dn_nr, c_ba_nr, c_bn_nr, c_ta_nr, c_tn_nr, c_A_nr, c_B_nr, c_T_nr, c_I_nr, c_L_nr, c_P_nr, c_old_nr, c_ro_nr, c_nx_wP, c_sl_wP, c_ro_wP, c_da_wP, c_dn_wP, c_ba_wP, c_bn_wP, c_ta_wP, c_tn_wP, c_A_wP, c_B_wP, c_T_wP, c_I_wP, c_L_wP, c_P_wP, c_old_wP, c_nx_uP, c_sl_uP, c_ro_uP, c_da_uP, c_dn_uP, c_ba_uP, c_bn_uP, c_ta_uP, c_tn_uP, c_A_uP, c_B_uP, c_T_uP, c_I_uP, c_L_uP, c_P_uP, c_old_uP]; rw [if_neg (by omega)]) | (exfalso; refine hne ⟨?_, rfl⟩; exact c_kdu_2 hk)
  · rfl
theorem c_pxS {f : Nat} (hf : f < 8) : am_pf (am_push (c_t R σ) n (.inl (1, n, .inl (fun i => h_ii (g i))))) (b + 28) 6 f 3 (.ref σ.nx) = some (c_t R (c_uP (c_xD σ (29 + f) n g (.inr (.inr (.inl (by omega))))) (10 + f) σ.nx)) := by
  have hr : c_vr (29 + f) := .inr (.inr (.inl (by omega)))
  refine c_pn (k := 28) (c := 6) (f := f) (r := 29 + f) hr ?_ rfl (by decide) ?_ ⟨_, rfl⟩ ?_ ?_
  · unfold c_dt; rw [if_pos (by omega), if_neg (by omega)]
  · match f, hf with
    | 0, _ => rfl
    | 1, _ => rfl
    | 2, _ => rfl
    | 3, _ => rfl
    | 4, _ => rfl
    | 5, _ => rfl
    | 6, _ => rfl
    | 7, _ => rfl
    | f + 8, h => exact absurd h (by omega)
  · intro k' c' f' hk hne
    have := c_kd_lt (k := k') (by omega)
    have h7 : ∀ x, 10 + x = 10 + f → c' = 6 → f' = x → False := by
      intro x hx hc hf
      subst hc
      exact hne ⟨c_kdu_6 hk, by omega⟩
    unfold c_rv
    split <;> first | rfl | (simp only [c_xD, c_nx_nr, c_sl_nr, c_da_nr, c_dn_nr, c_ba_nr, c_bn_nr, c_ta_nr, c_tn_nr, c_A_nr, c_B_nr, c_T_nr, c_I_nr, c_L_nr, c_P_nr, c_old_nr, c_ro_nr, c_nx_wP, c_sl_wP, c_ro_wP, c_da_wP, c_dn_wP, c_ba_wP, c_bn_wP, c_ta_wP, c_tn_wP, c_A_wP, c_B_wP, c_T_wP, c_I_wP, c_L_wP, c_P_wP, c_old_wP, c_nx_uP, c_sl_uP, c_ro_uP, c_da_uP, c_dn_uP, c_ba_uP, c_bn_uP, c_ta_uP, c_tn_uP, c_A_uP, c_B_uP, c_T_uP, c_I_uP, c_L_uP, c_P_uP, c_old_uP]; rw [if_neg (by omega)]) | (simp only [c_xD, c_nx_nr, c_sl_nr, c_da_nr, c_dn_nr, c_ba_nr, c_bn_nr, c_ta_nr, c_tn_nr, c_A_nr, c_B_nr, c_T_nr, c_I_nr, c_L_nr, c_P_nr, c_old_nr, c_ro_nr, c_nx_wP, c_sl_wP, c_ro_wP, c_da_wP, c_dn_wP, c_ba_wP, c_bn_wP, c_ta_wP, c_tn_wP, c_A_wP, c_B_wP, c_T_wP, c_I_wP, c_L_wP, c_P_wP, c_old_wP, c_nx_uP, c_sl_uP, c_ro_uP, c_da_uP, c_dn_uP, c_ba_uP, c_bn_uP, c_ta_uP, c_tn_uP, c_A_uP, c_B_uP, c_T_uP, c_I_uP, c_L_uP, c_P_uP, c_old_uP]; rw [if_neg (fun w => h7 _ (by omega) rfl rfl)])
  · match f, hf with
    | 0, _ => rfl
    | 1, _ => rfl
    | 2, _ => rfl
    | 3, _ => rfl
    | 4, _ => rfl
    | 5, _ => rfl
    | 6, _ => rfl
    | 7, _ => rfl
    | f + 8, h => exact absurd h (by omega)
end CX
section CY
variable {b : Nat} {σ : c_S b} {p n : Nat} {g : Nat → Int}
theorem c_nx_xB {h} : (c_xB σ p n g h).nx  = σ.nx + 1 := (rfl)
theorem c_sl_xB {h} : (c_xB σ p n g h).sl  = σ.sl + n := (rfl)
theorem c_I_xB {h} (q j : Nat) : (c_xB σ p n g h).I q j = σ.I q j := (rfl)
theorem c_L_xB {h} (q : Nat) : (c_xB σ p n g h).L q = σ.L q := (rfl)
theorem c_P_xB {h} (q : Nat) : (c_xB σ p n g h).P q = σ.P q := (rfl)
theorem c_da_xB {h} (q : Nat) (hq : q < 100) : (c_xB σ p n g h).da q = σ.da q := if_neg (by omega)
theorem c_dn_xB {h} (q : Nat) (hq : q < 100) : (c_xB σ p n g h).dn q = σ.dn q := if_neg (by omega)
theorem c_A_xB {h} (q j : Nat) (hq : q < 100) : (c_xB σ p n g h).A q j = σ.A q j := if_neg (by omega)
theorem c_ba_xB {h} (q : Nat) : (c_xB σ p n g h).ba q = if q = p then σ.nx else σ.ba q := by show (if 100 + q = 100 + p then σ.nx else σ.ba q) = _; simp only [Nat.add_left_cancel_iff]
theorem c_bn_xB {h} (q : Nat) : (c_xB σ p n g h).bn q = if q = p then n else σ.bn q := by show (if 100 + q = 100 + p then n else σ.bn q) = _; simp only [Nat.add_left_cancel_iff]
theorem c_B_xB {h} (q j : Nat) : (c_xB σ p n g h).B q j = if q = p then g j else σ.B q j := by show (if 100 + q = 100 + p then g j else σ.B q j) = _; simp only [Nat.add_left_cancel_iff]
theorem c_ta_xB {h} (q : Nat) : (c_xB σ p n g h).ta q = σ.ta q := if_neg (by have := c_l8 h; omega)
theorem c_tn_xB {h} (q : Nat) : (c_xB σ p n g h).tn q = σ.tn q := if_neg (by have := c_l8 h; omega)
theorem c_T_xB {h} (q j : Nat) : (c_xB σ p n g h).T q j = σ.T q j := if_neg (by have := c_l8 h; omega)
theorem c_nx_xT {h} : (c_xT σ p n g h).nx  = σ.nx + 1 := (rfl)
theorem c_sl_xT {h} : (c_xT σ p n g h).sl  = σ.sl + n := (rfl)
theorem c_I_xT {h} (q j : Nat) : (c_xT σ p n g h).I q j = σ.I q j := (rfl)
theorem c_L_xT {h} (q : Nat) : (c_xT σ p n g h).L q = σ.L q := (rfl)
theorem c_P_xT {h} (q : Nat) : (c_xT σ p n g h).P q = σ.P q := (rfl)
theorem c_da_xT {h} (q : Nat) (hq : q < 100) : (c_xT σ p n g h).da q = σ.da q := if_neg (by omega)
theorem c_dn_xT {h} (q : Nat) (hq : q < 100) : (c_xT σ p n g h).dn q = σ.dn q := if_neg (by omega)
theorem c_A_xT {h} (q j : Nat) (hq : q < 100) : (c_xT σ p n g h).A q j = σ.A q j := if_neg (by omega)
theorem c_ba_xT {h} (q : Nat) (hq : q < 100) : (c_xT σ p n g h).ba q = σ.ba q := if_neg (by omega)
theorem c_bn_xT {h} (q : Nat) (hq : q < 100) : (c_xT σ p n g h).bn q = σ.bn q := if_neg (by omega)
theorem c_B_xT {h} (q j : Nat) (hq : q < 100) : (c_xT σ p n g h).B q j = σ.B q j := if_neg (by omega)
theorem c_ta_xT {h} (q : Nat) : (c_xT σ p n g h).ta q = if q = p then σ.nx else σ.ta q := by show (if 200 + q = 200 + p then σ.nx else σ.ta q) = _; simp only [Nat.add_left_cancel_iff]
theorem c_tn_xT {h} (q : Nat) : (c_xT σ p n g h).tn q = if q = p then n else σ.tn q := by show (if 200 + q = 200 + p then n else σ.tn q) = _; simp only [Nat.add_left_cancel_iff]
theorem c_T_xT {h} (q j : Nat) : (c_xT σ p n g h).T q j = if q = p then g j else σ.T q j := by show (if 200 + q = 200 + p then g j else σ.T q j) = _; simp only [Nat.add_left_cancel_iff]
theorem c_nx_xD {h} : (c_xD σ p n g h).nx  = σ.nx + 1 := (rfl)
theorem c_sl_xD {h} : (c_xD σ p n g h).sl  = σ.sl + n := (rfl)
theorem c_I_xD {h} (q j : Nat) : (c_xD σ p n g h).I q j = σ.I q j := (rfl)
theorem c_L_xD {h} (q : Nat) : (c_xD σ p n g h).L q = σ.L q := (rfl)
theorem c_P_xD {h} (q : Nat) : (c_xD σ p n g h).P q = σ.P q := (rfl)
theorem c_da_xD {h} (q : Nat) : (c_xD σ p n g h).da q = if q = p then σ.nx else σ.da q := (rfl)
theorem c_dn_xD {h} (q : Nat) : (c_xD σ p n g h).dn q = if q = p then n else σ.dn q := (rfl)
theorem c_A_xD {h} (q j : Nat) : (c_xD σ p n g h).A q j = if q = p then g j else σ.A q j := (rfl)
theorem c_ba_xD {h} (q : Nat) (hp : p < 100) : (c_xD σ p n g h).ba q = σ.ba q := if_neg (by omega)
theorem c_bn_xD {h} (q : Nat) (hp : p < 100) : (c_xD σ p n g h).bn q = σ.bn q := if_neg (by omega)
theorem c_B_xD {h} (q j : Nat) (hp : p < 100) : (c_xD σ p n g h).B q j = σ.B q j := if_neg (by omega)
theorem c_ta_xD {h} (q : Nat) (hp : p < 100) : (c_xD σ p n g h).ta q = σ.ta q := if_neg (by omega)
theorem c_tn_xD {h} (q : Nat) (hp : p < 100) : (c_xD σ p n g h).tn q = σ.tn q := if_neg (by omega)
theorem c_T_xD {h} (q j : Nat) (hp : p < 100) : (c_xD σ p n g h).T q j = σ.T q j := if_neg (by omega)
end CY
theorem r0_0 {b : Nat} {R : Nat → Option va_E} {σ : c_S b} : am_gr (c_t R σ) b 0 0 = some (σ.da 1) := c_gr (k := 0) rfl (by decide) rfl
theorem g0_1 {b : Nat} {R : Nat → Option va_E} {σ : c_S b} : am_gi (c_t R σ) b 0 1 = some (h_ii (σ.I 0 1)) := c_gi (k := 0) rfl (by decide) rfl
theorem p0_1 {b : Nat} {R : Nat → Option va_E} {σ : c_S b} {v : Int} : am_pf (c_t R σ) b 0 1 0 (.int (h_ii v)) = some (c_t R (c_uI σ 0 1 v)) := c_pI (k := 0) rfl (by decide) rfl rfl
theorem r0_2 {b : Nat} {R : Nat → Option va_E} {σ : c_S b} : am_gr (c_t R σ) b 0 2 = some (b + 2) := c_gr (k := 0) rfl (by decide) rfl
theorem r0_3 {b : Nat} {R : Nat → Option va_E} {σ : c_S b} : am_gr (c_t R σ) b 0 3 = some (b + 3) := c_gr (k := 0) rfl (by decide) rfl
theorem r0_4 {b : Nat} {R : Nat → Option va_E} {σ : c_S b} : am_gr (c_t R σ) b 0 4 = some (b + 4) := c_gr (k := 0) rfl (by decide) rfl
theorem r0_5 {b : Nat} {R : Nat → Option va_E} {σ : c_S b} : am_gr (c_t R σ) b 0 5 = some (b + 28) := c_gr (k := 0) rfl (by decide) rfl
theorem r0_6 {b : Nat} {R : Nat → Option va_E} {σ : c_S b} : am_gr (c_t R σ) b 0 6 = some (b + 37) := c_gr (k := 0) rfl (by decide) rfl
theorem r0_7 {b : Nat} {R : Nat → Option va_E} {σ : c_S b} : am_gr (c_t R σ) b 0 7 = some (b + 44) := c_gr (k := 0) rfl (by decide) rfl
theorem r4_0 {b : Nat} {R : Nat → Option va_E} {σ : c_S b} : am_gr (c_t R σ) (b + 4) 4 0 = some (b + 5) := c_gr (k := 4) rfl (by decide) rfl
theorem r4_1 {b : Nat} {R : Nat → Option va_E} {σ : c_S b} : am_gr (c_t R σ) (b + 4) 4 1 = some (b + 8) := c_gr (k := 4) rfl (by decide) rfl
theorem r4_2 {b : Nat} {R : Nat → Option va_E} {σ : c_S b} : am_gr (c_t R σ) (b + 4) 4 2 = some (b + 15) := c_gr (k := 4) rfl (by decide) rfl
theorem r4_3 {b : Nat} {R : Nat → Option va_E} {σ : c_S b} : am_gr (c_t R σ) (b + 4) 4 3 = some (σ.P 0) := c_gr (k := 4) rfl (by decide) rfl
theorem g4_4 {b : Nat} {R : Nat → Option va_E} {σ : c_S b} : am_gi (c_t R σ) (b + 4) 4 4 = some (h_ii (σ.I 4 84)) := c_gi (k := 4) rfl (by decide) rfl
theorem p4_4 {b : Nat} {R : Nat → Option va_E} {σ : c_S b} {v : Int} : am_pf (c_t R σ) (b + 4) 4 4 0 (.int (h_ii v)) = some (c_t R (c_uI σ 4 84 v)) := c_pI (k := 4) rfl (by decide) rfl rfl
theorem g4_5 {b : Nat} {R : Nat → Option va_E} {σ : c_S b} : am_gi (c_t R σ) (b + 4) 4 5 = some (h_ii (σ.I 4 85)) := c_gi (k := 4) rfl (by decide) rfl
theorem p4_5 {b : Nat} {R : Nat → Option va_E} {σ : c_S b} {v : Int} : am_pf (c_t R σ) (b + 4) 4 5 0 (.int (h_ii v)) = some (c_t R (c_uI σ 4 85 v)) := c_pI (k := 4) rfl (by decide) rfl rfl
theorem r4_6 {b : Nat} {R : Nat → Option va_E} {σ : c_S b} : am_gr (c_t R σ) (b + 4) 4 6 = some (b + 17) := c_gr (k := 4) rfl (by decide) rfl
theorem r4_7 {b : Nat} {R : Nat → Option va_E} {σ : c_S b} : am_gr (c_t R σ) (b + 4) 4 7 = some (b + 18) := c_gr (k := 4) rfl (by decide) rfl
theorem g4_8 {b : Nat} {R : Nat → Option va_E} {σ : c_S b} : am_gi (c_t R σ) (b + 4) 4 8 = some (h_ii (σ.I 4 88)) := c_gi (k := 4) rfl (by decide) rfl
theorem p4_8 {b : Nat} {R : Nat → Option va_E} {σ : c_S b} {v : Int} : am_pf (c_t R σ) (b + 4) 4 8 0 (.int (h_ii v)) = some (c_t R (c_uI σ 4 88 v)) := c_pI (k := 4) rfl (by decide) rfl rfl
theorem r4_9 {b : Nat} {R : Nat → Option va_E} {σ : c_S b} : am_gr (c_t R σ) (b + 4) 4 9 = some (b + 19) := c_gr (k := 4) rfl (by decide) rfl
theorem r4_10 {b : Nat} {R : Nat → Option va_E} {σ : c_S b} : am_gr (c_t R σ) (b + 4) 4 10 = some (b + 20) := c_gr (k := 4) rfl (by decide) rfl
theorem g4_11 {b : Nat} {R : Nat → Option va_E} {σ : c_S b} : am_gi (c_t R σ) (b + 4) 4 11 = some (h_ii (σ.I 4 91)) := c_gi (k := 4) rfl (by decide) rfl
theorem p4_11 {b : Nat} {R : Nat → Option va_E} {σ : c_S b} {v : Int} : am_pf (c_t R σ) (b + 4) 4 11 0 (.int (h_ii v)) = some (c_t R (c_uI σ 4 91 v)) := c_pI (k := 4) rfl (by decide) rfl rfl
theorem r4_12 {b : Nat} {R : Nat → Option va_E} {σ : c_S b} : am_gr (c_t R σ) (b + 4) 4 12 = some (b + 21) := c_gr (k := 4) rfl (by decide) rfl
theorem r4_13 {b : Nat} {R : Nat → Option va_E} {σ : c_S b} : am_gr (c_t R σ) (b + 4) 4 13 = some (b + σ.L 11) := c_gr (k := 4) rfl (by decide) rfl
theorem r4_14 {b : Nat} {R : Nat → Option va_E} {σ : c_S b} : am_gr (c_t R σ) (b + 4) 4 14 = some (b + σ.L 12) := c_gr (k := 4) rfl (by decide) rfl
theorem g4_15 {b : Nat} {R : Nat → Option va_E} {σ : c_S b} : am_gi (c_t R σ) (b + 4) 4 15 = some (h_ii (σ.I 4 95)) := c_gi (k := 4) rfl (by decide) rfl
theorem p4_15 {b : Nat} {R : Nat → Option va_E} {σ : c_S b} {v : Int} : am_pf (c_t R σ) (b + 4) 4 15 0 (.int (h_ii v)) = some (c_t R (c_uI σ 4 95 v)) := c_pI (k := 4) rfl (by decide) rfl rfl
theorem g4_16 {b : Nat} {R : Nat → Option va_E} {σ : c_S b} : am_gi (c_t R σ) (b + 4) 4 16 = some (h_ii (σ.I 4 96)) := c_gi (k := 4) rfl (by decide) rfl
theorem p4_16 {b : Nat} {R : Nat → Option va_E} {σ : c_S b} {v : Int} : am_pf (c_t R σ) (b + 4) 4 16 0 (.int (h_ii v)) = some (c_t R (c_uI σ 4 96 v)) := c_pI (k := 4) rfl (by decide) rfl rfl
theorem g4_17 {b : Nat} {R : Nat → Option va_E} {σ : c_S b} : am_gi (c_t R σ) (b + 4) 4 17 = some (h_ii (σ.I 4 97)) := c_gi (k := 4) rfl (by decide) rfl
theorem p4_17 {b : Nat} {R : Nat → Option va_E} {σ : c_S b} {v : Int} : am_pf (c_t R σ) (b + 4) 4 17 0 (.int (h_ii v)) = some (c_t R (c_uI σ 4 97 v)) := c_pI (k := 4) rfl (by decide) rfl rfl
theorem g4_18 {b : Nat} {R : Nat → Option va_E} {σ : c_S b} : am_gi (c_t R σ) (b + 4) 4 18 = some (h_ii (σ.I 4 98)) := c_gi (k := 4) rfl (by decide) rfl
theorem p4_18 {b : Nat} {R : Nat → Option va_E} {σ : c_S b} {v : Int} : am_pf (c_t R σ) (b + 4) 4 18 0 (.int (h_ii v)) = some (c_t R (c_uI σ 4 98 v)) := c_pI (k := 4) rfl (by decide) rfl rfl
theorem r5_0 {b : Nat} {R : Nat → Option va_E} {σ : c_S b} : am_gr (c_t R σ) (b + 5) 2 0 = some (σ.P 1) := c_gr (k := 5) rfl (by decide) rfl
theorem g5_1 {b : Nat} {R : Nat → Option va_E} {σ : c_S b} : am_gi (c_t R σ) (b + 5) 2 1 = some (h_ii (σ.I 5 41)) := c_gi (k := 5) rfl (by decide) rfl
theorem p5_1 {b : Nat} {R : Nat → Option va_E} {σ : c_S b} {v : Int} : am_pf (c_t R σ) (b + 5) 2 1 0 (.int (h_ii v)) = some (c_t R (c_uI σ 5 41 v)) := c_pI (k := 5) rfl (by decide) rfl rfl
theorem g5_2 {b : Nat} {R : Nat → Option va_E} {σ : c_S b} : am_gi (c_t R σ) (b + 5) 2 2 = some (h_ii (σ.I 5 42)) := c_gi (k := 5) rfl (by decide) rfl
theorem p5_2 {b : Nat} {R : Nat → Option va_E} {σ : c_S b} {v : Int} : am_pf (c_t R σ) (b + 5) 2 2 0 (.int (h_ii v)) = some (c_t R (c_uI σ 5 42 v)) := c_pI (k := 5) rfl (by decide) rfl rfl
theorem r5_3 {b : Nat} {R : Nat → Option va_E} {σ : c_S b} : am_gr (c_t R σ) (b + 5) 2 3 = some (σ.da 7) := c_gr (k := 5) rfl (by decide) rfl
theorem g5_4 {b : Nat} {R : Nat → Option va_E} {σ : c_S b} : am_gi (c_t R σ) (b + 5) 2 4 = some (h_ii (σ.I 5 44)) := c_gi (k := 5) rfl (by decide) rfl
theorem p5_4 {b : Nat} {R : Nat → Option va_E} {σ : c_S b} {v : Int} : am_pf (c_t R σ) (b + 5) 2 4 0 (.int (h_ii v)) = some (c_t R (c_uI σ 5 44 v)) := c_pI (k := 5) rfl (by decide) rfl rfl
theorem g5_5 {b : Nat} {R : Nat → Option va_E} {σ : c_S b} : am_gi (c_t R σ) (b + 5) 2 5 = some (h_ii (σ.I 5 45)) := c_gi (k := 5) rfl (by decide) rfl
theorem p5_5 {b : Nat} {R : Nat → Option va_E} {σ : c_S b} {v : Int} (hv : v = 0 ∨ v = 1) : am_pf (c_t R σ) (b + 5) 2 5 1 (.int (h_ii v)) = some (c_t R (c_uI σ 5 45 v)) := c_pI (k := 5) rfl (by decide) rfl (by rcases hv with rfl | rfl <;> decide)
theorem g5_6 {b : Nat} {R : Nat → Option va_E} {σ : c_S b} : am_gi (c_t R σ) (b + 5) 2 6 = some (h_ii (σ.I 5 46)) := c_gi (k := 5) rfl (by decide) rfl
theorem p5_6 {b : Nat} {R : Nat → Option va_E} {σ : c_S b} {v : Int} : am_pf (c_t R σ) (b + 5) 2 6 0 (.int (h_ii v)) = some (c_t R (c_uI σ 5 46 v)) := c_pI (k := 5) rfl (by decide) rfl rfl
theorem g5_7 {b : Nat} {R : Nat → Option va_E} {σ : c_S b} : am_gi (c_t R σ) (b + 5) 2 7 = some (h_ii (σ.I 5 47)) := c_gi (k := 5) rfl (by decide) rfl
theorem p5_7 {b : Nat} {R : Nat → Option va_E} {σ : c_S b} {v : Int} : am_pf (c_t R σ) (b + 5) 2 7 0 (.int (h_ii v)) = some (c_t R (c_uI σ 5 47 v)) := c_pI (k := 5) rfl (by decide) rfl rfl
theorem g5_8 {b : Nat} {R : Nat → Option va_E} {σ : c_S b} : am_gi (c_t R σ) (b + 5) 2 8 = some (h_ii (σ.I 5 48)) := c_gi (k := 5) rfl (by decide) rfl
theorem p5_8 {b : Nat} {R : Nat → Option va_E} {σ : c_S b} {v : Int} : am_pf (c_t R σ) (b + 5) 2 8 0 (.int (h_ii v)) = some (c_t R (c_uI σ 5 48 v)) := c_pI (k := 5) rfl (by decide) rfl rfl
theorem g5_9 {b : Nat} {R : Nat → Option va_E} {σ : c_S b} : am_gi (c_t R σ) (b + 5) 2 9 = some (h_ii (σ.I 5 49)) := c_gi (k := 5) rfl (by decide) rfl
theorem p5_9 {b : Nat} {R : Nat → Option va_E} {σ : c_S b} {v : Int} : am_pf (c_t R σ) (b + 5) 2 9 0 (.int (h_ii v)) = some (c_t R (c_uI σ 5 49 v)) := c_pI (k := 5) rfl (by decide) rfl rfl
theorem r8_0 {b : Nat} {R : Nat → Option va_E} {σ : c_S b} : am_gr (c_t R σ) (b + 8) 3 0 = some (b + 9) := c_gr (k := 8) rfl (by decide) rfl
theorem r8_1 {b : Nat} {R : Nat → Option va_E} {σ : c_S b} : am_gr (c_t R σ) (b + 8) 3 1 = some (b + 10) := c_gr (k := 8) rfl (by decide) rfl
theorem r8_2 {b : Nat} {R : Nat → Option va_E} {σ : c_S b} : am_gr (c_t R σ) (b + 8) 3 2 = some (b + 11) := c_gr (k := 8) rfl (by decide) rfl
theorem r8_3 {b : Nat} {R : Nat → Option va_E} {σ : c_S b} : am_gr (c_t R σ) (b + 8) 3 3 = some (b + 12) := c_gr (k := 8) rfl (by decide) rfl
theorem g8_4 {b : Nat} {R : Nat → Option va_E} {σ : c_S b} : am_gi (c_t R σ) (b + 8) 3 4 = some (h_ii (σ.I 8 64)) := c_gi (k := 8) rfl (by decide) rfl
theorem p8_4 {b : Nat} {R : Nat → Option va_E} {σ : c_S b} {v : Int} : am_pf (c_t R σ) (b + 8) 3 4 0 (.int (h_ii v)) = some (c_t R (c_uI σ 8 64 v)) := c_pI (k := 8) rfl (by decide) rfl rfl
theorem r8_5 {b : Nat} {R : Nat → Option va_E} {σ : c_S b} : am_gr (c_t R σ) (b + 8) 3 5 = some (b + 13) := c_gr (k := 8) rfl (by decide) rfl
theorem g8_6 {b : Nat} {R : Nat → Option va_E} {σ : c_S b} : am_gi (c_t R σ) (b + 8) 3 6 = some (h_ii (σ.I 8 66)) := c_gi (k := 8) rfl (by decide) rfl
theorem p8_6 {b : Nat} {R : Nat → Option va_E} {σ : c_S b} {v : Int} : am_pf (c_t R σ) (b + 8) 3 6 0 (.int (h_ii v)) = some (c_t R (c_uI σ 8 66 v)) := c_pI (k := 8) rfl (by decide) rfl rfl
theorem g8_7 {b : Nat} {R : Nat → Option va_E} {σ : c_S b} : am_gi (c_t R σ) (b + 8) 3 7 = some (h_ii (σ.I 8 67)) := c_gi (k := 8) rfl (by decide) rfl
theorem p8_7 {b : Nat} {R : Nat → Option va_E} {σ : c_S b} {v : Int} : am_pf (c_t R σ) (b + 8) 3 7 0 (.int (h_ii v)) = some (c_t R (c_uI σ 8 67 v)) := c_pI (k := 8) rfl (by decide) rfl rfl
theorem g8_8 {b : Nat} {R : Nat → Option va_E} {σ : c_S b} : am_gi (c_t R σ) (b + 8) 3 8 = some (h_ii (σ.I 8 68)) := c_gi (k := 8) rfl (by decide) rfl
theorem p8_8 {b : Nat} {R : Nat → Option va_E} {σ : c_S b} {v : Int} : am_pf (c_t R σ) (b + 8) 3 8 0 (.int (h_ii v)) = some (c_t R (c_uI σ 8 68 v)) := c_pI (k := 8) rfl (by decide) rfl rfl
theorem g8_9 {b : Nat} {R : Nat → Option va_E} {σ : c_S b} : am_gi (c_t R σ) (b + 8) 3 9 = some (h_ii (σ.I 8 69)) := c_gi (k := 8) rfl (by decide) rfl
theorem p8_9 {b : Nat} {R : Nat → Option va_E} {σ : c_S b} {v : Int} : am_pf (c_t R σ) (b + 8) 3 9 0 (.int (h_ii v)) = some (c_t R (c_uI σ 8 69 v)) := c_pI (k := 8) rfl (by decide) rfl rfl
theorem g8_10 {b : Nat} {R : Nat → Option va_E} {σ : c_S b} : am_gi (c_t R σ) (b + 8) 3 10 = some (h_ii (σ.I 8 70)) := c_gi (k := 8) rfl (by decide) rfl
theorem p8_10 {b : Nat} {R : Nat → Option va_E} {σ : c_S b} {v : Int} : am_pf (c_t R σ) (b + 8) 3 10 0 (.int (h_ii v)) = some (c_t R (c_uI σ 8 70 v)) := c_pI (k := 8) rfl (by decide) rfl rfl
theorem r8_11 {b : Nat} {R : Nat → Option va_E} {σ : c_S b} : am_gr (c_t R σ) (b + 8) 3 11 = some (b + 14) := c_gr (k := 8) rfl (by decide) rfl
theorem r15_0 {b : Nat} {R : Nat → Option va_E} {σ : c_S b} : am_gr (c_t R σ) (b + 15) 5 0 = some (σ.P 2) := c_gr (k := 15) rfl (by decide) rfl
theorem g15_1 {b : Nat} {R : Nat → Option va_E} {σ : c_S b} : am_gi (c_t R σ) (b + 15) 5 1 = some (h_ii (σ.I 15 101)) := c_gi (k := 15) rfl (by decide) rfl
theorem p15_1 {b : Nat} {R : Nat → Option va_E} {σ : c_S b} {v : Int} : am_pf (c_t R σ) (b + 15) 5 1 0 (.int (h_ii v)) = some (c_t R (c_uI σ 15 101 v)) := c_pI (k := 15) rfl (by decide) rfl rfl
theorem g15_2 {b : Nat} {R : Nat → Option va_E} {σ : c_S b} : am_gi (c_t R σ) (b + 15) 5 2 = some (h_ii (σ.I 15 102)) := c_gi (k := 15) rfl (by decide) rfl
theorem p15_2 {b : Nat} {R : Nat → Option va_E} {σ : c_S b} {v : Int} : am_pf (c_t R σ) (b + 15) 5 2 0 (.int (h_ii v)) = some (c_t R (c_uI σ 15 102 v)) := c_pI (k := 15) rfl (by decide) rfl rfl
theorem g15_3 {b : Nat} {R : Nat → Option va_E} {σ : c_S b} : am_gi (c_t R σ) (b + 15) 5 3 = some (h_ii (σ.I 15 103)) := c_gi (k := 15) rfl (by decide) rfl
theorem p15_3 {b : Nat} {R : Nat → Option va_E} {σ : c_S b} {v : Int} : am_pf (c_t R σ) (b + 15) 5 3 0 (.int (h_ii v)) = some (c_t R (c_uI σ 15 103 v)) := c_pI (k := 15) rfl (by decide) rfl rfl
theorem g15_4 {b : Nat} {R : Nat → Option va_E} {σ : c_S b} : am_gi (c_t R σ) (b + 15) 5 4 = some (h_ii (σ.I 15 104)) := c_gi (k := 15) rfl (by decide) rfl
theorem p15_4 {b : Nat} {R : Nat → Option va_E} {σ : c_S b} {v : Int} : am_pf (c_t R σ) (b + 15) 5 4 0 (.int (h_ii v)) = some (c_t R (c_uI σ 15 104 v)) := c_pI (k := 15) rfl (by decide) rfl rfl
theorem g15_5 {b : Nat} {R : Nat → Option va_E} {σ : c_S b} : am_gi (c_t R σ) (b + 15) 5 5 = some (h_ii (σ.I 15 105)) := c_gi (k := 15) rfl (by decide) rfl
theorem p15_5 {b : Nat} {R : Nat → Option va_E} {σ : c_S b} {v : Int} : am_pf (c_t R σ) (b + 15) 5 5 0 (.int (h_ii v)) = some (c_t R (c_uI σ 15 105 v)) := c_pI (k := 15) rfl (by decide) rfl rfl
theorem r28_0 {b : Nat} {R : Nat → Option va_E} {σ : c_S b} : am_gr (c_t R σ) (b + 28) 6 0 = some (σ.P 10) := c_gr (k := 28) rfl (by decide) rfl
theorem r28_1 {b : Nat} {R : Nat → Option va_E} {σ : c_S b} : am_gr (c_t R σ) (b + 28) 6 1 = some (σ.P 11) := c_gr (k := 28) rfl (by decide) rfl
theorem r28_2 {b : Nat} {R : Nat → Option va_E} {σ : c_S b} : am_gr (c_t R σ) (b + 28) 6 2 = some (σ.P 12) := c_gr (k := 28) rfl (by decide) rfl
theorem r28_3 {b : Nat} {R : Nat → Option va_E} {σ : c_S b} : am_gr (c_t R σ) (b + 28) 6 3 = some (σ.P 13) := c_gr (k := 28) rfl (by decide) rfl
theorem r28_4 {b : Nat} {R : Nat → Option va_E} {σ : c_S b} : am_gr (c_t R σ) (b + 28) 6 4 = some (σ.P 14) := c_gr (k := 28) rfl (by decide) rfl
theorem r28_5 {b : Nat} {R : Nat → Option va_E} {σ : c_S b} : am_gr (c_t R σ) (b + 28) 6 5 = some (σ.P 15) := c_gr (k := 28) rfl (by decide) rfl
theorem r28_6 {b : Nat} {R : Nat → Option va_E} {σ : c_S b} : am_gr (c_t R σ) (b + 28) 6 6 = some (σ.P 16) := c_gr (k := 28) rfl (by decide) rfl
theorem r28_7 {b : Nat} {R : Nat → Option va_E} {σ : c_S b} : am_gr (c_t R σ) (b + 28) 6 7 = some (σ.P 17) := c_gr (k := 28) rfl (by decide) rfl
theorem g28_8 {b : Nat} {R : Nat → Option va_E} {σ : c_S b} : am_gi (c_t R σ) (b + 28) 6 8 = some (h_ii (σ.I 28 128)) := c_gi (k := 28) rfl (by decide) rfl
theorem p28_8 {b : Nat} {R : Nat → Option va_E} {σ : c_S b} {v : Int} : am_pf (c_t R σ) (b + 28) 6 8 0 (.int (h_ii v)) = some (c_t R (c_uI σ 28 128 v)) := c_pI (k := 28) rfl (by decide) rfl rfl
theorem r37_0 {b : Nat} {R : Nat → Option va_E} {σ : c_S b} : am_gr (c_t R σ) (b + 37) 7 0 = some (b + 38) := c_gr (k := 37) rfl (by decide) rfl
theorem r37_1 {b : Nat} {R : Nat → Option va_E} {σ : c_S b} : am_gr (c_t R σ) (b + 37) 7 1 = some (b + 41) := c_gr (k := 37) rfl (by decide) rfl
theorem r44_0 {b : Nat} {R : Nat → Option va_E} {σ : c_S b} : am_gr (c_t R σ) (b + 44) 8 0 = some (b + 45) := c_gr (k := 44) rfl (by decide) rfl
theorem r44_1 {b : Nat} {R : Nat → Option va_E} {σ : c_S b} : am_gr (c_t R σ) (b + 44) 8 1 = some (b + 46) := c_gr (k := 44) rfl (by decide) rfl
theorem r44_2 {b : Nat} {R : Nat → Option va_E} {σ : c_S b} : am_gr (c_t R σ) (b + 44) 8 2 = some (b + 47) := c_gr (k := 44) rfl (by decide) rfl
theorem lr_0 {b : Nat} {R : Nat → Option va_E} {σ : c_S b} {p : Nat} (hp : c_lp p) : am_gr (c_t R σ) (b + p) 1 0 = some (σ.ba p) := c_gr (c_kd_lp hp) (by decide) rfl
theorem lr_1 {b : Nat} {R : Nat → Option va_E} {σ : c_S b} {p : Nat} (hp : c_lp p) : am_gr (c_t R σ) (b + p) 1 1 = some (σ.ta p) := c_gr (c_kd_lp hp) (by decide) rfl
theorem lg_2 {b : Nat} {R : Nat → Option va_E} {σ : c_S b} {p : Nat} (hp : c_lp p) : am_gi (c_t R σ) (b + p) 1 2 = some (h_ii (σ.I p 22)) := c_gi (c_kd_lp hp) (by decide) rfl
theorem lp_2 {b : Nat} {R : Nat → Option va_E} {σ : c_S b} {p : Nat} {v : Int} (hp : c_lp p) : am_pf (c_t R σ) (b + p) 1 2 0 (.int (h_ii v)) = some (c_t R (c_uI σ p 22 v)) := c_pI (c_kd_lp hp) (by decide) rfl rfl
theorem lg_3 {b : Nat} {R : Nat → Option va_E} {σ : c_S b} {p : Nat} (hp : c_lp p) : am_gi (c_t R σ) (b + p) 1 3 = some (h_ii (σ.I p 23)) := c_gi (c_kd_lp hp) (by decide) rfl
theorem lp_3 {b : Nat} {R : Nat → Option va_E} {σ : c_S b} {p : Nat} {v : Int} (hp : c_lp p) : am_pf (c_t R σ) (b + p) 1 3 0 (.int (h_ii v)) = some (c_t R (c_uI σ p 23 v)) := c_pI (c_kd_lp hp) (by decide) rfl rfl
theorem lg_4 {b : Nat} {R : Nat → Option va_E} {σ : c_S b} {p : Nat} (hp : c_lp p) : am_gi (c_t R σ) (b + p) 1 4 = some (h_ii (σ.I p 24)) := c_gi (c_kd_lp hp) (by decide) rfl
theorem lp_4 {b : Nat} {R : Nat → Option va_E} {σ : c_S b} {p : Nat} {v : Int} (hp : c_lp p) : am_pf (c_t R σ) (b + p) 1 4 0 (.int (h_ii v)) = some (c_t R (c_uI σ p 24 v)) := c_pI (c_kd_lp hp) (by decide) rfl rfl
theorem lg_5 {b : Nat} {R : Nat → Option va_E} {σ : c_S b} {p : Nat} (hp : c_lp p) : am_gi (c_t R σ) (b + p) 1 5 = some (h_ii (σ.I p 25)) := c_gi (c_kd_lp hp) (by decide) rfl
theorem lp_5 {b : Nat} {R : Nat → Option va_E} {σ : c_S b} {p : Nat} {v : Int} (hp : c_lp p) (hv : v = 0 ∨ v = 1) : am_pf (c_t R σ) (b + p) 1 5 1 (.int (h_ii v)) = some (c_t R (c_uI σ p 25 v)) := c_pI (c_kd_lp hp) (by decide) rfl (by rcases hv with rfl | rfl <;> decide)
theorem cl_0 {b : Nat} {R : Nat → Option va_E} {σ : c_S b} : am_cls (c_t R σ) b 0 = true := c_clr (k := 0) rfl (by decide)
theorem cl_4 {b : Nat} {R : Nat → Option va_E} {σ : c_S b} : am_cls (c_t R σ) (b + 4) 4 = true := c_clr (k := 4) rfl (by decide)
theorem cl_5 {b : Nat} {R : Nat → Option va_E} {σ : c_S b} : am_cls (c_t R σ) (b + 5) 2 = true := c_clr (k := 5) rfl (by decide)
theorem cl_8 {b : Nat} {R : Nat → Option va_E} {σ : c_S b} : am_cls (c_t R σ) (b + 8) 3 = true := c_clr (k := 8) rfl (by decide)
theorem cl_15 {b : Nat} {R : Nat → Option va_E} {σ : c_S b} : am_cls (c_t R σ) (b + 15) 5 = true := c_clr (k := 15) rfl (by decide)
theorem cl_28 {b : Nat} {R : Nat → Option va_E} {σ : c_S b} : am_cls (c_t R σ) (b + 28) 6 = true := c_clr (k := 28) rfl (by decide)
theorem cl_37 {b : Nat} {R : Nat → Option va_E} {σ : c_S b} : am_cls (c_t R σ) (b + 37) 7 = true := c_clr (k := 37) rfl (by decide)
theorem cl_44 {b : Nat} {R : Nat → Option va_E} {σ : c_S b} : am_cls (c_t R σ) (b + 44) 8 = true := c_clr (k := 44) rfl (by decide)
theorem cl_p {b : Nat} {R : Nat → Option va_E} {σ : c_S b} {p : Nat} (hp : c_lp p) : am_cls (c_t R σ) (b + p) 1 = true := c_clr (c_kd_lp hp) (by decide)
theorem q4_3 {b : Nat} {R : Nat → Option va_E} {σ : c_S b} {a : Nat} : am_pf (c_t R σ) (b + 4) 4 3 2 (.ref a) = some (c_t R (c_uP σ 0 a)) := by
  refine c_pR (k := 4) (c := 4) (f := 3) rfl (by decide) rfl (by decide) rfl rfl rfl rfl (fun _ _ => rfl) rfl rfl ?_ ?_ ?_
  · intro k' i hk
    unfold c_rr
    rfl
  · intro k' c' f' hk hne
    have hkk : c' = 4 → k' = 4 := by
      intro w
      subst w
      exact c_kdu_4 hk
    unfold c_rv
    split <;> first | rfl | (simp only [c_P_uP]; rw [if_neg (by decide)]) | (exact absurd ⟨hkk rfl, rfl⟩ hne)
  · show (c_uP σ 0 a).P 0 = a
    rw [c_P_uP, if_pos rfl]
theorem q4_13 {b : Nat} {R : Nat → Option va_E} {σ : c_S b} {a : Nat} (hp : c_lp a) : am_pf (c_t R σ) (b + 4) 4 13 2 (.ref (b + a)) = some (c_t R (c_uL σ 11 a)) := by
  refine c_pR (k := 4) (c := 4) (f := 13) rfl (by decide) rfl (by decide) rfl rfl rfl rfl (fun _ _ => rfl) rfl rfl ?_ ?_ ?_
  · intro k' i hk
    unfold c_rr
    simp only [c_L_uL σ hp]; (repeat' split) <;> first | rfl | omega | (rename_i w; exact absurd w (by omega))
  · intro k' c' f' hk hne
    have hkk : c' = 4 → k' = 4 := by
      intro w
      subst w
      exact c_kdu_4 hk
    unfold c_rv
    split <;> first | rfl | (simp only [c_L_uL σ hp]; rw [if_neg (by decide)]) | (exact absurd ⟨hkk rfl, rfl⟩ hne)
  · show b + (c_uL σ 11 a).L 11 = b + a
    rw [c_L_uL σ hp, if_pos rfl]
theorem q4_14 {b : Nat} {R : Nat → Option va_E} {σ : c_S b} {a : Nat} (hp : c_lp a) : am_pf (c_t R σ) (b + 4) 4 14 2 (.ref (b + a)) = some (c_t R (c_uL σ 12 a)) := by
  refine c_pR (k := 4) (c := 4) (f := 14) rfl (by decide) rfl (by decide) rfl rfl rfl rfl (fun _ _ => rfl) rfl rfl ?_ ?_ ?_
  · intro k' i hk
    unfold c_rr
    simp only [c_L_uL σ hp]; (repeat' split) <;> first | rfl | omega | (rename_i w; exact absurd w (by omega))
  · intro k' c' f' hk hne
    have hkk : c' = 4 → k' = 4 := by
      intro w
      subst w
      exact c_kdu_4 hk
    unfold c_rv
    split <;> first | rfl | (simp only [c_L_uL σ hp]; rw [if_neg (by decide)]) | (exact absurd ⟨hkk rfl, rfl⟩ hne)
  · show b + (c_uL σ 12 a).L 12 = b + a
    rw [c_L_uL σ hp, if_pos rfl]
theorem q5_0 {b : Nat} {R : Nat → Option va_E} {σ : c_S b} {a : Nat} : am_pf (c_t R σ) (b + 5) 2 0 3 (.ref a) = some (c_t R (c_uP σ 1 a)) := by
  refine c_pR (k := 5) (c := 2) (f := 0) rfl (by decide) rfl (by decide) rfl rfl rfl rfl (fun _ _ => rfl) rfl rfl ?_ ?_ ?_
  · intro k' i hk
    unfold c_rr
    rfl
  · intro k' c' f' hk hne
    have hkk : c' = 2 → k' = 5 := by
      intro w
      subst w
      exact c_kdu_2 hk
    unfold c_rv
    split <;> first | rfl | (simp only [c_P_uP]; rw [if_neg (by decide)]) | (exact absurd ⟨hkk rfl, rfl⟩ hne)
  · show (c_uP σ 1 a).P 1 = a
    rw [c_P_uP, if_pos rfl]
theorem q15_0 {b : Nat} {R : Nat → Option va_E} {σ : c_S b} {a : Nat} : am_pf (c_t R σ) (b + 15) 5 0 3 (.ref a) = some (c_t R (c_uP σ 2 a)) := by
  refine c_pR (k := 15) (c := 5) (f := 0) rfl (by decide) rfl (by decide) rfl rfl rfl rfl (fun _ _ => rfl) rfl rfl ?_ ?_ ?_
  · intro k' i hk
    unfold c_rr
    rfl
  · intro k' c' f' hk hne
    have hkk : c' = 5 → k' = 15 := by
      intro w
      subst w
      exact c_kdu_5 hk
    unfold c_rv
    split <;> first | rfl | (simp only [c_P_uP]; rw [if_neg (by decide)]) | (exact absurd ⟨hkk rfl, rfl⟩ hne)
  · show (c_uP σ 2 a).P 2 = a
    rw [c_P_uP, if_pos rfl]
theorem q28_6 {b : Nat} {R : Nat → Option va_E} {σ : c_S b} {a : Nat} : am_pf (c_t R σ) (b + 28) 6 6 3 (.ref a) = some (c_t R (c_uP σ 16 a)) := by
  refine c_pR (k := 28) (c := 6) (f := 6) rfl (by decide) rfl (by decide) rfl rfl rfl rfl (fun _ _ => rfl) rfl rfl ?_ ?_ ?_
  · intro k' i hk
    unfold c_rr
    rfl
  · intro k' c' f' hk hne
    have hkk : c' = 6 → k' = 28 := by
      intro w
      subst w
      exact c_kdu_6 hk
    unfold c_rv
    split <;> first | rfl | (simp only [c_P_uP]; rw [if_neg (by decide)]) | (exact absurd ⟨hkk rfl, rfl⟩ hne)
  · show (c_uP σ 16 a).P 16 = a
    rw [c_P_uP, if_pos rfl]
theorem q28_7 {b : Nat} {R : Nat → Option va_E} {σ : c_S b} {a : Nat} : am_pf (c_t R σ) (b + 28) 6 7 3 (.ref a) = some (c_t R (c_uP σ 17 a)) := by
  refine c_pR (k := 28) (c := 6) (f := 7) rfl (by decide) rfl (by decide) rfl rfl rfl rfl (fun _ _ => rfl) rfl rfl ?_ ?_ ?_
  · intro k' i hk
    unfold c_rr
    rfl
  · intro k' c' f' hk hne
    have hkk : c' = 6 → k' = 28 := by
      intro w
      subst w
      exact c_kdu_6 hk
    unfold c_rv
    split <;> first | rfl | (simp only [c_P_uP]; rw [if_neg (by decide)]) | (exact absurd ⟨hkk rfl, rfl⟩ hne)
  · show (c_uP σ 17 a).P 17 = a
    rw [c_P_uP, if_pos rfl]
theorem a3 {b : Nat} {R : Nat → Option va_E} {σ : c_S b} {i : Int} (h0 : 0 ≤ i) (h1 : i < 11) : am_il (c_t R σ) (b + 3) (h_ii i) [0, 2, 100] = some (h_ii (σ.A 3 i.toNat)) := c_fz (k := 3) rfl h0 h1 (by decide)
theorem w3 {b : Nat} {R : Nat → Option va_E} {σ : c_S b} {i v : Int} (hv : v = 0 ∨ v = 1) (h0 : 0 ≤ i) (h1 : i < 11) : am_is (c_t R σ) (b + 3) (h_ii i) [0, 2] (h_ii v) = some (c_t R (c_uA σ 3 i.toNat v)) := c_wz (k := 3) rfl hv h0 h1 (by decide)
theorem n3 {b : Nat} {R : Nat → Option va_E} {σ : c_S b} : am_len (c_t R σ) (b + 3) = some (h_ii 11) := c_fn (k := 3) (t := 2) rfl (by decide)
theorem a9 {b : Nat} {R : Nat → Option va_E} {σ : c_S b} {i : Int} (h0 : 0 ≤ i) (h1 : i < 128) : am_il (c_t R σ) (b + 9) (h_ii i) [0, 2, 100] = some (h_ii (σ.A 9 i.toNat)) := c_fz (k := 9) rfl h0 h1 (by decide)
theorem w9 {b : Nat} {R : Nat → Option va_E} {σ : c_S b} {i v : Int} (hv : v = 0 ∨ v = 1) (h0 : 0 ≤ i) (h1 : i < 128) : am_is (c_t R σ) (b + 9) (h_ii i) [0, 2] (h_ii v) = some (c_t R (c_uA σ 9 i.toNat v)) := c_wz (k := 9) rfl hv h0 h1 (by decide)
theorem n9 {b : Nat} {R : Nat → Option va_E} {σ : c_S b} : am_len (c_t R σ) (b + 9) = some (h_ii 128) := c_fn (k := 9) (t := 2) rfl (by decide)
theorem a10 {b : Nat} {R : Nat → Option va_E} {σ : c_S b} {i : Int} (h0 : 0 ≤ i) (h1 : i < 128) : am_il (c_t R σ) (b + 10) (h_ii i) [1, 101] = some (h_ii (σ.A 10 i.toNat)) := c_f4 (k := 10) rfl h0 h1 (by decide)
theorem w10 {b : Nat} {R : Nat → Option va_E} {σ : c_S b} {i v : Int} (h0 : 0 ≤ i) (h1 : i < 128) : am_is (c_t R σ) (b + 10) (h_ii i) [1] (h_ii v) = some (c_t R (c_uA σ 10 i.toNat v)) := c_w4 (k := 10) rfl h0 h1 (by decide)
theorem n10 {b : Nat} {R : Nat → Option va_E} {σ : c_S b} : am_len (c_t R σ) (b + 10) = some (h_ii 128) := c_fn (k := 10) (t := 1) rfl (by decide)
theorem a11 {b : Nat} {R : Nat → Option va_E} {σ : c_S b} {i : Int} (h0 : 0 ≤ i) (h1 : i < 242) : am_il (c_t R σ) (b + 11) (h_ii i) [0, 2, 100] = some (h_ii (σ.A 11 i.toNat)) := c_fz (k := 11) rfl h0 h1 (by decide)
theorem w11 {b : Nat} {R : Nat → Option va_E} {σ : c_S b} {i v : Int} (hv : v = 0 ∨ v = 1) (h0 : 0 ≤ i) (h1 : i < 242) : am_is (c_t R σ) (b + 11) (h_ii i) [0, 2] (h_ii v) = some (c_t R (c_uA σ 11 i.toNat v)) := c_wz (k := 11) rfl hv h0 h1 (by decide)
theorem n11 {b : Nat} {R : Nat → Option va_E} {σ : c_S b} : am_len (c_t R σ) (b + 11) = some (h_ii 242) := c_fn (k := 11) (t := 2) rfl (by decide)
theorem a12 {b : Nat} {R : Nat → Option va_E} {σ : c_S b} {i : Int} (h0 : 0 ≤ i) (h1 : i < 300) : am_il (c_t R σ) (b + 12) (h_ii i) [1, 101] = some (h_ii (σ.A 12 i.toNat)) := c_f4 (k := 12) rfl h0 h1 (by decide)
theorem w12 {b : Nat} {R : Nat → Option va_E} {σ : c_S b} {i v : Int} (h0 : 0 ≤ i) (h1 : i < 300) : am_is (c_t R σ) (b + 12) (h_ii i) [1] (h_ii v) = some (c_t R (c_uA σ 12 i.toNat v)) := c_w4 (k := 12) rfl h0 h1 (by decide)
theorem n12 {b : Nat} {R : Nat → Option va_E} {σ : c_S b} : am_len (c_t R σ) (b + 12) = some (h_ii 300) := c_fn (k := 12) (t := 1) rfl (by decide)
theorem a13 {b : Nat} {R : Nat → Option va_E} {σ : c_S b} {i : Int} (h0 : 0 ≤ i) (h1 : i < 242) : am_il (c_t R σ) (b + 13) (h_ii i) [1, 101] = some (h_ii (σ.A 13 i.toNat)) := c_f4 (k := 13) rfl h0 h1 (by decide)
theorem w13 {b : Nat} {R : Nat → Option va_E} {σ : c_S b} {i v : Int} (h0 : 0 ≤ i) (h1 : i < 242) : am_is (c_t R σ) (b + 13) (h_ii i) [1] (h_ii v) = some (c_t R (c_uA σ 13 i.toNat v)) := c_w4 (k := 13) rfl h0 h1 (by decide)
theorem n13 {b : Nat} {R : Nat → Option va_E} {σ : c_S b} : am_len (c_t R σ) (b + 13) = some (h_ii 242) := c_fn (k := 13) (t := 1) rfl (by decide)
theorem a14 {b : Nat} {R : Nat → Option va_E} {σ : c_S b} {i : Int} (h0 : 0 ≤ i) (h1 : i < 3) : am_il (c_t R σ) (b + 14) (h_ii i) [0, 2, 100] = some (h_ii (σ.A 14 i.toNat)) := c_fz (k := 14) rfl h0 h1 (by decide)
theorem w14 {b : Nat} {R : Nat → Option va_E} {σ : c_S b} {i v : Int} (hv : v = 0 ∨ v = 1) (h0 : 0 ≤ i) (h1 : i < 3) : am_is (c_t R σ) (b + 14) (h_ii i) [0, 2] (h_ii v) = some (c_t R (c_uA σ 14 i.toNat v)) := c_wz (k := 14) rfl hv h0 h1 (by decide)
theorem n14 {b : Nat} {R : Nat → Option va_E} {σ : c_S b} : am_len (c_t R σ) (b + 14) = some (h_ii 3) := c_fn (k := 14) (t := 2) rfl (by decide)
theorem a17 {b : Nat} {R : Nat → Option va_E} {σ : c_S b} {i : Int} (h0 : 0 ≤ i) (h1 : i < 20) : am_il (c_t R σ) (b + 17) (h_ii i) [1, 101] = some (h_ii (σ.A 17 i.toNat)) := c_f4 (k := 17) rfl h0 h1 (by decide)
theorem w17 {b : Nat} {R : Nat → Option va_E} {σ : c_S b} {i v : Int} (h0 : 0 ≤ i) (h1 : i < 20) : am_is (c_t R σ) (b + 17) (h_ii i) [1] (h_ii v) = some (c_t R (c_uA σ 17 i.toNat v)) := c_w4 (k := 17) rfl h0 h1 (by decide)
theorem n17 {b : Nat} {R : Nat → Option va_E} {σ : c_S b} : am_len (c_t R σ) (b + 17) = some (h_ii 20) := c_fn (k := 17) (t := 1) rfl (by decide)
theorem a18 {b : Nat} {R : Nat → Option va_E} {σ : c_S b} {i : Int} (h0 : 0 ≤ i) (h1 : i < 20) : am_il (c_t R σ) (b + 18) (h_ii i) [1, 101] = some (h_ii (σ.A 18 i.toNat)) := c_f4 (k := 18) rfl h0 h1 (by decide)
theorem w18 {b : Nat} {R : Nat → Option va_E} {σ : c_S b} {i v : Int} (h0 : 0 ≤ i) (h1 : i < 20) : am_is (c_t R σ) (b + 18) (h_ii i) [1] (h_ii v) = some (c_t R (c_uA σ 18 i.toNat v)) := c_w4 (k := 18) rfl h0 h1 (by decide)
theorem n18 {b : Nat} {R : Nat → Option va_E} {σ : c_S b} : am_len (c_t R σ) (b + 18) = some (h_ii 20) := c_fn (k := 18) (t := 1) rfl (by decide)
theorem a19 {b : Nat} {R : Nat → Option va_E} {σ : c_S b} {i : Int} (h0 : 0 ≤ i) (h1 : i < 2) : am_il (c_t R σ) (b + 19) (h_ii i) [1, 101] = some (h_ii (σ.A 19 i.toNat)) := c_f4 (k := 19) rfl h0 h1 (by decide)
theorem w19 {b : Nat} {R : Nat → Option va_E} {σ : c_S b} {i v : Int} (h0 : 0 ≤ i) (h1 : i < 2) : am_is (c_t R σ) (b + 19) (h_ii i) [1] (h_ii v) = some (c_t R (c_uA σ 19 i.toNat v)) := c_w4 (k := 19) rfl h0 h1 (by decide)
theorem n19 {b : Nat} {R : Nat → Option va_E} {σ : c_S b} : am_len (c_t R σ) (b + 19) = some (h_ii 2) := c_fn (k := 19) (t := 1) rfl (by decide)
theorem a20 {b : Nat} {R : Nat → Option va_E} {σ : c_S b} {i : Int} (h0 : 0 ≤ i) (h1 : i < 2) : am_il (c_t R σ) (b + 20) (h_ii i) [1, 101] = some (h_ii (σ.A 20 i.toNat)) := c_f4 (k := 20) rfl h0 h1 (by decide)
theorem w20 {b : Nat} {R : Nat → Option va_E} {σ : c_S b} {i v : Int} (h0 : 0 ≤ i) (h1 : i < 2) : am_is (c_t R σ) (b + 20) (h_ii i) [1] (h_ii v) = some (c_t R (c_uA σ 20 i.toNat v)) := c_w4 (k := 20) rfl h0 h1 (by decide)
theorem n20 {b : Nat} {R : Nat → Option va_E} {σ : c_S b} : am_len (c_t R σ) (b + 20) = some (h_ii 2) := c_fn (k := 20) (t := 1) rfl (by decide)
theorem a39 {b : Nat} {R : Nat → Option va_E} {σ : c_S b} {i : Int} (h0 : 0 ≤ i) (h1 : i < 300) : am_il (c_t R σ) (b + 39) (h_ii i) [1, 101] = some (h_ii (σ.A 39 i.toNat)) := c_f4 (k := 39) rfl h0 h1 (by decide)
theorem w39 {b : Nat} {R : Nat → Option va_E} {σ : c_S b} {i v : Int} (h0 : 0 ≤ i) (h1 : i < 300) : am_is (c_t R σ) (b + 39) (h_ii i) [1] (h_ii v) = some (c_t R (c_uA σ 39 i.toNat v)) := c_w4 (k := 39) rfl h0 h1 (by decide)
theorem n39 {b : Nat} {R : Nat → Option va_E} {σ : c_S b} : am_len (c_t R σ) (b + 39) = some (h_ii 300) := c_fn (k := 39) (t := 1) rfl (by decide)
theorem a40 {b : Nat} {R : Nat → Option va_E} {σ : c_S b} {i : Int} (h0 : 0 ≤ i) (h1 : i < 300) : am_il (c_t R σ) (b + 40) (h_ii i) [1, 101] = some (h_ii (σ.A 40 i.toNat)) := c_f4 (k := 40) rfl h0 h1 (by decide)
theorem w40 {b : Nat} {R : Nat → Option va_E} {σ : c_S b} {i v : Int} (h0 : 0 ≤ i) (h1 : i < 300) : am_is (c_t R σ) (b + 40) (h_ii i) [1] (h_ii v) = some (c_t R (c_uA σ 40 i.toNat v)) := c_w4 (k := 40) rfl h0 h1 (by decide)
theorem n40 {b : Nat} {R : Nat → Option va_E} {σ : c_S b} : am_len (c_t R σ) (b + 40) = some (h_ii 300) := c_fn (k := 40) (t := 1) rfl (by decide)
theorem a42 {b : Nat} {R : Nat → Option va_E} {σ : c_S b} {i : Int} (h0 : 0 ≤ i) (h1 : i < 300) : am_il (c_t R σ) (b + 42) (h_ii i) [1, 101] = some (h_ii (σ.A 42 i.toNat)) := c_f4 (k := 42) rfl h0 h1 (by decide)
theorem w42 {b : Nat} {R : Nat → Option va_E} {σ : c_S b} {i v : Int} (h0 : 0 ≤ i) (h1 : i < 300) : am_is (c_t R σ) (b + 42) (h_ii i) [1] (h_ii v) = some (c_t R (c_uA σ 42 i.toNat v)) := c_w4 (k := 42) rfl h0 h1 (by decide)
theorem n42 {b : Nat} {R : Nat → Option va_E} {σ : c_S b} : am_len (c_t R σ) (b + 42) = some (h_ii 300) := c_fn (k := 42) (t := 1) rfl (by decide)
theorem a43 {b : Nat} {R : Nat → Option va_E} {σ : c_S b} {i : Int} (h0 : 0 ≤ i) (h1 : i < 300) : am_il (c_t R σ) (b + 43) (h_ii i) [1, 101] = some (h_ii (σ.A 43 i.toNat)) := c_f4 (k := 43) rfl h0 h1 (by decide)
theorem w43 {b : Nat} {R : Nat → Option va_E} {σ : c_S b} {i v : Int} (h0 : 0 ≤ i) (h1 : i < 300) : am_is (c_t R σ) (b + 43) (h_ii i) [1] (h_ii v) = some (c_t R (c_uA σ 43 i.toNat v)) := c_w4 (k := 43) rfl h0 h1 (by decide)
theorem n43 {b : Nat} {R : Nat → Option va_E} {σ : c_S b} : am_len (c_t R σ) (b + 43) = some (h_ii 300) := c_fn (k := 43) (t := 1) rfl (by decide)
theorem a45 {b : Nat} {R : Nat → Option va_E} {σ : c_S b} {i : Int} (h0 : 0 ≤ i) (h1 : i < 256) : am_il (c_t R σ) (b + 45) (h_ii i) [1, 101] = some (h_ii (σ.A 45 i.toNat)) := c_f4 (k := 45) rfl h0 h1 (by decide)
theorem w45 {b : Nat} {R : Nat → Option va_E} {σ : c_S b} {i v : Int} (h0 : 0 ≤ i) (h1 : i < 256) : am_is (c_t R σ) (b + 45) (h_ii i) [1] (h_ii v) = some (c_t R (c_uA σ 45 i.toNat v)) := c_w4 (k := 45) rfl h0 h1 (by decide)
theorem n45 {b : Nat} {R : Nat → Option va_E} {σ : c_S b} : am_len (c_t R σ) (b + 45) = some (h_ii 256) := c_fn (k := 45) (t := 1) rfl (by decide)
theorem a46 {b : Nat} {R : Nat → Option va_E} {σ : c_S b} {i : Int} (h0 : 0 ≤ i) (h1 : i < 256) : am_il (c_t R σ) (b + 46) (h_ii i) [1, 101] = some (h_ii (σ.A 46 i.toNat)) := c_f4 (k := 46) rfl h0 h1 (by decide)
theorem w46 {b : Nat} {R : Nat → Option va_E} {σ : c_S b} {i v : Int} (h0 : 0 ≤ i) (h1 : i < 256) : am_is (c_t R σ) (b + 46) (h_ii i) [1] (h_ii v) = some (c_t R (c_uA σ 46 i.toNat v)) := c_w4 (k := 46) rfl h0 h1 (by decide)
theorem n46 {b : Nat} {R : Nat → Option va_E} {σ : c_S b} : am_len (c_t R σ) (b + 46) = some (h_ii 256) := c_fn (k := 46) (t := 1) rfl (by decide)
theorem a47 {b : Nat} {R : Nat → Option va_E} {σ : c_S b} {i : Int} (h0 : 0 ≤ i) (h1 : i < 256) : am_il (c_t R σ) (b + 47) (h_ii i) [0, 2, 100] = some (h_ii (σ.A 47 i.toNat)) := c_fz (k := 47) rfl h0 h1 (by decide)
theorem w47 {b : Nat} {R : Nat → Option va_E} {σ : c_S b} {i v : Int} (hv : v = 0 ∨ v = 1) (h0 : 0 ≤ i) (h1 : i < 256) : am_is (c_t R σ) (b + 47) (h_ii i) [0, 2] (h_ii v) = some (c_t R (c_uA σ 47 i.toNat v)) := c_wz (k := 47) rfl hv h0 h1 (by decide)
theorem n47 {b : Nat} {R : Nat → Option va_E} {σ : c_S b} : am_len (c_t R σ) (b + 47) = some (h_ii 256) := c_fn (k := 47) (t := 2) rfl (by decide)
theorem n2 {b : Nat} {R : Nat → Option va_E} {σ : c_S b} : am_len (c_t R σ) (b + 2) = some (h_ii 11) := c_fnr (k := 2) (t := 4) rfl (by decide)
theorem n21 {b : Nat} {R : Nat → Option va_E} {σ : c_S b} : am_len (c_t R σ) (b + 21) = some (h_ii 20) := c_fnr (k := 21) (t := 4) rfl (by decide)
theorem n38 {b : Nat} {R : Nat → Option va_E} {σ : c_S b} : am_len (c_t R σ) (b + 38) = some (h_ii 2) := c_fnr (k := 38) (t := 5) rfl (by decide)
theorem n41 {b : Nat} {R : Nat → Option va_E} {σ : c_S b} : am_len (c_t R σ) (b + 41) = some (h_ii 2) := c_fnr (k := 41) (t := 5) rfl (by decide)
theorem c_t1 {b : Nat} (R : Nat → Option va_E) (σ : c_S b) : (c_t R σ).1 = σ.nx := rfl
/-- bytes copied from the lines p' into the lines p -/
theorem c_cpB {b : Nat} {R : Nat → Option va_E} {σ τ τ' : c_S b} {p p' : Nat} {sp dp n : Int} (hp : c_lp p) (hp' : c_lp p') (hh : σ.ba p = τ.ba p) (hh' : σ.ba p' = τ'.ba p') (h0 : 0 ≤ sp) (h1 : 0 ≤ dp) (h2 : 0 ≤ n) (h3 : sp + n ≤ σ.bn p') (h4 : dp + n ≤ σ.bn p) (h5 : σ.bn p ≤ 60000000) (h6 : σ.bn p' ≤ 60000000) :
    am_cpy (c_t R σ) (τ'.ba p') (h_ii sp) (τ.ba p) (h_ii dp) (h_ii n) = some (c_t R (c_cB σ p' sp.toNat p dp.toNat n.toNat)) := by
  have ea := c_atB (R := R) (σ := σ) hp'
  have eb := c_atB (R := R) (σ := σ) hp
  have q1 : (h_ii sp).toInt = sp := h_toInt (by omega) (by omega)
  have q2 : (h_ii dp).toInt = dp := h_toInt (by omega) (by omega)
  have q3 : (h_ii n).toInt = n := h_toInt (by omega) (by omega)
  have c1 : (h_ii sp).toNatClampNeg = sp.toNat := by unfold Int32.toNatClampNeg; rw [q1]
  have c2 : (h_ii dp).toNatClampNeg = dp.toNat := by unfold Int32.toNatClampNeg; rw [q2]
  have c3 : (h_ii n).toNatClampNeg = n.toNat := by unfold Int32.toNatClampNeg; rw [q3]
  have z : (0 : Int32).toInt = 0 := rfl
  rw [← hh, ← hh']
  simp only [am_cpy, ea, eb, c1, c2, c3]
  rw [if_pos ⟨trivial, by decide, by rw [Int32.lt_iff_toInt_lt, q1, z]; omega, by rw [Int32.lt_iff_toInt_lt, q2, z]; omega, by rw [Int32.lt_iff_toInt_lt, q3, z]; omega, by omega, by omega⟩]
  have e : va_cpy (fun i => h_ii (σ.B p' i)) (fun i => h_ii (σ.B p i)) sp.toNat dp.toNat n.toNat = fun i => h_ii (if dp.toNat ≤ i ∧ i < dp.toNat + n.toNat then σ.B p' (sp.toNat + (i - dp.toNat)) else σ.B p i) := by
    funext j
    unfold va_cpy
    by_cases hj : dp.toNat ≤ j ∧ j < dp.toNat + n.toNat
    · simp only [if_pos hj]
    · simp only [if_neg hj]
  rw [e]
  refine congrArg some (c_udB hp ?_ rfl)
  unfold c_cB
  congr 1
  funext q j
  by_cases h : q = p
  · subst h; simp
  · simp [h]
theorem ob {α : Type} {x : Option α} {v : α} {K : α → Option am_R} (h : x = some v) : Option.bind x K = K v := by rw [h]; rfl
section FZ
variable {b : Nat} {R : Nat → Option va_E} {σ τ τ' : c_S b} {p : Nat} {i v : Int}
theorem c_lB_b (hp : c_lp p) (hh : σ.ba p = τ.ba p) (h0 : 0 ≤ i) (h1 : i < σ.bn p) (h2 : σ.bn p ≤ 60000000) {K : Int32 → Option am_R} : Option.bind (am_il (c_t R σ) (τ.ba p) (h_ii i) [0, 2, 100]) K = K (h_ii (σ.B p i.toNat)) := ob (c_lB hp hh h0 h1 h2)
theorem c_sB_b (hp : c_lp p) (hh : σ.ba p = τ.ba p) (h0 : 0 ≤ i) (h1 : i < σ.bn p) (h2 : σ.bn p ≤ 60000000) {K : am_M → Option am_R} : Option.bind (am_is (c_t R σ) (τ.ba p) (h_ii i) [0, 2] (h_ii v)) K = K (c_t R (c_uB σ p i.toNat (Int.bmod v 256))) := ob (c_sB hp hh h0 h1 h2)
theorem c_nB_b (hp : c_lp p) (hh : σ.ba p = τ.ba p) {K : Int32 → Option am_R} : Option.bind (am_len (c_t R σ) (τ.ba p)) K = K (h_ii (σ.bn p)) := ob (c_nB hp hh)
theorem c_lT_b (hp : c_lp p) (hh : σ.ta p = τ.ta p) (h0 : 0 ≤ i) (h1 : i < σ.tn p) (h2 : σ.tn p ≤ 60000000) {K : Int32 → Option am_R} : Option.bind (am_il (c_t R σ) (τ.ta p) (h_ii i) [1, 101]) K = K (h_ii (σ.T p i.toNat)) := ob (c_lT hp hh h0 h1 h2)
theorem c_sT_b (hp : c_lp p) (hh : σ.ta p = τ.ta p) (h0 : 0 ≤ i) (h1 : i < σ.tn p) (h2 : σ.tn p ≤ 60000000) {K : am_M → Option am_R} : Option.bind (am_is (c_t R σ) (τ.ta p) (h_ii i) [1] (h_ii v)) K = K (c_t R (c_uT σ p i.toNat v)) := ob (c_sT hp hh h0 h1 h2)
theorem c_nT_b (hp : c_lp p) (hh : σ.ta p = τ.ta p) {K : Int32 → Option am_R} : Option.bind (am_len (c_t R σ) (τ.ta p)) K = K (h_ii (σ.tn p)) := ob (c_nT hp hh)
theorem c_lD_b {z : Nat} (hz : z = 1 ∨ z = 7) (hh : σ.da z = τ.da z) (h0 : 0 ≤ i) (h1 : i < σ.dn z) (h2 : σ.dn z ≤ 60000000) {K : Int32 → Option am_R} : Option.bind (am_il (c_t R σ) (τ.da z) (h_ii i) [0, 2, 100]) K = K (h_ii (σ.A z i.toNat)) := ob (c_lD hz hh h0 h1 h2)
theorem c_sD_b {z : Nat} (hz : z = 1 ∨ z = 7) (hh : σ.da z = τ.da z) (h0 : 0 ≤ i) (h1 : i < σ.dn z) (h2 : σ.dn z ≤ 60000000) {K : am_M → Option am_R} : Option.bind (am_is (c_t R σ) (τ.da z) (h_ii i) [0, 2] (h_ii v)) K = K (c_t R (c_uA σ z i.toNat (Int.bmod v 256))) := ob (c_sD hz hh h0 h1 h2)
theorem c_nD_b {z : Nat} (hz : z < 100) (hr : c_vr z) (hh : σ.da z = τ.da z) {K : Int32 → Option am_R} : Option.bind (am_len (c_t R σ) (τ.da z)) K = K (h_ii (σ.dn z)) := ob (c_nD hz hr hh)
theorem c_lS_b {z : Nat} (hz : 29 ≤ z ∧ z ≤ 36) (hh : σ.da z = τ.da z) (h0 : 0 ≤ i) (h1 : i < σ.dn z) (h2 : σ.dn z ≤ 60000000) {K : Int32 → Option am_R} : Option.bind (am_il (c_t R σ) (τ.da z) (h_ii i) [1, 101]) K = K (h_ii (σ.A z i.toNat)) := ob (c_lS hz hh h0 h1 h2)
theorem c_sS_b {z : Nat} (hz : 29 ≤ z ∧ z ≤ 36) (hh : σ.da z = τ.da z) (h0 : 0 ≤ i) (h1 : i < σ.dn z) (h2 : σ.dn z ≤ 60000000) {K : am_M → Option am_R} : Option.bind (am_is (c_t R σ) (τ.da z) (h_ii i) [1] (h_ii v)) K = K (c_t R (c_uA σ z i.toNat v)) := ob (c_sS hz hh h0 h1 h2)
theorem al2_b (h0 : 0 ≤ i) (h1 : i < 11) {K : Nat → Option am_R} : Option.bind (am_al (c_t R σ) (b + 2) (h_ii i)) K = K (b + σ.L i.toNat) := ob (al2 h0 h1)
theorem al21_b (h0 : 0 ≤ i) (h1 : i < 20) {K : Nat → Option am_R} : Option.bind (am_al (c_t R σ) (b + 21) (h_ii i)) K = K (b + σ.L (20 + i.toNat)) := ob (al21 h0 h1)
theorem as2_b (hp : c_lp p) (h0 : 0 ≤ i) (h1 : i < 11) {K : am_M → Option am_R} : Option.bind (am_as (c_t R σ) (b + 2) (h_ii i) (b + p)) K = K (c_t R (c_uL σ i.toNat p)) := ob (as2 hp h0 h1)
theorem as21_b (hp : c_lp p) (h0 : 0 ≤ i) (h1 : i < 20) {K : am_M → Option am_R} : Option.bind (am_as (c_t R σ) (b + 21) (h_ii i) (b + p)) K = K (c_t R (c_uL σ (20 + i.toNat) p)) := ob (as21 hp h0 h1)
theorem r0_0_b {b : Nat} {R : Nat → Option va_E} {σ : c_S b} {K : Nat → Option am_R} : Option.bind (am_gr (c_t R σ) b 0 0) K = K (σ.da 1) := ob (r0_0 )
theorem g0_1_b {b : Nat} {R : Nat → Option va_E} {σ : c_S b} {K : Int32 → Option am_R} : Option.bind (am_gi (c_t R σ) b 0 1) K = K (h_ii (σ.I 0 1)) := ob (g0_1 )
theorem p0_1_b {b : Nat} {R : Nat → Option va_E} {σ : c_S b} {v : Int} {K : am_M → Option am_R} : Option.bind (am_pf (c_t R σ) b 0 1 0 (.int (h_ii v))) K = K (c_t R (c_uI σ 0 1 v)) := ob (p0_1 )
theorem r0_2_b {b : Nat} {R : Nat → Option va_E} {σ : c_S b} {K : Nat → Option am_R} : Option.bind (am_gr (c_t R σ) b 0 2) K = K (b + 2) := ob (r0_2 )
theorem r0_3_b {b : Nat} {R : Nat → Option va_E} {σ : c_S b} {K : Nat → Option am_R} : Option.bind (am_gr (c_t R σ) b 0 3) K = K (b + 3) := ob (r0_3 )
theorem r0_4_b {b : Nat} {R : Nat → Option va_E} {σ : c_S b} {K : Nat → Option am_R} : Option.bind (am_gr (c_t R σ) b 0 4) K = K (b + 4) := ob (r0_4 )
theorem r0_5_b {b : Nat} {R : Nat → Option va_E} {σ : c_S b} {K : Nat → Option am_R} : Option.bind (am_gr (c_t R σ) b 0 5) K = K (b + 28) := ob (r0_5 )
theorem r0_6_b {b : Nat} {R : Nat → Option va_E} {σ : c_S b} {K : Nat → Option am_R} : Option.bind (am_gr (c_t R σ) b 0 6) K = K (b + 37) := ob (r0_6 )
theorem r0_7_b {b : Nat} {R : Nat → Option va_E} {σ : c_S b} {K : Nat → Option am_R} : Option.bind (am_gr (c_t R σ) b 0 7) K = K (b + 44) := ob (r0_7 )
theorem r4_0_b {b : Nat} {R : Nat → Option va_E} {σ : c_S b} {K : Nat → Option am_R} : Option.bind (am_gr (c_t R σ) (b + 4) 4 0) K = K (b + 5) := ob (r4_0 )
theorem r4_1_b {b : Nat} {R : Nat → Option va_E} {σ : c_S b} {K : Nat → Option am_R} : Option.bind (am_gr (c_t R σ) (b + 4) 4 1) K = K (b + 8) := ob (r4_1 )
theorem r4_2_b {b : Nat} {R : Nat → Option va_E} {σ : c_S b} {K : Nat → Option am_R} : Option.bind (am_gr (c_t R σ) (b + 4) 4 2) K = K (b + 15) := ob (r4_2 )
theorem r4_3_b {b : Nat} {R : Nat → Option va_E} {σ : c_S b} {K : Nat → Option am_R} : Option.bind (am_gr (c_t R σ) (b + 4) 4 3) K = K (σ.P 0) := ob (r4_3 )
theorem g4_4_b {b : Nat} {R : Nat → Option va_E} {σ : c_S b} {K : Int32 → Option am_R} : Option.bind (am_gi (c_t R σ) (b + 4) 4 4) K = K (h_ii (σ.I 4 84)) := ob (g4_4 )
theorem p4_4_b {b : Nat} {R : Nat → Option va_E} {σ : c_S b} {v : Int} {K : am_M → Option am_R} : Option.bind (am_pf (c_t R σ) (b + 4) 4 4 0 (.int (h_ii v))) K = K (c_t R (c_uI σ 4 84 v)) := ob (p4_4 )
theorem g4_5_b {b : Nat} {R : Nat → Option va_E} {σ : c_S b} {K : Int32 → Option am_R} : Option.bind (am_gi (c_t R σ) (b + 4) 4 5) K = K (h_ii (σ.I 4 85)) := ob (g4_5 )
theorem p4_5_b {b : Nat} {R : Nat → Option va_E} {σ : c_S b} {v : Int} {K : am_M → Option am_R} : Option.bind (am_pf (c_t R σ) (b + 4) 4 5 0 (.int (h_ii v))) K = K (c_t R (c_uI σ 4 85 v)) := ob (p4_5 )
theorem r4_6_b {b : Nat} {R : Nat → Option va_E} {σ : c_S b} {K : Nat → Option am_R} : Option.bind (am_gr (c_t R σ) (b + 4) 4 6) K = K (b + 17) := ob (r4_6 )
theorem r4_7_b {b : Nat} {R : Nat → Option va_E} {σ : c_S b} {K : Nat → Option am_R} : Option.bind (am_gr (c_t R σ) (b + 4) 4 7) K = K (b + 18) := ob (r4_7 )
theorem g4_8_b {b : Nat} {R : Nat → Option va_E} {σ : c_S b} {K : Int32 → Option am_R} : Option.bind (am_gi (c_t R σ) (b + 4) 4 8) K = K (h_ii (σ.I 4 88)) := ob (g4_8 )
theorem p4_8_b {b : Nat} {R : Nat → Option va_E} {σ : c_S b} {v : Int} {K : am_M → Option am_R} : Option.bind (am_pf (c_t R σ) (b + 4) 4 8 0 (.int (h_ii v))) K = K (c_t R (c_uI σ 4 88 v)) := ob (p4_8 )
theorem r4_9_b {b : Nat} {R : Nat → Option va_E} {σ : c_S b} {K : Nat → Option am_R} : Option.bind (am_gr (c_t R σ) (b + 4) 4 9) K = K (b + 19) := ob (r4_9 )
theorem r4_10_b {b : Nat} {R : Nat → Option va_E} {σ : c_S b} {K : Nat → Option am_R} : Option.bind (am_gr (c_t R σ) (b + 4) 4 10) K = K (b + 20) := ob (r4_10 )
theorem g4_11_b {b : Nat} {R : Nat → Option va_E} {σ : c_S b} {K : Int32 → Option am_R} : Option.bind (am_gi (c_t R σ) (b + 4) 4 11) K = K (h_ii (σ.I 4 91)) := ob (g4_11 )
theorem p4_11_b {b : Nat} {R : Nat → Option va_E} {σ : c_S b} {v : Int} {K : am_M → Option am_R} : Option.bind (am_pf (c_t R σ) (b + 4) 4 11 0 (.int (h_ii v))) K = K (c_t R (c_uI σ 4 91 v)) := ob (p4_11 )
theorem r4_12_b {b : Nat} {R : Nat → Option va_E} {σ : c_S b} {K : Nat → Option am_R} : Option.bind (am_gr (c_t R σ) (b + 4) 4 12) K = K (b + 21) := ob (r4_12 )
theorem r4_13_b {b : Nat} {R : Nat → Option va_E} {σ : c_S b} {K : Nat → Option am_R} : Option.bind (am_gr (c_t R σ) (b + 4) 4 13) K = K (b + σ.L 11) := ob (r4_13 )
theorem r4_14_b {b : Nat} {R : Nat → Option va_E} {σ : c_S b} {K : Nat → Option am_R} : Option.bind (am_gr (c_t R σ) (b + 4) 4 14) K = K (b + σ.L 12) := ob (r4_14 )
theorem g4_15_b {b : Nat} {R : Nat → Option va_E} {σ : c_S b} {K : Int32 → Option am_R} : Option.bind (am_gi (c_t R σ) (b + 4) 4 15) K = K (h_ii (σ.I 4 95)) := ob (g4_15 )
theorem p4_15_b {b : Nat} {R : Nat → Option va_E} {σ : c_S b} {v : Int} {K : am_M → Option am_R} : Option.bind (am_pf (c_t R σ) (b + 4) 4 15 0 (.int (h_ii v))) K = K (c_t R (c_uI σ 4 95 v)) := ob (p4_15 )
theorem g4_16_b {b : Nat} {R : Nat → Option va_E} {σ : c_S b} {K : Int32 → Option am_R} : Option.bind (am_gi (c_t R σ) (b + 4) 4 16) K = K (h_ii (σ.I 4 96)) := ob (g4_16 )
theorem p4_16_b {b : Nat} {R : Nat → Option va_E} {σ : c_S b} {v : Int} {K : am_M → Option am_R} : Option.bind (am_pf (c_t R σ) (b + 4) 4 16 0 (.int (h_ii v))) K = K (c_t R (c_uI σ 4 96 v)) := ob (p4_16 )
theorem g4_17_b {b : Nat} {R : Nat → Option va_E} {σ : c_S b} {K : Int32 → Option am_R} : Option.bind (am_gi (c_t R σ) (b + 4) 4 17) K = K (h_ii (σ.I 4 97)) := ob (g4_17 )
theorem p4_17_b {b : Nat} {R : Nat → Option va_E} {σ : c_S b} {v : Int} {K : am_M → Option am_R} : Option.bind (am_pf (c_t R σ) (b + 4) 4 17 0 (.int (h_ii v))) K = K (c_t R (c_uI σ 4 97 v)) := ob (p4_17 )
theorem g4_18_b {b : Nat} {R : Nat → Option va_E} {σ : c_S b} {K : Int32 → Option am_R} : Option.bind (am_gi (c_t R σ) (b + 4) 4 18) K = K (h_ii (σ.I 4 98)) := ob (g4_18 )
theorem p4_18_b {b : Nat} {R : Nat → Option va_E} {σ : c_S b} {v : Int} {K : am_M → Option am_R} : Option.bind (am_pf (c_t R σ) (b + 4) 4 18 0 (.int (h_ii v))) K = K (c_t R (c_uI σ 4 98 v)) := ob (p4_18 )
theorem r5_0_b {b : Nat} {R : Nat → Option va_E} {σ : c_S b} {K : Nat → Option am_R} : Option.bind (am_gr (c_t R σ) (b + 5) 2 0) K = K (σ.P 1) := ob (r5_0 )
theorem g5_1_b {b : Nat} {R : Nat → Option va_E} {σ : c_S b} {K : Int32 → Option am_R} : Option.bind (am_gi (c_t R σ) (b + 5) 2 1) K = K (h_ii (σ.I 5 41)) := ob (g5_1 )
theorem p5_1_b {b : Nat} {R : Nat → Option va_E} {σ : c_S b} {v : Int} {K : am_M → Option am_R} : Option.bind (am_pf (c_t R σ) (b + 5) 2 1 0 (.int (h_ii v))) K = K (c_t R (c_uI σ 5 41 v)) := ob (p5_1 )
theorem g5_2_b {b : Nat} {R : Nat → Option va_E} {σ : c_S b} {K : Int32 → Option am_R} : Option.bind (am_gi (c_t R σ) (b + 5) 2 2) K = K (h_ii (σ.I 5 42)) := ob (g5_2 )
theorem p5_2_b {b : Nat} {R : Nat → Option va_E} {σ : c_S b} {v : Int} {K : am_M → Option am_R} : Option.bind (am_pf (c_t R σ) (b + 5) 2 2 0 (.int (h_ii v))) K = K (c_t R (c_uI σ 5 42 v)) := ob (p5_2 )
theorem r5_3_b {b : Nat} {R : Nat → Option va_E} {σ : c_S b} {K : Nat → Option am_R} : Option.bind (am_gr (c_t R σ) (b + 5) 2 3) K = K (σ.da 7) := ob (r5_3 )
theorem g5_4_b {b : Nat} {R : Nat → Option va_E} {σ : c_S b} {K : Int32 → Option am_R} : Option.bind (am_gi (c_t R σ) (b + 5) 2 4) K = K (h_ii (σ.I 5 44)) := ob (g5_4 )
theorem p5_4_b {b : Nat} {R : Nat → Option va_E} {σ : c_S b} {v : Int} {K : am_M → Option am_R} : Option.bind (am_pf (c_t R σ) (b + 5) 2 4 0 (.int (h_ii v))) K = K (c_t R (c_uI σ 5 44 v)) := ob (p5_4 )
theorem g5_5_b {b : Nat} {R : Nat → Option va_E} {σ : c_S b} {K : Int32 → Option am_R} : Option.bind (am_gi (c_t R σ) (b + 5) 2 5) K = K (h_ii (σ.I 5 45)) := ob (g5_5 )
theorem p5_5_b {b : Nat} {R : Nat → Option va_E} {σ : c_S b} {v : Int} (hv : v = 0 ∨ v = 1) {K : am_M → Option am_R} : Option.bind (am_pf (c_t R σ) (b + 5) 2 5 1 (.int (h_ii v))) K = K (c_t R (c_uI σ 5 45 v)) := ob (p5_5 hv)
theorem g5_6_b {b : Nat} {R : Nat → Option va_E} {σ : c_S b} {K : Int32 → Option am_R} : Option.bind (am_gi (c_t R σ) (b + 5) 2 6) K = K (h_ii (σ.I 5 46)) := ob (g5_6 )
theorem p5_6_b {b : Nat} {R : Nat → Option va_E} {σ : c_S b} {v : Int} {K : am_M → Option am_R} : Option.bind (am_pf (c_t R σ) (b + 5) 2 6 0 (.int (h_ii v))) K = K (c_t R (c_uI σ 5 46 v)) := ob (p5_6 )
theorem g5_7_b {b : Nat} {R : Nat → Option va_E} {σ : c_S b} {K : Int32 → Option am_R} : Option.bind (am_gi (c_t R σ) (b + 5) 2 7) K = K (h_ii (σ.I 5 47)) := ob (g5_7 )
theorem p5_7_b {b : Nat} {R : Nat → Option va_E} {σ : c_S b} {v : Int} {K : am_M → Option am_R} : Option.bind (am_pf (c_t R σ) (b + 5) 2 7 0 (.int (h_ii v))) K = K (c_t R (c_uI σ 5 47 v)) := ob (p5_7 )
theorem g5_8_b {b : Nat} {R : Nat → Option va_E} {σ : c_S b} {K : Int32 → Option am_R} : Option.bind (am_gi (c_t R σ) (b + 5) 2 8) K = K (h_ii (σ.I 5 48)) := ob (g5_8 )
theorem p5_8_b {b : Nat} {R : Nat → Option va_E} {σ : c_S b} {v : Int} {K : am_M → Option am_R} : Option.bind (am_pf (c_t R σ) (b + 5) 2 8 0 (.int (h_ii v))) K = K (c_t R (c_uI σ 5 48 v)) := ob (p5_8 )
theorem g5_9_b {b : Nat} {R : Nat → Option va_E} {σ : c_S b} {K : Int32 → Option am_R} : Option.bind (am_gi (c_t R σ) (b + 5) 2 9) K = K (h_ii (σ.I 5 49)) := ob (g5_9 )
theorem p5_9_b {b : Nat} {R : Nat → Option va_E} {σ : c_S b} {v : Int} {K : am_M → Option am_R} : Option.bind (am_pf (c_t R σ) (b + 5) 2 9 0 (.int (h_ii v))) K = K (c_t R (c_uI σ 5 49 v)) := ob (p5_9 )
theorem r8_0_b {b : Nat} {R : Nat → Option va_E} {σ : c_S b} {K : Nat → Option am_R} : Option.bind (am_gr (c_t R σ) (b + 8) 3 0) K = K (b + 9) := ob (r8_0 )
theorem r8_1_b {b : Nat} {R : Nat → Option va_E} {σ : c_S b} {K : Nat → Option am_R} : Option.bind (am_gr (c_t R σ) (b + 8) 3 1) K = K (b + 10) := ob (r8_1 )
theorem r8_2_b {b : Nat} {R : Nat → Option va_E} {σ : c_S b} {K : Nat → Option am_R} : Option.bind (am_gr (c_t R σ) (b + 8) 3 2) K = K (b + 11) := ob (r8_2 )
theorem r8_3_b {b : Nat} {R : Nat → Option va_E} {σ : c_S b} {K : Nat → Option am_R} : Option.bind (am_gr (c_t R σ) (b + 8) 3 3) K = K (b + 12) := ob (r8_3 )
theorem g8_4_b {b : Nat} {R : Nat → Option va_E} {σ : c_S b} {K : Int32 → Option am_R} : Option.bind (am_gi (c_t R σ) (b + 8) 3 4) K = K (h_ii (σ.I 8 64)) := ob (g8_4 )
theorem p8_4_b {b : Nat} {R : Nat → Option va_E} {σ : c_S b} {v : Int} {K : am_M → Option am_R} : Option.bind (am_pf (c_t R σ) (b + 8) 3 4 0 (.int (h_ii v))) K = K (c_t R (c_uI σ 8 64 v)) := ob (p8_4 )
theorem r8_5_b {b : Nat} {R : Nat → Option va_E} {σ : c_S b} {K : Nat → Option am_R} : Option.bind (am_gr (c_t R σ) (b + 8) 3 5) K = K (b + 13) := ob (r8_5 )
theorem g8_6_b {b : Nat} {R : Nat → Option va_E} {σ : c_S b} {K : Int32 → Option am_R} : Option.bind (am_gi (c_t R σ) (b + 8) 3 6) K = K (h_ii (σ.I 8 66)) := ob (g8_6 )
theorem p8_6_b {b : Nat} {R : Nat → Option va_E} {σ : c_S b} {v : Int} {K : am_M → Option am_R} : Option.bind (am_pf (c_t R σ) (b + 8) 3 6 0 (.int (h_ii v))) K = K (c_t R (c_uI σ 8 66 v)) := ob (p8_6 )
theorem g8_7_b {b : Nat} {R : Nat → Option va_E} {σ : c_S b} {K : Int32 → Option am_R} : Option.bind (am_gi (c_t R σ) (b + 8) 3 7) K = K (h_ii (σ.I 8 67)) := ob (g8_7 )
theorem p8_7_b {b : Nat} {R : Nat → Option va_E} {σ : c_S b} {v : Int} {K : am_M → Option am_R} : Option.bind (am_pf (c_t R σ) (b + 8) 3 7 0 (.int (h_ii v))) K = K (c_t R (c_uI σ 8 67 v)) := ob (p8_7 )
theorem g8_8_b {b : Nat} {R : Nat → Option va_E} {σ : c_S b} {K : Int32 → Option am_R} : Option.bind (am_gi (c_t R σ) (b + 8) 3 8) K = K (h_ii (σ.I 8 68)) := ob (g8_8 )
theorem p8_8_b {b : Nat} {R : Nat → Option va_E} {σ : c_S b} {v : Int} {K : am_M → Option am_R} : Option.bind (am_pf (c_t R σ) (b + 8) 3 8 0 (.int (h_ii v))) K = K (c_t R (c_uI σ 8 68 v)) := ob (p8_8 )
theorem g8_9_b {b : Nat} {R : Nat → Option va_E} {σ : c_S b} {K : Int32 → Option am_R} : Option.bind (am_gi (c_t R σ) (b + 8) 3 9) K = K (h_ii (σ.I 8 69)) := ob (g8_9 )
theorem p8_9_b {b : Nat} {R : Nat → Option va_E} {σ : c_S b} {v : Int} {K : am_M → Option am_R} : Option.bind (am_pf (c_t R σ) (b + 8) 3 9 0 (.int (h_ii v))) K = K (c_t R (c_uI σ 8 69 v)) := ob (p8_9 )
theorem g8_10_b {b : Nat} {R : Nat → Option va_E} {σ : c_S b} {K : Int32 → Option am_R} : Option.bind (am_gi (c_t R σ) (b + 8) 3 10) K = K (h_ii (σ.I 8 70)) := ob (g8_10 )
theorem p8_10_b {b : Nat} {R : Nat → Option va_E} {σ : c_S b} {v : Int} {K : am_M → Option am_R} : Option.bind (am_pf (c_t R σ) (b + 8) 3 10 0 (.int (h_ii v))) K = K (c_t R (c_uI σ 8 70 v)) := ob (p8_10 )
theorem r8_11_b {b : Nat} {R : Nat → Option va_E} {σ : c_S b} {K : Nat → Option am_R} : Option.bind (am_gr (c_t R σ) (b + 8) 3 11) K = K (b + 14) := ob (r8_11 )
theorem r15_0_b {b : Nat} {R : Nat → Option va_E} {σ : c_S b} {K : Nat → Option am_R} : Option.bind (am_gr (c_t R σ) (b + 15) 5 0) K = K (σ.P 2) := ob (r15_0 )
theorem g15_1_b {b : Nat} {R : Nat → Option va_E} {σ : c_S b} {K : Int32 → Option am_R} : Option.bind (am_gi (c_t R σ) (b + 15) 5 1) K = K (h_ii (σ.I 15 101)) := ob (g15_1 )
theorem p15_1_b {b : Nat} {R : Nat → Option va_E} {σ : c_S b} {v : Int} {K : am_M → Option am_R} : Option.bind (am_pf (c_t R σ) (b + 15) 5 1 0 (.int (h_ii v))) K = K (c_t R (c_uI σ 15 101 v)) := ob (p15_1 )
theorem g15_2_b {b : Nat} {R : Nat → Option va_E} {σ : c_S b} {K : Int32 → Option am_R} : Option.bind (am_gi (c_t R σ) (b + 15) 5 2) K = K (h_ii (σ.I 15 102)) := ob (g15_2 )
theorem p15_2_b {b : Nat} {R : Nat → Option va_E} {σ : c_S b} {v : Int} {K : am_M → Option am_R} : Option.bind (am_pf (c_t R σ) (b + 15) 5 2 0 (.int (h_ii v))) K = K (c_t R (c_uI σ 15 102 v)) := ob (p15_2 )
theorem g15_3_b {b : Nat} {R : Nat → Option va_E} {σ : c_S b} {K : Int32 → Option am_R} : Option.bind (am_gi (c_t R σ) (b + 15) 5 3) K = K (h_ii (σ.I 15 103)) := ob (g15_3 )
theorem p15_3_b {b : Nat} {R : Nat → Option va_E} {σ : c_S b} {v : Int} {K : am_M → Option am_R} : Option.bind (am_pf (c_t R σ) (b + 15) 5 3 0 (.int (h_ii v))) K = K (c_t R (c_uI σ 15 103 v)) := ob (p15_3 )
theorem g15_4_b {b : Nat} {R : Nat → Option va_E} {σ : c_S b} {K : Int32 → Option am_R} : Option.bind (am_gi (c_t R σ) (b + 15) 5 4) K = K (h_ii (σ.I 15 104)) := ob (g15_4 )
theorem p15_4_b {b : Nat} {R : Nat → Option va_E} {σ : c_S b} {v : Int} {K : am_M → Option am_R} : Option.bind (am_pf (c_t R σ) (b + 15) 5 4 0 (.int (h_ii v))) K = K (c_t R (c_uI σ 15 104 v)) := ob (p15_4 )
theorem g15_5_b {b : Nat} {R : Nat → Option va_E} {σ : c_S b} {K : Int32 → Option am_R} : Option.bind (am_gi (c_t R σ) (b + 15) 5 5) K = K (h_ii (σ.I 15 105)) := ob (g15_5 )
theorem p15_5_b {b : Nat} {R : Nat → Option va_E} {σ : c_S b} {v : Int} {K : am_M → Option am_R} : Option.bind (am_pf (c_t R σ) (b + 15) 5 5 0 (.int (h_ii v))) K = K (c_t R (c_uI σ 15 105 v)) := ob (p15_5 )
theorem r28_0_b {b : Nat} {R : Nat → Option va_E} {σ : c_S b} {K : Nat → Option am_R} : Option.bind (am_gr (c_t R σ) (b + 28) 6 0) K = K (σ.P 10) := ob (r28_0 )
theorem r28_1_b {b : Nat} {R : Nat → Option va_E} {σ : c_S b} {K : Nat → Option am_R} : Option.bind (am_gr (c_t R σ) (b + 28) 6 1) K = K (σ.P 11) := ob (r28_1 )
theorem r28_2_b {b : Nat} {R : Nat → Option va_E} {σ : c_S b} {K : Nat → Option am_R} : Option.bind (am_gr (c_t R σ) (b + 28) 6 2) K = K (σ.P 12) := ob (r28_2 )
theorem r28_3_b {b : Nat} {R : Nat → Option va_E} {σ : c_S b} {K : Nat → Option am_R} : Option.bind (am_gr (c_t R σ) (b + 28) 6 3) K = K (σ.P 13) := ob (r28_3 )
theorem r28_4_b {b : Nat} {R : Nat → Option va_E} {σ : c_S b} {K : Nat → Option am_R} : Option.bind (am_gr (c_t R σ) (b + 28) 6 4) K = K (σ.P 14) := ob (r28_4 )
theorem r28_5_b {b : Nat} {R : Nat → Option va_E} {σ : c_S b} {K : Nat → Option am_R} : Option.bind (am_gr (c_t R σ) (b + 28) 6 5) K = K (σ.P 15) := ob (r28_5 )
theorem r28_6_b {b : Nat} {R : Nat → Option va_E} {σ : c_S b} {K : Nat → Option am_R} : Option.bind (am_gr (c_t R σ) (b + 28) 6 6) K = K (σ.P 16) := ob (r28_6 )
theorem r28_7_b {b : Nat} {R : Nat → Option va_E} {σ : c_S b} {K : Nat → Option am_R} : Option.bind (am_gr (c_t R σ) (b + 28) 6 7) K = K (σ.P 17) := ob (r28_7 )
theorem g28_8_b {b : Nat} {R : Nat → Option va_E} {σ : c_S b} {K : Int32 → Option am_R} : Option.bind (am_gi (c_t R σ) (b + 28) 6 8) K = K (h_ii (σ.I 28 128)) := ob (g28_8 )
theorem p28_8_b {b : Nat} {R : Nat → Option va_E} {σ : c_S b} {v : Int} {K : am_M → Option am_R} : Option.bind (am_pf (c_t R σ) (b + 28) 6 8 0 (.int (h_ii v))) K = K (c_t R (c_uI σ 28 128 v)) := ob (p28_8 )
theorem r37_0_b {b : Nat} {R : Nat → Option va_E} {σ : c_S b} {K : Nat → Option am_R} : Option.bind (am_gr (c_t R σ) (b + 37) 7 0) K = K (b + 38) := ob (r37_0 )
theorem r37_1_b {b : Nat} {R : Nat → Option va_E} {σ : c_S b} {K : Nat → Option am_R} : Option.bind (am_gr (c_t R σ) (b + 37) 7 1) K = K (b + 41) := ob (r37_1 )
theorem r44_0_b {b : Nat} {R : Nat → Option va_E} {σ : c_S b} {K : Nat → Option am_R} : Option.bind (am_gr (c_t R σ) (b + 44) 8 0) K = K (b + 45) := ob (r44_0 )
theorem r44_1_b {b : Nat} {R : Nat → Option va_E} {σ : c_S b} {K : Nat → Option am_R} : Option.bind (am_gr (c_t R σ) (b + 44) 8 1) K = K (b + 46) := ob (r44_1 )
theorem r44_2_b {b : Nat} {R : Nat → Option va_E} {σ : c_S b} {K : Nat → Option am_R} : Option.bind (am_gr (c_t R σ) (b + 44) 8 2) K = K (b + 47) := ob (r44_2 )
theorem lr_0_b {b : Nat} {R : Nat → Option va_E} {σ : c_S b} {p : Nat} (hp : c_lp p) {K : Nat → Option am_R} : Option.bind (am_gr (c_t R σ) (b + p) 1 0) K = K (σ.ba p) := ob (lr_0 hp)
theorem lr_1_b {b : Nat} {R : Nat → Option va_E} {σ : c_S b} {p : Nat} (hp : c_lp p) {K : Nat → Option am_R} : Option.bind (am_gr (c_t R σ) (b + p) 1 1) K = K (σ.ta p) := ob (lr_1 hp)
theorem lg_2_b {b : Nat} {R : Nat → Option va_E} {σ : c_S b} {p : Nat} (hp : c_lp p) {K : Int32 → Option am_R} : Option.bind (am_gi (c_t R σ) (b + p) 1 2) K = K (h_ii (σ.I p 22)) := ob (lg_2 hp)
theorem lp_2_b {b : Nat} {R : Nat → Option va_E} {σ : c_S b} {p : Nat} {v : Int} (hp : c_lp p) {K : am_M → Option am_R} : Option.bind (am_pf (c_t R σ) (b + p) 1 2 0 (.int (h_ii v))) K = K (c_t R (c_uI σ p 22 v)) := ob (lp_2 hp)
theorem lg_3_b {b : Nat} {R : Nat → Option va_E} {σ : c_S b} {p : Nat} (hp : c_lp p) {K : Int32 → Option am_R} : Option.bind (am_gi (c_t R σ) (b + p) 1 3) K = K (h_ii (σ.I p 23)) := ob (lg_3 hp)
theorem lp_3_b {b : Nat} {R : Nat → Option va_E} {σ : c_S b} {p : Nat} {v : Int} (hp : c_lp p) {K : am_M → Option am_R} : Option.bind (am_pf (c_t R σ) (b + p) 1 3 0 (.int (h_ii v))) K = K (c_t R (c_uI σ p 23 v)) := ob (lp_3 hp)
theorem lg_4_b {b : Nat} {R : Nat → Option va_E} {σ : c_S b} {p : Nat} (hp : c_lp p) {K : Int32 → Option am_R} : Option.bind (am_gi (c_t R σ) (b + p) 1 4) K = K (h_ii (σ.I p 24)) := ob (lg_4 hp)
theorem lp_4_b {b : Nat} {R : Nat → Option va_E} {σ : c_S b} {p : Nat} {v : Int} (hp : c_lp p) {K : am_M → Option am_R} : Option.bind (am_pf (c_t R σ) (b + p) 1 4 0 (.int (h_ii v))) K = K (c_t R (c_uI σ p 24 v)) := ob (lp_4 hp)
theorem lg_5_b {b : Nat} {R : Nat → Option va_E} {σ : c_S b} {p : Nat} (hp : c_lp p) {K : Int32 → Option am_R} : Option.bind (am_gi (c_t R σ) (b + p) 1 5) K = K (h_ii (σ.I p 25)) := ob (lg_5 hp)
theorem lp_5_b {b : Nat} {R : Nat → Option va_E} {σ : c_S b} {p : Nat} {v : Int} (hp : c_lp p) (hv : v = 0 ∨ v = 1) {K : am_M → Option am_R} : Option.bind (am_pf (c_t R σ) (b + p) 1 5 1 (.int (h_ii v))) K = K (c_t R (c_uI σ p 25 v)) := ob (lp_5 hp hv)
theorem q4_3_b {b : Nat} {R : Nat → Option va_E} {σ : c_S b} {a : Nat} {K : am_M → Option am_R} : Option.bind (am_pf (c_t R σ) (b + 4) 4 3 2 (.ref a)) K = K (c_t R (c_uP σ 0 a)) := ob (q4_3 )
theorem q4_13_b {b : Nat} {R : Nat → Option va_E} {σ : c_S b} {a : Nat} (hp : c_lp a) {K : am_M → Option am_R} : Option.bind (am_pf (c_t R σ) (b + 4) 4 13 2 (.ref (b + a))) K = K (c_t R (c_uL σ 11 a)) := ob (q4_13 hp)
theorem q4_14_b {b : Nat} {R : Nat → Option va_E} {σ : c_S b} {a : Nat} (hp : c_lp a) {K : am_M → Option am_R} : Option.bind (am_pf (c_t R σ) (b + 4) 4 14 2 (.ref (b + a))) K = K (c_t R (c_uL σ 12 a)) := ob (q4_14 hp)
theorem q5_0_b {b : Nat} {R : Nat → Option va_E} {σ : c_S b} {a : Nat} {K : am_M → Option am_R} : Option.bind (am_pf (c_t R σ) (b + 5) 2 0 3 (.ref a)) K = K (c_t R (c_uP σ 1 a)) := ob (q5_0 )
theorem q15_0_b {b : Nat} {R : Nat → Option va_E} {σ : c_S b} {a : Nat} {K : am_M → Option am_R} : Option.bind (am_pf (c_t R σ) (b + 15) 5 0 3 (.ref a)) K = K (c_t R (c_uP σ 2 a)) := ob (q15_0 )
theorem q28_6_b {b : Nat} {R : Nat → Option va_E} {σ : c_S b} {a : Nat} {K : am_M → Option am_R} : Option.bind (am_pf (c_t R σ) (b + 28) 6 6 3 (.ref a)) K = K (c_t R (c_uP σ 16 a)) := ob (q28_6 )
theorem q28_7_b {b : Nat} {R : Nat → Option va_E} {σ : c_S b} {a : Nat} {K : am_M → Option am_R} : Option.bind (am_pf (c_t R σ) (b + 28) 6 7 3 (.ref a)) K = K (c_t R (c_uP σ 17 a)) := ob (q28_7 )
theorem a3_b {b : Nat} {R : Nat → Option va_E} {σ : c_S b} {i : Int} (h0 : 0 ≤ i) (h1 : i < 11) {K : Int32 → Option am_R} : Option.bind (am_il (c_t R σ) (b + 3) (h_ii i) [0, 2, 100]) K = K (h_ii (σ.A 3 i.toNat)) := ob (a3 h0 h1)
theorem w3_b {b : Nat} {R : Nat → Option va_E} {σ : c_S b} {i v : Int} (hv : v = 0 ∨ v = 1) (h0 : 0 ≤ i) (h1 : i < 11) {K : am_M → Option am_R} : Option.bind (am_is (c_t R σ) (b + 3) (h_ii i) [0, 2] (h_ii v)) K = K (c_t R (c_uA σ 3 i.toNat v)) := ob (w3 hv h0 h1)
theorem n3_b {b : Nat} {R : Nat → Option va_E} {σ : c_S b} {K : Int32 → Option am_R} : Option.bind (am_len (c_t R σ) (b + 3)) K = K (h_ii 11) := ob (n3 )
theorem a9_b {b : Nat} {R : Nat → Option va_E} {σ : c_S b} {i : Int} (h0 : 0 ≤ i) (h1 : i < 128) {K : Int32 → Option am_R} : Option.bind (am_il (c_t R σ) (b + 9) (h_ii i) [0, 2, 100]) K = K (h_ii (σ.A 9 i.toNat)) := ob (a9 h0 h1)
theorem w9_b {b : Nat} {R : Nat → Option va_E} {σ : c_S b} {i v : Int} (hv : v = 0 ∨ v = 1) (h0 : 0 ≤ i) (h1 : i < 128) {K : am_M → Option am_R} : Option.bind (am_is (c_t R σ) (b + 9) (h_ii i) [0, 2] (h_ii v)) K = K (c_t R (c_uA σ 9 i.toNat v)) := ob (w9 hv h0 h1)
theorem n9_b {b : Nat} {R : Nat → Option va_E} {σ : c_S b} {K : Int32 → Option am_R} : Option.bind (am_len (c_t R σ) (b + 9)) K = K (h_ii 128) := ob (n9 )
theorem a10_b {b : Nat} {R : Nat → Option va_E} {σ : c_S b} {i : Int} (h0 : 0 ≤ i) (h1 : i < 128) {K : Int32 → Option am_R} : Option.bind (am_il (c_t R σ) (b + 10) (h_ii i) [1, 101]) K = K (h_ii (σ.A 10 i.toNat)) := ob (a10 h0 h1)
theorem w10_b {b : Nat} {R : Nat → Option va_E} {σ : c_S b} {i v : Int} (h0 : 0 ≤ i) (h1 : i < 128) {K : am_M → Option am_R} : Option.bind (am_is (c_t R σ) (b + 10) (h_ii i) [1] (h_ii v)) K = K (c_t R (c_uA σ 10 i.toNat v)) := ob (w10 h0 h1)
theorem n10_b {b : Nat} {R : Nat → Option va_E} {σ : c_S b} {K : Int32 → Option am_R} : Option.bind (am_len (c_t R σ) (b + 10)) K = K (h_ii 128) := ob (n10 )
theorem a11_b {b : Nat} {R : Nat → Option va_E} {σ : c_S b} {i : Int} (h0 : 0 ≤ i) (h1 : i < 242) {K : Int32 → Option am_R} : Option.bind (am_il (c_t R σ) (b + 11) (h_ii i) [0, 2, 100]) K = K (h_ii (σ.A 11 i.toNat)) := ob (a11 h0 h1)
theorem w11_b {b : Nat} {R : Nat → Option va_E} {σ : c_S b} {i v : Int} (hv : v = 0 ∨ v = 1) (h0 : 0 ≤ i) (h1 : i < 242) {K : am_M → Option am_R} : Option.bind (am_is (c_t R σ) (b + 11) (h_ii i) [0, 2] (h_ii v)) K = K (c_t R (c_uA σ 11 i.toNat v)) := ob (w11 hv h0 h1)
theorem n11_b {b : Nat} {R : Nat → Option va_E} {σ : c_S b} {K : Int32 → Option am_R} : Option.bind (am_len (c_t R σ) (b + 11)) K = K (h_ii 242) := ob (n11 )
theorem a12_b {b : Nat} {R : Nat → Option va_E} {σ : c_S b} {i : Int} (h0 : 0 ≤ i) (h1 : i < 300) {K : Int32 → Option am_R} : Option.bind (am_il (c_t R σ) (b + 12) (h_ii i) [1, 101]) K = K (h_ii (σ.A 12 i.toNat)) := ob (a12 h0 h1)
theorem w12_b {b : Nat} {R : Nat → Option va_E} {σ : c_S b} {i v : Int} (h0 : 0 ≤ i) (h1 : i < 300) {K : am_M → Option am_R} : Option.bind (am_is (c_t R σ) (b + 12) (h_ii i) [1] (h_ii v)) K = K (c_t R (c_uA σ 12 i.toNat v)) := ob (w12 h0 h1)
theorem n12_b {b : Nat} {R : Nat → Option va_E} {σ : c_S b} {K : Int32 → Option am_R} : Option.bind (am_len (c_t R σ) (b + 12)) K = K (h_ii 300) := ob (n12 )
theorem a13_b {b : Nat} {R : Nat → Option va_E} {σ : c_S b} {i : Int} (h0 : 0 ≤ i) (h1 : i < 242) {K : Int32 → Option am_R} : Option.bind (am_il (c_t R σ) (b + 13) (h_ii i) [1, 101]) K = K (h_ii (σ.A 13 i.toNat)) := ob (a13 h0 h1)
theorem w13_b {b : Nat} {R : Nat → Option va_E} {σ : c_S b} {i v : Int} (h0 : 0 ≤ i) (h1 : i < 242) {K : am_M → Option am_R} : Option.bind (am_is (c_t R σ) (b + 13) (h_ii i) [1] (h_ii v)) K = K (c_t R (c_uA σ 13 i.toNat v)) := ob (w13 h0 h1)
theorem n13_b {b : Nat} {R : Nat → Option va_E} {σ : c_S b} {K : Int32 → Option am_R} : Option.bind (am_len (c_t R σ) (b + 13)) K = K (h_ii 242) := ob (n13 )
theorem a14_b {b : Nat} {R : Nat → Option va_E} {σ : c_S b} {i : Int} (h0 : 0 ≤ i) (h1 : i < 3) {K : Int32 → Option am_R} : Option.bind (am_il (c_t R σ) (b + 14) (h_ii i) [0, 2, 100]) K = K (h_ii (σ.A 14 i.toNat)) := ob (a14 h0 h1)
theorem w14_b {b : Nat} {R : Nat → Option va_E} {σ : c_S b} {i v : Int} (hv : v = 0 ∨ v = 1) (h0 : 0 ≤ i) (h1 : i < 3) {K : am_M → Option am_R} : Option.bind (am_is (c_t R σ) (b + 14) (h_ii i) [0, 2] (h_ii v)) K = K (c_t R (c_uA σ 14 i.toNat v)) := ob (w14 hv h0 h1)
theorem n14_b {b : Nat} {R : Nat → Option va_E} {σ : c_S b} {K : Int32 → Option am_R} : Option.bind (am_len (c_t R σ) (b + 14)) K = K (h_ii 3) := ob (n14 )
theorem a17_b {b : Nat} {R : Nat → Option va_E} {σ : c_S b} {i : Int} (h0 : 0 ≤ i) (h1 : i < 20) {K : Int32 → Option am_R} : Option.bind (am_il (c_t R σ) (b + 17) (h_ii i) [1, 101]) K = K (h_ii (σ.A 17 i.toNat)) := ob (a17 h0 h1)
theorem w17_b {b : Nat} {R : Nat → Option va_E} {σ : c_S b} {i v : Int} (h0 : 0 ≤ i) (h1 : i < 20) {K : am_M → Option am_R} : Option.bind (am_is (c_t R σ) (b + 17) (h_ii i) [1] (h_ii v)) K = K (c_t R (c_uA σ 17 i.toNat v)) := ob (w17 h0 h1)
theorem n17_b {b : Nat} {R : Nat → Option va_E} {σ : c_S b} {K : Int32 → Option am_R} : Option.bind (am_len (c_t R σ) (b + 17)) K = K (h_ii 20) := ob (n17 )
theorem a18_b {b : Nat} {R : Nat → Option va_E} {σ : c_S b} {i : Int} (h0 : 0 ≤ i) (h1 : i < 20) {K : Int32 → Option am_R} : Option.bind (am_il (c_t R σ) (b + 18) (h_ii i) [1, 101]) K = K (h_ii (σ.A 18 i.toNat)) := ob (a18 h0 h1)
theorem w18_b {b : Nat} {R : Nat → Option va_E} {σ : c_S b} {i v : Int} (h0 : 0 ≤ i) (h1 : i < 20) {K : am_M → Option am_R} : Option.bind (am_is (c_t R σ) (b + 18) (h_ii i) [1] (h_ii v)) K = K (c_t R (c_uA σ 18 i.toNat v)) := ob (w18 h0 h1)
theorem n18_b {b : Nat} {R : Nat → Option va_E} {σ : c_S b} {K : Int32 → Option am_R} : Option.bind (am_len (c_t R σ) (b + 18)) K = K (h_ii 20) := ob (n18 )
theorem a19_b {b : Nat} {R : Nat → Option va_E} {σ : c_S b} {i : Int} (h0 : 0 ≤ i) (h1 : i < 2) {K : Int32 → Option am_R} : Option.bind (am_il (c_t R σ) (b + 19) (h_ii i) [1, 101]) K = K (h_ii (σ.A 19 i.toNat)) := ob (a19 h0 h1)
theorem w19_b {b : Nat} {R : Nat → Option va_E} {σ : c_S b} {i v : Int} (h0 : 0 ≤ i) (h1 : i < 2) {K : am_M → Option am_R} : Option.bind (am_is (c_t R σ) (b + 19) (h_ii i) [1] (h_ii v)) K = K (c_t R (c_uA σ 19 i.toNat v)) := ob (w19 h0 h1)
theorem n19_b {b : Nat} {R : Nat → Option va_E} {σ : c_S b} {K : Int32 → Option am_R} : Option.bind (am_len (c_t R σ) (b + 19)) K = K (h_ii 2) := ob (n19 )
theorem a20_b {b : Nat} {R : Nat → Option va_E} {σ : c_S b} {i : Int} (h0 : 0 ≤ i) (h1 : i < 2) {K : Int32 → Option am_R} : Option.bind (am_il (c_t R σ) (b + 20) (h_ii i) [1, 101]) K = K (h_ii (σ.A 20 i.toNat)) := ob (a20 h0 h1)
theorem w20_b {b : Nat} {R : Nat → Option va_E} {σ : c_S b} {i v : Int} (h0 : 0 ≤ i) (h1 : i < 2) {K : am_M → Option am_R} : Option.bind (am_is (c_t R σ) (b + 20) (h_ii i) [1] (h_ii v)) K = K (c_t R (c_uA σ 20 i.toNat v)) := ob (w20 h0 h1)
theorem n20_b {b : Nat} {R : Nat → Option va_E} {σ : c_S b} {K : Int32 → Option am_R} : Option.bind (am_len (c_t R σ) (b + 20)) K = K (h_ii 2) := ob (n20 )
theorem a39_b {b : Nat} {R : Nat → Option va_E} {σ : c_S b} {i : Int} (h0 : 0 ≤ i) (h1 : i < 300) {K : Int32 → Option am_R} : Option.bind (am_il (c_t R σ) (b + 39) (h_ii i) [1, 101]) K = K (h_ii (σ.A 39 i.toNat)) := ob (a39 h0 h1)
theorem w39_b {b : Nat} {R : Nat → Option va_E} {σ : c_S b} {i v : Int} (h0 : 0 ≤ i) (h1 : i < 300) {K : am_M → Option am_R} : Option.bind (am_is (c_t R σ) (b + 39) (h_ii i) [1] (h_ii v)) K = K (c_t R (c_uA σ 39 i.toNat v)) := ob (w39 h0 h1)
theorem n39_b {b : Nat} {R : Nat → Option va_E} {σ : c_S b} {K : Int32 → Option am_R} : Option.bind (am_len (c_t R σ) (b + 39)) K = K (h_ii 300) := ob (n39 )
theorem a40_b {b : Nat} {R : Nat → Option va_E} {σ : c_S b} {i : Int} (h0 : 0 ≤ i) (h1 : i < 300) {K : Int32 → Option am_R} : Option.bind (am_il (c_t R σ) (b + 40) (h_ii i) [1, 101]) K = K (h_ii (σ.A 40 i.toNat)) := ob (a40 h0 h1)
theorem w40_b {b : Nat} {R : Nat → Option va_E} {σ : c_S b} {i v : Int} (h0 : 0 ≤ i) (h1 : i < 300) {K : am_M → Option am_R} : Option.bind (am_is (c_t R σ) (b + 40) (h_ii i) [1] (h_ii v)) K = K (c_t R (c_uA σ 40 i.toNat v)) := ob (w40 h0 h1)
theorem n40_b {b : Nat} {R : Nat → Option va_E} {σ : c_S b} {K : Int32 → Option am_R} : Option.bind (am_len (c_t R σ) (b + 40)) K = K (h_ii 300) := ob (n40 )
theorem a42_b {b : Nat} {R : Nat → Option va_E} {σ : c_S b} {i : Int} (h0 : 0 ≤ i) (h1 : i < 300) {K : Int32 → Option am_R} : Option.bind (am_il (c_t R σ) (b + 42) (h_ii i) [1, 101]) K = K (h_ii (σ.A 42 i.toNat)) := ob (a42 h0 h1)
theorem w42_b {b : Nat} {R : Nat → Option va_E} {σ : c_S b} {i v : Int} (h0 : 0 ≤ i) (h1 : i < 300) {K : am_M → Option am_R} : Option.bind (am_is (c_t R σ) (b + 42) (h_ii i) [1] (h_ii v)) K = K (c_t R (c_uA σ 42 i.toNat v)) := ob (w42 h0 h1)
theorem n42_b {b : Nat} {R : Nat → Option va_E} {σ : c_S b} {K : Int32 → Option am_R} : Option.bind (am_len (c_t R σ) (b + 42)) K = K (h_ii 300) := ob (n42 )
theorem a43_b {b : Nat} {R : Nat → Option va_E} {σ : c_S b} {i : Int} (h0 : 0 ≤ i) (h1 : i < 300) {K : Int32 → Option am_R} : Option.bind (am_il (c_t R σ) (b + 43) (h_ii i) [1, 101]) K = K (h_ii (σ.A 43 i.toNat)) := ob (a43 h0 h1)
theorem w43_b {b : Nat} {R : Nat → Option va_E} {σ : c_S b} {i v : Int} (h0 : 0 ≤ i) (h1 : i < 300) {K : am_M → Option am_R} : Option.bind (am_is (c_t R σ) (b + 43) (h_ii i) [1] (h_ii v)) K = K (c_t R (c_uA σ 43 i.toNat v)) := ob (w43 h0 h1)
theorem n43_b {b : Nat} {R : Nat → Option va_E} {σ : c_S b} {K : Int32 → Option am_R} : Option.bind (am_len (c_t R σ) (b + 43)) K = K (h_ii 300) := ob (n43 )
theorem a45_b {b : Nat} {R : Nat → Option va_E} {σ : c_S b} {i : Int} (h0 : 0 ≤ i) (h1 : i < 256) {K : Int32 → Option am_R} : Option.bind (am_il (c_t R σ) (b + 45) (h_ii i) [1, 101]) K = K (h_ii (σ.A 45 i.toNat)) := ob (a45 h0 h1)
theorem w45_b {b : Nat} {R : Nat → Option va_E} {σ : c_S b} {i v : Int} (h0 : 0 ≤ i) (h1 : i < 256) {K : am_M → Option am_R} : Option.bind (am_is (c_t R σ) (b + 45) (h_ii i) [1] (h_ii v)) K = K (c_t R (c_uA σ 45 i.toNat v)) := ob (w45 h0 h1)
theorem n45_b {b : Nat} {R : Nat → Option va_E} {σ : c_S b} {K : Int32 → Option am_R} : Option.bind (am_len (c_t R σ) (b + 45)) K = K (h_ii 256) := ob (n45 )
theorem a46_b {b : Nat} {R : Nat → Option va_E} {σ : c_S b} {i : Int} (h0 : 0 ≤ i) (h1 : i < 256) {K : Int32 → Option am_R} : Option.bind (am_il (c_t R σ) (b + 46) (h_ii i) [1, 101]) K = K (h_ii (σ.A 46 i.toNat)) := ob (a46 h0 h1)
theorem w46_b {b : Nat} {R : Nat → Option va_E} {σ : c_S b} {i v : Int} (h0 : 0 ≤ i) (h1 : i < 256) {K : am_M → Option am_R} : Option.bind (am_is (c_t R σ) (b + 46) (h_ii i) [1] (h_ii v)) K = K (c_t R (c_uA σ 46 i.toNat v)) := ob (w46 h0 h1)
theorem n46_b {b : Nat} {R : Nat → Option va_E} {σ : c_S b} {K : Int32 → Option am_R} : Option.bind (am_len (c_t R σ) (b + 46)) K = K (h_ii 256) := ob (n46 )
theorem a47_b {b : Nat} {R : Nat → Option va_E} {σ : c_S b} {i : Int} (h0 : 0 ≤ i) (h1 : i < 256) {K : Int32 → Option am_R} : Option.bind (am_il (c_t R σ) (b + 47) (h_ii i) [0, 2, 100]) K = K (h_ii (σ.A 47 i.toNat)) := ob (a47 h0 h1)
theorem w47_b {b : Nat} {R : Nat → Option va_E} {σ : c_S b} {i v : Int} (hv : v = 0 ∨ v = 1) (h0 : 0 ≤ i) (h1 : i < 256) {K : am_M → Option am_R} : Option.bind (am_is (c_t R σ) (b + 47) (h_ii i) [0, 2] (h_ii v)) K = K (c_t R (c_uA σ 47 i.toNat v)) := ob (w47 hv h0 h1)
theorem n47_b {b : Nat} {R : Nat → Option va_E} {σ : c_S b} {K : Int32 → Option am_R} : Option.bind (am_len (c_t R σ) (b + 47)) K = K (h_ii 256) := ob (n47 )
theorem n2_b {b : Nat} {R : Nat → Option va_E} {σ : c_S b} {K : Int32 → Option am_R} : Option.bind (am_len (c_t R σ) (b + 2)) K = K (h_ii 11) := ob (n2 )
theorem n21_b {b : Nat} {R : Nat → Option va_E} {σ : c_S b} {K : Int32 → Option am_R} : Option.bind (am_len (c_t R σ) (b + 21)) K = K (h_ii 20) := ob (n21 )
theorem n38_b {b : Nat} {R : Nat → Option va_E} {σ : c_S b} {K : Int32 → Option am_R} : Option.bind (am_len (c_t R σ) (b + 38)) K = K (h_ii 2) := ob (n38 )
theorem n41_b {b : Nat} {R : Nat → Option va_E} {σ : c_S b} {K : Int32 → Option am_R} : Option.bind (am_len (c_t R σ) (b + 41)) K = K (h_ii 2) := ob (n41 )
end FZ
