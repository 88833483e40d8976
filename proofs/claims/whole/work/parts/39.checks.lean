/-! THE START: what the Statement gives of it, checked -/
def am_stt (i : Nat) : Term := Term.string (am_st.getD i ("", 0, [])).1 (am_st.getD i ("", 0, [])).2.1
def am_sb (i : Nat) : List Nat := (am_st.getD i ("", 0, [])).2.2
def am_tln (t : Nat) : String × Nat × Nat × Nat × Nat × Nat := am_tl.getD t ("", 0, 0, 0, 0, 0)
def am_tlt (t : Nat) : Term := .static "TextTools$Tool" (am_tln t).1 "LTextTools$Tool;"
def am_tin (w : Cond) : Cond → Bool
  | .and a b => am_tin w a || am_tin w b
  | c => decide (c = w)
theorem am_tin_ok {w : Cond} {args : Array Value} {s : State} (T : Cond) : am_tin w T = true → T.before args s = true → w.before args s = true := by
  induction T with
  | and a b iha ihb =>
    intro h hT
    rw [Cond.before_and, Bool.and_eq_true] at hT
    simp only [am_tin, Bool.or_eq_true] at h
    rcases h with h | h
    · exact iha h hT.1
    · exact ihb h hT.2
  | _ =>
    intro h hT
    simp only [am_tin, decide_eq_true_eq] at h
    rw [← h]; exact hT
def am_inN (w : Cond) : Bool := am_tin w (Jvm.Cond.and given_1 narrow_1)
def am_all : Term := .static "TextTools$Tool" "ALL" "[LTextTools$Tool;"
def am_swm : Term := .static "TextTools$1" "$SwitchMap$TextTools$Tool" "[I"
theorem am_n1_0 : (am_inN (.exactly (am_stt 0) "java/lang/String") && am_inN (.eq (.field (am_stt 0) "java/lang/String" "coder" "B") (.int 0)) && am_inN (.arrayOf (.field (am_stt 0) "java/lang/String" "value" "[B") .byte) && am_inN (.eq (.length (.field (am_stt 0) "java/lang/String" "value" "[B")) (.int (Int32.ofNat (am_sb 0).length)))) = true := by decide +kernel
theorem am_n1_1 : (am_inN (.exactly (am_stt 1) "java/lang/String") && am_inN (.eq (.field (am_stt 1) "java/lang/String" "coder" "B") (.int 0)) && am_inN (.arrayOf (.field (am_stt 1) "java/lang/String" "value" "[B") .byte) && am_inN (.eq (.length (.field (am_stt 1) "java/lang/String" "value" "[B")) (.int (Int32.ofNat (am_sb 1).length)))) = true := by decide +kernel
theorem am_n1_2 : (am_inN (.exactly (am_stt 2) "java/lang/String") && am_inN (.eq (.field (am_stt 2) "java/lang/String" "coder" "B") (.int 0)) && am_inN (.arrayOf (.field (am_stt 2) "java/lang/String" "value" "[B") .byte) && am_inN (.eq (.length (.field (am_stt 2) "java/lang/String" "value" "[B")) (.int (Int32.ofNat (am_sb 2).length)))) = true := by decide +kernel
theorem am_n1_3 : (am_inN (.exactly (am_stt 3) "java/lang/String") && am_inN (.eq (.field (am_stt 3) "java/lang/String" "coder" "B") (.int 0)) && am_inN (.arrayOf (.field (am_stt 3) "java/lang/String" "value" "[B") .byte) && am_inN (.eq (.length (.field (am_stt 3) "java/lang/String" "value" "[B")) (.int (Int32.ofNat (am_sb 3).length)))) = true := by decide +kernel
theorem am_n1_4 : (am_inN (.exactly (am_stt 4) "java/lang/String") && am_inN (.eq (.field (am_stt 4) "java/lang/String" "coder" "B") (.int 0)) && am_inN (.arrayOf (.field (am_stt 4) "java/lang/String" "value" "[B") .byte) && am_inN (.eq (.length (.field (am_stt 4) "java/lang/String" "value" "[B")) (.int (Int32.ofNat (am_sb 4).length)))) = true := by decide +kernel
theorem am_n1_5 : (am_inN (.exactly (am_stt 5) "java/lang/String") && am_inN (.eq (.field (am_stt 5) "java/lang/String" "coder" "B") (.int 0)) && am_inN (.arrayOf (.field (am_stt 5) "java/lang/String" "value" "[B") .byte) && am_inN (.eq (.length (.field (am_stt 5) "java/lang/String" "value" "[B")) (.int (Int32.ofNat (am_sb 5).length)))) = true := by decide +kernel
theorem am_n1_6 : (am_inN (.exactly (am_stt 6) "java/lang/String") && am_inN (.eq (.field (am_stt 6) "java/lang/String" "coder" "B") (.int 0)) && am_inN (.arrayOf (.field (am_stt 6) "java/lang/String" "value" "[B") .byte) && am_inN (.eq (.length (.field (am_stt 6) "java/lang/String" "value" "[B")) (.int (Int32.ofNat (am_sb 6).length)))) = true := by decide +kernel
theorem am_n1_7 : (am_inN (.exactly (am_stt 7) "java/lang/String") && am_inN (.eq (.field (am_stt 7) "java/lang/String" "coder" "B") (.int 0)) && am_inN (.arrayOf (.field (am_stt 7) "java/lang/String" "value" "[B") .byte) && am_inN (.eq (.length (.field (am_stt 7) "java/lang/String" "value" "[B")) (.int (Int32.ofNat (am_sb 7).length)))) = true := by decide +kernel
theorem am_n1_8 : (am_inN (.exactly (am_stt 8) "java/lang/String") && am_inN (.eq (.field (am_stt 8) "java/lang/String" "coder" "B") (.int 0)) && am_inN (.arrayOf (.field (am_stt 8) "java/lang/String" "value" "[B") .byte) && am_inN (.eq (.length (.field (am_stt 8) "java/lang/String" "value" "[B")) (.int (Int32.ofNat (am_sb 8).length)))) = true := by decide +kernel
theorem am_n1_9 : (am_inN (.exactly (am_stt 9) "java/lang/String") && am_inN (.eq (.field (am_stt 9) "java/lang/String" "coder" "B") (.int 0)) && am_inN (.arrayOf (.field (am_stt 9) "java/lang/String" "value" "[B") .byte) && am_inN (.eq (.length (.field (am_stt 9) "java/lang/String" "value" "[B")) (.int (Int32.ofNat (am_sb 9).length)))) = true := by decide +kernel
theorem am_n1_10 : (am_inN (.exactly (am_stt 10) "java/lang/String") && am_inN (.eq (.field (am_stt 10) "java/lang/String" "coder" "B") (.int 0)) && am_inN (.arrayOf (.field (am_stt 10) "java/lang/String" "value" "[B") .byte) && am_inN (.eq (.length (.field (am_stt 10) "java/lang/String" "value" "[B")) (.int (Int32.ofNat (am_sb 10).length)))) = true := by decide +kernel
theorem am_n1_11 : (am_inN (.exactly (am_stt 11) "java/lang/String") && am_inN (.eq (.field (am_stt 11) "java/lang/String" "coder" "B") (.int 0)) && am_inN (.arrayOf (.field (am_stt 11) "java/lang/String" "value" "[B") .byte) && am_inN (.eq (.length (.field (am_stt 11) "java/lang/String" "value" "[B")) (.int (Int32.ofNat (am_sb 11).length)))) = true := by decide +kernel
theorem am_n1_12 : (am_inN (.exactly (am_stt 12) "java/lang/String") && am_inN (.eq (.field (am_stt 12) "java/lang/String" "coder" "B") (.int 0)) && am_inN (.arrayOf (.field (am_stt 12) "java/lang/String" "value" "[B") .byte) && am_inN (.eq (.length (.field (am_stt 12) "java/lang/String" "value" "[B")) (.int (Int32.ofNat (am_sb 12).length)))) = true := by decide +kernel
theorem am_n1_13 : (am_inN (.exactly (am_stt 13) "java/lang/String") && am_inN (.eq (.field (am_stt 13) "java/lang/String" "coder" "B") (.int 0)) && am_inN (.arrayOf (.field (am_stt 13) "java/lang/String" "value" "[B") .byte) && am_inN (.eq (.length (.field (am_stt 13) "java/lang/String" "value" "[B")) (.int (Int32.ofNat (am_sb 13).length)))) = true := by decide +kernel
theorem am_n1_14 : (am_inN (.exactly (am_stt 14) "java/lang/String") && am_inN (.eq (.field (am_stt 14) "java/lang/String" "coder" "B") (.int 0)) && am_inN (.arrayOf (.field (am_stt 14) "java/lang/String" "value" "[B") .byte) && am_inN (.eq (.length (.field (am_stt 14) "java/lang/String" "value" "[B")) (.int (Int32.ofNat (am_sb 14).length)))) = true := by decide +kernel
theorem am_n1_15 : (am_inN (.exactly (am_stt 15) "java/lang/String") && am_inN (.eq (.field (am_stt 15) "java/lang/String" "coder" "B") (.int 0)) && am_inN (.arrayOf (.field (am_stt 15) "java/lang/String" "value" "[B") .byte) && am_inN (.eq (.length (.field (am_stt 15) "java/lang/String" "value" "[B")) (.int (Int32.ofNat (am_sb 15).length)))) = true := by decide +kernel
theorem am_n1_16 : (am_inN (.exactly (am_stt 16) "java/lang/String") && am_inN (.eq (.field (am_stt 16) "java/lang/String" "coder" "B") (.int 0)) && am_inN (.arrayOf (.field (am_stt 16) "java/lang/String" "value" "[B") .byte) && am_inN (.eq (.length (.field (am_stt 16) "java/lang/String" "value" "[B")) (.int (Int32.ofNat (am_sb 16).length)))) = true := by decide +kernel
theorem am_n1_17 : (am_inN (.exactly (am_stt 17) "java/lang/String") && am_inN (.eq (.field (am_stt 17) "java/lang/String" "coder" "B") (.int 0)) && am_inN (.arrayOf (.field (am_stt 17) "java/lang/String" "value" "[B") .byte) && am_inN (.eq (.length (.field (am_stt 17) "java/lang/String" "value" "[B")) (.int (Int32.ofNat (am_sb 17).length)))) = true := by decide +kernel
theorem am_n1_18 : (am_inN (.exactly (am_stt 18) "java/lang/String") && am_inN (.eq (.field (am_stt 18) "java/lang/String" "coder" "B") (.int 0)) && am_inN (.arrayOf (.field (am_stt 18) "java/lang/String" "value" "[B") .byte) && am_inN (.eq (.length (.field (am_stt 18) "java/lang/String" "value" "[B")) (.int (Int32.ofNat (am_sb 18).length)))) = true := by decide +kernel
theorem am_n1_19 : (am_inN (.exactly (am_stt 19) "java/lang/String") && am_inN (.eq (.field (am_stt 19) "java/lang/String" "coder" "B") (.int 0)) && am_inN (.arrayOf (.field (am_stt 19) "java/lang/String" "value" "[B") .byte) && am_inN (.eq (.length (.field (am_stt 19) "java/lang/String" "value" "[B")) (.int (Int32.ofNat (am_sb 19).length)))) = true := by decide +kernel
theorem am_n1_20 : (am_inN (.exactly (am_stt 20) "java/lang/String") && am_inN (.eq (.field (am_stt 20) "java/lang/String" "coder" "B") (.int 0)) && am_inN (.arrayOf (.field (am_stt 20) "java/lang/String" "value" "[B") .byte) && am_inN (.eq (.length (.field (am_stt 20) "java/lang/String" "value" "[B")) (.int (Int32.ofNat (am_sb 20).length)))) = true := by decide +kernel
theorem am_n1_21 : (am_inN (.exactly (am_stt 21) "java/lang/String") && am_inN (.eq (.field (am_stt 21) "java/lang/String" "coder" "B") (.int 0)) && am_inN (.arrayOf (.field (am_stt 21) "java/lang/String" "value" "[B") .byte) && am_inN (.eq (.length (.field (am_stt 21) "java/lang/String" "value" "[B")) (.int (Int32.ofNat (am_sb 21).length)))) = true := by decide +kernel
theorem am_n1_22 : (am_inN (.exactly (am_stt 22) "java/lang/String") && am_inN (.eq (.field (am_stt 22) "java/lang/String" "coder" "B") (.int 0)) && am_inN (.arrayOf (.field (am_stt 22) "java/lang/String" "value" "[B") .byte) && am_inN (.eq (.length (.field (am_stt 22) "java/lang/String" "value" "[B")) (.int (Int32.ofNat (am_sb 22).length)))) = true := by decide +kernel
theorem am_n1_23 : (am_inN (.exactly (am_stt 23) "java/lang/String") && am_inN (.eq (.field (am_stt 23) "java/lang/String" "coder" "B") (.int 0)) && am_inN (.arrayOf (.field (am_stt 23) "java/lang/String" "value" "[B") .byte) && am_inN (.eq (.length (.field (am_stt 23) "java/lang/String" "value" "[B")) (.int (Int32.ofNat (am_sb 23).length)))) = true := by decide +kernel
theorem am_n1_24 : (am_inN (.exactly (am_stt 24) "java/lang/String") && am_inN (.eq (.field (am_stt 24) "java/lang/String" "coder" "B") (.int 0)) && am_inN (.arrayOf (.field (am_stt 24) "java/lang/String" "value" "[B") .byte) && am_inN (.eq (.length (.field (am_stt 24) "java/lang/String" "value" "[B")) (.int (Int32.ofNat (am_sb 24).length)))) = true := by decide +kernel
theorem am_n1_25 : (am_inN (.exactly (am_stt 25) "java/lang/String") && am_inN (.eq (.field (am_stt 25) "java/lang/String" "coder" "B") (.int 0)) && am_inN (.arrayOf (.field (am_stt 25) "java/lang/String" "value" "[B") .byte) && am_inN (.eq (.length (.field (am_stt 25) "java/lang/String" "value" "[B")) (.int (Int32.ofNat (am_sb 25).length)))) = true := by decide +kernel
theorem am_n1_26 : (am_inN (.exactly (am_stt 26) "java/lang/String") && am_inN (.eq (.field (am_stt 26) "java/lang/String" "coder" "B") (.int 0)) && am_inN (.arrayOf (.field (am_stt 26) "java/lang/String" "value" "[B") .byte) && am_inN (.eq (.length (.field (am_stt 26) "java/lang/String" "value" "[B")) (.int (Int32.ofNat (am_sb 26).length)))) = true := by decide +kernel
theorem am_n1_27 : (am_inN (.exactly (am_stt 27) "java/lang/String") && am_inN (.eq (.field (am_stt 27) "java/lang/String" "coder" "B") (.int 0)) && am_inN (.arrayOf (.field (am_stt 27) "java/lang/String" "value" "[B") .byte) && am_inN (.eq (.length (.field (am_stt 27) "java/lang/String" "value" "[B")) (.int (Int32.ofNat (am_sb 27).length)))) = true := by decide +kernel
theorem am_n1_28 : (am_inN (.exactly (am_stt 28) "java/lang/String") && am_inN (.eq (.field (am_stt 28) "java/lang/String" "coder" "B") (.int 0)) && am_inN (.arrayOf (.field (am_stt 28) "java/lang/String" "value" "[B") .byte) && am_inN (.eq (.length (.field (am_stt 28) "java/lang/String" "value" "[B")) (.int (Int32.ofNat (am_sb 28).length)))) = true := by decide +kernel
theorem am_n1_29 : (am_inN (.exactly (am_stt 29) "java/lang/String") && am_inN (.eq (.field (am_stt 29) "java/lang/String" "coder" "B") (.int 0)) && am_inN (.arrayOf (.field (am_stt 29) "java/lang/String" "value" "[B") .byte) && am_inN (.eq (.length (.field (am_stt 29) "java/lang/String" "value" "[B")) (.int (Int32.ofNat (am_sb 29).length)))) = true := by decide +kernel
theorem am_n1_30 : (am_inN (.exactly (am_stt 30) "java/lang/String") && am_inN (.eq (.field (am_stt 30) "java/lang/String" "coder" "B") (.int 0)) && am_inN (.arrayOf (.field (am_stt 30) "java/lang/String" "value" "[B") .byte) && am_inN (.eq (.length (.field (am_stt 30) "java/lang/String" "value" "[B")) (.int (Int32.ofNat (am_sb 30).length)))) = true := by decide +kernel
theorem am_n1_31 : (am_inN (.exactly (am_stt 31) "java/lang/String") && am_inN (.eq (.field (am_stt 31) "java/lang/String" "coder" "B") (.int 0)) && am_inN (.arrayOf (.field (am_stt 31) "java/lang/String" "value" "[B") .byte) && am_inN (.eq (.length (.field (am_stt 31) "java/lang/String" "value" "[B")) (.int (Int32.ofNat (am_sb 31).length)))) = true := by decide +kernel
theorem am_n1 : ∀ i, i < 32 → (am_inN (.exactly (am_stt i) "java/lang/String") && am_inN (.eq (.field (am_stt i) "java/lang/String" "coder" "B") (.int 0)) && am_inN (.arrayOf (.field (am_stt i) "java/lang/String" "value" "[B") .byte) && am_inN (.eq (.length (.field (am_stt i) "java/lang/String" "value" "[B")) (.int (Int32.ofNat (am_sb i).length)))) = true := fun i hi => by
  match i, hi with
  | 0, _ => exact am_n1_0
  | 1, _ => exact am_n1_1
  | 2, _ => exact am_n1_2
  | 3, _ => exact am_n1_3
  | 4, _ => exact am_n1_4
  | 5, _ => exact am_n1_5
  | 6, _ => exact am_n1_6
  | 7, _ => exact am_n1_7
  | 8, _ => exact am_n1_8
  | 9, _ => exact am_n1_9
  | 10, _ => exact am_n1_10
  | 11, _ => exact am_n1_11
  | 12, _ => exact am_n1_12
  | 13, _ => exact am_n1_13
  | 14, _ => exact am_n1_14
  | 15, _ => exact am_n1_15
  | 16, _ => exact am_n1_16
  | 17, _ => exact am_n1_17
  | 18, _ => exact am_n1_18
  | 19, _ => exact am_n1_19
  | 20, _ => exact am_n1_20
  | 21, _ => exact am_n1_21
  | 22, _ => exact am_n1_22
  | 23, _ => exact am_n1_23
  | 24, _ => exact am_n1_24
  | 25, _ => exact am_n1_25
  | 26, _ => exact am_n1_26
  | 27, _ => exact am_n1_27
  | 28, _ => exact am_n1_28
  | 29, _ => exact am_n1_29
  | 30, _ => exact am_n1_30
  | 31, _ => exact am_n1_31
  | n + 32, h => omega
theorem am_n2_0 : (List.range (am_sb 0).length).all (fun j => am_inN (.eq (.elem (.field (am_stt 0) "java/lang/String" "value" "[B") (.int (Int32.ofNat j))) (.int (nI ((am_sb 0).getD j 0))))) = true := by decide +kernel
theorem am_n2_1 : (List.range (am_sb 1).length).all (fun j => am_inN (.eq (.elem (.field (am_stt 1) "java/lang/String" "value" "[B") (.int (Int32.ofNat j))) (.int (nI ((am_sb 1).getD j 0))))) = true := by decide +kernel
theorem am_n2_2 : (List.range (am_sb 2).length).all (fun j => am_inN (.eq (.elem (.field (am_stt 2) "java/lang/String" "value" "[B") (.int (Int32.ofNat j))) (.int (nI ((am_sb 2).getD j 0))))) = true := by decide +kernel
theorem am_n2_3 : (List.range (am_sb 3).length).all (fun j => am_inN (.eq (.elem (.field (am_stt 3) "java/lang/String" "value" "[B") (.int (Int32.ofNat j))) (.int (nI ((am_sb 3).getD j 0))))) = true := by decide +kernel
theorem am_n2_4 : (List.range (am_sb 4).length).all (fun j => am_inN (.eq (.elem (.field (am_stt 4) "java/lang/String" "value" "[B") (.int (Int32.ofNat j))) (.int (nI ((am_sb 4).getD j 0))))) = true := by decide +kernel
theorem am_n2_5 : (List.range (am_sb 5).length).all (fun j => am_inN (.eq (.elem (.field (am_stt 5) "java/lang/String" "value" "[B") (.int (Int32.ofNat j))) (.int (nI ((am_sb 5).getD j 0))))) = true := by decide +kernel
theorem am_n2_6 : (List.range (am_sb 6).length).all (fun j => am_inN (.eq (.elem (.field (am_stt 6) "java/lang/String" "value" "[B") (.int (Int32.ofNat j))) (.int (nI ((am_sb 6).getD j 0))))) = true := by decide +kernel
theorem am_n2_7 : (List.range (am_sb 7).length).all (fun j => am_inN (.eq (.elem (.field (am_stt 7) "java/lang/String" "value" "[B") (.int (Int32.ofNat j))) (.int (nI ((am_sb 7).getD j 0))))) = true := by decide +kernel
theorem am_n2_8 : (List.range (am_sb 8).length).all (fun j => am_inN (.eq (.elem (.field (am_stt 8) "java/lang/String" "value" "[B") (.int (Int32.ofNat j))) (.int (nI ((am_sb 8).getD j 0))))) = true := by decide +kernel
theorem am_n2_9 : (List.range (am_sb 9).length).all (fun j => am_inN (.eq (.elem (.field (am_stt 9) "java/lang/String" "value" "[B") (.int (Int32.ofNat j))) (.int (nI ((am_sb 9).getD j 0))))) = true := by decide +kernel
theorem am_n2_10 : (List.range (am_sb 10).length).all (fun j => am_inN (.eq (.elem (.field (am_stt 10) "java/lang/String" "value" "[B") (.int (Int32.ofNat j))) (.int (nI ((am_sb 10).getD j 0))))) = true := by decide +kernel
theorem am_n2_11 : (List.range (am_sb 11).length).all (fun j => am_inN (.eq (.elem (.field (am_stt 11) "java/lang/String" "value" "[B") (.int (Int32.ofNat j))) (.int (nI ((am_sb 11).getD j 0))))) = true := by decide +kernel
theorem am_n2_12 : (List.range (am_sb 12).length).all (fun j => am_inN (.eq (.elem (.field (am_stt 12) "java/lang/String" "value" "[B") (.int (Int32.ofNat j))) (.int (nI ((am_sb 12).getD j 0))))) = true := by decide +kernel
theorem am_n2_13 : (List.range (am_sb 13).length).all (fun j => am_inN (.eq (.elem (.field (am_stt 13) "java/lang/String" "value" "[B") (.int (Int32.ofNat j))) (.int (nI ((am_sb 13).getD j 0))))) = true := by decide +kernel
theorem am_n2_14 : (List.range (am_sb 14).length).all (fun j => am_inN (.eq (.elem (.field (am_stt 14) "java/lang/String" "value" "[B") (.int (Int32.ofNat j))) (.int (nI ((am_sb 14).getD j 0))))) = true := by decide +kernel
theorem am_n2_15 : (List.range (am_sb 15).length).all (fun j => am_inN (.eq (.elem (.field (am_stt 15) "java/lang/String" "value" "[B") (.int (Int32.ofNat j))) (.int (nI ((am_sb 15).getD j 0))))) = true := by decide +kernel
theorem am_n2_16 : (List.range (am_sb 16).length).all (fun j => am_inN (.eq (.elem (.field (am_stt 16) "java/lang/String" "value" "[B") (.int (Int32.ofNat j))) (.int (nI ((am_sb 16).getD j 0))))) = true := by decide +kernel
theorem am_n2_17 : (List.range (am_sb 17).length).all (fun j => am_inN (.eq (.elem (.field (am_stt 17) "java/lang/String" "value" "[B") (.int (Int32.ofNat j))) (.int (nI ((am_sb 17).getD j 0))))) = true := by decide +kernel
theorem am_n2_18 : (List.range (am_sb 18).length).all (fun j => am_inN (.eq (.elem (.field (am_stt 18) "java/lang/String" "value" "[B") (.int (Int32.ofNat j))) (.int (nI ((am_sb 18).getD j 0))))) = true := by decide +kernel
theorem am_n2_19 : (List.range (am_sb 19).length).all (fun j => am_inN (.eq (.elem (.field (am_stt 19) "java/lang/String" "value" "[B") (.int (Int32.ofNat j))) (.int (nI ((am_sb 19).getD j 0))))) = true := by decide +kernel
theorem am_n2_20 : (List.range (am_sb 20).length).all (fun j => am_inN (.eq (.elem (.field (am_stt 20) "java/lang/String" "value" "[B") (.int (Int32.ofNat j))) (.int (nI ((am_sb 20).getD j 0))))) = true := by decide +kernel
theorem am_n2_21 : (List.range (am_sb 21).length).all (fun j => am_inN (.eq (.elem (.field (am_stt 21) "java/lang/String" "value" "[B") (.int (Int32.ofNat j))) (.int (nI ((am_sb 21).getD j 0))))) = true := by decide +kernel
theorem am_n2_22 : (List.range (am_sb 22).length).all (fun j => am_inN (.eq (.elem (.field (am_stt 22) "java/lang/String" "value" "[B") (.int (Int32.ofNat j))) (.int (nI ((am_sb 22).getD j 0))))) = true := by decide +kernel
theorem am_n2_23 : (List.range (am_sb 23).length).all (fun j => am_inN (.eq (.elem (.field (am_stt 23) "java/lang/String" "value" "[B") (.int (Int32.ofNat j))) (.int (nI ((am_sb 23).getD j 0))))) = true := by decide +kernel
theorem am_n2_24 : (List.range (am_sb 24).length).all (fun j => am_inN (.eq (.elem (.field (am_stt 24) "java/lang/String" "value" "[B") (.int (Int32.ofNat j))) (.int (nI ((am_sb 24).getD j 0))))) = true := by decide +kernel
theorem am_n2_25 : (List.range (am_sb 25).length).all (fun j => am_inN (.eq (.elem (.field (am_stt 25) "java/lang/String" "value" "[B") (.int (Int32.ofNat j))) (.int (nI ((am_sb 25).getD j 0))))) = true := by decide +kernel
theorem am_n2_26 : (List.range (am_sb 26).length).all (fun j => am_inN (.eq (.elem (.field (am_stt 26) "java/lang/String" "value" "[B") (.int (Int32.ofNat j))) (.int (nI ((am_sb 26).getD j 0))))) = true := by decide +kernel
theorem am_n2_27 : (List.range (am_sb 27).length).all (fun j => am_inN (.eq (.elem (.field (am_stt 27) "java/lang/String" "value" "[B") (.int (Int32.ofNat j))) (.int (nI ((am_sb 27).getD j 0))))) = true := by decide +kernel
theorem am_n2_28 : (List.range (am_sb 28).length).all (fun j => am_inN (.eq (.elem (.field (am_stt 28) "java/lang/String" "value" "[B") (.int (Int32.ofNat j))) (.int (nI ((am_sb 28).getD j 0))))) = true := by decide +kernel
theorem am_n2_29 : (List.range (am_sb 29).length).all (fun j => am_inN (.eq (.elem (.field (am_stt 29) "java/lang/String" "value" "[B") (.int (Int32.ofNat j))) (.int (nI ((am_sb 29).getD j 0))))) = true := by decide +kernel
theorem am_n2_30 : (List.range (am_sb 30).length).all (fun j => am_inN (.eq (.elem (.field (am_stt 30) "java/lang/String" "value" "[B") (.int (Int32.ofNat j))) (.int (nI ((am_sb 30).getD j 0))))) = true := by decide +kernel
theorem am_n2_31 : (List.range (am_sb 31).length).all (fun j => am_inN (.eq (.elem (.field (am_stt 31) "java/lang/String" "value" "[B") (.int (Int32.ofNat j))) (.int (nI ((am_sb 31).getD j 0))))) = true := by decide +kernel
theorem am_n2 : ∀ i, i < 32 → (List.range (am_sb i).length).all (fun j => am_inN (.eq (.elem (.field (am_stt i) "java/lang/String" "value" "[B") (.int (Int32.ofNat j))) (.int (nI ((am_sb i).getD j 0))))) = true := fun i hi => by
  match i, hi with
  | 0, _ => exact am_n2_0
  | 1, _ => exact am_n2_1
  | 2, _ => exact am_n2_2
  | 3, _ => exact am_n2_3
  | 4, _ => exact am_n2_4
  | 5, _ => exact am_n2_5
  | 6, _ => exact am_n2_6
  | 7, _ => exact am_n2_7
  | 8, _ => exact am_n2_8
  | 9, _ => exact am_n2_9
  | 10, _ => exact am_n2_10
  | 11, _ => exact am_n2_11
  | 12, _ => exact am_n2_12
  | 13, _ => exact am_n2_13
  | 14, _ => exact am_n2_14
  | 15, _ => exact am_n2_15
  | 16, _ => exact am_n2_16
  | 17, _ => exact am_n2_17
  | 18, _ => exact am_n2_18
  | 19, _ => exact am_n2_19
  | 20, _ => exact am_n2_20
  | 21, _ => exact am_n2_21
  | 22, _ => exact am_n2_22
  | 23, _ => exact am_n2_23
  | 24, _ => exact am_n2_24
  | 25, _ => exact am_n2_25
  | 26, _ => exact am_n2_26
  | 27, _ => exact am_n2_27
  | 28, _ => exact am_n2_28
  | 29, _ => exact am_n2_29
  | 30, _ => exact am_n2_30
  | 31, _ => exact am_n2_31
  | n + 32, h => omega
theorem am_n3 : (List.range 13).all (fun t => am_inN (.exactly (am_tlt t) "TextTools$Tool") && am_inN (.eq (.field (am_tlt t) "TextTools$Tool" "title" "Ljava/lang/String;") (am_stt (am_tln t).2.1)) && am_inN (.eq (.field (am_tlt t) "TextTools$Tool" "letters" "Ljava/lang/String;") (am_stt (am_tln t).2.2.1)) && am_inN (.eq (.field (am_tlt t) "TextTools$Tool" "wants" "Ljava/lang/String;") (am_stt (am_tln t).2.2.2.1))) = true := by decide +kernel
theorem am_n4 : (List.range 13).all (fun t => am_inN (.eq (.field (am_tlt t) "TextTools$Tool" "least" "I") (.int (nI (am_tln t).2.2.2.2.1))) && am_inN (.eq (.field (am_tlt t) "TextTools$Tool" "most" "I") (.int (nI (am_tln t).2.2.2.2.2))) && am_inN (.eq (.field (am_tlt t) "java/lang/Enum" "ordinal" "I") (.int (nI t))) && am_inN (.eq (.elem am_all (.int (Int32.ofNat t))) (am_tlt t)) && am_inN (.eq (.elem am_swm (.int (Int32.ofNat t))) (.int (nI (t + 1))))) = true := by decide +kernel
theorem am_n5_0 : (List.range 0).all (fun u => am_inN (.not (.eq (am_tlt 0) (am_tlt u))) || am_inN (.not (.eq (am_tlt u) (am_tlt 0)))) = true := by decide +kernel
theorem am_n5_1 : (List.range 1).all (fun u => am_inN (.not (.eq (am_tlt 1) (am_tlt u))) || am_inN (.not (.eq (am_tlt u) (am_tlt 1)))) = true := by decide +kernel
theorem am_n5_2 : (List.range 2).all (fun u => am_inN (.not (.eq (am_tlt 2) (am_tlt u))) || am_inN (.not (.eq (am_tlt u) (am_tlt 2)))) = true := by decide +kernel
theorem am_n5_3 : (List.range 3).all (fun u => am_inN (.not (.eq (am_tlt 3) (am_tlt u))) || am_inN (.not (.eq (am_tlt u) (am_tlt 3)))) = true := by decide +kernel
theorem am_n5_4 : (List.range 4).all (fun u => am_inN (.not (.eq (am_tlt 4) (am_tlt u))) || am_inN (.not (.eq (am_tlt u) (am_tlt 4)))) = true := by decide +kernel
theorem am_n5_5 : (List.range 5).all (fun u => am_inN (.not (.eq (am_tlt 5) (am_tlt u))) || am_inN (.not (.eq (am_tlt u) (am_tlt 5)))) = true := by decide +kernel
theorem am_n5_6 : (List.range 6).all (fun u => am_inN (.not (.eq (am_tlt 6) (am_tlt u))) || am_inN (.not (.eq (am_tlt u) (am_tlt 6)))) = true := by decide +kernel
theorem am_n5_7 : (List.range 7).all (fun u => am_inN (.not (.eq (am_tlt 7) (am_tlt u))) || am_inN (.not (.eq (am_tlt u) (am_tlt 7)))) = true := by decide +kernel
theorem am_n5_8 : (List.range 8).all (fun u => am_inN (.not (.eq (am_tlt 8) (am_tlt u))) || am_inN (.not (.eq (am_tlt u) (am_tlt 8)))) = true := by decide +kernel
theorem am_n5_9 : (List.range 9).all (fun u => am_inN (.not (.eq (am_tlt 9) (am_tlt u))) || am_inN (.not (.eq (am_tlt u) (am_tlt 9)))) = true := by decide +kernel
theorem am_n5_10 : (List.range 10).all (fun u => am_inN (.not (.eq (am_tlt 10) (am_tlt u))) || am_inN (.not (.eq (am_tlt u) (am_tlt 10)))) = true := by decide +kernel
theorem am_n5_11 : (List.range 11).all (fun u => am_inN (.not (.eq (am_tlt 11) (am_tlt u))) || am_inN (.not (.eq (am_tlt u) (am_tlt 11)))) = true := by decide +kernel
theorem am_n5_12 : (List.range 12).all (fun u => am_inN (.not (.eq (am_tlt 12) (am_tlt u))) || am_inN (.not (.eq (am_tlt u) (am_tlt 12)))) = true := by decide +kernel
theorem am_n5 : ∀ t, t < 13 → (List.range t).all (fun u => am_inN (.not (.eq (am_tlt t) (am_tlt u))) || am_inN (.not (.eq (am_tlt u) (am_tlt t)))) = true := fun t ht => by
  match t, ht with
  | 0, _ => exact am_n5_0
  | 1, _ => exact am_n5_1
  | 2, _ => exact am_n5_2
  | 3, _ => exact am_n5_3
  | 4, _ => exact am_n5_4
  | 5, _ => exact am_n5_5
  | 6, _ => exact am_n5_6
  | 7, _ => exact am_n5_7
  | 8, _ => exact am_n5_8
  | 9, _ => exact am_n5_9
  | 10, _ => exact am_n5_10
  | 11, _ => exact am_n5_11
  | 12, _ => exact am_n5_12
  | n + 13, h => omega
theorem am_n6 : (am_inN (.arrayOf am_all (.object "TextTools$Tool")) && am_inN (.eq (.length am_all) (.int (Int32.ofNat 13))) && am_inN (.arrayOf am_swm .int) && am_inN (.eq (.length am_swm) (.int (Int32.ofNat 13))) && am_inN (.eq (.static "java/lang/String" "COMPACT_STRINGS" "Z") (.int (nI 1))) && am_inN (.isRef (.static Bundle.tN "UNASSIGNED_STACK" Bundle.steD)) && am_inN (.isRef (.static Bundle.tN "SUPPRESSED_SENTINEL" Bundle.listD)) && am_inN (.not (.castable "java/lang/UnsupportedOperationException" "java/lang/IndexOutOfBoundsException"))) = true := by decide +kernel
theorem am_n7 : (am_zn.all (fun z => decide (Cond.laysStatic z.1 z.2.1 z.2.2 ∈ lw_tbl) && decide (Cond.initialized z.1 ∈ lw_tbl)) && decide (Cond.laysStatic "java/lang/String" "COMPACT_STRINGS" "Z" ∈ lw_tbl) && decide (Cond.initialized "java/lang/String" ∈ lw_tbl) && decide (Cond.laysStatic Bundle.tN "UNASSIGNED_STACK" Bundle.steD ∈ lw_tbl) && decide (Cond.laysStatic Bundle.tN "SUPPRESSED_SENTINEL" Bundle.listD ∈ lw_tbl) && decide (Cond.initialized Bundle.tN ∈ lw_tbl)) = true := by decide +kernel
theorem am_n8 : (am_cl.all (fun r => decide (Cond.instantiable r.1 r.2.2 ∈ lw_tbl)) && decide (Cond.arrayClass .byte ∈ lw_tbl) && decide (Cond.arrayClass .int ∈ lw_tbl) && decide (Cond.arrayClass .boolean ∈ lw_tbl) && decide (Cond.arrayClass .long ∈ lw_tbl) && decide (Cond.arrayOver (.object "TextTools$Lines") ∈ lw_tbl) && decide (Cond.arrayOver (.array .int) ∈ lw_tbl) && decide (Cond.stringRef "TextTools$Parser" 112 "-" ∈ lw_tbl)) = true := by decide +kernel
def am_sio : Term := .static "jdk/internal/util/Preconditions" "SIOOBE_FORMATTER" "Ljava/util/function/BiFunction;"
theorem am_n9 : am_inN (.isRef am_sio) = true := by decide +kernel
theorem am_n10 : (decide (Cond.laysStatic "jdk/internal/util/Preconditions" "SIOOBE_FORMATTER" "Ljava/util/function/BiFunction;" ∈ lw_tbl) && decide (Cond.initialized "jdk/internal/util/Preconditions" ∈ lw_tbl)) = true := by decide +kernel
