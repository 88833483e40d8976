theorem am_rok_all : am_rok := sorry
theorem am_mok_all : am_mok := sorry
theorem am_cok2_all : am_cok2 := by
  intro q hq
  have h : am_cts.all (fun q => am_ctb "TextTools" q.1 q.2) = true := by decide +kernel
  exact List.all_eq_true.mp h q hq
