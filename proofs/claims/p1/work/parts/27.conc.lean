/-! the first call: calls without arguments, by the kernel (wip/p1/mk24.py) -/
set_option maxRecDepth 1000000 in
theorem zp_18 : ∃ (v : Int32) (M1 M2 : zM), ZC [] 11 2080 [.ref 0] zM0 (some (.int v), M1) ∧ ZC [] 11 2345 [.ref 386] M1 (some (.int v), M2) ∧ zSh M1 ∧ zSh M2 := zK_ok (v := 0) (by decide +kernel)
set_option maxRecDepth 1000000 in
theorem zp_23 : ∃ (v : Int32) (M1 M2 : zM), ZC [] 11 2085 [.ref 0] zM0 (some (.int v), M1) ∧ ZC [] 11 2400 [.ref 386] M1 (some (.int v), M2) ∧ zSh M1 ∧ zSh M2 := zK_ok (v := 0) (by decide +kernel)
set_option maxRecDepth 1000000 in
theorem zp_26 : ∃ (v : Int32) (M1 M2 : zM), ZC [] 11 2088 [.ref 0] zM0 (some (.int v), M1) ∧ ZC [] 11 2407 [.ref 386] M1 (some (.int v), M2) ∧ zSh M1 ∧ zSh M2 := zK_ok (v := (-1)) (by decide +kernel)
set_option maxRecDepth 1000000 in
theorem zp_28 : ∃ (v : Int32) (M1 M2 : zM), ZC [] 11 2090 [.ref 0] zM0 (some (.int v), M1) ∧ ZC [] 11 2410 [.ref 386] M1 (some (.int v), M2) ∧ zSh M1 ∧ zSh M2 := zK_ok (v := 0) (by decide +kernel)
set_option maxRecDepth 1000000 in
theorem zp_34 : ∃ (v : Int32) (M1 M2 : zM), ZC [] 11 2105 [.ref 0] zM0 (some (.int v), M1) ∧ ZC [] 11 2423 [.ref 386] M1 (some (.int v), M2) ∧ zSh M1 ∧ zSh M2 := zK_ok (v := 3) (by decide +kernel)
set_option maxRecDepth 1000000 in
theorem zp_36 : ∃ (v : Int32) (M1 M2 : zM), ZC [] 11 2110 [.ref 0] zM0 (some (.int v), M1) ∧ ZC [] 11 2426 [.ref 386] M1 (some (.int v), M2) ∧ zSh M1 ∧ zSh M2 := zK_ok (v := 0) (by decide +kernel)
