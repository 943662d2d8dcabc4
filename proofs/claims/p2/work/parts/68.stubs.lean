/-! stubs: contracts that are not proved yet (wip/safe/mkend.py) -/
theorem k_2110 {X : List Int32} {d N : Nat} {M0 : zM}  (hN : N ≤ 600) (hB0 : zB N M0) : ZV X (d + 5) 2110 [.ref 0] M0 (zRI N [(49, 50, 0), (77, 78, 0), (0, 1, 1), (49, 50, 1), (50, 62, 1000), (385, 386, 1000), (0, 1, 11), (49, 50, 14), (0, 1, 15)] M0 (0) (1) (fun v M' => (∃ w : Int32, zvl M' (0) 1 = some (.int w) ∧ (w.toInt = 0) ∧ True))) := by
  sorry
