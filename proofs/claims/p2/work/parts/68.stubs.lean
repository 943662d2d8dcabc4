/-! stubs: contracts that are not proved yet (wip/safe/mks2.py) -/
theorem k_2110 {X : List Int32} {d N : Nat} {M0 : zM}  (hN : N ≤ 600) (hB0 : zB N M0) : ZV X (d + 5) 2110 [.ref 0] M0 (zRI N [(49, 50, 0), (77, 78, 0), (0, 1, 1), (49, 50, 1), (50, 62, 1000), (385, 386, 1000), (0, 1, 11), (49, 50, 14), (0, 1, 15)] M0 (0) (1) (fun v M' => (∃ w : Int32, zvl M' (0) 1 = some (.int w) ∧ (w.toInt = 0) ∧ True))) := by
  sorry
theorem k_2376 {X : List Int32} {d N : Nat} {M0 : zM} (a0 : Int32) (hN : N ≤ 600) (hB0 : zB N M0) : ZV X (d + 10) 2376 [.ref 386, .int a0] M0 (zRI N [(415, 433, 1000), (434, 436, 1000), (386, 387, 64), (386, 387, 65), (386, 387, 66), (386, 387, 70), (386, 387, 71), (386, 387, 72), (386, 387, 74), (386, 387, 75)] M0 (-2147483648) (2147483647) (fun _ _ => True)) := by
  sorry
theorem k_2391 {X : List Int32} {d N : Nat} {M0 : zM} (a0 : Int32) (a1 : Int32) (hN : N ≤ 600) (hB0 : zB N M0) : ZV X (d + 9) 2391 [.ref 386, .int a0, .int a1] M0 (zRI N [(415, 433, 1000), (434, 436, 1000), (386, 387, 64), (386, 387, 65), (386, 387, 70), (386, 387, 71), (386, 387, 72), (386, 387, 74), (386, 387, 75)] M0 (-2147483648) (2147483647) (fun _ _ => True)) := by
  sorry
theorem k_2402 {X : List Int32} {d N : Nat} {M0 : zM} (a0 : Int32) (hN : N ≤ 600) (hB0 : zB N M0) : ZV X (d + 9) 2402 [.ref 386, .int a0] M0 (zRI N [(416, 418, 1000), (434, 437, 1000), (386, 387, 70), (386, 387, 71), (386, 387, 72), (386, 387, 74)] M0 (-2147483648) (2147483647) (fun _ _ => True)) := by
  sorry
theorem k_2411 {X : List Int32} {d N : Nat} {M0 : zM} (a0 : Int32) (a1 : Int32) (hN : N ≤ 600) (hB0 : zB N M0) : ZV X (d + 10) 2411 [.ref 386, .int a0, .int a1] M0 (zRI N [(416, 418, 1000), (434, 436, 1000), (386, 387, 70), (386, 387, 71), (386, 387, 72), (386, 387, 74)] M0 (-2147483648) (2147483647) (fun _ _ => True)) := by
  sorry
theorem k_2414 {X : List Int32} {d N : Nat} {M0 : zM} (a0 : Int32) (a1 : Int32) (hN : N ≤ 600) (hB0 : zB N M0) : ZV X (d + 4) 2414 [.ref 386, .int a0, .int a1] M0 (zRI N [(437, 439, 1000)] M0 (-1) (2147483647) (fun _ _ => True)) := by
  sorry
theorem k_2422 {X : List Int32} {d N : Nat} {M0 : zM} (a0 : Int32) (a1 : Int32) (a2 : Int32) (hN : N ≤ 600) (hB0 : zB N M0) : ZV X (d + 10) 2422 [.ref 386, .int a0, .int a1, .int a2] M0 (zRI N [(416, 433, 1000), (434, 436, 1000), (386, 387, 66), (386, 387, 70), (386, 387, 71), (386, 387, 72), (386, 387, 74), (386, 387, 75)] M0 (-2147483648) (2147483647) (fun _ _ => True)) := by
  sorry
theorem k_2426 {X : List Int32} {d N : Nat} {M0 : zM}  (hN : N ≤ 600) (hB0 : zB N M0) : ZV X (d + 4) 2426 [.ref 386] M0 (zRI N [(386, 387, 1), (415, 416, 1000), (418, 432, 1000), (386, 387, 65), (386, 387, 68)] M0 (0) (1) (fun v M' => (∃ w : Int32, zvl M' (386) 1 = some (.int w) ∧ (w.toInt = 0) ∧ True))) := by
  sorry
