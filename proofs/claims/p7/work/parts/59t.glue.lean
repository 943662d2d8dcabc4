/-! GLUE: each op of the reference with what holds between the ops (wip/safe/gen6.py) -/
theorem zi_u {N : Nat} {M : zM} {a : Nat} {lo hi : Int} (hB : zB N M) (hu : ∀ k, zT a k = (0, lo, hi)) (h0 : lo ≤ 0 ∧ 0 ≤ hi) (k : Nat) : lo ≤ zi M a k ∧ zi M a k ≤ hi := by
  unfold zi
  cases h : zvl M a k with
  | none => exact h0
  | some v =>
    have h2 := hB.2 a k v h
    rw [hu k] at h2
    cases v with
    | int x => exact h2
    | _ => exact (show False from h2).elim
theorem zi_s {N : Nat} {M : zM} {a k kind n : Nat} {lo hi : Int} (hB : zB N M) (e : zS0[a]? = some (kind, n)) (hk : k < n) (ht : zT a k = (0, lo, hi)) : lo ≤ zi M a k ∧ zi M a k ≤ hi := by
  obtain ⟨x, f, h1, h2⟩ := zB_int hB e hk ht
  rw [← ziE f]
  exact ⟨h1, h2⟩
theorem BX_zB {N : Nat} {M : zM} (hB : zB N M) : BX (zi M) := by
  have h1 := zi_s hB zs_386 (by decide) zo_386_65
  have h2 := zi_s hB zs_386 (by decide) zo_386_64
  exact ⟨fun b _ => zi_u hB zu_388 (by decide) b, h1.1, h1.2, h2.1, h2.2⟩
theorem ztap0 {N : Nat} {M : zM} (hB : zB N M) (h : zi M 386 1 = 0) : ∃ w : Int32, zvl M (386) 1 = some (.int w) ∧ (w.toInt = 0) ∧ True := by
  obtain ⟨w, f, -, -⟩ := zB_int hB zs_386 (by decide) zo_386_1
  exact ⟨w, f, (ziE f).trans h, trivial⟩
theorem kk_2305 {X : List Int32} {d N : Nat} {M0 : zM} (a0 : Int32) (a1 : Int32) (a2 : Int32) (a3 : Int32) (a4 : Int32) (lv : Int32) (hflv : zvl M0 (386) 1 = some (.int lv)) (hrlv0 : 0 ≤ lv.toInt) (hrlv1 : lv.toInt ≤ 1600) (hN : N ≤ 600) (hB0 : zB N M0) (hZ : ZR (zi M0)) : ZV X (d + 2) 2305 [.ref 386, .int a0, .int a1, .int a2, .int a3, .int a4] M0 (zRI N [(386, 387, 1), (387, 388, 1000), (415, 416, 1000)] M0 (-1) (1600) (fun v M' => ZR (zi M') ∧ (∃ w : Int32, zvl M' (386) 1 = some (.int w) ∧ (lv.toInt + 20 ≤ 1600 ∧ w.toInt = lv.toInt + 20 ∧ v.toInt = w.toInt ∨ 1600 < lv.toInt + 20 ∧ w.toInt = lv.toInt ∧ v.toInt = -1) ∧ True))) := by
  refine ZV.imp (k_2305 a0 a1 a2 a3 a4 lv hflv hrlv0 hrlv1 hN hB0) ?_
  rintro r ⟨v, M1, q1, q2, q3, q4, q5⟩
  exact ⟨v, M1, q1, q2, q3, q4, ⟨hZ.fr (zi_fr q4.2) rfl, q5⟩⟩
theorem kk_2308 {X : List Int32} {d N : Nat} {M0 : zM} (a0 : Int32) (lv : Int32) (hflv : zvl M0 (386) 1 = some (.int lv)) (hrlv0 : 0 ≤ lv.toInt) (hrlv1 : lv.toInt ≤ 1600) (hN : N ≤ 600) (hB0 : zB N M0) (hZ : ZR (zi M0)) : ZV X (d + 2) 2308 [.ref 386, .int a0] M0 (zRI N [(386, 387, 1), (415, 416, 1000)] M0 (0) (1) (fun v M' => ZR (zi M') ∧ (∃ w : Int32, zvl M' (386) 1 = some (.int w) ∧ (0 ≤ a0.toInt ∧ a0.toInt ≤ lv.toInt ∧ w.toInt = a0.toInt ∧ v.toInt = 1 ∨ (a0.toInt < 0 ∨ lv.toInt < a0.toInt) ∧ w.toInt = lv.toInt ∧ v.toInt = 0) ∧ True))) := by
  refine ZV.imp (k_2308 a0 lv hflv hrlv0 hrlv1 hN hB0) ?_
  rintro r ⟨v, M1, q1, q2, q3, q4, q5⟩
  exact ⟨v, M1, q1, q2, q3, q4, ⟨hZ.fr (zi_fr q4.2) rfl, q5⟩⟩
theorem kk_2309 {X : List Int32} {d N : Nat} {M0 : zM}  (hN : N ≤ 600) (hB0 : zB N M0) (hZ : ZR (zi M0)) : ZV X (d + 8) 2309 [.ref 386] M0 (zRI N [(386, 387, 1), (386, 387, 10), (388, 416, 1000), (418, 432, 1000), (386, 387, 11), (386, 387, 12), (386, 387, 2), (386, 387, 3), (386, 387, 34), (386, 387, 35), (386, 387, 4), (386, 387, 41), (386, 387, 42), (386, 387, 44), (386, 387, 45), (386, 387, 5), (386, 387, 6), (386, 387, 65), (386, 387, 68), (386, 387, 7), (386, 387, 8), (386, 387, 9)] M0 (-2147483648) (2147483647) (fun v M' => ZR (zi M') ∧ (∃ w : Int32, zvl M' (386) 1 = some (.int w) ∧ (w.toInt = 0) ∧ True))) := by
  refine ZV.imp (u_2309  hN hB0 (v_2309 hZ (BX_zB hB0) (zi_s hB0 zs_386 (by decide) zo_386_1))) ?_
  rintro r ⟨v, M1, q1, q2, q3, q4, q5⟩
  exact ⟨v, M1, q1, q2, q3, q4, ⟨q5.1 (BX_zB q4.1), ztap0 q4.1 q5.2⟩⟩
theorem kk_2343 {X : List Int32} {d N : Nat} {M0 : zM} (a0 : Int32) (hN : N ≤ 600) (hB0 : zB N M0) (hZ : ZR (zi M0)) : ZV X (d + 1) 2343 [.ref 386, .int a0] M0 (zRI N [] M0 (-1) (1600) (fun _ M' => ZR (zi M') ∧ True)) := by
  refine ZV.imp (k_2343 a0 hN hB0) ?_
  rintro r ⟨v, M1, q1, q2, q3, q4, q5⟩
  exact ⟨v, M1, q1, q2, q3, q4, ⟨hZ.fr (zi_fr q4.2) rfl, q5⟩⟩
theorem kk_2348 {X : List Int32} {d N : Nat} {M0 : zM} (a0 : Int32) (hN : N ≤ 600) (hB0 : zB N M0) (hZ : ZR (zi M0)) : ZV X (d + 3) 2348 [.ref 386, .int a0] M0 (zRI N [] M0 (-2147483648) (2147483647) (fun _ M' => ZR (zi M') ∧ True)) := by
  refine ZV.imp (k_2348 a0 hN hB0) ?_
  rintro r ⟨v, M1, q1, q2, q3, q4, q5⟩
  exact ⟨v, M1, q1, q2, q3, q4, ⟨hZ.fr (zi_fr q4.2) rfl, q5⟩⟩
theorem kk_2351 {X : List Int32} {d N : Nat} {M0 : zM} (a0 : Int32) (a1 : Int32) (a2 : Int32) (hN : N ≤ 600) (hB0 : zB N M0) (hZ : ZR (zi M0)) : ZV X (d + 2) 2351 [.ref 386, .int a0, .int a1, .int a2] M0 (zRI N [] M0 (-2147483648) (2147483647) (fun _ M' => ZR (zi M') ∧ True)) := by
  refine ZV.imp (k_2351 a0 a1 a2 hN hB0) ?_
  rintro r ⟨v, M1, q1, q2, q3, q4, q5⟩
  exact ⟨v, M1, q1, q2, q3, q4, ⟨hZ.fr (zi_fr q4.2) rfl, q5⟩⟩
theorem kk_2352 {X : List Int32} {d N : Nat} {M0 : zM} (a0 : Int32) (a1 : Int32) (hN : N ≤ 600) (hB0 : zB N M0) (hZ : ZR (zi M0)) : ZV X (d + 3) 2352 [.ref 386, .int a0, .int a1] M0 (zRI N [] M0 (-2147483648) (2147483647) (fun _ M' => ZR (zi M') ∧ True)) := by
  refine ZV.imp (k_2352 a0 a1 hN hB0) ?_
  rintro r ⟨v, M1, q1, q2, q3, q4, q5⟩
  exact ⟨v, M1, q1, q2, q3, q4, ⟨hZ.fr (zi_fr q4.2) rfl, q5⟩⟩
theorem kk_2355 {X : List Int32} {d N : Nat} {M0 : zM} (a0 : Int32) (hN : N ≤ 600) (hB0 : zB N M0) (hZ : ZR (zi M0)) : ZV X (d + 2) 2355 [.ref 386, .int a0] M0 (zRI N [] M0 (-1) (11) (fun _ M' => ZR (zi M') ∧ True)) := by
  refine ZV.imp (k_2355 a0 hN hB0) ?_
  rintro r ⟨v, M1, q1, q2, q3, q4, q5⟩
  exact ⟨v, M1, q1, q2, q3, q4, ⟨hZ.fr (zi_fr q4.2) rfl, q5⟩⟩
theorem kk_2356 {X : List Int32} {d N : Nat} {M0 : zM} (a0 : Int32) (a1 : Int32) (hN : N ≤ 600) (hB0 : zB N M0) (hZ : ZR (zi M0)) : ZV X (d + 3) 2356 [.ref 386, .int a0, .int a1] M0 (zRI N [] M0 (-2147483648) (2147483647) (fun _ M' => ZR (zi M') ∧ True)) := by
  refine ZV.imp (k_2356 a0 a1 hN hB0) ?_
  rintro r ⟨v, M1, q1, q2, q3, q4, q5⟩
  exact ⟨v, M1, q1, q2, q3, q4, ⟨hZ.fr (zi_fr q4.2) rfl, q5⟩⟩
theorem kk_2359 {X : List Int32} {d N : Nat} {M0 : zM} (a0 : Int32) (a1 : Int32) (hN : N ≤ 600) (hB0 : zB N M0) (hZ : ZR (zi M0)) : ZV X (d + 2) 2359 [.ref 386, .int a0, .int a1] M0 (zRI N [] M0 (-2147483648) (2147483647) (fun _ M' => ZR (zi M') ∧ True)) := by
  refine ZV.imp (k_2359 a0 a1 hN hB0) ?_
  rintro r ⟨v, M1, q1, q2, q3, q4, q5⟩
  exact ⟨v, M1, q1, q2, q3, q4, ⟨hZ.fr (zi_fr q4.2) rfl, q5⟩⟩
theorem kk_2361 {X : List Int32} {d N : Nat} {M0 : zM} (a0 : Int32) (a1 : Int32) (hN : N ≤ 600) (hB0 : zB N M0) (hZ : ZR (zi M0)) : ZV X (d + 2) 2361 [.ref 386, .int a0, .int a1] M0 (zRI N [] M0 (-2147483648) (2147483647) (fun _ M' => ZR (zi M') ∧ True)) := by
  refine ZV.imp (k_2361 a0 a1 hN hB0) ?_
  rintro r ⟨v, M1, q1, q2, q3, q4, q5⟩
  exact ⟨v, M1, q1, q2, q3, q4, ⟨hZ.fr (zi_fr q4.2) rfl, q5⟩⟩
theorem kk_2362 {X : List Int32} {d N : Nat} {M0 : zM} (a0 : Int32) (a1 : Int32) (a2 : Int32) (ha20 : (0 : Int) ≤ a2.toInt) (ha21 : a2.toInt ≤ 1) (hN : N ≤ 600) (hB0 : zB N M0) (hZ : ZR (zi M0)) : ZV X (d + 6) 2362 [.ref 386, .int a0, .int a1, .int a2] M0 (zRI N [(416, 418, 1000), (434, 435, 1000), (386, 387, 70), (386, 387, 71), (386, 387, 72)] M0 (-2147483648) (2147483647) (fun _ M' => ZR (zi M') ∧ True)) := by
  refine ZV.imp (k_2362 a0 a1 a2 ha20 ha21 hN hB0 hZ.ia) ?_
  rintro r ⟨v, M1, q1, q2, q3, q4, q5⟩
  exact ⟨v, M1, q1, q2, q3, q4, ⟨hZ.fr (zi_fr q4.2) rfl, q5⟩⟩
theorem kk_2376 {X : List Int32} {d N : Nat} {M0 : zM} (a0 : Int32) (hN : N ≤ 600) (hB0 : zB N M0) (hZ : ZR (zi M0)) : ZV X (d + 10) 2376 [.ref 386, .int a0] M0 (zRI N [(415, 433, 1000), (434, 436, 1000), (386, 387, 64), (386, 387, 65), (386, 387, 66), (386, 387, 70), (386, 387, 71), (386, 387, 72), (386, 387, 74), (386, 387, 75)] M0 (-2147483648) (2147483647) (fun _ M' => ZR (zi M') ∧ True)) := by
  refine ZV.imp (u_2376 a0 hN hB0 (v_2376 hZ (BX_zB hB0))) ?_
  rintro r ⟨v, M1, q1, q2, q3, q4, q5⟩
  exact ⟨v, M1, q1, q2, q3, q4, ⟨q5, trivial⟩⟩
theorem kk_2391 {X : List Int32} {d N : Nat} {M0 : zM} (a0 : Int32) (a1 : Int32) (hN : N ≤ 600) (hB0 : zB N M0) (hZ : ZR (zi M0)) : ZV X (d + 9) 2391 [.ref 386, .int a0, .int a1] M0 (zRI N [(415, 433, 1000), (434, 436, 1000), (386, 387, 64), (386, 387, 65), (386, 387, 70), (386, 387, 71), (386, 387, 72), (386, 387, 74), (386, 387, 75)] M0 (-2147483648) (2147483647) (fun _ M' => ZR (zi M') ∧ True)) := by
  refine ZV.imp (u_2391 a0 a1 hN hB0 (v_2391 hZ (BX_zB hB0))) ?_
  rintro r ⟨v, M1, q1, q2, q3, q4, q5⟩
  exact ⟨v, M1, q1, q2, q3, q4, ⟨q5, trivial⟩⟩
theorem kk_2392 {X : List Int32} {d N : Nat} {M0 : zM} (a0 : Int32) (a1 : Int32) (ha10 : (0 : Int) ≤ a1.toInt) (ha11 : a1.toInt ≤ 1) (hN : N ≤ 600) (hB0 : zB N M0) (hZ : ZR (zi M0)) : ZV X (d + 3) 2392 [.ref 386, .int a0, .int a1] M0 (zRI N [(415, 416, 1000), (418, 433, 1000), (386, 387, 64), (386, 387, 65)] M0 (0) (1) (fun _ M' => ZR (zi M') ∧ True)) := by
  refine ZV.imp (u_2392 a0 a1 ha10 ha11 hN hB0 (v_2392 hZ (BX_zB hB0))) ?_
  rintro r ⟨v, M1, q1, q2, q3, q4, q5⟩
  exact ⟨v, M1, q1, q2, q3, q4, ⟨q5, trivial⟩⟩
theorem kk_2393 {X : List Int32} {d N : Nat} {M0 : zM} (a0 : Int32) (a1 : Int32) (ha10 : (0 : Int) ≤ a1.toInt) (ha11 : a1.toInt ≤ 1) (hN : N ≤ 600) (hB0 : zB N M0) (hZ : ZR (zi M0)) : ZV X (d + 3) 2393 [.ref 386, .int a0, .int a1] M0 (zRI N [(415, 416, 1000), (418, 433, 1000), (386, 387, 64), (386, 387, 65)] M0 (0) (1) (fun _ M' => ZR (zi M') ∧ True)) := by
  refine ZV.imp (u_2393 a0 a1 ha10 ha11 hN hB0 (v_2393 hZ (BX_zB hB0))) ?_
  rintro r ⟨v, M1, q1, q2, q3, q4, q5⟩
  exact ⟨v, M1, q1, q2, q3, q4, ⟨q5, trivial⟩⟩
theorem kk_2394 {X : List Int32} {d N : Nat} {M0 : zM} (a0 : Int32) (a1 : Int32) (hN : N ≤ 600) (hB0 : zB N M0) (hZ : ZR (zi M0)) : ZV X (d + 3) 2394 [.ref 386, .int a0, .int a1] M0 (zRI N [(415, 416, 1000), (418, 433, 1000), (386, 387, 64), (386, 387, 65)] M0 (-2147483648) (2147483647) (fun _ M' => ZR (zi M') ∧ True)) := by
  refine ZV.imp (u_2394 a0 a1 hN hB0 (v_2394 hZ (BX_zB hB0))) ?_
  rintro r ⟨v, M1, q1, q2, q3, q4, q5⟩
  exact ⟨v, M1, q1, q2, q3, q4, ⟨q5, trivial⟩⟩
theorem kk_2395 {X : List Int32} {d N : Nat} {M0 : zM} (a0 : Int32) (a1 : Int32) (hN : N ≤ 600) (hB0 : zB N M0) (hZ : ZR (zi M0)) : ZV X (d + 3) 2395 [.ref 386, .int a0, .int a1] M0 (zRI N [(415, 416, 1000), (418, 433, 1000), (386, 387, 64), (386, 387, 65)] M0 (0) (1) (fun _ M' => ZR (zi M') ∧ True)) := by
  refine ZV.imp (u_2395 a0 a1 hN hB0 (v_2395 hZ (BX_zB hB0))) ?_
  rintro r ⟨v, M1, q1, q2, q3, q4, q5⟩
  exact ⟨v, M1, q1, q2, q3, q4, ⟨q5, trivial⟩⟩
theorem kk_2345 {X : List Int32} {d N : Nat} {M0 : zM}  (hN : N ≤ 600) (hB0 : zB N M0) (hZ : ZR (zi M0)) : ZV X (d + 2) 2345 [.ref 386] M0 (zRI N [(415, 416, 1000), (418, 433, 1000), (386, 387, 65)] M0 (0) (1) (fun _ M' => ZR (zi M') ∧ True)) := by
  refine ZV.imp (u_2345  hN hB0 (v_2345 hZ (BX_zB hB0))) ?_
  rintro r ⟨v, M1, q1, q2, q3, q4, q5⟩
  exact ⟨v, M1, q1, q2, q3, q4, ⟨q5, trivial⟩⟩
theorem kk_2396 {X : List Int32} {d N : Nat} {M0 : zM} (a0 : Int32) (hN : N ≤ 600) (hB0 : zB N M0) (hZ : ZR (zi M0)) : ZV X (d + 2) 2396 [.ref 386, .int a0] M0 (zRI N [(415, 416, 1000), (386, 387, 66)] M0 (0) (1) (fun _ M' => ZR (zi M') ∧ True)) := by
  refine ZV.imp (k_2396 a0 hN hB0) ?_
  rintro r ⟨v, M1, q1, q2, q3, q4, q5⟩
  exact ⟨v, M1, q1, q2, q3, q4, ⟨hZ.fr (zi_fr q4.2) rfl, q5⟩⟩
theorem kk_2397 {X : List Int32} {d N : Nat} {M0 : zM} (a0 : Int32) (a1 : Int32) (a2 : Int32) (hN : N ≤ 600) (hB0 : zB N M0) (hZ : ZR (zi M0)) : ZV X (d + 8) 2397 [.ref 386, .int a0, .int a1, .int a2] M0 (zRI N [(416, 418, 1000), (434, 436, 1000), (386, 387, 70), (386, 387, 71), (386, 387, 72), (386, 387, 74)] M0 (-1) (2147483647) (fun _ M' => ZR (zi M') ∧ True)) := by
  refine ZV.imp (k_2397 a0 a1 a2 hN hB0 hZ.ia) ?_
  rintro r ⟨v, M1, q1, q2, q3, q4, q5⟩
  exact ⟨v, M1, q1, q2, q3, q4, ⟨hZ.fr (zi_fr q4.2) rfl, q5⟩⟩
theorem kk_2398 {X : List Int32} {d N : Nat} {M0 : zM} (a0 : Int32) (a1 : Int32) (hN : N ≤ 600) (hB0 : zB N M0) (hZ : ZR (zi M0)) : ZV X (d + 8) 2398 [.ref 386, .int a0, .int a1] M0 (zRI N [(416, 418, 1000), (434, 436, 1000), (386, 387, 70), (386, 387, 71), (386, 387, 72), (386, 387, 74)] M0 (-1) (4095) (fun _ M' => ZR (zi M') ∧ True)) := by
  refine ZV.imp (k_2398 a0 a1 hN hB0 hZ.ia) ?_
  rintro r ⟨v, M1, q1, q2, q3, q4, q5⟩
  exact ⟨v, M1, q1, q2, q3, q4, ⟨hZ.fr (zi_fr q4.2) rfl, q5⟩⟩
theorem kk_2399 {X : List Int32} {d N : Nat} {M0 : zM} (a0 : Int32) (a1 : Int32) (hN : N ≤ 600) (hB0 : zB N M0) (hZ : ZR (zi M0)) : ZV X (d + 8) 2399 [.ref 386, .int a0, .int a1] M0 (zRI N [(416, 418, 1000), (434, 436, 1000), (386, 387, 70), (386, 387, 71), (386, 387, 72), (386, 387, 74)] M0 (-1) (9999) (fun _ M' => ZR (zi M') ∧ True)) := by
  refine ZV.imp (k_2399 a0 a1 hN hB0 hZ.ia) ?_
  rintro r ⟨v, M1, q1, q2, q3, q4, q5⟩
  exact ⟨v, M1, q1, q2, q3, q4, ⟨hZ.fr (zi_fr q4.2) rfl, q5⟩⟩
theorem kk_2400 {X : List Int32} {d N : Nat} {M0 : zM}  (hN : N ≤ 600) (hB0 : zB N M0) (hZ : ZR (zi M0)) : ZV X (d + 9) 2400 [.ref 386] M0 (zRI N [(416, 418, 1000), (434, 436, 1000), (386, 387, 70), (386, 387, 71), (386, 387, 72), (386, 387, 74)] M0 (-2147483648) (2147483647) (fun _ M' => ZR (zi M') ∧ True)) := by
  refine ZV.imp (k_2400  hN hB0 hZ.ia) ?_
  rintro r ⟨v, M1, q1, q2, q3, q4, q5⟩
  exact ⟨v, M1, q1, q2, q3, q4, ⟨hZ.fr (zi_fr q4.2) rfl, q5⟩⟩
theorem kk_2402 {X : List Int32} {d N : Nat} {M0 : zM} (a0 : Int32) (hN : N ≤ 600) (hB0 : zB N M0) (hZ : ZR (zi M0)) : ZV X (d + 9) 2402 [.ref 386, .int a0] M0 (zRI N [(416, 418, 1000), (434, 437, 1000), (386, 387, 70), (386, 387, 71), (386, 387, 72), (386, 387, 74)] M0 (-2147483648) (2147483647) (fun _ M' => ZR (zi M') ∧ True)) := by
  refine ZV.imp (u_2402 a0 hN hB0 (v_2402 hZ.ia)) ?_
  rintro r ⟨v, M1, q1, q2, q3, q4, q5⟩
  exact ⟨v, M1, q1, q2, q3, q4, ⟨hZ.fr (zi_fr q4.2) rfl, trivial⟩⟩
theorem kk_2405 {X : List Int32} {d N : Nat} {M0 : zM} (a0 : Int32) (hN : N ≤ 600) (hB0 : zB N M0) (hZ : ZR (zi M0)) : ZV X (d + 10) 2405 [.ref 386, .int a0] M0 (zRI N [(416, 418, 1000), (434, 436, 1000), (386, 387, 70), (386, 387, 71), (386, 387, 72), (386, 387, 74), (386, 387, 77)] M0 (-2147483648) (2147483647) (fun _ M' => ZR (zi M') ∧ True)) := by
  refine ZV.imp (u_2405 a0 hN hB0 (v_2405 hZ (BX_zB hB0))) ?_
  rintro r ⟨v, M1, q1, q2, q3, q4, q5⟩
  exact ⟨v, M1, q1, q2, q3, q4, ⟨hZ.fr (zi_fr q4.2) rfl, trivial⟩⟩
theorem kk_2407 {X : List Int32} {d N : Nat} {M0 : zM}  (hN : N ≤ 600) (hB0 : zB N M0) (hZ : ZR (zi M0)) : ZV X (d + 10) 2407 [.ref 386] M0 (zRI N [(415, 433, 1000), (434, 436, 1000), (386, 387, 64), (386, 387, 65), (386, 387, 70), (386, 387, 71), (386, 387, 72), (386, 387, 74), (386, 387, 77)] M0 (-2147483648) (2147483647) (fun _ M' => ZR (zi M') ∧ True)) := by
  refine ZV.imp (u_2407  hN hB0 (v_2407 hZ (BX_zB hB0))) ?_
  rintro r ⟨v, M1, q1, q2, q3, q4, q5⟩
  exact ⟨v, M1, q1, q2, q3, q4, ⟨q5, trivial⟩⟩
theorem kk_2408 {X : List Int32} {d N : Nat} {M0 : zM} (a0 : Int32) (hN : N ≤ 600) (hB0 : zB N M0) (hZ : ZR (zi M0)) : ZV X (d + 10) 2408 [.ref 386, .int a0] M0 (zRI N [(416, 418, 1000), (434, 436, 1000), (386, 387, 70), (386, 387, 71), (386, 387, 74)] M0 (-2147483648) (2147483647) (fun _ M' => ZR (zi M') ∧ True)) := by
  refine ZV.imp (k_2408 a0 hN hB0 hZ.ia) ?_
  rintro r ⟨v, M1, q1, q2, q3, q4, q5⟩
  exact ⟨v, M1, q1, q2, q3, q4, ⟨hZ.fr (zi_fr q4.2) rfl, q5⟩⟩
theorem kk_2410 {X : List Int32} {d N : Nat} {M0 : zM}  (hN : N ≤ 600) (hB0 : zB N M0) (hZ : ZR (zi M0)) : ZV X (d + 2) 2410 [.ref 386] M0 (zRI N [(386, 387, 1), (415, 416, 1000), (433, 434, 1000), (386, 387, 68)] M0 (0) (1) (fun v M' => ZR (zi M') ∧ (∃ w : Int32, zvl M' (386) 1 = some (.int w) ∧ (w.toInt = 0) ∧ True))) := by
  refine ZV.imp (k_2410  hN hB0) ?_
  rintro r ⟨v, M1, q1, q2, q3, q4, q5⟩
  exact ⟨v, M1, q1, q2, q3, q4, ⟨hZ.fr (zi_fr q4.2) rfl, q5⟩⟩
theorem kk_2411 {X : List Int32} {d N : Nat} {M0 : zM} (a0 : Int32) (a1 : Int32) (hN : N ≤ 600) (hB0 : zB N M0) (hZ : ZR (zi M0)) : ZV X (d + 10) 2411 [.ref 386, .int a0, .int a1] M0 (zRI N [(416, 418, 1000), (434, 436, 1000), (386, 387, 70), (386, 387, 71), (386, 387, 72), (386, 387, 74)] M0 (-2147483648) (2147483647) (fun _ M' => ZR (zi M') ∧ True)) := by
  refine ZV.imp (u_2411 a0 a1 hN hB0 (v_2411 hZ)) ?_
  rintro r ⟨v, M1, q1, q2, q3, q4, q5⟩
  exact ⟨v, M1, q1, q2, q3, q4, ⟨q5, trivial⟩⟩
theorem kk_2414 {X : List Int32} {d N : Nat} {M0 : zM} (a0 : Int32) (a1 : Int32) (hN : N ≤ 600) (hB0 : zB N M0) (hZ : ZR (zi M0)) : ZV X (d + 4) 2414 [.ref 386, .int a0, .int a1] M0 (zRI N [(437, 439, 1000)] M0 (-1) (2147483647) (fun _ M' => ZR (zi M') ∧ True)) := by
  refine ZV.imp (u_2414 a0 a1 hN hB0 v_2414) ?_
  rintro r ⟨v, M1, q1, q2, q3, q4, q5⟩
  exact ⟨v, M1, q1, q2, q3, q4, ⟨hZ.fr (zi_fr q4.2) rfl, trivial⟩⟩
theorem kk_2420 {X : List Int32} {d N : Nat} {M0 : zM} (a0 : Int32) (hN : N ≤ 600) (hB0 : zB N M0) (hZ : ZR (zi M0)) : ZV X (d + 2) 2420 [.ref 386, .int a0] M0 (zRI N [] M0 (-1) (4095) (fun _ M' => ZR (zi M') ∧ True)) := by
  refine ZV.imp (k_2420 a0 hN hB0) ?_
  rintro r ⟨v, M1, q1, q2, q3, q4, q5⟩
  exact ⟨v, M1, q1, q2, q3, q4, ⟨hZ.fr (zi_fr q4.2) rfl, q5⟩⟩
theorem kk_2421 {X : List Int32} {d N : Nat} {M0 : zM} (a0 : Int32) (a1 : Int32) (hN : N ≤ 600) (hB0 : zB N M0) (hZ : ZR (zi M0)) : ZV X (d + 2) 2421 [.ref 386, .int a0, .int a1] M0 (zRI N [] M0 (-2147483648) (2147483647) (fun _ M' => ZR (zi M') ∧ True)) := by
  refine ZV.imp (k_2421 a0 a1 hN hB0) ?_
  rintro r ⟨v, M1, q1, q2, q3, q4, q5⟩
  exact ⟨v, M1, q1, q2, q3, q4, ⟨hZ.fr (zi_fr q4.2) rfl, q5⟩⟩
theorem kk_2422 {X : List Int32} {d N : Nat} {M0 : zM} (a0 : Int32) (a1 : Int32) (a2 : Int32) (hN : N ≤ 600) (hB0 : zB N M0) (hZ : ZR (zi M0)) : ZV X (d + 10) 2422 [.ref 386, .int a0, .int a1, .int a2] M0 (zRI N [(416, 433, 1000), (434, 436, 1000), (386, 387, 66), (386, 387, 70), (386, 387, 71), (386, 387, 72), (386, 387, 74), (386, 387, 75)] M0 (-2147483648) (2147483647) (fun _ M' => ZR (zi M') ∧ True)) := by
  refine ZV.imp (u_2422 a0 a1 a2 hN hB0 (v_2422 hZ (BX_zB hB0))) ?_
  rintro r ⟨v, M1, q1, q2, q3, q4, q5⟩
  exact ⟨v, M1, q1, q2, q3, q4, ⟨q5, trivial⟩⟩
theorem kk_2423 {X : List Int32} {d N : Nat} {M0 : zM}  (hN : N ≤ 600) (hB0 : zB N M0) (hZ : ZR (zi M0)) : ZV X (d + 2) 2423 [.ref 386] M0 (zRI N [(439, 440, 1000), (386, 387, 81)] M0 (1) (198) (fun _ M' => ZR (zi M') ∧ True)) := by
  refine ZV.imp (k_2423  hN hB0) ?_
  rintro r ⟨v, M1, q1, q2, q3, q4, q5⟩
  exact ⟨v, M1, q1, q2, q3, q4, ⟨hZ.fr (zi_fr q4.2) rfl, q5⟩⟩
theorem kk_2425 {X : List Int32} {d N : Nat} {M0 : zM} (a0 : Int32) (hN : N ≤ 600) (hB0 : zB N M0) (hZ : ZR (zi M0)) : ZV X (d + 2) 2425 [.ref 386, .int a0] M0 (zRI N [] M0 (-1) (255) (fun _ M' => ZR (zi M') ∧ True)) := by
  refine ZV.imp (k_2425 a0 hN hB0) ?_
  rintro r ⟨v, M1, q1, q2, q3, q4, q5⟩
  exact ⟨v, M1, q1, q2, q3, q4, ⟨hZ.fr (zi_fr q4.2) rfl, q5⟩⟩
theorem kk_2426 {X : List Int32} {d N : Nat} {M0 : zM}  (hN : N ≤ 600) (hB0 : zB N M0) (hZ : ZR (zi M0)) : ZV X (d + 4) 2426 [.ref 386] M0 (zRI N [(386, 387, 1), (415, 416, 1000), (418, 432, 1000), (386, 387, 65), (386, 387, 68)] M0 (0) (1) (fun v M' => ZR (zi M') ∧ (∃ w : Int32, zvl M' (386) 1 = some (.int w) ∧ (w.toInt = 0) ∧ True))) := by
  refine ZV.imp (u_2426  hN hB0 (v_2426 hZ (BX_zB hB0) (fun k => (zi_u hB0 zu_387 (by decide) k).1))) ?_
  rintro r ⟨v, M1, q1, q2, q3, q4, q5⟩
  exact ⟨v, M1, q1, q2, q3, q4, ⟨q5.1, ztap0 q4.1 q5.2⟩⟩
theorem kk_2344 {X : List Int32} {d N : Nat} {M0 : zM} (a0 : Int32) (hN : N ≤ 600) (hB0 : zB N M0) (hZ : ZR (zi M0)) : ZV X (d + 2) 2344 [.ref 386, .int a0] M0 (zRI N [] M0 (-2147483648) (2147483647) (fun _ M' => ZR (zi M') ∧ True)) := by
  refine ZV.imp (k_2344 a0 hN hB0) ?_
  rintro r ⟨v, M1, q1, q2, q3, q4, q5⟩
  exact ⟨v, M1, q1, q2, q3, q4, ⟨hZ.fr (zi_fr q4.2) rfl, q5⟩⟩
