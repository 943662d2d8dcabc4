/-! the ops, one after another: both sides end, the box goes on, the tape is as long on both (wip/safe/mkend.py) -/
theorem zbl_b (x : Int32) : 0 ≤ (zbl true x).toInt ∧ (zbl true x).toInt ≤ 1 := by
  unfold zbl
  rw [if_pos rfl]
  split
  · exact ⟨by decide, by decide⟩
  · exact ⟨by decide, by decide⟩
def zInv (q : Nat) (M : zM) : Prop := zB q M ∧ ZR (zi M) ∧ CI (zi M) ∧ XI (zi M) ∧ ∃ L : Int32, 0 ≤ L.toInt ∧ L.toInt ≤ 1600 ∧ zvl M 0 1 = some (.int L) ∧ zvl M 386 1 = some (.int L)
theorem op_0 {X : List Int32} {q : Nat} {M : zM} (a : Nat → Int32) (hq : q ≤ 520) (hI : zInv q M) : ∃ M2, zOpOK X 100 0 a M M2 ∧ zInv (q + 1) M2 := by
  obtain ⟨hB, hZ, hC, hX, L, hL0, hL1, h0, h1⟩ := hI
  have hB1 := zB_mono hB (Nat.le_add_right q 1)
  have y0 := ziE h0
  have y1 := ziE h1
  obtain ⟨r1, c1, v, M1, rfl, -, -, hJ1, hP1⟩ := u_2049 (X := X) (d := 98) (N := q + 1) (zbl false (a 1)) (zbl false (a 2)) (zbl false (a 3)) (zbl false (a 4)) (zbl false (a 5)) (by omega) hB1 v_2049
  have F1 := zi_fr hJ1.2
  have hC1 : CI (zi M1) := hC.fr F1 (by decide +kernel)
  have hZ1 : ZR (zi M1) := hZ.fr F1 rfl
  obtain ⟨r2, c2, w, M2, rfl, -, -, hJ2, hP2⟩ := u_2305 (X := X) (d := 98) (N := q + 1) (zbl false (a 1)) (zbl false (a 2)) (zbl false (a 3)) (zbl false (a 4)) (zbl false (a 5)) (by omega) hJ1.1 v_2305
  have F2 := zi_fr hJ2.2
  have hZ2 : ZR (zi M2) := hZ1.fr F2 rfl
  have x1 : XS (zi M) (zi M1) := XS_fr F1 (by decide +kernel)
  have x2 : XS (zi M1) (zi M2) := XS_fr F2 (by decide +kernel)
  have f1 : zi M1 386 1 = zi M 386 1 := F1.s (by decide +kernel)
  have f2 : zi M1 387 = zi M 387 := F1.a (by decide +kernel)
  have f3 : zi M2 1 = zi M1 1 := F2.a (by decide +kernel)
  have f4 : zi M2 0 1 = zi M1 0 1 := F2.s (by decide +kernel)
  have hT := hX.1
  have hL : zi M 0 1 = zi M 386 1 := hT.1
  obtain ⟨w0, e2, b1, b2⟩ := zB_int hJ2.1 zs_0 (by decide) zo_0_1
  obtain ⟨w1, g2, -, -⟩ := zB_int hJ2.1 zs_386 (by decide) zo_386_1
  have z0 := ziE e2
  have z1 := ziE g2
  have key : TPE (zi M2) ∧ (zi M2 0 1 = zi M2 386 1) ∧ 0 ≤ zi M2 0 1 ∧ v.toInt = w.toInt := by
    rcases hP1 with ⟨p1, p2, p3⟩ | ⟨p1, p2, p3, p4⟩
    · rcases hP2 with ⟨q1, q2, q3⟩ | ⟨q1, q2, q3, q4⟩
      · have t := TPE_feed hT p2 f2 f1 q2 f3 f4
        exact ⟨t, t.1, t.2.1, by omega⟩
      · exfalso
        omega
    · rcases hP2 with ⟨q1, q2, q3⟩ | ⟨q1, q2, q3, q4⟩
      · exfalso
        omega
      · refine ⟨⟨by omega, by omega, fun k hk => ?_⟩, by omega, by omega, by omega⟩
        rw [f3, p2, q2, f2]
        exact hT.2.2 k (by omega)
  obtain ⟨tp, k1, k2, k3⟩ := key
  have hX2 : XI (zi M2) := hX.of1 hC.two (x1.trans x2) tp
  have eL : w1 = w0 := Int32.toInt_inj.mp (by omega)
  rw [eL] at g2
  refine ⟨M2, ?_, hJ2.1, hZ2, hC1.fr F2 (by decide +kernel), hX2, w0, by omega, by omega, e2, g2⟩
  intro jc jm sp h
  have h' : some (2049, 2305, [(1, false), (2, false), (3, false), (4, false), (5, false)]) = some (jc, jm, sp) := h
  cases h'
  obtain ⟨vs, s1, s2, s3⟩ := zSh_get hJ1.1.1 zs_386
  exact ⟨v, w, M1, fun h => absurd h (by decide), by rw [s3]; rfl, c1, c2⟩
theorem op_1 {X : List Int32} {q : Nat} {M : zM} (a : Nat → Int32) (hq : q ≤ 520) (hI : zInv q M) : ∃ M2, zOpOK X 100 1 a M M2 ∧ zInv (q + 1) M2 := by
  obtain ⟨hB, hZ, hC, hX, L, hL0, hL1, h0, h1⟩ := hI
  have hB1 := zB_mono hB (Nat.le_add_right q 1)
  obtain ⟨r1, c1, v, M1, rfl, -, -, hJ1, hP1⟩ := k_2052 (X := X) (d := 98) (N := q + 1) (zbl false (a 1)) L h0 (by omega) (by omega) (by omega) hB1
  have hC1 : CI (zi M1) := hC.fr (zi_fr hJ1.2) (by decide +kernel)
  have g1 : zvl M1 386 1 = some (.int L) := (hJ1.2 386 1 (zNI (by decide) (zNI (by decide) zNI_nil))).trans h1
  obtain ⟨w0, e0, ew0, -⟩ := hP1
  have hZ1 : ZR (zi M1) := hZ.fr (zi_fr hJ1.2) rfl
  obtain ⟨r2, c2, w, M2, rfl, -, -, hJ2, hZ2, hP2⟩ := kk_2308 (X := X) (d := 98) (N := q + 1) (zbl false (a 1)) L g1 (by omega) (by omega) (by omega) hJ1.1 hZ1
  have e2 := (hJ2.2 0 1 (zNI (by decide) (zNI (by decide) zNI_nil))).trans e0
  obtain ⟨w1, g2, ew1, -⟩ := hP2
  have eL : w1 = w0 := Int32.toInt_inj.mp (by omega)
  rw [eL] at g2
  have x1 : XS (zi M) (zi M1) := XS_fr (zi_fr hJ1.2) (by decide +kernel)
  have x2 : XS (zi M1) (zi M2) := XS_fr (zi_fr hJ2.2) (by decide +kernel)
  have y0 := ziE e2
  have y1 := ziE g2
  have y2 := ziE h0
  have hX2 : XI (zi M2) := hX.of hC.two (x1.trans x2) (((zi_fr hJ2.2).a (by decide +kernel)).trans ((zi_fr hJ1.2).a (by decide +kernel))) (((zi_fr hJ2.2).a (by decide +kernel)).trans ((zi_fr hJ1.2).a (by decide +kernel))) (by omega) (by omega) (by omega)
  refine ⟨M2, ?_, hJ2.1, hZ2, hC1.fr (zi_fr hJ2.2) (by decide +kernel), hX2, w0, by omega, by omega, e2, g2⟩
  intro jc jm sp h
  have h' : some (2052, 2308, [(1, false)]) = some (jc, jm, sp) := h
  cases h'
  obtain ⟨vs, s1, s2, s3⟩ := zSh_get hJ1.1.1 zs_386
  exact ⟨v, w, M1, fun h => absurd h (by decide), by rw [s3]; rfl, c1, c2⟩
theorem op_2 {X : List Int32} {q : Nat} {M : zM} (a : Nat → Int32) (hq : q ≤ 520) (hI : zInv q M) : ∃ M2, zOpOK X 100 2 a M M2 ∧ zInv (q + 1) M2 := by
  obtain ⟨hB, hZ, hC, hX, L, hL0, hL1, h0, h1⟩ := hI
  have hB1 := zB_mono hB (Nat.le_add_right q 1)
  have y0 := ziE h0
  have y1 := ziE h1
  obtain ⟨r1, c1, v, M1, rfl, -, -, hJ1, hP1⟩ := u_2053 (X := X) (d := 76) (N := q + 1) (by omega) hB1 (v_2053 hC hX.2.1)
  have F1 := zi_fr hJ1.2
  obtain ⟨⟨hC1, hl0⟩, t, P, e, tk, dc⟩ := hP1
  have hZ1 : ZR (zi M1) := hZ.fr F1 rfl
  have f1 : zi M1 386 1 = zi M 386 1 := F1.s (by decide +kernel)
  have f2 : zi M1 387 = zi M 387 := F1.a (by decide +kernel)
  have hT := hX.1
  have hL : zi M 0 1 = zi M 386 1 := hT.1
  have tk1 : Toks (zi M1 387) (zi M1 386 1).toNat t.1 t.2.1 t.2.2 P e := by
    rw [f1, ← hL, f2]
    exact Toks_ext (fun k hk => (hT.2.2 k (by omega)).symm) tk
  obtain ⟨r2, c2, w, M2, rfl, -, -, hJ2, hP2⟩ := u_2309 (X := X) (d := 92) (N := q + 1) (by omega) hJ1.1 (cj_2309 (cj_2309 (v_2309 hZ1 (BX_zB hJ1.1) (zi_s hJ1.1 zs_386 (by decide) zo_386_1)) (w_2309 (by omega) tk1)) w9_2309)
  obtain ⟨⟨⟨hz, hl1⟩, rf⟩, k9⟩ := hP2
  have F2 := zi_fr hJ2.2
  have hZ2 : ZR (zi M2) := hz (BX_zB hJ2.1)
  have f4 : zi M2 0 1 = zi M1 0 1 := F2.s (by decide +kernel)
  obtain ⟨w0, e2, b1, b2⟩ := zB_int hJ2.1 zs_0 (by decide) zo_0_1
  obtain ⟨w1, g2, -, -⟩ := zB_int hJ2.1 zs_386 (by decide) zo_386_1
  have z0 := ziE e2
  have z1 := ziE g2
  have hbk := zi_s hB1 zs_386 (by decide) zo_386_12
  obtain ⟨ke, hX2⟩ := XI_dorm hX hC.two hC1.two tk dc rf k9 ⟨F1.s (by decide +kernel), F1.a (by decide +kernel), F1.a (by decide +kernel), F1.a (by decide +kernel), F1.a (by decide +kernel), F1.a (by decide +kernel), F1.a (by decide +kernel), F1.a (by decide +kernel)⟩ ⟨F2.s (by decide +kernel), F2.s (by decide +kernel), F2.s (by decide +kernel), ⟨F2.a (by decide +kernel), F2.a (by decide +kernel)⟩, ⟨F2.a (by decide +kernel), F2.a (by decide +kernel), F2.a (by decide +kernel), F2.a (by decide +kernel)⟩, F2.a (by decide +kernel), F2.a (by decide +kernel), F2.a (by decide +kernel)⟩ (by omega) hl1 hbk.1 (fun k => (zi_u hB1 zu_388 (by decide) k).2) (fun k => (zi_u hB1 zu_396 (by decide) k).2)
  have eL : w1 = w0 := Int32.toInt_inj.mp (by omega)
  rw [eL] at g2
  refine ⟨M2, ?_, hJ2.1, hZ2, hC1.fr F2 (by decide +kernel), hX2, w0, by omega, by omega, e2, g2⟩
  intro jc jm sp h
  have h' : some (2053, 2309, []) = some (jc, jm, sp) := h
  cases h'
  obtain ⟨vs, s1, s2, s3⟩ := zSh_get hJ1.1.1 zs_386
  exact ⟨v, w, M1, fun h => absurd h (by decide), by rw [s3]; rfl, c1, c2⟩
theorem op_3 {X : List Int32} {q : Nat} {M : zM} (a : Nat → Int32) (hq : q ≤ 520) (hI : zInv q M) : ∃ M2, zOpOK X 100 3 a M M2 ∧ zInv (q + 1) M2 := by
  obtain ⟨hB, hZ, hC, hX, L, hL0, hL1, h0, h1⟩ := hI
  have hB1 := zB_mono hB (Nat.le_add_right q 1)
  obtain ⟨r1, c1, v, M1, rfl, -, -, hJ1, hP1⟩ := k_2054 (X := X) (d := 99) (N := q + 1) (zbl false (a 1)) (by omega) hB1
  have hC1 : CI (zi M1) := hC.fr (zi_fr hJ1.2) (by decide +kernel)
  have g1 : zvl M1 386 1 = some (.int L) := (hJ1.2 386 1 zNI_nil).trans h1
  have e0 : zvl M1 0 1 = some (.int L) := (hJ1.2 0 1 zNI_nil).trans h0
  have hZ1 : ZR (zi M1) := hZ.fr (zi_fr hJ1.2) rfl
  obtain ⟨r2, c2, w, M2, rfl, -, -, hJ2, hZ2, hP2⟩ := kk_2343 (X := X) (d := 99) (N := q + 1) (zbl false (a 1)) (by omega) hJ1.1 hZ1
  have e2 := (hJ2.2 0 1 zNI_nil).trans e0
  have g2 : zvl M2 386 1 = some (.int L) := (hJ2.2 386 1 zNI_nil).trans g1
  have x1 : XS (zi M) (zi M1) := XS_fr (zi_fr hJ1.2) (by decide +kernel)
  have x2 : XS (zi M1) (zi M2) := XS_fr (zi_fr hJ2.2) (by decide +kernel)
  have y0 := ziE e2
  have y1 := ziE g2
  have y2 := ziE h0
  have hX2 : XI (zi M2) := hX.of hC.two (x1.trans x2) (((zi_fr hJ2.2).a (by decide +kernel)).trans ((zi_fr hJ1.2).a (by decide +kernel))) (((zi_fr hJ2.2).a (by decide +kernel)).trans ((zi_fr hJ1.2).a (by decide +kernel))) (by omega) (by omega) (by omega)
  refine ⟨M2, ?_, hJ2.1, hZ2, hC1.fr (zi_fr hJ2.2) (by decide +kernel), hX2, L, by omega, by omega, e2, g2⟩
  intro jc jm sp h
  have h' : some (2054, 2343, [(1, false)]) = some (jc, jm, sp) := h
  cases h'
  obtain ⟨vs, s1, s2, s3⟩ := zSh_get hJ1.1.1 zs_386
  exact ⟨v, w, M1, fun h => absurd h (by decide), by rw [s3]; rfl, c1, c2⟩
theorem op_4 {X : List Int32} {q : Nat} {M : zM} (a : Nat → Int32) (hq : q ≤ 520) (hI : zInv q M) : ∃ M2, zOpOK X 100 4 a M M2 ∧ zInv (q + 1) M2 := by
  obtain ⟨hB, hZ, hC, hX, L, hL0, hL1, h0, h1⟩ := hI
  have hB1 := zB_mono hB (Nat.le_add_right q 1)
  obtain ⟨r1, c1, v, M1, rfl, -, -, hJ1, hP1⟩ := k_2055 (X := X) (d := 98) (N := q + 1) (zbl false (a 1)) (by omega) hB1
  have hC1 : CI (zi M1) := hC.fr (zi_fr hJ1.2) (by decide +kernel)
  have g1 : zvl M1 386 1 = some (.int L) := (hJ1.2 386 1 zNI_nil).trans h1
  have e0 : zvl M1 0 1 = some (.int L) := (hJ1.2 0 1 zNI_nil).trans h0
  have hZ1 : ZR (zi M1) := hZ.fr (zi_fr hJ1.2) rfl
  obtain ⟨r2, c2, w, M2, rfl, -, -, hJ2, hZ2, hP2⟩ := kk_2348 (X := X) (d := 97) (N := q + 1) (zbl false (a 1)) (by omega) hJ1.1 hZ1
  have e2 := (hJ2.2 0 1 zNI_nil).trans e0
  have g2 : zvl M2 386 1 = some (.int L) := (hJ2.2 386 1 zNI_nil).trans g1
  have x1 : XS (zi M) (zi M1) := XS_fr (zi_fr hJ1.2) (by decide +kernel)
  have x2 : XS (zi M1) (zi M2) := XS_fr (zi_fr hJ2.2) (by decide +kernel)
  have y0 := ziE e2
  have y1 := ziE g2
  have y2 := ziE h0
  have hX2 : XI (zi M2) := hX.of hC.two (x1.trans x2) (((zi_fr hJ2.2).a (by decide +kernel)).trans ((zi_fr hJ1.2).a (by decide +kernel))) (((zi_fr hJ2.2).a (by decide +kernel)).trans ((zi_fr hJ1.2).a (by decide +kernel))) (by omega) (by omega) (by omega)
  refine ⟨M2, ?_, hJ2.1, hZ2, hC1.fr (zi_fr hJ2.2) (by decide +kernel), hX2, L, by omega, by omega, e2, g2⟩
  intro jc jm sp h
  have h' : some (2055, 2348, [(1, false)]) = some (jc, jm, sp) := h
  cases h'
  obtain ⟨vs, s1, s2, s3⟩ := zSh_get hJ1.1.1 zs_386
  exact ⟨v, w, M1, fun h => absurd h (by decide), by rw [s3]; rfl, c1, c2⟩
theorem op_5 {X : List Int32} {q : Nat} {M : zM} (a : Nat → Int32) (hq : q ≤ 520) (hI : zInv q M) : ∃ M2, zOpOK X 100 5 a M M2 ∧ zInv (q + 1) M2 := by
  obtain ⟨hB, hZ, hC, hX, L, hL0, hL1, h0, h1⟩ := hI
  have hB1 := zB_mono hB (Nat.le_add_right q 1)
  have y0 := ziE h0
  have y1 := ziE h1
  have hBAL := hX.2.2.2.1
  have hCN := hC.2.1
  obtain ⟨r1, c1, v, M1, rfl, -, -, hJ1, hP1⟩ := u_2059 (X := X) (d := 98) (N := q + 1) (zbl false (a 1)) (zbl false (a 2)) (zbl false (a 3)) (by omega) hB1 (v_2059 (by have := hC.1; omega))
  have F1 := zi_fr hJ1.2
  have hZ1 : ZR (zi M1) := hZ.fr F1 rfl
  have hC1 : CI (zi M1) := hC.fr F1 (by decide +kernel)
  have n1 : zi M1 388 (zi M1 386 12).toNat = zi M 49 0 := by
    rw [F1.a (by decide +kernel), F1.s (by decide +kernel), hCN, hBAL]
  have f1 : zi M1 386 1 = zi M 386 1 := F1.s (by decide +kernel)
  have g10 : zi M1 386 10 = zi M 386 10 := F1.s (by decide +kernel)
  have g11 : zi M1 386 11 = zi M 386 11 := F1.s (by decide +kernel)
  obtain ⟨r2, c2, w, M2, rfl, -, -, hJ2, hP2⟩ := u_2351 (X := X) (d := 98) (N := q + 1) (zbl false (a 1)) (zbl false (a 2)) (zbl false (a 3)) (by omega) hJ1.1 v_2351
  have F2 := zi_fr hJ2.2
  have hZ2 : ZR (zi M2) := hZ1.fr F2 rfl
  have l0 : zi M1 0 1 = zi M 0 1 := F1.s (by decide +kernel)
  have l1 : zi M2 386 1 = zi M1 386 1 := F2.s (by decide +kernel)
  have f4 : zi M2 0 1 = zi M1 0 1 := F2.s (by decide +kernel)
  obtain ⟨w0, e2, b1, b2⟩ := zB_int hJ2.1 zs_0 (by decide) zo_0_1
  obtain ⟨w1, g2, -, -⟩ := zB_int hJ2.1 zs_386 (by decide) zo_386_1
  have z0 := ziE e2
  have z1 := ziE g2
  have hL := hX.1.1
  have x1 : XS (zi M) (zi M1) := XS_fr F1 (by decide +kernel)
  have x2 : XS (zi M1) (zi M2) := XS_fr F2 (by decide +kernel)
  have hX2 : XI (zi M2) := hX.of hC.two (x1.trans x2) ((F2.a (by decide +kernel)).trans (F1.a (by decide +kernel))) ((F2.a (by decide +kernel)).trans (F1.a (by decide +kernel))) (by omega) (by omega) (by omega)
  have eL : w1 = w0 := Int32.toInt_inj.mp (by omega)
  rw [eL] at g2
  have ke : v.toInt = w.toInt := by
    have p2 := hP2
    rw [zFr_nl F1] at p2
    exact letter_eq hX hP1 p2
  refine ⟨M2, ?_, hJ2.1, hZ2, hC1.fr F2 (by decide +kernel), hX2, w0, by omega, by omega, e2, g2⟩
  intro jc jm sp h
  have h' : some (2059, 2351, [(1, false), (2, false), (3, false)]) = some (jc, jm, sp) := h
  cases h'
  obtain ⟨vs, s1, s2, s3⟩ := zSh_get hJ1.1.1 zs_386
  exact ⟨v, w, M1, fun _ => Int32.toInt_inj.mp ke.symm, by rw [s3]; rfl, c1, c2⟩
theorem op_6 {X : List Int32} {q : Nat} {M : zM} (a : Nat → Int32) (hq : q ≤ 520) (hI : zInv q M) : ∃ M2, zOpOK X 100 6 a M M2 ∧ zInv (q + 1) M2 := by
  obtain ⟨hB, hZ, hC, hX, L, hL0, hL1, h0, h1⟩ := hI
  have hB1 := zB_mono hB (Nat.le_add_right q 1)
  obtain ⟨r1, c1, v, M1, rfl, -, -, hJ1, hP1⟩ := k_2063 (X := X) (d := 98) (N := q + 1) (zbl false (a 1)) (zbl false (a 2)) (by omega) hB1
  have hC1 : CI (zi M1) := hC.fr (zi_fr hJ1.2) (by decide +kernel)
  have g1 : zvl M1 386 1 = some (.int L) := (hJ1.2 386 1 zNI_nil).trans h1
  have e0 : zvl M1 0 1 = some (.int L) := (hJ1.2 0 1 zNI_nil).trans h0
  have hZ1 : ZR (zi M1) := hZ.fr (zi_fr hJ1.2) rfl
  obtain ⟨r2, c2, w, M2, rfl, -, -, hJ2, hZ2, hP2⟩ := kk_2352 (X := X) (d := 97) (N := q + 1) (zbl false (a 1)) (zbl false (a 2)) (by omega) hJ1.1 hZ1
  have e2 := (hJ2.2 0 1 zNI_nil).trans e0
  have g2 : zvl M2 386 1 = some (.int L) := (hJ2.2 386 1 zNI_nil).trans g1
  have x1 : XS (zi M) (zi M1) := XS_fr (zi_fr hJ1.2) (by decide +kernel)
  have x2 : XS (zi M1) (zi M2) := XS_fr (zi_fr hJ2.2) (by decide +kernel)
  have y0 := ziE e2
  have y1 := ziE g2
  have y2 := ziE h0
  have hX2 : XI (zi M2) := hX.of hC.two (x1.trans x2) (((zi_fr hJ2.2).a (by decide +kernel)).trans ((zi_fr hJ1.2).a (by decide +kernel))) (((zi_fr hJ2.2).a (by decide +kernel)).trans ((zi_fr hJ1.2).a (by decide +kernel))) (by omega) (by omega) (by omega)
  refine ⟨M2, ?_, hJ2.1, hZ2, hC1.fr (zi_fr hJ2.2) (by decide +kernel), hX2, L, by omega, by omega, e2, g2⟩
  intro jc jm sp h
  have h' : some (2063, 2352, [(1, false), (2, false)]) = some (jc, jm, sp) := h
  cases h'
  obtain ⟨vs, s1, s2, s3⟩ := zSh_get hJ1.1.1 zs_386
  exact ⟨v, w, M1, fun h => absurd h (by decide), by rw [s3]; rfl, c1, c2⟩
theorem op_7 {X : List Int32} {q : Nat} {M : zM} (a : Nat → Int32) (hq : q ≤ 520) (hI : zInv q M) : ∃ M2, zOpOK X 100 7 a M M2 ∧ zInv (q + 1) M2 := by
  obtain ⟨hB, hZ, hC, hX, L, hL0, hL1, h0, h1⟩ := hI
  have hB1 := zB_mono hB (Nat.le_add_right q 1)
  obtain ⟨r1, c1, v, M1, rfl, -, -, hJ1, hP1⟩ := k_2064 (X := X) (d := 98) (N := q + 1) (zbl false (a 1)) (by omega) hB1
  have hC1 : CI (zi M1) := hC.fr (zi_fr hJ1.2) (by decide +kernel)
  have g1 : zvl M1 386 1 = some (.int L) := (hJ1.2 386 1 zNI_nil).trans h1
  have e0 : zvl M1 0 1 = some (.int L) := (hJ1.2 0 1 zNI_nil).trans h0
  have hZ1 : ZR (zi M1) := hZ.fr (zi_fr hJ1.2) rfl
  obtain ⟨r2, c2, w, M2, rfl, -, -, hJ2, hZ2, hP2⟩ := kk_2355 (X := X) (d := 98) (N := q + 1) (zbl false (a 1)) (by omega) hJ1.1 hZ1
  have e2 := (hJ2.2 0 1 zNI_nil).trans e0
  have g2 : zvl M2 386 1 = some (.int L) := (hJ2.2 386 1 zNI_nil).trans g1
  have x1 : XS (zi M) (zi M1) := XS_fr (zi_fr hJ1.2) (by decide +kernel)
  have x2 : XS (zi M1) (zi M2) := XS_fr (zi_fr hJ2.2) (by decide +kernel)
  have y0 := ziE e2
  have y1 := ziE g2
  have y2 := ziE h0
  have hX2 : XI (zi M2) := hX.of hC.two (x1.trans x2) (((zi_fr hJ2.2).a (by decide +kernel)).trans ((zi_fr hJ1.2).a (by decide +kernel))) (((zi_fr hJ2.2).a (by decide +kernel)).trans ((zi_fr hJ1.2).a (by decide +kernel))) (by omega) (by omega) (by omega)
  refine ⟨M2, ?_, hJ2.1, hZ2, hC1.fr (zi_fr hJ2.2) (by decide +kernel), hX2, L, by omega, by omega, e2, g2⟩
  intro jc jm sp h
  have h' : some (2064, 2355, [(1, false)]) = some (jc, jm, sp) := h
  cases h'
  obtain ⟨vs, s1, s2, s3⟩ := zSh_get hJ1.1.1 zs_386
  exact ⟨v, w, M1, fun h => absurd h (by decide), by rw [s3]; rfl, c1, c2⟩
theorem op_8 {X : List Int32} {q : Nat} {M : zM} (a : Nat → Int32) (hq : q ≤ 520) (hI : zInv q M) : ∃ M2, zOpOK X 100 8 a M M2 ∧ zInv (q + 1) M2 := by
  obtain ⟨hB, hZ, hC, hX, L, hL0, hL1, h0, h1⟩ := hI
  have hB1 := zB_mono hB (Nat.le_add_right q 1)
  obtain ⟨r1, c1, v, M1, rfl, -, -, hJ1, hP1⟩ := k_2066 (X := X) (d := 98) (N := q + 1) (zbl false (a 1)) (zbl false (a 2)) (by omega) hB1
  have hC1 : CI (zi M1) := hC.fr (zi_fr hJ1.2) (by decide +kernel)
  have g1 : zvl M1 386 1 = some (.int L) := (hJ1.2 386 1 zNI_nil).trans h1
  have e0 : zvl M1 0 1 = some (.int L) := (hJ1.2 0 1 zNI_nil).trans h0
  have hZ1 : ZR (zi M1) := hZ.fr (zi_fr hJ1.2) rfl
  obtain ⟨r2, c2, w, M2, rfl, -, -, hJ2, hZ2, hP2⟩ := kk_2356 (X := X) (d := 97) (N := q + 1) (zbl false (a 1)) (zbl false (a 2)) (by omega) hJ1.1 hZ1
  have e2 := (hJ2.2 0 1 zNI_nil).trans e0
  have g2 : zvl M2 386 1 = some (.int L) := (hJ2.2 386 1 zNI_nil).trans g1
  have x1 : XS (zi M) (zi M1) := XS_fr (zi_fr hJ1.2) (by decide +kernel)
  have x2 : XS (zi M1) (zi M2) := XS_fr (zi_fr hJ2.2) (by decide +kernel)
  have y0 := ziE e2
  have y1 := ziE g2
  have y2 := ziE h0
  have hX2 : XI (zi M2) := hX.of hC.two (x1.trans x2) (((zi_fr hJ2.2).a (by decide +kernel)).trans ((zi_fr hJ1.2).a (by decide +kernel))) (((zi_fr hJ2.2).a (by decide +kernel)).trans ((zi_fr hJ1.2).a (by decide +kernel))) (by omega) (by omega) (by omega)
  refine ⟨M2, ?_, hJ2.1, hZ2, hC1.fr (zi_fr hJ2.2) (by decide +kernel), hX2, L, by omega, by omega, e2, g2⟩
  intro jc jm sp h
  have h' : some (2066, 2356, [(1, false), (2, false)]) = some (jc, jm, sp) := h
  cases h'
  obtain ⟨vs, s1, s2, s3⟩ := zSh_get hJ1.1.1 zs_386
  exact ⟨v, w, M1, fun h => absurd h (by decide), by rw [s3]; rfl, c1, c2⟩
theorem op_9 {X : List Int32} {q : Nat} {M : zM} (a : Nat → Int32) (hq : q ≤ 520) (hI : zInv q M) : ∃ M2, zOpOK X 100 9 a M M2 ∧ zInv (q + 1) M2 := by
  obtain ⟨hB, hZ, hC, hX, L, hL0, hL1, h0, h1⟩ := hI
  have hB1 := zB_mono hB (Nat.le_add_right q 1)
  obtain ⟨r1, c1, v, M1, rfl, -, -, hJ1, hP1⟩ := k_2069 (X := X) (d := 98) (N := q + 1) (zbl false (a 1)) (zbl false (a 2)) (by omega) hB1
  have hC1 : CI (zi M1) := hC.fr (zi_fr hJ1.2) (by decide +kernel)
  have g1 : zvl M1 386 1 = some (.int L) := (hJ1.2 386 1 zNI_nil).trans h1
  have e0 : zvl M1 0 1 = some (.int L) := (hJ1.2 0 1 zNI_nil).trans h0
  have hZ1 : ZR (zi M1) := hZ.fr (zi_fr hJ1.2) rfl
  obtain ⟨r2, c2, w, M2, rfl, -, -, hJ2, hZ2, hP2⟩ := kk_2359 (X := X) (d := 98) (N := q + 1) (zbl false (a 1)) (zbl false (a 2)) (by omega) hJ1.1 hZ1
  have e2 := (hJ2.2 0 1 zNI_nil).trans e0
  have g2 : zvl M2 386 1 = some (.int L) := (hJ2.2 386 1 zNI_nil).trans g1
  have x1 : XS (zi M) (zi M1) := XS_fr (zi_fr hJ1.2) (by decide +kernel)
  have x2 : XS (zi M1) (zi M2) := XS_fr (zi_fr hJ2.2) (by decide +kernel)
  have y0 := ziE e2
  have y1 := ziE g2
  have y2 := ziE h0
  have hX2 : XI (zi M2) := hX.of hC.two (x1.trans x2) (((zi_fr hJ2.2).a (by decide +kernel)).trans ((zi_fr hJ1.2).a (by decide +kernel))) (((zi_fr hJ2.2).a (by decide +kernel)).trans ((zi_fr hJ1.2).a (by decide +kernel))) (by omega) (by omega) (by omega)
  refine ⟨M2, ?_, hJ2.1, hZ2, hC1.fr (zi_fr hJ2.2) (by decide +kernel), hX2, L, by omega, by omega, e2, g2⟩
  intro jc jm sp h
  have h' : some (2069, 2359, [(1, false), (2, false)]) = some (jc, jm, sp) := h
  cases h'
  obtain ⟨vs, s1, s2, s3⟩ := zSh_get hJ1.1.1 zs_386
  exact ⟨v, w, M1, fun h => absurd h (by decide), by rw [s3]; rfl, c1, c2⟩
theorem op_10 {X : List Int32} {q : Nat} {M : zM} (a : Nat → Int32) (hq : q ≤ 520) (hI : zInv q M) : ∃ M2, zOpOK X 100 10 a M M2 ∧ zInv (q + 1) M2 := by
  obtain ⟨hB, hZ, hC, hX, L, hL0, hL1, h0, h1⟩ := hI
  have hB1 := zB_mono hB (Nat.le_add_right q 1)
  obtain ⟨r1, c1, v, M1, rfl, -, -, hJ1, hP1⟩ := k_2070 (X := X) (d := 97) (N := q + 1) (zbl false (a 1)) (zbl false (a 2)) (by omega) hB1
  have hC1 : CI (zi M1) := hC.fr (zi_fr hJ1.2) (by decide +kernel)
  have g1 : zvl M1 386 1 = some (.int L) := (hJ1.2 386 1 zNI_nil).trans h1
  have e0 : zvl M1 0 1 = some (.int L) := (hJ1.2 0 1 zNI_nil).trans h0
  have hZ1 : ZR (zi M1) := hZ.fr (zi_fr hJ1.2) rfl
  obtain ⟨r2, c2, w, M2, rfl, -, -, hJ2, hZ2, hP2⟩ := kk_2361 (X := X) (d := 98) (N := q + 1) (zbl false (a 1)) (zbl false (a 2)) (by omega) hJ1.1 hZ1
  have e2 := (hJ2.2 0 1 zNI_nil).trans e0
  have g2 : zvl M2 386 1 = some (.int L) := (hJ2.2 386 1 zNI_nil).trans g1
  have x1 : XS (zi M) (zi M1) := XS_fr (zi_fr hJ1.2) (by decide +kernel)
  have x2 : XS (zi M1) (zi M2) := XS_fr (zi_fr hJ2.2) (by decide +kernel)
  have y0 := ziE e2
  have y1 := ziE g2
  have y2 := ziE h0
  have hX2 : XI (zi M2) := hX.of hC.two (x1.trans x2) (((zi_fr hJ2.2).a (by decide +kernel)).trans ((zi_fr hJ1.2).a (by decide +kernel))) (((zi_fr hJ2.2).a (by decide +kernel)).trans ((zi_fr hJ1.2).a (by decide +kernel))) (by omega) (by omega) (by omega)
  refine ⟨M2, ?_, hJ2.1, hZ2, hC1.fr (zi_fr hJ2.2) (by decide +kernel), hX2, L, by omega, by omega, e2, g2⟩
  intro jc jm sp h
  have h' : some (2070, 2361, [(1, false), (2, false)]) = some (jc, jm, sp) := h
  cases h'
  obtain ⟨vs, s1, s2, s3⟩ := zSh_get hJ1.1.1 zs_386
  exact ⟨v, w, M1, fun h => absurd h (by decide), by rw [s3]; rfl, c1, c2⟩
theorem op_11 {X : List Int32} {q : Nat} {M : zM} (a : Nat → Int32) (hq : q ≤ 520) (hI : zInv q M) : ∃ M2, zOpOK X 100 11 a M M2 ∧ zInv (q + 1) M2 := by
  obtain ⟨hB, hZ, hC, hX, L, hL0, hL1, h0, h1⟩ := hI
  have hB1 := zB_mono hB (Nat.le_add_right q 1)
  obtain ⟨r1, c1, v, M1, rfl, -, -, hJ1, hP1⟩ := k_2071 (X := X) (d := 96) (N := q + 1) (zbl false (a 1)) (zbl false (a 2)) (zbl true (a 3)) (zbl_b _).1 (zbl_b _).2 (by omega) hB1
  have hC1 : CI (zi M1) := hC.fr (zi_fr hJ1.2) (by decide +kernel)
  have g1 : zvl M1 386 1 = some (.int L) := (hJ1.2 386 1 (zNI (by decide) (zNI (by decide) zNI_nil))).trans h1
  have e0 : zvl M1 0 1 = some (.int L) := (hJ1.2 0 1 (zNI (by decide) (zNI (by decide) zNI_nil))).trans h0
  have hZ1 : ZR (zi M1) := hZ.fr (zi_fr hJ1.2) rfl
  obtain ⟨r2, c2, w, M2, rfl, -, -, hJ2, hZ2, hP2⟩ := kk_2362 (X := X) (d := 94) (N := q + 1) (zbl false (a 1)) (zbl false (a 2)) (zbl true (a 3)) (zbl_b _).1 (zbl_b _).2 (by omega) hJ1.1 hZ1
  have e2 := (hJ2.2 0 1 (zNI (by decide) (zNI (by decide) (zNI (by decide) (zNI (by decide) (zNI (by decide) zNI_nil)))))).trans e0
  have g2 : zvl M2 386 1 = some (.int L) := (hJ2.2 386 1 (zNI (by decide) (zNI (by decide) (zNI_k (by decide) (by decide) (zNI_k (by decide) (by decide) (zNI_k (by decide) (by decide) zNI_nil)))))).trans g1
  have x1 : XS (zi M) (zi M1) := XS_fr (zi_fr hJ1.2) (by decide +kernel)
  have x2 : XS (zi M1) (zi M2) := XS_fr (zi_fr hJ2.2) (by decide +kernel)
  have y0 := ziE e2
  have y1 := ziE g2
  have y2 := ziE h0
  have hX2 : XI (zi M2) := hX.of hC.two (x1.trans x2) (((zi_fr hJ2.2).a (by decide +kernel)).trans ((zi_fr hJ1.2).a (by decide +kernel))) (((zi_fr hJ2.2).a (by decide +kernel)).trans ((zi_fr hJ1.2).a (by decide +kernel))) (by omega) (by omega) (by omega)
  refine ⟨M2, ?_, hJ2.1, hZ2, hC1.fr (zi_fr hJ2.2) (by decide +kernel), hX2, L, by omega, by omega, e2, g2⟩
  intro jc jm sp h
  have h' : some (2071, 2362, [(1, false), (2, false), (3, true)]) = some (jc, jm, sp) := h
  cases h'
  obtain ⟨vs, s1, s2, s3⟩ := zSh_get hJ1.1.1 zs_386
  exact ⟨v, w, M1, fun h => absurd h (by decide), by rw [s3]; rfl, c1, c2⟩
theorem op_12 {X : List Int32} {q : Nat} {M : zM} (a : Nat → Int32) (hq : q ≤ 520) (hI : zInv q M) : ∃ M2, zOpOK X 100 12 a M M2 ∧ zInv (q + 1) M2 := by
  obtain ⟨hB, hZ, hC, hX, L, hL0, hL1, h0, h1⟩ := hI
  have hB1 := zB_mono hB (Nat.le_add_right q 1)
  have hh := zi_s hB1 zs_77 (by decide) zo_77_0
  obtain ⟨tvc, ftc, htc, huc⟩ := zB_cnt hB (zs_49) (by decide) (zo_49_14)
  have htg := ziE ftc
  obtain ⟨r1, c1, v, M1, rfl, -, -, hJ1, hP1⟩ := u_2073 (X := X) (d := 92) (N := q + 1) (zbl false (a 1)) (by omega) hB1 (v_2073 hC hh.1 hh.2 (by omega))
  have hC1 : CI (zi M1) := hP1
  have g1 : zvl M1 386 1 = some (.int L) := (hJ1.2 386 1 (zNI (by decide) (zNI (by decide) (zNI (by decide) (zNI (by decide) (zNI (by decide) (zNI (by decide) (zNI (by decide) (zNI (by decide) (zNI (by decide) (zNI (by decide) (zNI (by decide) (zNI (by decide) (zNI (by decide) (zNI (by decide) (zNI (by decide) (zNI (by decide) (zNI (by decide) zNI_nil)))))))))))))))))).trans h1
  have e0 : zvl M1 0 1 = some (.int L) := (hJ1.2 0 1 (zNI (by decide) (zNI (by decide) (zNI (by decide) (zNI (by decide) (zNI (by decide) (zNI (by decide) (zNI (by decide) (zNI (by decide) (zNI (by decide) (zNI (by decide) (zNI (by decide) (zNI (by decide) (zNI (by decide) (zNI (by decide) (zNI (by decide) (zNI (by decide) (zNI_k (by decide) (by decide) zNI_nil)))))))))))))))))).trans h0
  have hZ1 : ZR (zi M1) := hZ.fr (zi_fr hJ1.2) rfl
  obtain ⟨r2, c2, w, M2, rfl, -, -, hJ2, hZ2, hP2⟩ := kk_2376 (X := X) (d := 90) (N := q + 1) (zbl false (a 1)) (by omega) hJ1.1 hZ1
  have e2 := (hJ2.2 0 1 (zNI (by decide) (zNI (by decide) (zNI (by decide) (zNI (by decide) (zNI (by decide) (zNI (by decide) (zNI (by decide) (zNI (by decide) (zNI (by decide) (zNI (by decide) zNI_nil))))))))))).trans e0
  have g2 : zvl M2 386 1 = some (.int L) := (hJ2.2 386 1 (zNI (by decide) (zNI (by decide) (zNI_k (by decide) (by decide) (zNI_k (by decide) (by decide) (zNI_k (by decide) (by decide) (zNI_k (by decide) (by decide) (zNI_k (by decide) (by decide) (zNI_k (by decide) (by decide) (zNI_k (by decide) (by decide) (zNI_k (by decide) (by decide) zNI_nil))))))))))).trans g1
  have x1 : XS (zi M) (zi M1) := XS_fr (zi_fr hJ1.2) (by decide +kernel)
  have x2 : XS (zi M1) (zi M2) := XS_fr (zi_fr hJ2.2) (by decide +kernel)
  have y0 := ziE e2
  have y1 := ziE g2
  have y2 := ziE h0
  have hX2 : XI (zi M2) := hX.of hC.two (x1.trans x2) (((zi_fr hJ2.2).a (by decide +kernel)).trans ((zi_fr hJ1.2).a (by decide +kernel))) (((zi_fr hJ2.2).a (by decide +kernel)).trans ((zi_fr hJ1.2).a (by decide +kernel))) (by omega) (by omega) (by omega)
  refine ⟨M2, ?_, hJ2.1, hZ2, hC1.fr (zi_fr hJ2.2) (by decide +kernel), hX2, L, by omega, by omega, e2, g2⟩
  intro jc jm sp h
  have h' : some (2073, 2376, [(1, false)]) = some (jc, jm, sp) := h
  cases h'
  obtain ⟨vs, s1, s2, s3⟩ := zSh_get hJ1.1.1 zs_386
  exact ⟨v, w, M1, fun h => absurd h (by decide), by rw [s3]; rfl, c1, c2⟩
theorem op_13 {X : List Int32} {q : Nat} {M : zM} (a : Nat → Int32) (hq : q ≤ 520) (hI : zInv q M) : ∃ M2, zOpOK X 100 13 a M M2 ∧ zInv (q + 1) M2 := by
  obtain ⟨hB, hZ, hC, hX, L, hL0, hL1, h0, h1⟩ := hI
  have hB1 := zB_mono hB (Nat.le_add_right q 1)
  have hh := zi_s hB1 zs_77 (by decide) zo_77_0
  obtain ⟨tvc, ftc, htc, huc⟩ := zB_cnt hB (zs_49) (by decide) (zo_49_14)
  have htg := ziE ftc
  obtain ⟨r1, c1, v, M1, rfl, -, -, hJ1, hP1⟩ := u_2075 (X := X) (d := 93) (N := q + 1) (zbl false (a 1)) (zbl false (a 2)) (by omega) hB1 (v_2075 hC hh.1 hh.2 (by omega))
  have hC1 : CI (zi M1) := hP1
  have g1 : zvl M1 386 1 = some (.int L) := (hJ1.2 386 1 (zNI (by decide) (zNI (by decide) (zNI (by decide) (zNI (by decide) (zNI (by decide) (zNI (by decide) (zNI (by decide) (zNI (by decide) (zNI (by decide) (zNI (by decide) (zNI (by decide) (zNI (by decide) (zNI (by decide) (zNI (by decide) (zNI (by decide) zNI_nil)))))))))))))))).trans h1
  have e0 : zvl M1 0 1 = some (.int L) := (hJ1.2 0 1 (zNI (by decide) (zNI (by decide) (zNI (by decide) (zNI (by decide) (zNI (by decide) (zNI (by decide) (zNI (by decide) (zNI (by decide) (zNI (by decide) (zNI (by decide) (zNI (by decide) (zNI (by decide) (zNI (by decide) (zNI (by decide) (zNI_k (by decide) (by decide) zNI_nil)))))))))))))))).trans h0
  have hZ1 : ZR (zi M1) := hZ.fr (zi_fr hJ1.2) rfl
  obtain ⟨r2, c2, w, M2, rfl, -, -, hJ2, hZ2, hP2⟩ := kk_2391 (X := X) (d := 91) (N := q + 1) (zbl false (a 1)) (zbl false (a 2)) (by omega) hJ1.1 hZ1
  have e2 := (hJ2.2 0 1 (zNI (by decide) (zNI (by decide) (zNI (by decide) (zNI (by decide) (zNI (by decide) (zNI (by decide) (zNI (by decide) (zNI (by decide) (zNI (by decide) zNI_nil)))))))))).trans e0
  have g2 : zvl M2 386 1 = some (.int L) := (hJ2.2 386 1 (zNI (by decide) (zNI (by decide) (zNI_k (by decide) (by decide) (zNI_k (by decide) (by decide) (zNI_k (by decide) (by decide) (zNI_k (by decide) (by decide) (zNI_k (by decide) (by decide) (zNI_k (by decide) (by decide) (zNI_k (by decide) (by decide) zNI_nil)))))))))).trans g1
  have x1 : XS (zi M) (zi M1) := XS_fr (zi_fr hJ1.2) (by decide +kernel)
  have x2 : XS (zi M1) (zi M2) := XS_fr (zi_fr hJ2.2) (by decide +kernel)
  have y0 := ziE e2
  have y1 := ziE g2
  have y2 := ziE h0
  have hX2 : XI (zi M2) := hX.of hC.two (x1.trans x2) (((zi_fr hJ2.2).a (by decide +kernel)).trans ((zi_fr hJ1.2).a (by decide +kernel))) (((zi_fr hJ2.2).a (by decide +kernel)).trans ((zi_fr hJ1.2).a (by decide +kernel))) (by omega) (by omega) (by omega)
  refine ⟨M2, ?_, hJ2.1, hZ2, hC1.fr (zi_fr hJ2.2) (by decide +kernel), hX2, L, by omega, by omega, e2, g2⟩
  intro jc jm sp h
  have h' : some (2075, 2391, [(1, false), (2, false)]) = some (jc, jm, sp) := h
  cases h'
  obtain ⟨vs, s1, s2, s3⟩ := zSh_get hJ1.1.1 zs_386
  exact ⟨v, w, M1, fun h => absurd h (by decide), by rw [s3]; rfl, c1, c2⟩
theorem op_14 {X : List Int32} {q : Nat} {M : zM} (a : Nat → Int32) (hq : q ≤ 520) (hI : zInv q M) : ∃ M2, zOpOK X 100 14 a M M2 ∧ zInv (q + 1) M2 := by
  obtain ⟨hB, hZ, hC, hX, L, hL0, hL1, h0, h1⟩ := hI
  have hB1 := zB_mono hB (Nat.le_add_right q 1)
  have hh := zi_s hB1 zs_77 (by decide) zo_77_0
  obtain ⟨r1, c1, v, M1, rfl, -, -, hJ1, hP1⟩ := u_2076 (X := X) (d := 95) (N := q + 1) (zbl false (a 1)) (zbl true (a 2)) (zbl_b _).1 (zbl_b _).2 (by omega) hB1 (v_2076 hC hh.1 hh.2)
  have hC1 : CI (zi M1) := hP1
  have g1 : zvl M1 386 1 = some (.int L) := (hJ1.2 386 1 (zNI (by decide) (zNI (by decide) (zNI (by decide) (zNI (by decide) (zNI (by decide) (zNI (by decide) (zNI (by decide) (zNI (by decide) (zNI (by decide) zNI_nil)))))))))).trans h1
  have e0 : zvl M1 0 1 = some (.int L) := (hJ1.2 0 1 (zNI (by decide) (zNI (by decide) (zNI (by decide) (zNI (by decide) (zNI (by decide) (zNI (by decide) (zNI (by decide) (zNI (by decide) (zNI_k (by decide) (by decide) zNI_nil)))))))))).trans h0
  have hZ1 : ZR (zi M1) := hZ.fr (zi_fr hJ1.2) rfl
  obtain ⟨r2, c2, w, M2, rfl, -, -, hJ2, hZ2, hP2⟩ := kk_2392 (X := X) (d := 97) (N := q + 1) (zbl false (a 1)) (zbl true (a 2)) (zbl_b _).1 (zbl_b _).2 (by omega) hJ1.1 hZ1
  have e2 := (hJ2.2 0 1 (zNI (by decide) (zNI (by decide) (zNI (by decide) (zNI (by decide) zNI_nil))))).trans e0
  have g2 : zvl M2 386 1 = some (.int L) := (hJ2.2 386 1 (zNI (by decide) (zNI (by decide) (zNI_k (by decide) (by decide) (zNI_k (by decide) (by decide) zNI_nil))))).trans g1
  have x1 : XS (zi M) (zi M1) := XS_fr (zi_fr hJ1.2) (by decide +kernel)
  have x2 : XS (zi M1) (zi M2) := XS_fr (zi_fr hJ2.2) (by decide +kernel)
  have y0 := ziE e2
  have y1 := ziE g2
  have y2 := ziE h0
  have hX2 : XI (zi M2) := hX.of hC.two (x1.trans x2) (((zi_fr hJ2.2).a (by decide +kernel)).trans ((zi_fr hJ1.2).a (by decide +kernel))) (((zi_fr hJ2.2).a (by decide +kernel)).trans ((zi_fr hJ1.2).a (by decide +kernel))) (by omega) (by omega) (by omega)
  refine ⟨M2, ?_, hJ2.1, hZ2, hC1.fr (zi_fr hJ2.2) (by decide +kernel), hX2, L, by omega, by omega, e2, g2⟩
  intro jc jm sp h
  have h' : some (2076, 2392, [(1, false), (2, true)]) = some (jc, jm, sp) := h
  cases h'
  obtain ⟨vs, s1, s2, s3⟩ := zSh_get hJ1.1.1 zs_386
  exact ⟨v, w, M1, fun h => absurd h (by decide), by rw [s3]; rfl, c1, c2⟩
theorem op_15 {X : List Int32} {q : Nat} {M : zM} (a : Nat → Int32) (hq : q ≤ 520) (hI : zInv q M) : ∃ M2, zOpOK X 100 15 a M M2 ∧ zInv (q + 1) M2 := by
  obtain ⟨hB, hZ, hC, hX, L, hL0, hL1, h0, h1⟩ := hI
  have hB1 := zB_mono hB (Nat.le_add_right q 1)
  have hh := zi_s hB1 zs_77 (by decide) zo_77_0
  obtain ⟨r1, c1, v, M1, rfl, -, -, hJ1, hP1⟩ := u_2077 (X := X) (d := 95) (N := q + 1) (zbl false (a 1)) (zbl true (a 2)) (zbl_b _).1 (zbl_b _).2 (by omega) hB1 (v_2077 hC hh.1 hh.2)
  have hC1 : CI (zi M1) := hP1
  have g1 : zvl M1 386 1 = some (.int L) := (hJ1.2 386 1 (zNI (by decide) (zNI (by decide) (zNI (by decide) (zNI (by decide) (zNI (by decide) (zNI (by decide) (zNI (by decide) (zNI (by decide) (zNI (by decide) zNI_nil)))))))))).trans h1
  have e0 : zvl M1 0 1 = some (.int L) := (hJ1.2 0 1 (zNI (by decide) (zNI (by decide) (zNI (by decide) (zNI (by decide) (zNI (by decide) (zNI (by decide) (zNI (by decide) (zNI (by decide) (zNI_k (by decide) (by decide) zNI_nil)))))))))).trans h0
  have hZ1 : ZR (zi M1) := hZ.fr (zi_fr hJ1.2) rfl
  obtain ⟨r2, c2, w, M2, rfl, -, -, hJ2, hZ2, hP2⟩ := kk_2393 (X := X) (d := 97) (N := q + 1) (zbl false (a 1)) (zbl true (a 2)) (zbl_b _).1 (zbl_b _).2 (by omega) hJ1.1 hZ1
  have e2 := (hJ2.2 0 1 (zNI (by decide) (zNI (by decide) (zNI (by decide) (zNI (by decide) zNI_nil))))).trans e0
  have g2 : zvl M2 386 1 = some (.int L) := (hJ2.2 386 1 (zNI (by decide) (zNI (by decide) (zNI_k (by decide) (by decide) (zNI_k (by decide) (by decide) zNI_nil))))).trans g1
  have x1 : XS (zi M) (zi M1) := XS_fr (zi_fr hJ1.2) (by decide +kernel)
  have x2 : XS (zi M1) (zi M2) := XS_fr (zi_fr hJ2.2) (by decide +kernel)
  have y0 := ziE e2
  have y1 := ziE g2
  have y2 := ziE h0
  have hX2 : XI (zi M2) := hX.of hC.two (x1.trans x2) (((zi_fr hJ2.2).a (by decide +kernel)).trans ((zi_fr hJ1.2).a (by decide +kernel))) (((zi_fr hJ2.2).a (by decide +kernel)).trans ((zi_fr hJ1.2).a (by decide +kernel))) (by omega) (by omega) (by omega)
  refine ⟨M2, ?_, hJ2.1, hZ2, hC1.fr (zi_fr hJ2.2) (by decide +kernel), hX2, L, by omega, by omega, e2, g2⟩
  intro jc jm sp h
  have h' : some (2077, 2393, [(1, false), (2, true)]) = some (jc, jm, sp) := h
  cases h'
  obtain ⟨vs, s1, s2, s3⟩ := zSh_get hJ1.1.1 zs_386
  exact ⟨v, w, M1, fun h => absurd h (by decide), by rw [s3]; rfl, c1, c2⟩
theorem op_16 {X : List Int32} {q : Nat} {M : zM} (a : Nat → Int32) (hq : q ≤ 520) (hI : zInv q M) : ∃ M2, zOpOK X 100 16 a M M2 ∧ zInv (q + 1) M2 := by
  obtain ⟨hB, hZ, hC, hX, L, hL0, hL1, h0, h1⟩ := hI
  have hB1 := zB_mono hB (Nat.le_add_right q 1)
  have hh := zi_s hB1 zs_77 (by decide) zo_77_0
  obtain ⟨r1, c1, v, M1, rfl, -, -, hJ1, hP1⟩ := u_2078 (X := X) (d := 95) (N := q + 1) (zbl false (a 1)) (zbl false (a 2)) (by omega) hB1 (v_2078 hC hh.1 hh.2)
  have hC1 : CI (zi M1) := hP1
  have g1 : zvl M1 386 1 = some (.int L) := (hJ1.2 386 1 (zNI (by decide) (zNI (by decide) (zNI (by decide) (zNI (by decide) (zNI (by decide) (zNI (by decide) (zNI (by decide) (zNI (by decide) (zNI (by decide) zNI_nil)))))))))).trans h1
  have e0 : zvl M1 0 1 = some (.int L) := (hJ1.2 0 1 (zNI (by decide) (zNI (by decide) (zNI (by decide) (zNI (by decide) (zNI (by decide) (zNI (by decide) (zNI (by decide) (zNI (by decide) (zNI_k (by decide) (by decide) zNI_nil)))))))))).trans h0
  have hZ1 : ZR (zi M1) := hZ.fr (zi_fr hJ1.2) rfl
  obtain ⟨r2, c2, w, M2, rfl, -, -, hJ2, hZ2, hP2⟩ := kk_2394 (X := X) (d := 97) (N := q + 1) (zbl false (a 1)) (zbl false (a 2)) (by omega) hJ1.1 hZ1
  have e2 := (hJ2.2 0 1 (zNI (by decide) (zNI (by decide) (zNI (by decide) (zNI (by decide) zNI_nil))))).trans e0
  have g2 : zvl M2 386 1 = some (.int L) := (hJ2.2 386 1 (zNI (by decide) (zNI (by decide) (zNI_k (by decide) (by decide) (zNI_k (by decide) (by decide) zNI_nil))))).trans g1
  have x1 : XS (zi M) (zi M1) := XS_fr (zi_fr hJ1.2) (by decide +kernel)
  have x2 : XS (zi M1) (zi M2) := XS_fr (zi_fr hJ2.2) (by decide +kernel)
  have y0 := ziE e2
  have y1 := ziE g2
  have y2 := ziE h0
  have hX2 : XI (zi M2) := hX.of hC.two (x1.trans x2) (((zi_fr hJ2.2).a (by decide +kernel)).trans ((zi_fr hJ1.2).a (by decide +kernel))) (((zi_fr hJ2.2).a (by decide +kernel)).trans ((zi_fr hJ1.2).a (by decide +kernel))) (by omega) (by omega) (by omega)
  refine ⟨M2, ?_, hJ2.1, hZ2, hC1.fr (zi_fr hJ2.2) (by decide +kernel), hX2, L, by omega, by omega, e2, g2⟩
  intro jc jm sp h
  have h' : some (2078, 2394, [(1, false), (2, false)]) = some (jc, jm, sp) := h
  cases h'
  obtain ⟨vs, s1, s2, s3⟩ := zSh_get hJ1.1.1 zs_386
  exact ⟨v, w, M1, fun h => absurd h (by decide), by rw [s3]; rfl, c1, c2⟩
theorem op_17 {X : List Int32} {q : Nat} {M : zM} (a : Nat → Int32) (hq : q ≤ 520) (hI : zInv q M) : ∃ M2, zOpOK X 100 17 a M M2 ∧ zInv (q + 1) M2 := by
  obtain ⟨hB, hZ, hC, hX, L, hL0, hL1, h0, h1⟩ := hI
  have hB1 := zB_mono hB (Nat.le_add_right q 1)
  have hh := zi_s hB1 zs_77 (by decide) zo_77_0
  obtain ⟨r1, c1, v, M1, rfl, -, -, hJ1, hP1⟩ := u_2079 (X := X) (d := 95) (N := q + 1) (zbl false (a 1)) (zbl false (a 2)) (by omega) hB1 (v_2079 hC hh.1 hh.2)
  have hC1 : CI (zi M1) := hP1
  have g1 : zvl M1 386 1 = some (.int L) := (hJ1.2 386 1 (zNI (by decide) (zNI (by decide) (zNI (by decide) (zNI (by decide) (zNI (by decide) (zNI (by decide) (zNI (by decide) (zNI (by decide) (zNI (by decide) zNI_nil)))))))))).trans h1
  have e0 : zvl M1 0 1 = some (.int L) := (hJ1.2 0 1 (zNI (by decide) (zNI (by decide) (zNI (by decide) (zNI (by decide) (zNI (by decide) (zNI (by decide) (zNI (by decide) (zNI (by decide) (zNI_k (by decide) (by decide) zNI_nil)))))))))).trans h0
  have hZ1 : ZR (zi M1) := hZ.fr (zi_fr hJ1.2) rfl
  obtain ⟨r2, c2, w, M2, rfl, -, -, hJ2, hZ2, hP2⟩ := kk_2395 (X := X) (d := 97) (N := q + 1) (zbl false (a 1)) (zbl false (a 2)) (by omega) hJ1.1 hZ1
  have e2 := (hJ2.2 0 1 (zNI (by decide) (zNI (by decide) (zNI (by decide) (zNI (by decide) zNI_nil))))).trans e0
  have g2 : zvl M2 386 1 = some (.int L) := (hJ2.2 386 1 (zNI (by decide) (zNI (by decide) (zNI_k (by decide) (by decide) (zNI_k (by decide) (by decide) zNI_nil))))).trans g1
  have x1 : XS (zi M) (zi M1) := XS_fr (zi_fr hJ1.2) (by decide +kernel)
  have x2 : XS (zi M1) (zi M2) := XS_fr (zi_fr hJ2.2) (by decide +kernel)
  have y0 := ziE e2
  have y1 := ziE g2
  have y2 := ziE h0
  have hX2 : XI (zi M2) := hX.of hC.two (x1.trans x2) (((zi_fr hJ2.2).a (by decide +kernel)).trans ((zi_fr hJ1.2).a (by decide +kernel))) (((zi_fr hJ2.2).a (by decide +kernel)).trans ((zi_fr hJ1.2).a (by decide +kernel))) (by omega) (by omega) (by omega)
  refine ⟨M2, ?_, hJ2.1, hZ2, hC1.fr (zi_fr hJ2.2) (by decide +kernel), hX2, L, by omega, by omega, e2, g2⟩
  intro jc jm sp h
  have h' : some (2079, 2395, [(1, false), (2, false)]) = some (jc, jm, sp) := h
  cases h'
  obtain ⟨vs, s1, s2, s3⟩ := zSh_get hJ1.1.1 zs_386
  exact ⟨v, w, M1, fun h => absurd h (by decide), by rw [s3]; rfl, c1, c2⟩
theorem op_18 {X : List Int32} {q : Nat} {M : zM} (a : Nat → Int32) (hq : q ≤ 520) (hI : zInv q M) : ∃ M2, zOpOK X 100 18 a M M2 ∧ zInv (q + 1) M2 := by
  obtain ⟨hB, hZ, hC, hX, L, hL0, hL1, h0, h1⟩ := hI
  have hB1 := zB_mono hB (Nat.le_add_right q 1)
  have hi := zi_s hB1 zs_77 (by decide) zo_77_1
  obtain ⟨r1, c1, v, M1, rfl, -, -, hJ1, hP1⟩ := u_2080 (X := X) (d := 96) (N := q + 1)  (by omega) hB1 (v_2080 hC hi.1 hi.2)
  have hC1 : CI (zi M1) := hP1
  have g1 : zvl M1 386 1 = some (.int L) := (hJ1.2 386 1 (zNI (by decide) (zNI (by decide) (zNI (by decide) (zNI (by decide) (zNI (by decide) (zNI (by decide) (zNI (by decide) (zNI (by decide) zNI_nil))))))))).trans h1
  have e0 : zvl M1 0 1 = some (.int L) := (hJ1.2 0 1 (zNI (by decide) (zNI (by decide) (zNI (by decide) (zNI (by decide) (zNI (by decide) (zNI (by decide) (zNI (by decide) (zNI_k (by decide) (by decide) zNI_nil))))))))).trans h0
  have hZ1 : ZR (zi M1) := hZ.fr (zi_fr hJ1.2) rfl
  obtain ⟨r2, c2, w, M2, rfl, -, -, hJ2, hZ2, hP2⟩ := kk_2345 (X := X) (d := 98) (N := q + 1)  (by omega) hJ1.1 hZ1
  have e2 := (hJ2.2 0 1 (zNI (by decide) (zNI (by decide) (zNI (by decide) zNI_nil)))).trans e0
  have g2 : zvl M2 386 1 = some (.int L) := (hJ2.2 386 1 (zNI (by decide) (zNI (by decide) (zNI_k (by decide) (by decide) zNI_nil)))).trans g1
  have x1 : XS (zi M) (zi M1) := XS_fr (zi_fr hJ1.2) (by decide +kernel)
  have x2 : XS (zi M1) (zi M2) := XS_fr (zi_fr hJ2.2) (by decide +kernel)
  have y0 := ziE e2
  have y1 := ziE g2
  have y2 := ziE h0
  have hX2 : XI (zi M2) := hX.of hC.two (x1.trans x2) (((zi_fr hJ2.2).a (by decide +kernel)).trans ((zi_fr hJ1.2).a (by decide +kernel))) (((zi_fr hJ2.2).a (by decide +kernel)).trans ((zi_fr hJ1.2).a (by decide +kernel))) (by omega) (by omega) (by omega)
  refine ⟨M2, ?_, hJ2.1, hZ2, hC1.fr (zi_fr hJ2.2) (by decide +kernel), hX2, L, by omega, by omega, e2, g2⟩
  intro jc jm sp h
  have h' : some (2080, 2345, []) = some (jc, jm, sp) := h
  cases h'
  obtain ⟨vs, s1, s2, s3⟩ := zSh_get hJ1.1.1 zs_386
  exact ⟨v, w, M1, fun h => absurd h (by decide), by rw [s3]; rfl, c1, c2⟩
theorem op_19 {X : List Int32} {q : Nat} {M : zM} (a : Nat → Int32) (hq : q ≤ 520) (hI : zInv q M) : ∃ M2, zOpOK X 100 19 a M M2 ∧ zInv (q + 1) M2 := by
  obtain ⟨hB, hZ, hC, hX, L, hL0, hL1, h0, h1⟩ := hI
  have hB1 := zB_mono hB (Nat.le_add_right q 1)
  obtain ⟨r1, c1, v, M1, rfl, -, -, hJ1, hP1⟩ := k_2081 (X := X) (d := 98) (N := q + 1) (zbl false (a 1)) (by omega) hB1
  have hC1 : CI (zi M1) := hC.fr (zi_fr hJ1.2) (by decide +kernel)
  have g1 : zvl M1 386 1 = some (.int L) := (hJ1.2 386 1 (zNI (by decide) (zNI (by decide) zNI_nil))).trans h1
  have e0 : zvl M1 0 1 = some (.int L) := (hJ1.2 0 1 (zNI (by decide) (zNI (by decide) zNI_nil))).trans h0
  have hZ1 : ZR (zi M1) := hZ.fr (zi_fr hJ1.2) rfl
  obtain ⟨r2, c2, w, M2, rfl, -, -, hJ2, hZ2, hP2⟩ := kk_2396 (X := X) (d := 98) (N := q + 1) (zbl false (a 1)) (by omega) hJ1.1 hZ1
  have e2 := (hJ2.2 0 1 (zNI (by decide) (zNI (by decide) zNI_nil))).trans e0
  have g2 : zvl M2 386 1 = some (.int L) := (hJ2.2 386 1 (zNI (by decide) (zNI_k (by decide) (by decide) zNI_nil))).trans g1
  have x1 : XS (zi M) (zi M1) := XS_fr (zi_fr hJ1.2) (by decide +kernel)
  have x2 : XS (zi M1) (zi M2) := XS_fr (zi_fr hJ2.2) (by decide +kernel)
  have y0 := ziE e2
  have y1 := ziE g2
  have y2 := ziE h0
  have hX2 : XI (zi M2) := hX.of hC.two (x1.trans x2) (((zi_fr hJ2.2).a (by decide +kernel)).trans ((zi_fr hJ1.2).a (by decide +kernel))) (((zi_fr hJ2.2).a (by decide +kernel)).trans ((zi_fr hJ1.2).a (by decide +kernel))) (by omega) (by omega) (by omega)
  refine ⟨M2, ?_, hJ2.1, hZ2, hC1.fr (zi_fr hJ2.2) (by decide +kernel), hX2, L, by omega, by omega, e2, g2⟩
  intro jc jm sp h
  have h' : some (2081, 2396, [(1, false)]) = some (jc, jm, sp) := h
  cases h'
  obtain ⟨vs, s1, s2, s3⟩ := zSh_get hJ1.1.1 zs_386
  exact ⟨v, w, M1, fun h => absurd h (by decide), by rw [s3]; rfl, c1, c2⟩
theorem op_20 {X : List Int32} {q : Nat} {M : zM} (a : Nat → Int32) (hq : q ≤ 520) (hI : zInv q M) : ∃ M2, zOpOK X 100 20 a M M2 ∧ zInv (q + 1) M2 := by
  obtain ⟨hB, hZ, hC, hX, L, hL0, hL1, h0, h1⟩ := hI
  have hB1 := zB_mono hB (Nat.le_add_right q 1)
  obtain ⟨r1, c1, v, M1, rfl, -, -, hJ1, hP1⟩ := k_2082 (X := X) (d := 94) (N := q + 1) (zbl false (a 1)) (zbl false (a 2)) (zbl false (a 3)) (by omega) hB1
  have hC1 : CI (zi M1) := hC.fr (zi_fr hJ1.2) (by decide +kernel)
  have g1 : zvl M1 386 1 = some (.int L) := (hJ1.2 386 1 (zNI (by decide) (zNI (by decide) (zNI (by decide) (zNI (by decide) zNI_nil))))).trans h1
  have e0 : zvl M1 0 1 = some (.int L) := (hJ1.2 0 1 (zNI (by decide) (zNI (by decide) (zNI (by decide) (zNI (by decide) zNI_nil))))).trans h0
  have hZ1 : ZR (zi M1) := hZ.fr (zi_fr hJ1.2) rfl
  obtain ⟨r2, c2, w, M2, rfl, -, -, hJ2, hZ2, hP2⟩ := kk_2397 (X := X) (d := 92) (N := q + 1) (zbl false (a 1)) (zbl false (a 2)) (zbl false (a 3)) (by omega) hJ1.1 hZ1
  have e2 := (hJ2.2 0 1 (zNI (by decide) (zNI (by decide) (zNI (by decide) (zNI (by decide) (zNI (by decide) (zNI (by decide) zNI_nil))))))).trans e0
  have g2 : zvl M2 386 1 = some (.int L) := (hJ2.2 386 1 (zNI (by decide) (zNI (by decide) (zNI_k (by decide) (by decide) (zNI_k (by decide) (by decide) (zNI_k (by decide) (by decide) (zNI_k (by decide) (by decide) zNI_nil))))))).trans g1
  have x1 : XS (zi M) (zi M1) := XS_fr (zi_fr hJ1.2) (by decide +kernel)
  have x2 : XS (zi M1) (zi M2) := XS_fr (zi_fr hJ2.2) (by decide +kernel)
  have y0 := ziE e2
  have y1 := ziE g2
  have y2 := ziE h0
  have hX2 : XI (zi M2) := hX.of hC.two (x1.trans x2) (((zi_fr hJ2.2).a (by decide +kernel)).trans ((zi_fr hJ1.2).a (by decide +kernel))) (((zi_fr hJ2.2).a (by decide +kernel)).trans ((zi_fr hJ1.2).a (by decide +kernel))) (by omega) (by omega) (by omega)
  refine ⟨M2, ?_, hJ2.1, hZ2, hC1.fr (zi_fr hJ2.2) (by decide +kernel), hX2, L, by omega, by omega, e2, g2⟩
  intro jc jm sp h
  have h' : some (2082, 2397, [(1, false), (2, false), (3, false)]) = some (jc, jm, sp) := h
  cases h'
  obtain ⟨vs, s1, s2, s3⟩ := zSh_get hJ1.1.1 zs_386
  exact ⟨v, w, M1, fun h => absurd h (by decide), by rw [s3]; rfl, c1, c2⟩
theorem op_21 {X : List Int32} {q : Nat} {M : zM} (a : Nat → Int32) (hq : q ≤ 520) (hI : zInv q M) : ∃ M2, zOpOK X 100 21 a M M2 ∧ zInv (q + 1) M2 := by
  obtain ⟨hB, hZ, hC, hX, L, hL0, hL1, h0, h1⟩ := hI
  have hB1 := zB_mono hB (Nat.le_add_right q 1)
  obtain ⟨r1, c1, v, M1, rfl, -, -, hJ1, hP1⟩ := k_2083 (X := X) (d := 94) (N := q + 1) (zbl false (a 1)) (zbl false (a 2)) (by omega) hB1
  have hC1 : CI (zi M1) := hC.fr (zi_fr hJ1.2) (by decide +kernel)
  have g1 : zvl M1 386 1 = some (.int L) := (hJ1.2 386 1 (zNI (by decide) (zNI (by decide) (zNI (by decide) (zNI (by decide) zNI_nil))))).trans h1
  have e0 : zvl M1 0 1 = some (.int L) := (hJ1.2 0 1 (zNI (by decide) (zNI (by decide) (zNI (by decide) (zNI (by decide) zNI_nil))))).trans h0
  have hZ1 : ZR (zi M1) := hZ.fr (zi_fr hJ1.2) rfl
  obtain ⟨r2, c2, w, M2, rfl, -, -, hJ2, hZ2, hP2⟩ := kk_2398 (X := X) (d := 92) (N := q + 1) (zbl false (a 1)) (zbl false (a 2)) (by omega) hJ1.1 hZ1
  have e2 := (hJ2.2 0 1 (zNI (by decide) (zNI (by decide) (zNI (by decide) (zNI (by decide) (zNI (by decide) (zNI (by decide) zNI_nil))))))).trans e0
  have g2 : zvl M2 386 1 = some (.int L) := (hJ2.2 386 1 (zNI (by decide) (zNI (by decide) (zNI_k (by decide) (by decide) (zNI_k (by decide) (by decide) (zNI_k (by decide) (by decide) (zNI_k (by decide) (by decide) zNI_nil))))))).trans g1
  have x1 : XS (zi M) (zi M1) := XS_fr (zi_fr hJ1.2) (by decide +kernel)
  have x2 : XS (zi M1) (zi M2) := XS_fr (zi_fr hJ2.2) (by decide +kernel)
  have y0 := ziE e2
  have y1 := ziE g2
  have y2 := ziE h0
  have hX2 : XI (zi M2) := hX.of hC.two (x1.trans x2) (((zi_fr hJ2.2).a (by decide +kernel)).trans ((zi_fr hJ1.2).a (by decide +kernel))) (((zi_fr hJ2.2).a (by decide +kernel)).trans ((zi_fr hJ1.2).a (by decide +kernel))) (by omega) (by omega) (by omega)
  refine ⟨M2, ?_, hJ2.1, hZ2, hC1.fr (zi_fr hJ2.2) (by decide +kernel), hX2, L, by omega, by omega, e2, g2⟩
  intro jc jm sp h
  have h' : some (2083, 2398, [(1, false), (2, false)]) = some (jc, jm, sp) := h
  cases h'
  obtain ⟨vs, s1, s2, s3⟩ := zSh_get hJ1.1.1 zs_386
  exact ⟨v, w, M1, fun h => absurd h (by decide), by rw [s3]; rfl, c1, c2⟩
theorem op_22 {X : List Int32} {q : Nat} {M : zM} (a : Nat → Int32) (hq : q ≤ 520) (hI : zInv q M) : ∃ M2, zOpOK X 100 22 a M M2 ∧ zInv (q + 1) M2 := by
  obtain ⟨hB, hZ, hC, hX, L, hL0, hL1, h0, h1⟩ := hI
  have hB1 := zB_mono hB (Nat.le_add_right q 1)
  obtain ⟨r1, c1, v, M1, rfl, -, -, hJ1, hP1⟩ := k_2084 (X := X) (d := 94) (N := q + 1) (zbl false (a 1)) (zbl false (a 2)) (by omega) hB1
  have hC1 : CI (zi M1) := hC.fr (zi_fr hJ1.2) (by decide +kernel)
  have g1 : zvl M1 386 1 = some (.int L) := (hJ1.2 386 1 (zNI (by decide) (zNI (by decide) (zNI (by decide) (zNI (by decide) zNI_nil))))).trans h1
  have e0 : zvl M1 0 1 = some (.int L) := (hJ1.2 0 1 (zNI (by decide) (zNI (by decide) (zNI (by decide) (zNI (by decide) zNI_nil))))).trans h0
  have hZ1 : ZR (zi M1) := hZ.fr (zi_fr hJ1.2) rfl
  obtain ⟨r2, c2, w, M2, rfl, -, -, hJ2, hZ2, hP2⟩ := kk_2399 (X := X) (d := 92) (N := q + 1) (zbl false (a 1)) (zbl false (a 2)) (by omega) hJ1.1 hZ1
  have e2 := (hJ2.2 0 1 (zNI (by decide) (zNI (by decide) (zNI (by decide) (zNI (by decide) (zNI (by decide) (zNI (by decide) zNI_nil))))))).trans e0
  have g2 : zvl M2 386 1 = some (.int L) := (hJ2.2 386 1 (zNI (by decide) (zNI (by decide) (zNI_k (by decide) (by decide) (zNI_k (by decide) (by decide) (zNI_k (by decide) (by decide) (zNI_k (by decide) (by decide) zNI_nil))))))).trans g1
  have x1 : XS (zi M) (zi M1) := XS_fr (zi_fr hJ1.2) (by decide +kernel)
  have x2 : XS (zi M1) (zi M2) := XS_fr (zi_fr hJ2.2) (by decide +kernel)
  have y0 := ziE e2
  have y1 := ziE g2
  have y2 := ziE h0
  have hX2 : XI (zi M2) := hX.of hC.two (x1.trans x2) (((zi_fr hJ2.2).a (by decide +kernel)).trans ((zi_fr hJ1.2).a (by decide +kernel))) (((zi_fr hJ2.2).a (by decide +kernel)).trans ((zi_fr hJ1.2).a (by decide +kernel))) (by omega) (by omega) (by omega)
  refine ⟨M2, ?_, hJ2.1, hZ2, hC1.fr (zi_fr hJ2.2) (by decide +kernel), hX2, L, by omega, by omega, e2, g2⟩
  intro jc jm sp h
  have h' : some (2084, 2399, [(1, false), (2, false)]) = some (jc, jm, sp) := h
  cases h'
  obtain ⟨vs, s1, s2, s3⟩ := zSh_get hJ1.1.1 zs_386
  exact ⟨v, w, M1, fun h => absurd h (by decide), by rw [s3]; rfl, c1, c2⟩
theorem op_23 {X : List Int32} {q : Nat} {M : zM} (a : Nat → Int32) (hq : q ≤ 520) (hI : zInv q M) : ∃ M2, zOpOK X 100 23 a M M2 ∧ zInv (q + 1) M2 := by
  obtain ⟨hB, hZ, hC, hX, L, hL0, hL1, h0, h1⟩ := hI
  have hB1 := zB_mono hB (Nat.le_add_right q 1)
  obtain ⟨r1, c1, v, M1, rfl, -, -, hJ1, hP1⟩ := k_2085 (X := X) (d := 92) (N := q + 1)  (by omega) hB1
  have hC1 : CI (zi M1) := hC.fr (zi_fr hJ1.2) (by decide +kernel)
  have g1 : zvl M1 386 1 = some (.int L) := (hJ1.2 386 1 (zNI (by decide) (zNI (by decide) (zNI (by decide) (zNI (by decide) (zNI (by decide) (zNI (by decide) (zNI (by decide) (zNI (by decide) zNI_nil))))))))).trans h1
  have e0 : zvl M1 0 1 = some (.int L) := (hJ1.2 0 1 (zNI (by decide) (zNI (by decide) (zNI (by decide) (zNI (by decide) (zNI (by decide) (zNI (by decide) (zNI (by decide) (zNI (by decide) zNI_nil))))))))).trans h0
  have hZ1 : ZR (zi M1) := hZ.fr (zi_fr hJ1.2) rfl
  obtain ⟨r2, c2, w, M2, rfl, -, -, hJ2, hZ2, hP2⟩ := kk_2400 (X := X) (d := 91) (N := q + 1)  (by omega) hJ1.1 hZ1
  have e2 := (hJ2.2 0 1 (zNI (by decide) (zNI (by decide) (zNI (by decide) (zNI (by decide) (zNI (by decide) (zNI (by decide) zNI_nil))))))).trans e0
  have g2 : zvl M2 386 1 = some (.int L) := (hJ2.2 386 1 (zNI (by decide) (zNI (by decide) (zNI_k (by decide) (by decide) (zNI_k (by decide) (by decide) (zNI_k (by decide) (by decide) (zNI_k (by decide) (by decide) zNI_nil))))))).trans g1
  have x1 : XS (zi M) (zi M1) := XS_fr (zi_fr hJ1.2) (by decide +kernel)
  have x2 : XS (zi M1) (zi M2) := XS_fr (zi_fr hJ2.2) (by decide +kernel)
  have y0 := ziE e2
  have y1 := ziE g2
  have y2 := ziE h0
  have hX2 : XI (zi M2) := hX.of hC.two (x1.trans x2) (((zi_fr hJ2.2).a (by decide +kernel)).trans ((zi_fr hJ1.2).a (by decide +kernel))) (((zi_fr hJ2.2).a (by decide +kernel)).trans ((zi_fr hJ1.2).a (by decide +kernel))) (by omega) (by omega) (by omega)
  refine ⟨M2, ?_, hJ2.1, hZ2, hC1.fr (zi_fr hJ2.2) (by decide +kernel), hX2, L, by omega, by omega, e2, g2⟩
  intro jc jm sp h
  have h' : some (2085, 2400, []) = some (jc, jm, sp) := h
  cases h'
  obtain ⟨vs, s1, s2, s3⟩ := zSh_get hJ1.1.1 zs_386
  exact ⟨v, w, M1, fun h => absurd h (by decide), by rw [s3]; rfl, c1, c2⟩
theorem op_24 {X : List Int32} {q : Nat} {M : zM} (a : Nat → Int32) (hq : q ≤ 520) (hI : zInv q M) : ∃ M2, zOpOK X 100 24 a M M2 ∧ zInv (q + 1) M2 := by
  obtain ⟨hB, hZ, hC, hX, L, hL0, hL1, h0, h1⟩ := hI
  have hB1 := zB_mono hB (Nat.le_add_right q 1)
  obtain ⟨r1, c1, v, M1, rfl, -, -, hJ1, hP1⟩ := k_2086 (X := X) (d := 92) (N := q + 1) (zbl false (a 1)) (by omega) hB1
  have hC1 : CI (zi M1) := hC.fr (zi_fr hJ1.2) (by decide +kernel)
  have g1 : zvl M1 386 1 = some (.int L) := (hJ1.2 386 1 (zNI (by decide) (zNI (by decide) (zNI (by decide) (zNI (by decide) (zNI (by decide) (zNI (by decide) (zNI (by decide) (zNI (by decide) (zNI (by decide) (zNI (by decide) (zNI (by decide) zNI_nil)))))))))))).trans h1
  have e0 : zvl M1 0 1 = some (.int L) := (hJ1.2 0 1 (zNI (by decide) (zNI (by decide) (zNI (by decide) (zNI (by decide) (zNI (by decide) (zNI (by decide) (zNI (by decide) (zNI (by decide) (zNI (by decide) (zNI (by decide) (zNI (by decide) zNI_nil)))))))))))).trans h0
  have hZ1 : ZR (zi M1) := hZ.fr (zi_fr hJ1.2) rfl
  obtain ⟨r2, c2, w, M2, rfl, -, -, hJ2, hZ2, hP2⟩ := kk_2402 (X := X) (d := 91) (N := q + 1) (zbl false (a 1)) (by omega) hJ1.1 hZ1
  have e2 := (hJ2.2 0 1 (zNI (by decide) (zNI (by decide) (zNI (by decide) (zNI (by decide) (zNI (by decide) (zNI (by decide) zNI_nil))))))).trans e0
  have g2 : zvl M2 386 1 = some (.int L) := (hJ2.2 386 1 (zNI (by decide) (zNI (by decide) (zNI_k (by decide) (by decide) (zNI_k (by decide) (by decide) (zNI_k (by decide) (by decide) (zNI_k (by decide) (by decide) zNI_nil))))))).trans g1
  have x1 : XS (zi M) (zi M1) := XS_fr (zi_fr hJ1.2) (by decide +kernel)
  have x2 : XS (zi M1) (zi M2) := XS_fr (zi_fr hJ2.2) (by decide +kernel)
  have y0 := ziE e2
  have y1 := ziE g2
  have y2 := ziE h0
  have hX2 : XI (zi M2) := hX.of hC.two (x1.trans x2) (((zi_fr hJ2.2).a (by decide +kernel)).trans ((zi_fr hJ1.2).a (by decide +kernel))) (((zi_fr hJ2.2).a (by decide +kernel)).trans ((zi_fr hJ1.2).a (by decide +kernel))) (by omega) (by omega) (by omega)
  refine ⟨M2, ?_, hJ2.1, hZ2, hC1.fr (zi_fr hJ2.2) (by decide +kernel), hX2, L, by omega, by omega, e2, g2⟩
  intro jc jm sp h
  have h' : some (2086, 2402, [(1, false)]) = some (jc, jm, sp) := h
  cases h'
  obtain ⟨vs, s1, s2, s3⟩ := zSh_get hJ1.1.1 zs_386
  exact ⟨v, w, M1, fun h => absurd h (by decide), by rw [s3]; rfl, c1, c2⟩
theorem op_25 {X : List Int32} {q : Nat} {M : zM} (a : Nat → Int32) (hq : q ≤ 520) (hI : zInv q M) : ∃ M2, zOpOK X 100 25 a M M2 ∧ zInv (q + 1) M2 := by
  obtain ⟨hB, hZ, hC, hX, L, hL0, hL1, h0, h1⟩ := hI
  have hB1 := zB_mono hB (Nat.le_add_right q 1)
  obtain ⟨r1, c1, v, M1, rfl, -, -, hJ1, hP1⟩ := k_2087 (X := X) (d := 92) (N := q + 1) (zbl false (a 1)) (by omega) hB1
  have hC1 : CI (zi M1) := hC.fr (zi_fr hJ1.2) (by decide +kernel)
  have g1 : zvl M1 386 1 = some (.int L) := (hJ1.2 386 1 (zNI (by decide) (zNI (by decide) (zNI (by decide) (zNI (by decide) (zNI (by decide) (zNI (by decide) (zNI (by decide) (zNI (by decide) (zNI (by decide) (zNI (by decide) (zNI (by decide) (zNI (by decide) zNI_nil))))))))))))).trans h1
  have e0 : zvl M1 0 1 = some (.int L) := (hJ1.2 0 1 (zNI (by decide) (zNI (by decide) (zNI (by decide) (zNI (by decide) (zNI (by decide) (zNI (by decide) (zNI (by decide) (zNI (by decide) (zNI (by decide) (zNI (by decide) (zNI (by decide) (zNI (by decide) zNI_nil))))))))))))).trans h0
  have hZ1 : ZR (zi M1) := hZ.fr (zi_fr hJ1.2) rfl
  obtain ⟨r2, c2, w, M2, rfl, -, -, hJ2, hZ2, hP2⟩ := kk_2405 (X := X) (d := 90) (N := q + 1) (zbl false (a 1)) (by omega) hJ1.1 hZ1
  have e2 := (hJ2.2 0 1 (zNI (by decide) (zNI (by decide) (zNI (by decide) (zNI (by decide) (zNI (by decide) (zNI (by decide) (zNI (by decide) zNI_nil)))))))).trans e0
  have g2 : zvl M2 386 1 = some (.int L) := (hJ2.2 386 1 (zNI (by decide) (zNI (by decide) (zNI_k (by decide) (by decide) (zNI_k (by decide) (by decide) (zNI_k (by decide) (by decide) (zNI_k (by decide) (by decide) (zNI_k (by decide) (by decide) zNI_nil)))))))).trans g1
  have x1 : XS (zi M) (zi M1) := XS_fr (zi_fr hJ1.2) (by decide +kernel)
  have x2 : XS (zi M1) (zi M2) := XS_fr (zi_fr hJ2.2) (by decide +kernel)
  have y0 := ziE e2
  have y1 := ziE g2
  have y2 := ziE h0
  have hX2 : XI (zi M2) := hX.of hC.two (x1.trans x2) (((zi_fr hJ2.2).a (by decide +kernel)).trans ((zi_fr hJ1.2).a (by decide +kernel))) (((zi_fr hJ2.2).a (by decide +kernel)).trans ((zi_fr hJ1.2).a (by decide +kernel))) (by omega) (by omega) (by omega)
  refine ⟨M2, ?_, hJ2.1, hZ2, hC1.fr (zi_fr hJ2.2) (by decide +kernel), hX2, L, by omega, by omega, e2, g2⟩
  intro jc jm sp h
  have h' : some (2087, 2405, [(1, false)]) = some (jc, jm, sp) := h
  cases h'
  obtain ⟨vs, s1, s2, s3⟩ := zSh_get hJ1.1.1 zs_386
  exact ⟨v, w, M1, fun h => absurd h (by decide), by rw [s3]; rfl, c1, c2⟩
theorem op_26 {X : List Int32} {q : Nat} {M : zM} (a : Nat → Int32) (hq : q ≤ 520) (hI : zInv q M) : ∃ M2, zOpOK X 100 26 a M M2 ∧ zInv (q + 1) M2 := by
  obtain ⟨hB, hZ, hC, hX, L, hL0, hL1, h0, h1⟩ := hI
  have hB1 := zB_mono hB (Nat.le_add_right q 1)
  have hh := zi_s hB1 zs_77 (by decide) zo_77_0
  obtain ⟨r1, c1, v, M1, rfl, -, -, hJ1, hP1⟩ := u_2088 (X := X) (d := 92) (N := q + 1)  (by omega) hB1 (v_2088 hC hh.1 hh.2)
  have hC1 : CI (zi M1) := hP1
  have g1 : zvl M1 386 1 = some (.int L) := (hJ1.2 386 1 (zNI (by decide) (zNI (by decide) (zNI (by decide) (zNI (by decide) (zNI (by decide) (zNI (by decide) (zNI (by decide) (zNI (by decide) (zNI (by decide) (zNI (by decide) (zNI (by decide) (zNI (by decide) (zNI (by decide) (zNI (by decide) (zNI (by decide) (zNI (by decide) (zNI (by decide) (zNI (by decide) (zNI (by decide) (zNI (by decide) (zNI (by decide) zNI_nil)))))))))))))))))))))).trans h1
  have e0 : zvl M1 0 1 = some (.int L) := (hJ1.2 0 1 (zNI (by decide) (zNI (by decide) (zNI (by decide) (zNI (by decide) (zNI (by decide) (zNI (by decide) (zNI (by decide) (zNI (by decide) (zNI (by decide) (zNI (by decide) (zNI (by decide) (zNI (by decide) (zNI (by decide) (zNI (by decide) (zNI (by decide) (zNI (by decide) (zNI (by decide) (zNI_k (by decide) (by decide) (zNI (by decide) (zNI (by decide) (zNI (by decide) zNI_nil)))))))))))))))))))))).trans h0
  have hZ1 : ZR (zi M1) := hZ.fr (zi_fr hJ1.2) rfl
  obtain ⟨r2, c2, w, M2, rfl, -, -, hJ2, hZ2, hP2⟩ := kk_2407 (X := X) (d := 90) (N := q + 1)  (by omega) hJ1.1 hZ1
  have e2 := (hJ2.2 0 1 (zNI (by decide) (zNI (by decide) (zNI (by decide) (zNI (by decide) (zNI (by decide) (zNI (by decide) (zNI (by decide) (zNI (by decide) (zNI (by decide) zNI_nil)))))))))).trans e0
  have g2 : zvl M2 386 1 = some (.int L) := (hJ2.2 386 1 (zNI (by decide) (zNI (by decide) (zNI_k (by decide) (by decide) (zNI_k (by decide) (by decide) (zNI_k (by decide) (by decide) (zNI_k (by decide) (by decide) (zNI_k (by decide) (by decide) (zNI_k (by decide) (by decide) (zNI_k (by decide) (by decide) zNI_nil)))))))))).trans g1
  have x1 : XS (zi M) (zi M1) := XS_fr (zi_fr hJ1.2) (by decide +kernel)
  have x2 : XS (zi M1) (zi M2) := XS_fr (zi_fr hJ2.2) (by decide +kernel)
  have y0 := ziE e2
  have y1 := ziE g2
  have y2 := ziE h0
  have hX2 : XI (zi M2) := hX.of hC.two (x1.trans x2) (((zi_fr hJ2.2).a (by decide +kernel)).trans ((zi_fr hJ1.2).a (by decide +kernel))) (((zi_fr hJ2.2).a (by decide +kernel)).trans ((zi_fr hJ1.2).a (by decide +kernel))) (by omega) (by omega) (by omega)
  refine ⟨M2, ?_, hJ2.1, hZ2, hC1.fr (zi_fr hJ2.2) (by decide +kernel), hX2, L, by omega, by omega, e2, g2⟩
  intro jc jm sp h
  have h' : some (2088, 2407, []) = some (jc, jm, sp) := h
  cases h'
  obtain ⟨vs, s1, s2, s3⟩ := zSh_get hJ1.1.1 zs_386
  exact ⟨v, w, M1, fun h => absurd h (by decide), by rw [s3]; rfl, c1, c2⟩
theorem op_27 {X : List Int32} {q : Nat} {M : zM} (a : Nat → Int32) (hq : q ≤ 520) (hI : zInv q M) : ∃ M2, zOpOK X 100 27 a M M2 ∧ zInv (q + 1) M2 := by
  obtain ⟨hB, hZ, hC, hX, L, hL0, hL1, h0, h1⟩ := hI
  have hB1 := zB_mono hB (Nat.le_add_right q 1)
  obtain ⟨r1, c1, v, M1, rfl, -, -, hJ1, hP1⟩ := k_2089 (X := X) (d := 92) (N := q + 1) (zbl false (a 1)) (by omega) hB1
  have hC1 : CI (zi M1) := hC.fr (zi_fr hJ1.2) (by decide +kernel)
  have g1 : zvl M1 386 1 = some (.int L) := (hJ1.2 386 1 (zNI (by decide) (zNI (by decide) (zNI (by decide) (zNI (by decide) (zNI (by decide) (zNI (by decide) (zNI (by decide) (zNI (by decide) (zNI (by decide) (zNI (by decide) (zNI (by decide) zNI_nil)))))))))))).trans h1
  have e0 : zvl M1 0 1 = some (.int L) := (hJ1.2 0 1 (zNI (by decide) (zNI (by decide) (zNI (by decide) (zNI (by decide) (zNI (by decide) (zNI (by decide) (zNI (by decide) (zNI (by decide) (zNI (by decide) (zNI (by decide) (zNI (by decide) zNI_nil)))))))))))).trans h0
  have hZ1 : ZR (zi M1) := hZ.fr (zi_fr hJ1.2) rfl
  obtain ⟨r2, c2, w, M2, rfl, -, -, hJ2, hZ2, hP2⟩ := kk_2408 (X := X) (d := 90) (N := q + 1) (zbl false (a 1)) (by omega) hJ1.1 hZ1
  have e2 := (hJ2.2 0 1 (zNI (by decide) (zNI (by decide) (zNI (by decide) (zNI (by decide) (zNI (by decide) zNI_nil)))))).trans e0
  have g2 : zvl M2 386 1 = some (.int L) := (hJ2.2 386 1 (zNI (by decide) (zNI (by decide) (zNI_k (by decide) (by decide) (zNI_k (by decide) (by decide) (zNI_k (by decide) (by decide) zNI_nil)))))).trans g1
  have x1 : XS (zi M) (zi M1) := XS_fr (zi_fr hJ1.2) (by decide +kernel)
  have x2 : XS (zi M1) (zi M2) := XS_fr (zi_fr hJ2.2) (by decide +kernel)
  have y0 := ziE e2
  have y1 := ziE g2
  have y2 := ziE h0
  have hX2 : XI (zi M2) := hX.of hC.two (x1.trans x2) (((zi_fr hJ2.2).a (by decide +kernel)).trans ((zi_fr hJ1.2).a (by decide +kernel))) (((zi_fr hJ2.2).a (by decide +kernel)).trans ((zi_fr hJ1.2).a (by decide +kernel))) (by omega) (by omega) (by omega)
  refine ⟨M2, ?_, hJ2.1, hZ2, hC1.fr (zi_fr hJ2.2) (by decide +kernel), hX2, L, by omega, by omega, e2, g2⟩
  intro jc jm sp h
  have h' : some (2089, 2408, [(1, false)]) = some (jc, jm, sp) := h
  cases h'
  obtain ⟨vs, s1, s2, s3⟩ := zSh_get hJ1.1.1 zs_386
  exact ⟨v, w, M1, fun h => absurd h (by decide), by rw [s3]; rfl, c1, c2⟩
theorem op_28 {X : List Int32} {q : Nat} {M : zM} (a : Nat → Int32) (hq : q ≤ 520) (hI : zInv q M) : ∃ M2, zOpOK X 100 28 a M M2 ∧ zInv (q + 1) M2 := by
  obtain ⟨hB, hZ, hC, hX, L, hL0, hL1, h0, h1⟩ := hI
  have hB1 := zB_mono hB (Nat.le_add_right q 1)
  obtain ⟨r1, c1, v, M1, rfl, -, -, hJ1, hP1⟩ := k_2090 (X := X) (d := 97) (N := q + 1)  (by omega) hB1
  have hC1 : CI (zi M1) := hC.fr (zi_fr hJ1.2) (by decide +kernel)
  have g1 : zvl M1 386 1 = some (.int L) := (hJ1.2 386 1 (zNI (by decide) (zNI (by decide) (zNI (by decide) (zNI (by decide) zNI_nil))))).trans h1
  obtain ⟨w0, e0, ew0, -⟩ := hP1
  have hZ1 : ZR (zi M1) := hZ.fr (zi_fr hJ1.2) rfl
  obtain ⟨r2, c2, w, M2, rfl, -, -, hJ2, hZ2, hP2⟩ := kk_2410 (X := X) (d := 98) (N := q + 1)  (by omega) hJ1.1 hZ1
  have e2 := (hJ2.2 0 1 (zNI (by decide) (zNI (by decide) (zNI (by decide) (zNI (by decide) zNI_nil))))).trans e0
  obtain ⟨w1, g2, ew1, -⟩ := hP2
  have eL : w1 = w0 := Int32.toInt_inj.mp (by omega)
  rw [eL] at g2
  have x1 : XS (zi M) (zi M1) := XS_fr (zi_fr hJ1.2) (by decide +kernel)
  have x2 : XS (zi M1) (zi M2) := XS_fr (zi_fr hJ2.2) (by decide +kernel)
  have y0 := ziE e2
  have y1 := ziE g2
  have y2 := ziE h0
  have hX2 : XI (zi M2) := hX.of hC.two (x1.trans x2) (((zi_fr hJ2.2).a (by decide +kernel)).trans ((zi_fr hJ1.2).a (by decide +kernel))) (((zi_fr hJ2.2).a (by decide +kernel)).trans ((zi_fr hJ1.2).a (by decide +kernel))) (by omega) (by omega) (by omega)
  refine ⟨M2, ?_, hJ2.1, hZ2, hC1.fr (zi_fr hJ2.2) (by decide +kernel), hX2, w0, by omega, by omega, e2, g2⟩
  intro jc jm sp h
  have h' : some (2090, 2410, []) = some (jc, jm, sp) := h
  cases h'
  obtain ⟨vs, s1, s2, s3⟩ := zSh_get hJ1.1.1 zs_386
  exact ⟨v, w, M1, fun h => absurd h (by decide), by rw [s3]; rfl, c1, c2⟩
theorem op_29 {X : List Int32} {q : Nat} {M : zM} (a : Nat → Int32) (hq : q ≤ 520) (hI : zInv q M) : ∃ M2, zOpOK X 100 29 a M M2 ∧ zInv (q + 1) M2 := by
  obtain ⟨hB, hZ, hC, hX, L, hL0, hL1, h0, h1⟩ := hI
  have hB1 := zB_mono hB (Nat.le_add_right q 1)
  obtain ⟨r1, c1, v, M1, rfl, -, -, hJ1, hP1⟩ := k_2093 (X := X) (d := 93) (N := q + 1) (zbl false (a 1)) (zbl false (a 2)) (by omega) hB1
  have hC1 : CI (zi M1) := hC.fr (zi_fr hJ1.2) (by decide +kernel)
  have g1 : zvl M1 386 1 = some (.int L) := (hJ1.2 386 1 (zNI (by decide) (zNI (by decide) (zNI (by decide) (zNI (by decide) zNI_nil))))).trans h1
  have e0 : zvl M1 0 1 = some (.int L) := (hJ1.2 0 1 (zNI (by decide) (zNI (by decide) (zNI (by decide) (zNI (by decide) zNI_nil))))).trans h0
  have hZ1 : ZR (zi M1) := hZ.fr (zi_fr hJ1.2) rfl
  obtain ⟨r2, c2, w, M2, rfl, -, -, hJ2, hZ2, hP2⟩ := kk_2411 (X := X) (d := 90) (N := q + 1) (zbl false (a 1)) (zbl false (a 2)) (by omega) hJ1.1 hZ1
  have e2 := (hJ2.2 0 1 (zNI (by decide) (zNI (by decide) (zNI (by decide) (zNI (by decide) (zNI (by decide) (zNI (by decide) zNI_nil))))))).trans e0
  have g2 : zvl M2 386 1 = some (.int L) := (hJ2.2 386 1 (zNI (by decide) (zNI (by decide) (zNI_k (by decide) (by decide) (zNI_k (by decide) (by decide) (zNI_k (by decide) (by decide) (zNI_k (by decide) (by decide) zNI_nil))))))).trans g1
  have x1 : XS (zi M) (zi M1) := XS_fr (zi_fr hJ1.2) (by decide +kernel)
  have x2 : XS (zi M1) (zi M2) := XS_fr (zi_fr hJ2.2) (by decide +kernel)
  have y0 := ziE e2
  have y1 := ziE g2
  have y2 := ziE h0
  have hX2 : XI (zi M2) := hX.of hC.two (x1.trans x2) (((zi_fr hJ2.2).a (by decide +kernel)).trans ((zi_fr hJ1.2).a (by decide +kernel))) (((zi_fr hJ2.2).a (by decide +kernel)).trans ((zi_fr hJ1.2).a (by decide +kernel))) (by omega) (by omega) (by omega)
  refine ⟨M2, ?_, hJ2.1, hZ2, hC1.fr (zi_fr hJ2.2) (by decide +kernel), hX2, L, by omega, by omega, e2, g2⟩
  intro jc jm sp h
  have h' : some (2093, 2411, [(1, false), (2, false)]) = some (jc, jm, sp) := h
  cases h'
  obtain ⟨vs, s1, s2, s3⟩ := zSh_get hJ1.1.1 zs_386
  exact ⟨v, w, M1, fun h => absurd h (by decide), by rw [s3]; rfl, c1, c2⟩
theorem op_30 {X : List Int32} {q : Nat} {M : zM} (a : Nat → Int32) (hq : q ≤ 520) (hI : zInv q M) : ∃ M2, zOpOK X 100 30 a M M2 ∧ zInv (q + 1) M2 := by
  obtain ⟨hB, hZ, hC, hX, L, hL0, hL1, h0, h1⟩ := hI
  have hB1 := zB_mono hB (Nat.le_add_right q 1)
  obtain ⟨r1, c1, v, M1, rfl, -, -, hJ1, hP1⟩ := k_2095 (X := X) (d := 97) (N := q + 1) (zbl false (a 1)) (zbl false (a 2)) (by omega) hB1
  have hC1 : CI (zi M1) := hC.fr (zi_fr hJ1.2) (by decide +kernel)
  have g1 : zvl M1 386 1 = some (.int L) := (hJ1.2 386 1 zNI_nil).trans h1
  have e0 : zvl M1 0 1 = some (.int L) := (hJ1.2 0 1 zNI_nil).trans h0
  have hZ1 : ZR (zi M1) := hZ.fr (zi_fr hJ1.2) rfl
  obtain ⟨r2, c2, w, M2, rfl, -, -, hJ2, hZ2, hP2⟩ := kk_2414 (X := X) (d := 96) (N := q + 1) (zbl false (a 1)) (zbl false (a 2)) (by omega) hJ1.1 hZ1
  have e2 := (hJ2.2 0 1 (zNI (by decide) zNI_nil)).trans e0
  have g2 : zvl M2 386 1 = some (.int L) := (hJ2.2 386 1 (zNI (by decide) zNI_nil)).trans g1
  have x1 : XS (zi M) (zi M1) := XS_fr (zi_fr hJ1.2) (by decide +kernel)
  have x2 : XS (zi M1) (zi M2) := XS_fr (zi_fr hJ2.2) (by decide +kernel)
  have y0 := ziE e2
  have y1 := ziE g2
  have y2 := ziE h0
  have hX2 : XI (zi M2) := hX.of hC.two (x1.trans x2) (((zi_fr hJ2.2).a (by decide +kernel)).trans ((zi_fr hJ1.2).a (by decide +kernel))) (((zi_fr hJ2.2).a (by decide +kernel)).trans ((zi_fr hJ1.2).a (by decide +kernel))) (by omega) (by omega) (by omega)
  refine ⟨M2, ?_, hJ2.1, hZ2, hC1.fr (zi_fr hJ2.2) (by decide +kernel), hX2, L, by omega, by omega, e2, g2⟩
  intro jc jm sp h
  have h' : some (2095, 2414, [(1, false), (2, false)]) = some (jc, jm, sp) := h
  cases h'
  obtain ⟨vs, s1, s2, s3⟩ := zSh_get hJ1.1.1 zs_386
  exact ⟨v, w, M1, fun h => absurd h (by decide), by rw [s3]; rfl, c1, c2⟩
theorem op_31 {X : List Int32} {q : Nat} {M : zM} (a : Nat → Int32) (hq : q ≤ 520) (hI : zInv q M) : ∃ M2, zOpOK X 100 31 a M M2 ∧ zInv (q + 1) M2 := by
  obtain ⟨hB, hZ, hC, hX, L, hL0, hL1, h0, h1⟩ := hI
  have hB1 := zB_mono hB (Nat.le_add_right q 1)
  obtain ⟨r1, c1, v, M1, rfl, -, -, hJ1, hP1⟩ := k_2100 (X := X) (d := 98) (N := q + 1) (zbl false (a 1)) (by omega) hB1
  have hC1 : CI (zi M1) := hC.fr (zi_fr hJ1.2) (by decide +kernel)
  have g1 : zvl M1 386 1 = some (.int L) := (hJ1.2 386 1 zNI_nil).trans h1
  have e0 : zvl M1 0 1 = some (.int L) := (hJ1.2 0 1 zNI_nil).trans h0
  have hZ1 : ZR (zi M1) := hZ.fr (zi_fr hJ1.2) rfl
  obtain ⟨r2, c2, w, M2, rfl, -, -, hJ2, hZ2, hP2⟩ := kk_2420 (X := X) (d := 98) (N := q + 1) (zbl false (a 1)) (by omega) hJ1.1 hZ1
  have e2 := (hJ2.2 0 1 zNI_nil).trans e0
  have g2 : zvl M2 386 1 = some (.int L) := (hJ2.2 386 1 zNI_nil).trans g1
  have x1 : XS (zi M) (zi M1) := XS_fr (zi_fr hJ1.2) (by decide +kernel)
  have x2 : XS (zi M1) (zi M2) := XS_fr (zi_fr hJ2.2) (by decide +kernel)
  have y0 := ziE e2
  have y1 := ziE g2
  have y2 := ziE h0
  have hX2 : XI (zi M2) := hX.of hC.two (x1.trans x2) (((zi_fr hJ2.2).a (by decide +kernel)).trans ((zi_fr hJ1.2).a (by decide +kernel))) (((zi_fr hJ2.2).a (by decide +kernel)).trans ((zi_fr hJ1.2).a (by decide +kernel))) (by omega) (by omega) (by omega)
  refine ⟨M2, ?_, hJ2.1, hZ2, hC1.fr (zi_fr hJ2.2) (by decide +kernel), hX2, L, by omega, by omega, e2, g2⟩
  intro jc jm sp h
  have h' : some (2100, 2420, [(1, false)]) = some (jc, jm, sp) := h
  cases h'
  obtain ⟨vs, s1, s2, s3⟩ := zSh_get hJ1.1.1 zs_386
  exact ⟨v, w, M1, fun h => absurd h (by decide), by rw [s3]; rfl, c1, c2⟩
theorem op_32 {X : List Int32} {q : Nat} {M : zM} (a : Nat → Int32) (hq : q ≤ 520) (hI : zInv q M) : ∃ M2, zOpOK X 100 32 a M M2 ∧ zInv (q + 1) M2 := by
  obtain ⟨hB, hZ, hC, hX, L, hL0, hL1, h0, h1⟩ := hI
  have hB1 := zB_mono hB (Nat.le_add_right q 1)
  obtain ⟨r1, c1, v, M1, rfl, -, -, hJ1, hP1⟩ := k_2102 (X := X) (d := 99) (N := q + 1) (zbl false (a 1)) (zbl false (a 2)) (by omega) hB1
  have hC1 : CI (zi M1) := hC.fr (zi_fr hJ1.2) (by decide +kernel)
  have g1 : zvl M1 386 1 = some (.int L) := (hJ1.2 386 1 zNI_nil).trans h1
  have e0 : zvl M1 0 1 = some (.int L) := (hJ1.2 0 1 zNI_nil).trans h0
  have hZ1 : ZR (zi M1) := hZ.fr (zi_fr hJ1.2) rfl
  obtain ⟨r2, c2, w, M2, rfl, -, -, hJ2, hZ2, hP2⟩ := kk_2421 (X := X) (d := 98) (N := q + 1) (zbl false (a 1)) (zbl false (a 2)) (by omega) hJ1.1 hZ1
  have e2 := (hJ2.2 0 1 zNI_nil).trans e0
  have g2 : zvl M2 386 1 = some (.int L) := (hJ2.2 386 1 zNI_nil).trans g1
  have x1 : XS (zi M) (zi M1) := XS_fr (zi_fr hJ1.2) (by decide +kernel)
  have x2 : XS (zi M1) (zi M2) := XS_fr (zi_fr hJ2.2) (by decide +kernel)
  have y0 := ziE e2
  have y1 := ziE g2
  have y2 := ziE h0
  have hX2 : XI (zi M2) := hX.of hC.two (x1.trans x2) (((zi_fr hJ2.2).a (by decide +kernel)).trans ((zi_fr hJ1.2).a (by decide +kernel))) (((zi_fr hJ2.2).a (by decide +kernel)).trans ((zi_fr hJ1.2).a (by decide +kernel))) (by omega) (by omega) (by omega)
  refine ⟨M2, ?_, hJ2.1, hZ2, hC1.fr (zi_fr hJ2.2) (by decide +kernel), hX2, L, by omega, by omega, e2, g2⟩
  intro jc jm sp h
  have h' : some (2102, 2421, [(1, false), (2, false)]) = some (jc, jm, sp) := h
  cases h'
  obtain ⟨vs, s1, s2, s3⟩ := zSh_get hJ1.1.1 zs_386
  exact ⟨v, w, M1, fun h => absurd h (by decide), by rw [s3]; rfl, c1, c2⟩
theorem op_33 {X : List Int32} {q : Nat} {M : zM} (a : Nat → Int32) (hq : q ≤ 520) (hI : zInv q M) : ∃ M2, zOpOK X 100 33 a M M2 ∧ zInv (q + 1) M2 := by
  obtain ⟨hB, hZ, hC, hX, L, hL0, hL1, h0, h1⟩ := hI
  have hB1 := zB_mono hB (Nat.le_add_right q 1)
  obtain ⟨tvc, ftc, htc, huc⟩ := zB_cnt hB (zs_49) (by decide) (zo_49_14)
  have htg := ziE ftc
  obtain ⟨r1, c1, v, M1, rfl, -, -, hJ1, hP1⟩ := u_2103 (X := X) (d := 92) (N := q + 1) (zbl false (a 1)) (zbl false (a 2)) (zbl false (a 3)) (by omega) hB1 (v_2103 hC (by omega))
  have hC1 : CI (zi M1) := hP1
  have g1 : zvl M1 386 1 = some (.int L) := (hJ1.2 386 1 (zNI (by decide) (zNI (by decide) (zNI (by decide) (zNI (by decide) (zNI (by decide) (zNI (by decide) (zNI (by decide) (zNI (by decide) (zNI (by decide) (zNI (by decide) (zNI (by decide) (zNI (by decide) (zNI (by decide) zNI_nil)))))))))))))).trans h1
  have e0 : zvl M1 0 1 = some (.int L) := (hJ1.2 0 1 (zNI (by decide) (zNI (by decide) (zNI (by decide) (zNI (by decide) (zNI (by decide) (zNI (by decide) (zNI (by decide) (zNI (by decide) (zNI (by decide) (zNI (by decide) (zNI (by decide) (zNI (by decide) (zNI (by decide) zNI_nil)))))))))))))).trans h0
  have hZ1 : ZR (zi M1) := hZ.fr (zi_fr hJ1.2) rfl
  obtain ⟨r2, c2, w, M2, rfl, -, -, hJ2, hZ2, hP2⟩ := kk_2422 (X := X) (d := 90) (N := q + 1) (zbl false (a 1)) (zbl false (a 2)) (zbl false (a 3)) (by omega) hJ1.1 hZ1
  have e2 := (hJ2.2 0 1 (zNI (by decide) (zNI (by decide) (zNI (by decide) (zNI (by decide) (zNI (by decide) (zNI (by decide) (zNI (by decide) (zNI (by decide) zNI_nil))))))))).trans e0
  have g2 : zvl M2 386 1 = some (.int L) := (hJ2.2 386 1 (zNI (by decide) (zNI (by decide) (zNI_k (by decide) (by decide) (zNI_k (by decide) (by decide) (zNI_k (by decide) (by decide) (zNI_k (by decide) (by decide) (zNI_k (by decide) (by decide) (zNI_k (by decide) (by decide) zNI_nil))))))))).trans g1
  have x1 : XS (zi M) (zi M1) := XS_fr (zi_fr hJ1.2) (by decide +kernel)
  have x2 : XS (zi M1) (zi M2) := XS_fr (zi_fr hJ2.2) (by decide +kernel)
  have y0 := ziE e2
  have y1 := ziE g2
  have y2 := ziE h0
  have hX2 : XI (zi M2) := hX.of hC.two (x1.trans x2) (((zi_fr hJ2.2).a (by decide +kernel)).trans ((zi_fr hJ1.2).a (by decide +kernel))) (((zi_fr hJ2.2).a (by decide +kernel)).trans ((zi_fr hJ1.2).a (by decide +kernel))) (by omega) (by omega) (by omega)
  refine ⟨M2, ?_, hJ2.1, hZ2, hC1.fr (zi_fr hJ2.2) (by decide +kernel), hX2, L, by omega, by omega, e2, g2⟩
  intro jc jm sp h
  have h' : some (2103, 2422, [(1, false), (2, false), (3, false)]) = some (jc, jm, sp) := h
  cases h'
  obtain ⟨vs, s1, s2, s3⟩ := zSh_get hJ1.1.1 zs_386
  exact ⟨v, w, M1, fun h => absurd h (by decide), by rw [s3]; rfl, c1, c2⟩
theorem op_34 {X : List Int32} {q : Nat} {M : zM} (a : Nat → Int32) (hq : q ≤ 520) (hI : zInv q M) : ∃ M2, zOpOK X 100 34 a M M2 ∧ zInv (q + 1) M2 := by
  obtain ⟨hB, hZ, hC, hX, L, hL0, hL1, h0, h1⟩ := hI
  have hB1 := zB_mono hB (Nat.le_add_right q 1)
  obtain ⟨r1, c1, v, M1, rfl, -, -, hJ1, hP1⟩ := k_2105 (X := X) (d := 97) (N := q + 1)  (by omega) hB1
  have hC1 : CI (zi M1) := hC.fr (zi_fr hJ1.2) (by decide +kernel)
  have g1 : zvl M1 386 1 = some (.int L) := (hJ1.2 386 1 (zNI (by decide) (zNI (by decide) zNI_nil))).trans h1
  have e0 : zvl M1 0 1 = some (.int L) := (hJ1.2 0 1 (zNI (by decide) (zNI_k (by decide) (by decide) zNI_nil))).trans h0
  have hZ1 : ZR (zi M1) := hZ.fr (zi_fr hJ1.2) rfl
  obtain ⟨r2, c2, w, M2, rfl, -, -, hJ2, hZ2, hP2⟩ := kk_2423 (X := X) (d := 98) (N := q + 1)  (by omega) hJ1.1 hZ1
  have e2 := (hJ2.2 0 1 (zNI (by decide) (zNI (by decide) zNI_nil))).trans e0
  have g2 : zvl M2 386 1 = some (.int L) := (hJ2.2 386 1 (zNI (by decide) (zNI_k (by decide) (by decide) zNI_nil))).trans g1
  have x1 : XS (zi M) (zi M1) := XS_fr (zi_fr hJ1.2) (by decide +kernel)
  have x2 : XS (zi M1) (zi M2) := XS_fr (zi_fr hJ2.2) (by decide +kernel)
  have y0 := ziE e2
  have y1 := ziE g2
  have y2 := ziE h0
  have hX2 : XI (zi M2) := hX.of hC.two (x1.trans x2) (((zi_fr hJ2.2).a (by decide +kernel)).trans ((zi_fr hJ1.2).a (by decide +kernel))) (((zi_fr hJ2.2).a (by decide +kernel)).trans ((zi_fr hJ1.2).a (by decide +kernel))) (by omega) (by omega) (by omega)
  refine ⟨M2, ?_, hJ2.1, hZ2, hC1.fr (zi_fr hJ2.2) (by decide +kernel), hX2, L, by omega, by omega, e2, g2⟩
  intro jc jm sp h
  have h' : some (2105, 2423, []) = some (jc, jm, sp) := h
  cases h'
  obtain ⟨vs, s1, s2, s3⟩ := zSh_get hJ1.1.1 zs_386
  exact ⟨v, w, M1, fun h => absurd h (by decide), by rw [s3]; rfl, c1, c2⟩
theorem op_35 {X : List Int32} {q : Nat} {M : zM} (a : Nat → Int32) (hq : q ≤ 520) (hI : zInv q M) : ∃ M2, zOpOK X 100 35 a M M2 ∧ zInv (q + 1) M2 := by
  obtain ⟨hB, hZ, hC, hX, L, hL0, hL1, h0, h1⟩ := hI
  have hB1 := zB_mono hB (Nat.le_add_right q 1)
  obtain ⟨r1, c1, v, M1, rfl, -, -, hJ1, hP1⟩ := k_2109 (X := X) (d := 99) (N := q + 1) (zbl false (a 1)) (by omega) hB1
  have hC1 : CI (zi M1) := hC.fr (zi_fr hJ1.2) (by decide +kernel)
  have g1 : zvl M1 386 1 = some (.int L) := (hJ1.2 386 1 zNI_nil).trans h1
  have e0 : zvl M1 0 1 = some (.int L) := (hJ1.2 0 1 zNI_nil).trans h0
  have hZ1 : ZR (zi M1) := hZ.fr (zi_fr hJ1.2) rfl
  obtain ⟨r2, c2, w, M2, rfl, -, -, hJ2, hZ2, hP2⟩ := kk_2425 (X := X) (d := 98) (N := q + 1) (zbl false (a 1)) (by omega) hJ1.1 hZ1
  have e2 := (hJ2.2 0 1 zNI_nil).trans e0
  have g2 : zvl M2 386 1 = some (.int L) := (hJ2.2 386 1 zNI_nil).trans g1
  have x1 : XS (zi M) (zi M1) := XS_fr (zi_fr hJ1.2) (by decide +kernel)
  have x2 : XS (zi M1) (zi M2) := XS_fr (zi_fr hJ2.2) (by decide +kernel)
  have y0 := ziE e2
  have y1 := ziE g2
  have y2 := ziE h0
  have hX2 : XI (zi M2) := hX.of hC.two (x1.trans x2) (((zi_fr hJ2.2).a (by decide +kernel)).trans ((zi_fr hJ1.2).a (by decide +kernel))) (((zi_fr hJ2.2).a (by decide +kernel)).trans ((zi_fr hJ1.2).a (by decide +kernel))) (by omega) (by omega) (by omega)
  refine ⟨M2, ?_, hJ2.1, hZ2, hC1.fr (zi_fr hJ2.2) (by decide +kernel), hX2, L, by omega, by omega, e2, g2⟩
  intro jc jm sp h
  have h' : some (2109, 2425, [(1, false)]) = some (jc, jm, sp) := h
  cases h'
  obtain ⟨vs, s1, s2, s3⟩ := zSh_get hJ1.1.1 zs_386
  exact ⟨v, w, M1, fun h => absurd h (by decide), by rw [s3]; rfl, c1, c2⟩
theorem op_36 {X : List Int32} {q : Nat} {M : zM} (a : Nat → Int32) (hq : q ≤ 520) (hI : zInv q M) : ∃ M2, zOpOK X 100 36 a M M2 ∧ zInv (q + 1) M2 := by
  obtain ⟨hB, hZ, hC, hX, L, hL0, hL1, h0, h1⟩ := hI
  have hB1 := zB_mono hB (Nat.le_add_right q 1)
  obtain ⟨r1, c1, v, M1, rfl, -, -, hJ1, hP1⟩ := u_2110 (X := X) (d := 95) (N := q + 1)  (by omega) hB1 (v_2110 hC)
  have hC1 : CI (zi M1) := hP1.1
  have g1 : zvl M1 386 1 = some (.int L) := (hJ1.2 386 1 (zNI (by decide) (zNI (by decide) (zNI (by decide) (zNI (by decide) (zNI (by decide) (zNI (by decide) (zNI (by decide) (zNI (by decide) (zNI (by decide) zNI_nil)))))))))).trans h1
  obtain ⟨w0, e0, -, -⟩ := zB_int hJ1.1 zs_0 (by decide) zo_0_1
  have ew0 : w0.toInt = 0 := (ziE e0).trans hP1.2
  have hZ1 : ZR (zi M1) := hZ.fr (zi_fr hJ1.2) rfl
  obtain ⟨r2, c2, w, M2, rfl, -, -, hJ2, hZ2, hP2⟩ := kk_2426 (X := X) (d := 96) (N := q + 1)  (by omega) hJ1.1 hZ1
  have e2 := (hJ2.2 0 1 (zNI (by decide) (zNI (by decide) (zNI (by decide) (zNI (by decide) (zNI (by decide) zNI_nil)))))).trans e0
  obtain ⟨w1, g2, ew1, -⟩ := hP2
  have eL : w1 = w0 := Int32.toInt_inj.mp (by omega)
  rw [eL] at g2
  have x1 : XS (zi M) (zi M1) := XS_fr (zi_fr hJ1.2) (by decide +kernel)
  have x2 : XS (zi M1) (zi M2) := XS_fr (zi_fr hJ2.2) (by decide +kernel)
  have y0 := ziE e2
  have y1 := ziE g2
  have y2 := ziE h0
  have hX2 : XI (zi M2) := hX.of hC.two (x1.trans x2) (((zi_fr hJ2.2).a (by decide +kernel)).trans ((zi_fr hJ1.2).a (by decide +kernel))) (((zi_fr hJ2.2).a (by decide +kernel)).trans ((zi_fr hJ1.2).a (by decide +kernel))) (by omega) (by omega) (by omega)
  refine ⟨M2, ?_, hJ2.1, hZ2, hC1.fr (zi_fr hJ2.2) (by decide +kernel), hX2, w0, by omega, by omega, e2, g2⟩
  intro jc jm sp h
  have h' : some (2110, 2426, []) = some (jc, jm, sp) := h
  cases h'
  obtain ⟨vs, s1, s2, s3⟩ := zSh_get hJ1.1.1 zs_386
  exact ⟨v, w, M1, fun h => absurd h (by decide), by rw [s3]; rfl, c1, c2⟩
theorem op_37 {X : List Int32} {q : Nat} {M : zM} (a : Nat → Int32) (hq : q ≤ 520) (hI : zInv q M) : ∃ M2, zOpOK X 100 37 a M M2 ∧ zInv (q + 1) M2 := by
  obtain ⟨hB, hZ, hC, hX, L, hL0, hL1, h0, h1⟩ := hI
  have hB1 := zB_mono hB (Nat.le_add_right q 1)
  obtain ⟨r1, c1, v, M1, rfl, -, -, hJ1, hP1⟩ := k_2113 (X := X) (d := 99) (N := q + 1) (zbl false (a 1)) (by omega) hB1
  have hC1 : CI (zi M1) := hC.fr (zi_fr hJ1.2) (by decide +kernel)
  have g1 : zvl M1 386 1 = some (.int L) := (hJ1.2 386 1 zNI_nil).trans h1
  have e0 : zvl M1 0 1 = some (.int L) := (hJ1.2 0 1 zNI_nil).trans h0
  have hZ1 : ZR (zi M1) := hZ.fr (zi_fr hJ1.2) rfl
  obtain ⟨r2, c2, w, M2, rfl, -, -, hJ2, hZ2, hP2⟩ := kk_2344 (X := X) (d := 98) (N := q + 1) (zbl false (a 1)) (by omega) hJ1.1 hZ1
  have e2 := (hJ2.2 0 1 zNI_nil).trans e0
  have g2 : zvl M2 386 1 = some (.int L) := (hJ2.2 386 1 zNI_nil).trans g1
  have x1 : XS (zi M) (zi M1) := XS_fr (zi_fr hJ1.2) (by decide +kernel)
  have x2 : XS (zi M1) (zi M2) := XS_fr (zi_fr hJ2.2) (by decide +kernel)
  have y0 := ziE e2
  have y1 := ziE g2
  have y2 := ziE h0
  have hX2 : XI (zi M2) := hX.of hC.two (x1.trans x2) (((zi_fr hJ2.2).a (by decide +kernel)).trans ((zi_fr hJ1.2).a (by decide +kernel))) (((zi_fr hJ2.2).a (by decide +kernel)).trans ((zi_fr hJ1.2).a (by decide +kernel))) (by omega) (by omega) (by omega)
  refine ⟨M2, ?_, hJ2.1, hZ2, hC1.fr (zi_fr hJ2.2) (by decide +kernel), hX2, L, by omega, by omega, e2, g2⟩
  intro jc jm sp h
  have h' : some (2113, 2344, [(1, false)]) = some (jc, jm, sp) := h
  cases h'
  obtain ⟨vs, s1, s2, s3⟩ := zSh_get hJ1.1.1 zs_386
  exact ⟨v, w, M1, fun h => absurd h (by decide), by rw [s3]; rfl, c1, c2⟩
