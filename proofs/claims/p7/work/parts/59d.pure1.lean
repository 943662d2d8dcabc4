/-! pure proofs (wip/safe/vcp.py) -/
set_option maxHeartbeats 4000000 in
theorem v_2338 {s0 : zF} {a0 : Int} {Q : Int → zF → Prop} (hQ : Q (rk a0) s0) : b_2338 s0 a0 Q := by
  unfold b_2338
  refine ⟨fun h1 => ?_, fun h1 => ?_⟩
  · skip
    refine ⟨fun h2 => ?_, fun h2 => ?_⟩
    · skip
      refine ⟨fun h3 => ?_, fun h3 => ?_⟩
      · skip
        refine ⟨fun h4 => ?_, fun h4 => ?_⟩
        · skip
          refine ⟨fun h5 => ?_, fun h5 => ?_⟩
          · skip
            refine ⟨fun h6 => ?_, fun h6 => ?_⟩
            · skip
              refine ⟨fun h7 => ?_, fun h7 => ?_⟩
              · skip
                refine ⟨fun h8 => ?_, fun h8 => ?_⟩
                · skip
                  have e : rk a0 = 6 := by
                    unfold rk
                    repeat' split
                    all_goals omega
                  rw [e] at hQ
                  exact hQ
                · skip
                  have e : rk a0 = 5 := by
                    unfold rk
                    repeat' split
                    all_goals omega
                  rw [e] at hQ
                  exact hQ
              · skip
                have e : rk a0 = 5 := by
                  unfold rk
                  repeat' split
                  all_goals omega
                rw [e] at hQ
                exact hQ
            · skip
              have e : rk a0 = 4 := by
                unfold rk
                repeat' split
                all_goals omega
              rw [e] at hQ
              exact hQ
          · skip
            have e : rk a0 = 4 := by
              unfold rk
              repeat' split
              all_goals omega
            rw [e] at hQ
            exact hQ
        · skip
          have e : rk a0 = 4 := by
            unfold rk
            repeat' split
            all_goals omega
          rw [e] at hQ
          exact hQ
      · skip
        have e : rk a0 = 3 := by
          unfold rk
          repeat' split
          all_goals omega
        rw [e] at hQ
        exact hQ
    · skip
      have e : rk a0 = 2 := by
        unfold rk
        repeat' split
        all_goals omega
      rw [e] at hQ
      exact hQ
  · skip
    have e : rk a0 = 1 := by
      unfold rk
      repeat' split
      all_goals omega
    rw [e] at hQ
    exact hQ
set_option maxHeartbeats 4000000 in
theorem v_2335 {s0 : zF} {a0 a1 : Int} {Q : zF → Prop} (h : s0 386 34 ≤ 1599) (ha : 0 ≤ a0 ∧ a0 ≤ 22) (hQ : Q (addF s0 a0 a1)) : b_2335 s0 a0 a1 Q := by
  unfold b_2335
  intro x1 ex1 fx1 gx1
  intro x5 ex5
  intro x7 ex7 fx7 gx7
  intro x11 ex11
  have oh13 : (x11 ≤ 3199) := by
    omega
  refine ⟨oh13, ?_⟩
  have oh14 : (0 ≤ a0 ∧ a0 ≤ 22) := by
    omega
  refine ⟨oh14, ?_⟩
  intro g19 eg19
  intro x21 ex21
  intro x24 ex24
  have oh26 : (x24 ≤ 3199) := by
    omega
  refine ⟨oh26, ?_⟩
  intro g31 eg31
  intro x33 ex33
  have oh39 : (x33 ≤ 1600) := by
    omega
  refine ⟨oh39, ?_⟩
  intro g40 eg40
  subst_vars
  exact hQ
set_option maxHeartbeats 4000000 in
theorem v_2332 {s0 : zF} {a0 : Int} {Q : zF → Prop} (h : s0 386 44 ≤ 499) (ha : 0 ≤ a0 ∧ a0 ≤ 22) (hQ : Q (hbF s0 a0)) : b_2332 s0 a0 Q := by
  unfold b_2332
  intro x1 ex1 fx1 gx1
  have oh5 : (x1 ≤ 499) := by
    omega
  refine ⟨oh5, ?_⟩
  have oh6 : (0 ≤ a0 ∧ a0 ≤ 22) := by
    omega
  refine ⟨oh6, ?_⟩
  intro g11 eg11
  intro x13 ex13
  intro g19 eg19
  subst_vars
  exact hQ
set_option maxHeartbeats 4000000 in
theorem v_2329 {s0 : zF} {a0 : Int} {Q : zF → Prop} (h : s0 386 41 ≤ 19) (ha : 0 ≤ a0 ∧ a0 ≤ 5) (hQ : Q (puF s0 a0)) : b_2329 s0 a0 Q := by
  unfold b_2329
  intro x1 ex1 fx1 gx1
  have oh5 : (x1 ≤ 19) := by
    omega
  refine ⟨oh5, ?_⟩
  have oh6 : (0 ≤ a0 ∧ a0 ≤ 5) := by
    omega
  refine ⟨oh6, ?_⟩
  intro g11 eg11
  intro g17 eg17
  intro g23 eg23
  intro x25 ex25 fx25 gx25
  intro g33 eg33
  intro x35 ex35
  intro g41 eg41
  subst_vars
  exact hQ
set_option maxHeartbeats 4000000 in
theorem v_2337 {c0 a0 : Int} {s0 : zF} (hs : RI c0 1 s0) (hk : s0 386 8 = 0) : b_2337 s0 a0 (fun g => JP c0 s0 a0 g) := by
  refine ⟨fun n g v0_1 => n = (g 386 44).toNat ∧ v0_1 = a0 ∧ RI c0 1 g ∧ CS c0 s0 g, ?_, ?_⟩
  · skip
    exact ⟨_, rfl, rfl, hs, CS.refl⟩
  · intro n g v0_1 rg  hI
    obtain ⟨hn, hv, hr, hc⟩ := hI
    have hd := hr.dn
    have hsg := hr.1
    unfold SG at hsg
    have hkg : g 386 8 = 0 := (rg.s (by decide)).trans hk
    intro x1 ex1 fx1 gx1
    intro x5 ex5 fx5 gx5
    intro x9 ex9
    have oh11 : (0 ≤ x9) := by
      omega
    refine ⟨oh11, ?_⟩
    intro x15 ex15 fx15 gx15
    refine ⟨fun h16 => ?_, fun h16 => ?_⟩
    · skip
      intro x17 ex17
      intro x22 ex22 fx22 gx22
      refine ⟨fun v g' => v = rk x22 ∧ g' = g, ?_, ?_⟩
      · skip
        exact v_2338 ⟨rfl, rfl⟩
      · skip
        intro x28 hx281 hx282 g31 rg31 qg31
        refine ⟨fun h33 => ?_, fun h33 => ?_⟩
        · skip
          obtain ⟨q1, q2⟩ : _ = rk _ ∧ g31 = g := qg31
          rw [q2]
          refine JP_top hr hc (fun h => ?_)
          rw [show g 386 44 - 1 = x17 by omega, ← ex22]
          omega
        · skip
          intro x35 ex35
          intro g41 eg41
          intro x45 ex45 fx45 gx45
          refine ⟨fun g' => g' = addF g41 x45 0, ?_, ?_⟩
          · skip
            refine v_2335 ?_ ?_ rfl
            · obtain ⟨q1, q2⟩ : _ = rk _ ∧ g31 = g := qg31
              rw [eg41, q2]
              show g 386 34 ≤ 1599
              have hb : g 413 (g 386 41 - 1).toNat < g 386 44 := by
                rw [show g 386 41 - 1 = x9 by omega]
                omega
              omega
            · omega
          · skip
            intro g51 rg51 qg51
            obtain ⟨q1, q2⟩ : _ = rk _ ∧ g31 = g := qg31
            have e1 : g41 = zup g 386 44 (g 386 44 - 1) := by
              rw [eg41, q2]
              congr 1
              omega
            have e2 : g51 = addF g41 x45 0 := qg51
            have e4 : x45 = g 414 (g 386 44 - 1).toNat := by
              rw [ex45, e1, zup_ne (Or.inl (by decide))]
              congr 1
              omega
            have hb : g 413 (g 386 41 - 1).toNat < g 386 44 := by
              rw [show g 386 41 - 1 = x9 by omega]
              omega
            rw [e1, e4] at e2
            obtain ⟨j1, j2⟩ := J_pop hr hkg hb e2
            refine ⟨_, ?_, rfl, hv, j1, hc.trans (rg.s (by decide)) j2⟩
            rw [e2]
            show (g 386 44 - 1).toNat < n
            omega
    · skip
      refine JP_top hr hc (fun h => ?_)
      rw [show g 386 41 - 1 = x9 by omega] at h
      omega
