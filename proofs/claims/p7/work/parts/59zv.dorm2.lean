/-! dorm() of the class (wip/safe/gen35.py) -/
set_option maxHeartbeats 4000000 in
theorem v_2053 {s0 : zF} (h : CI s0) (hw : OWS s0) : b_2053 s0 (fun v g => (CI g ∧ g 0 1 = 0) ∧ DCQ s0 v g) := by
  unfold b_2053
  intro x1 ex1 fx1 gx1
  intro g9 eg9
  refine ⟨fun v g' => RDQ (g9 1) (x1 : Int).toNat (g9 2 8).toNat v g' ∧ (v = 1 → g' 2 0 = 0 ∧ g' 2 1 = -1), ?_, ?_⟩
  · skip
    have hw1 : OWS g9 := by
      intro k hk
      rw [eg9, zup_ne (Or.inl (by decide))]
      exact hw k hk
    exact cj_1281 (v_1281 hw1 (by omega) (by omega)) w_1281
  intro q14 eq14 fq14
  · skip
    intro x19 hx191 hx192 g22 rg22 qg22 kg22
    refine ⟨fun h24 => ?_, fun h24 => ?_⟩
    · skip
      intro b25 eb25 fb25
      intro b29 eb29 fb29
      intro g37 eg37
      intro g42 eg42
      refine ⟨fun g' => g' 49 0 = g42 b29 1, ?_, ?_⟩
      · skip
        exact v_1537
      · skip
        intro g49 rg49 qg49
        refine ⟨fun g' => g' = zup g49 77 0 0, ?_, ?_⟩
        · skip
          exact v_1
        · skip
          intro g56 rg56 qg56
          intro g62 eg62
          intro x63 ex63
          intro x67 
          intro g72 eg72
          intro x74 ex74 fx74 gx74
          refine ⟨?_, ?_⟩
          · have C1 : CI g9 := by
              rw [eg9]
              exact h.ups (by decide)
            have q5 : g49 49 0 = g42 b29 1 := qg49
            have q6 : g56 = zup g49 77 0 0 := qg56
            refine ⟨C1.dorm rg22 (by decide) eb25 eb29 (g := g49) (x := x67) (by rw [← eg37, ← eg42]; exact rg49) (by rw [← eg37, ← eg42]; exact q5) (by rw [eg72, eg62, q6]), ?_⟩
            rw [eg72, zup_ne (Or.inr (by decide)), eg62, zup_ne (Or.inr (by decide)), rg56.s (a := 0) (k := 1) (by decide), rg49.s (a := 0) (k := 1) (by decide), eg42, zup_ne (Or.inl (by decide)), eg37, zup_ne (Or.inr (by decide)), rg22.s (a := 0) (k := 1) (by decide), eg9, zup_eq]
          · have hq8 : (q14 : Int) = s0 2 8 := by
              have w : g9 2 8 = s0 2 8 := by rw [eg9, zup_ne (Or.inl (by decide))]
              omega
            obtain ⟨rq, rk⟩ : RDQ (g9 1) (x1 : Int).toNat (g9 2 8).toNat x19 g22 ∧ (x19 = 1 → g22 2 0 = 0 ∧ g22 2 1 = -1) := qg22
            have T1 : g9 1 = s0 1 := by rw [eg9, zup_na (by decide)]
            have b8 : (g9 2 8).toNat = q14 := by omega
            rw [T1, b8, ex1] at rq
            obtain ⟨t, P, e, tk, rr⟩ := rq
            have ci := h.1
            have ebq : b29 = q14 := by
              have w : g22 2 8 = g9 2 8 := rg22.s (by decide)
              have w2 : g9 2 8 = s0 2 8 := by rw [eg9, zup_ne (Or.inl (by decide))]
              omega
            rcases rr with ⟨-, n, d, z1, z2, z3⟩ | ⟨z, -⟩
            rotate_left
            · exfalso
              omega
            obtain ⟨rk0, rk1⟩ := rk (by omega)
            have u03 : g72 0 3 = (b29 : Int) := by
              rw [eg72, zup_ne (Or.inr (by decide)), eg62, zup_ne (Or.inr (by decide)), rg56.s (by decide), rg49.s (by decide), eg42, zup_ne (Or.inl (by decide)), eg37, zup_eq]
            have u20 : g72 2 0 = 0 := by
              rw [eg72, zup_ne (Or.inl (by decide)), eg62, zup_ne (Or.inl (by decide)), rg56.s (by decide), rg49.s (by decide), eg42, zup_ne (Or.inr (by decide)), eg37, zup_ne (Or.inl (by decide)), rk0]
            have u21 : g72 2 1 = -1 := by
              rw [eg72, zup_ne (Or.inl (by decide)), eg62, zup_ne (Or.inl (by decide)), rg56.s (by decide), rg49.s (by decide), eg42, zup_ne (Or.inr (by decide)), eg37, zup_ne (Or.inl (by decide)), rk1]
            have uc : ∀ c, 7 ≤ c → c < 49 → g72 c = g22 c := by
              intro c c1 c2
              funext k
              have n5 : ¬ zIR [(49, 50, 0), (49, 50, 1), (50, 62, 1000), (49, 50, 14)] c k := by
                rintro ⟨p, hp, h1, h2, -⟩
                simp only [List.mem_cons, List.not_mem_nil, or_false] at hp
                rcases hp with hp | hp | hp | hp <;> (subst hp; simp only at h1 h2; omega)
              have n6 : ¬ zIR [(77, 78, 0)] c k := by
                rintro ⟨p, hp, h1, h2, -⟩
                simp only [List.mem_cons, List.not_mem_nil, or_false] at hp
                subst hp
                simp only at h1 h2
                omega
              rw [eg72, zup_ne (Or.inl (by omega)), eg62, zup_ne (Or.inl (by omega)), rg56 c k n6, rg49 c k n5, eg42, zup_ne (Or.inl (by omega)), eg37, zup_ne (Or.inl (by omega))]
            rw [← ebq] at z2 z3
            refine ⟨t, P, e, tk, Or.inl ⟨n, d, z1, ?_, u20, u21, ?_⟩⟩
            · have w : g72 b29 0 = g22 b29 0 := congrFun (uc b29 (by omega) (by omega)) 0
              omega
            · rw [u03, show ((b29 : Nat) : Int).toNat = b29 by omega]
              exact DIC_fr z3 (uc _ (by omega) (by omega)) (uc _ (by omega) (by omega)) (uc _ (by omega) (by omega)) (uc _ (by omega) (by omega))
    · skip
      intro g81 rg81 
      refine ⟨?_, ?_⟩
      · have C1 : CI g9 := by
          rw [eg9]
          exact h.ups (by decide)
        have C2 : CI g22 := C1.read eq14 rg22 (by decide) kg22
        refine ⟨C2.fr rg81 (by decide), ?_⟩
        rw [rg81.s (a := 0) (k := 1) (by decide), rg22.s (a := 0) (k := 1) (by decide), eg9, zup_eq]
      · have hq8 : (q14 : Int) = s0 2 8 := by
          have w : g9 2 8 = s0 2 8 := by rw [eg9, zup_ne (Or.inl (by decide))]
          omega
        obtain ⟨rq, rk⟩ : RDQ (g9 1) (x1 : Int).toNat (g9 2 8).toNat x19 g22 ∧ (x19 = 1 → g22 2 0 = 0 ∧ g22 2 1 = -1) := qg22
        have T1 : g9 1 = s0 1 := by rw [eg9, zup_na (by decide)]
        have b8 : (g9 2 8).toNat = q14 := by omega
        rw [T1, b8, ex1] at rq
        obtain ⟨t, P, e, tk, rr⟩ := rq
        have ci := h.1
        rcases rr with ⟨z, -⟩ | ⟨-, z⟩
        · exfalso
          omega
        refine ⟨t, P, e, tk, Or.inr ⟨_, z, rfl, ?_, ?_, ?_, fun a k k1 k2 => ?_⟩⟩
        · rw [rg81.s (by decide)]
        · rw [rg81.s (by decide)]
        · rw [rg81.s (by decide), rg22.s (by decide), eg9, zup_ne (Or.inr (by decide))]
        · have na : ¬ zSq q14 a := by
            unfold zSq
            omega
          have u3 : g81 a k = g22 a k := rg81 a k (by
            rintro ⟨p, hp, h1, h2, -⟩
            simp only [List.mem_cons, List.not_mem_nil, or_false] at hp
            subst hp
            simp only at h1 h2
            omega)
          rw [u3, kg22 a k na, eg9, zup_ne (Or.inl (by omega))]
