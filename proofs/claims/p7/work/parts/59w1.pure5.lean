/-! pure proofs of the class (wip/safe/gen35.py) -/
set_option maxHeartbeats 4000000 in
theorem v_1542 {t p0 : Nat} {s0 : zF} : b_1542 t p0 s0 (fun g => g t 0 = s0 p0 0 ∧ g t 14 = s0 p0 14) := by
  unfold b_1542
  intro x1 ex1 fx1 gx1
  intro g9 eg9
  intro x10 ex10
  intro g18 eg18
  intro x19 ex19 fx19
  intro g27 eg27
  intro g31 eg31
  intro g35 eg35
  intro g39 eg39
  intro g43 eg43
  intro g47 eg47
  intro g51 eg51
  intro g55 eg55
  intro g59 eg59
  intro g63 eg63
  intro g67 eg67
  intro g71 rg71 
  intro g76 eg76
  refine ⟨?_, ?_⟩
  · rw [eg76 t 0 (by omega), rg71 t 0 (zNI (by omega) zNI_nil), eg67 t 0 (by omega), eg63 t 0 (by omega), eg59 t 0 (by omega), eg55 t 0 (by omega), eg51 t 0 (by omega), eg47 t 0 (by omega), eg43 t 0 (by omega), eg39 t 0 (by omega), eg35 t 0 (by omega), eg31 t 0 (by omega), eg27, zup_ne (Or.inr (by decide)), eg18, zup_ne (Or.inr (by decide)), eg9, zup_eq, ex1]
  · rw [eg76 t 14 (by omega), rg71 t 14 (zNI (by omega) zNI_nil), eg67 t 14 (by omega), eg63 t 14 (by omega), eg59 t 14 (by omega), eg55 t 14 (by omega), eg51 t 14 (by omega), eg47 t 14 (by omega), eg43 t 14 (by omega), eg39 t 14 (by omega), eg35 t 14 (by omega), eg31 t 14 (by omega), eg27, zup_eq, ex19, eg18, zup_ne (Or.inr (by decide)), eg9, zup_ne (Or.inr (by decide))]
set_option maxHeartbeats 4000000 in
theorem v_1537 {t p0 : Nat} {s0 : zF} : b_1537 t p0 s0 (fun g => g t 0 = s0 p0 1) := by
  refine ⟨fun n g v20_2 => n = (200 - v20_2).toNat ∧ g t 0 = s0 p0 1, fun n g v104_2 => n = (100 - v104_2).toNat ∧ g t 0 = s0 p0 1, ?_, ?_, ?_⟩
  · skip
    intro x71 ex71 fx71 gx71
    intro g79 eg79
    intro g84 eg84
    intro g89 eg89
    refine ⟨_, rfl, ?_⟩
    rw [eg89, zup_ne (Or.inr (by decide)), eg84, zup_ne (Or.inr (by decide)), eg79, zup_eq, ex71]
  · intro n g v20_2 rg qv20_20 qv20_21 hI
    obtain ⟨hn, hv⟩ := hI
    refine ⟨fun h1 => ?_, fun h1 => ?_⟩
    · skip
      intro g6 eg6
      intro g11 eg11
      intro g16 eg16
      intro g21 eg21
      intro g26 eg26
      intro g31 eg31
      intro g36 eg36
      intro g41 eg41
      intro g46 eg46
      intro g51 eg51
      intro x52 ex52
      refine ⟨_, ?_, rfl, ?_⟩
      · omega
      · rw [eg51, zup_ne (Or.inl (by omega)), eg46, zup_ne (Or.inl (by omega)), eg41, zup_ne (Or.inl (by omega)), eg36, zup_ne (Or.inl (by omega)), eg31, zup_ne (Or.inl (by omega)), eg26, zup_ne (Or.inl (by omega)), eg21, zup_ne (Or.inl (by omega)), eg16, zup_ne (Or.inl (by omega)), eg11, zup_ne (Or.inl (by omega)), eg6, zup_ne (Or.inl (by omega))]
        exact hv
    · skip
      refine ⟨_, ?_, rfl, ?_⟩
      · omega
      · exact hv
  · intro n g v104_2 rg qv104_20 qv104_21 hI
    obtain ⟨hn, hv⟩ := hI
    refine ⟨fun h54 => ?_, fun h54 => ?_⟩
    · skip
      intro g59 eg59
      intro x63 ex63 fx63 gx63
      intro g68 eg68
      intro x69 ex69
      refine ⟨_, ?_, rfl, ?_⟩
      · omega
      · rw [eg68, zup_ne (Or.inl (by omega)), eg59, zup_ne (Or.inl (by omega))]
        exact hv
    · skip
      exact hv
set_option maxHeartbeats 4000000 in
theorem v_1 {s0 : zF} : b_1 s0 (fun g => g = zup s0 77 0 0) := by
  unfold b_1
  intro g5 eg5
  exact eg5
set_option maxHeartbeats 4000000 in
theorem v_2 {s0 : zF} (h : CI s0) (hh0 : 0 ≤ s0 77 0) (hh1 : s0 77 0 ≤ 20) : b_2 49 s0 (fun g => CI g) := by
  refine ⟨fun n g  => 0 ≤ s0 77 1 ∧ s0 77 1 ≤ 19 ∧ g (79 + 14 * (s0 77 1).toNat) 0 = s0 49 0 ∧ (∀ a k, (a, k) ∈ ciL → a ≠ 79 + 14 * (s0 77 1).toNat → g a k = s0 a k), ?_, ?_⟩
  · skip
    intro x31 ex31 fx31 gx31
    intro b35 eb35 fb35
    refine ⟨fun g' => g' b35 0 = s0 49 0 ∧ g' b35 14 = s0 49 14, ?_, ?_⟩
    · skip
      exact v_1542
    · skip
      intro g44 rg44 qg44
      have q : g44 b35 0 = s0 49 0 := (qg44 : _ ∧ _).1
      have hb : b35 = 79 + 14 * (s0 77 1).toNat := by omega
      rw [hb] at q
      refine ⟨0, by omega, by omega, q, fun a k hm hne => rg44 a k ?_⟩
      have hal : ∀ p ∈ ciL, p.2 = 0 ∨ p.1 = 0 ∨ p.1 = 2 ∨ p.1 = 77 ∨ p.1 = 7 ∨ p.1 = 28 := by decide
      have hak : ∀ p ∈ ciL, (p.1 < 79 ∨ p.1 % 14 = 9) := by decide
      have w1 := hak _ hm
      refine zNI (by omega) (zNI (by omega) (zNI ?_ (zNI (by omega) zNI_nil)))
      have w2 : a < 79 ∨ a % 14 = 9 := w1
      omega
  · intro n g  rg  hI
    obtain ⟨i0, i1, i2, i3⟩ := hI
    intro x1 ex1 fx1 gx1
    intro x5 ex5
    intro x7 ex7 fx7 gx7
    intro g15 eg15
    intro x16 ex16 fx16 gx16
    intro x20 ex20
    intro x22 ex22 fx22 gx22
    intro g30 eg30
    have j0 : g 77 1 = s0 77 1 := i3 77 1 (by decide) (by omega)
    have j1 : g 77 0 = s0 77 0 := i3 77 0 (by decide) (by omega)
    have j2 : x16 = g 77 0 := by
      rw [ex16, eg15, zup_ne (Or.inr (by decide))]
    rw [eg30, eg15]
    exact CI.keep h (x := s0 77 1) rfl i0 i1 hh0 hh1 i2 i3 (by omega) (by omega) (by omega)
set_option maxHeartbeats 4000000 in
theorem v_3 {s0 : zF} (h : CI s0) (hi0 : 0 ≤ s0 77 1) (hi1 : s0 77 1 ≤ 19) : b_3 49 s0 (fun _ g => CI g) := by
  unfold b_3
  intro x1 ex1 fx1 gx1
  refine ⟨fun h5 => ?_, fun h5 => ?_⟩
  · skip
    intro x6 ex6
    intro g12 eg12
    intro x13 ex13 fx13 gx13
    intro x17 ex17
    intro x19 ex19
    intro x21 ex21 fx21 gx21
    intro g29 eg29
    intro b30 eb30 fb30
    refine ⟨fun g' => g' 49 0 = g29 b30 0 ∧ g' 49 14 = g29 b30 14, ?_, ?_⟩
    · skip
      exact v_1542
    · skip
      intro g39 rg39 qg39
      have q : g39 49 0 = g29 b30 0 := (qg39 : _ ∧ _).1
      have j1 : x13 = s0 77 1 := by
        rw [ex13, eg12, zup_ne (Or.inr (by decide))]
      have E : ∀ a k, a ≠ 77 → g29 a k = s0 a k := fun a k n => by
        rw [eg29, eg12]
        exact (zup_ne (Or.inl n)).trans (zup_ne (Or.inl n))
      have hb : b30 = 79 + 14 * x21.toNat := by omega
      refine CI.back (x6 := x6) (x21 := x21) h (by omega) (by omega) hi0 hi1 (by omega) (by omega) ?_ (fun a k hm n1 n2 => ?_) ?_ ?_
      · rw [q, hb]
        exact E _ 0 (by omega)
      · refine (rg39 a k ?_).trans (E a k n2)
        have hal : ∀ p ∈ ciL, p.1 < 49 ∨ p.1 = 49 ∨ 63 ≤ p.1 := by decide
        have w : a < 49 ∨ a = 49 ∨ 63 ≤ a := hal _ hm
        exact zNI (by omega) (zNI (by omega) (zNI (by omega) (zNI (by omega) zNI_nil)))
      · rw [rg39.s (a := 77) (k := 0) (by decide), eg29, zup_ne (Or.inr (by decide)), eg12, zup_eq]
      · rw [rg39.s (a := 77) (k := 1) (by decide), eg29, zup_eq]
  · skip
    exact h
set_option maxHeartbeats 4000000 in
theorem v_2074 {s0 : zF} (h : CI s0) (hh0 : 0 ≤ s0 77 0) (hh1 : s0 77 0 ≤ 20) : b_2074 s0 (fun g => CI g) := by
  unfold b_2074
  refine ⟨fun g' => CI g', ?_, ?_⟩
  · skip
    exact v_2 h hh0 hh1
  · skip
    intro g6 rg6 qg6
    intro x8 ex8
    intro x12 
    intro g17 eg17
    have C0 : CI s0 := h
    have C1 : CI g6 := qg6
    have C2 : CI g17 := by
      rw [eg17]
      exact C1.ups (by decide)
    exact C2
set_option maxHeartbeats 4000000 in
theorem v_2080 {s0 : zF} (h : CI s0) (hi0 : 0 ≤ s0 77 1) (hi1 : s0 77 1 ≤ 19) : b_2080 s0 (fun _ g => CI g) := by
  unfold b_2080
  refine ⟨fun _ g' => CI g', ?_, ?_⟩
  · skip
    exact v_3 h hi0 hi1
  · skip
    intro x6 hx61 hx62 g9 rg9 qg9
    refine ⟨fun h11 => ?_, fun h11 => ?_⟩
    · skip
      intro x12 ex12
      intro x16 
      intro g21 eg21
      have C0 : CI s0 := h
      have C1 : CI g9 := qg9
      have C2 : CI g21 := by
        rw [eg21]
        exact C1.ups (by decide)
      exact C2
    · skip
      intro g25 rg25 
      have C0 : CI s0 := h
      have C1 : CI g9 := qg9
      have C2 : CI g25 := by
        exact C1.fr rg25 (by decide)
      exact C2
