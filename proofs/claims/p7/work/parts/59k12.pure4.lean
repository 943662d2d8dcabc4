/-! pure proofs (wip/safe/vcp.py) -/
set_option maxHeartbeats 4000000 in
theorem v_2392 {s0 : zF} {a0 a1 : Int} (h : ZR s0) (hx : BX s0) : b_2392 s0 a0 a1 (fun _ g => ZR g) := by
  unfold b_2392
  refine ⟨fun h1 => ?_, fun h1 => ?_⟩
  · skip
    intro x5 hx51 hx52 g8 rg8 
    exact h.fr rg8 rfl
  · skip
    intro x10 ex10 fx10 gx10
    intro x17 ex17 fx17 gx17
    refine ⟨fun h18 => ?_, fun h18 => ?_⟩
    · skip
      intro x22 ex22 fx22 gx22
      refine ⟨fun h23 => ?_, fun h23 => ?_⟩
      · skip
        refine ⟨fun h24 => ?_, fun h24 => ?_⟩
        · skip
          refine ⟨fun g' => ZR g' ∧ BX g' ∧ ∀ j : Nat, j < 12 → g' 419 j = s0 419 j, ?_, ?_⟩
          · skip
            exact v_2377 h hx
          · skip
            intro g30 rg30 qg30
            intro g35 rg35 
            have k : ZR g30 ∧ _ := qg30
            exact k.1.fr rg35 rfl
        · skip
          intro x40 hx401 hx402 g43 rg43 
          exact h.fr rg43 rfl
      · skip
        refine ⟨fun h45 => ?_, fun h45 => ?_⟩
        · skip
          refine ⟨fun g' => ZR g' ∧ BX g' ∧ ∀ j : Nat, j < 12 → g' 419 j = s0 419 j, ?_, ?_⟩
          · skip
            exact v_2377 h hx
          · skip
            intro g51 rg51 qg51
            intro g57 eg57
            have k : ZR g51 ∧ _ := qg51
            rw [eg57]
            exact k.1.za rfl
        · skip
          intro x61 hx611 hx612 g64 rg64 
          exact h.fr rg64 rfl
    · skip
      intro x69 hx691 hx692 g72 rg72 
      exact h.fr rg72 rfl
set_option maxHeartbeats 4000000 in
theorem v_2393 {s0 : zF} {a0 a1 : Int} (h : ZR s0) (hx : BX s0) : b_2393 s0 a0 a1 (fun _ g => ZR g) := by
  unfold b_2393
  refine ⟨fun h1 => ?_, fun h1 => ?_⟩
  · skip
    intro x5 hx51 hx52 g8 rg8 
    exact h.fr rg8 rfl
  · skip
    intro x10 ex10 fx10 gx10
    intro x17 ex17 fx17 gx17
    intro x18 ex18
    refine ⟨fun h20 => ?_, fun h20 => ?_⟩
    · skip
      intro x24 ex24 fx24 gx24
      refine ⟨fun h25 => ?_, fun h25 => ?_⟩
      · skip
        refine ⟨fun h26 => ?_, fun h26 => ?_⟩
        · skip
          refine ⟨fun g' => ZR g' ∧ BX g' ∧ ∀ j : Nat, j < 12 → g' 419 j = s0 419 j, ?_, ?_⟩
          · skip
            exact v_2377 h hx
          · skip
            intro g32 rg32 qg32
            intro g38 eg38
            have k : ZR g32 ∧ _ := qg32
            rw [eg38]
            exact k.1.za rfl
        · skip
          intro x42 hx421 hx422 g45 rg45 
          exact h.fr rg45 rfl
      · skip
        refine ⟨fun h47 => ?_, fun h47 => ?_⟩
        · skip
          refine ⟨fun g' => ZR g' ∧ BX g' ∧ ∀ j : Nat, j < 12 → g' 419 j = s0 419 j, ?_, ?_⟩
          · skip
            exact v_2377 h hx
          · skip
            intro g53 rg53 qg53
            intro g59 eg59
            have k : ZR g53 ∧ _ := qg53
            rw [eg59]
            exact k.1.za rfl
        · skip
          intro x63 hx631 hx632 g66 rg66 
          exact h.fr rg66 rfl
    · skip
      intro x71 hx711 hx712 g74 rg74 
      exact h.fr rg74 rfl
set_option maxHeartbeats 4000000 in
theorem v_2394 {s0 : zF} {a0 a1 : Int} (h : ZR s0) (hx : BX s0) : b_2394 s0 a0 a1 (fun _ g => ZR g) := by
  unfold b_2394
  refine ⟨fun h1 => ?_, fun h1 => ?_⟩
  · skip
    intro x5 hx51 hx52 g8 rg8 
    exact h.fr rg8 rfl
  · skip
    intro x10 ex10 fx10 gx10
    intro x17 ex17 fx17 gx17
    intro x18 ex18
    refine ⟨fun h20 => ?_, fun h20 => ?_⟩
    · skip
      refine ⟨fun h21 => ?_, fun h21 => ?_⟩
      · skip
        intro x25 hx251 hx252 g28 rg28 
        exact h.fr rg28 rfl
      · skip
        refine ⟨fun h30 => ?_, fun h30 => ?_⟩
        · skip
          intro x34 hx341 hx342 g37 rg37 
          exact h.fr rg37 rfl
        · skip
          refine ⟨fun g' => ZR g' ∧ BX g' ∧ ∀ j : Nat, j < 12 → g' 419 j = s0 419 j, ?_, ?_⟩
          · skip
            exact v_2377 h hx
          · skip
            intro g44 rg44 qg44
            intro x49 ex49
            intro g54 eg54
            have k : ZR g44 ∧ _ := qg44
            rw [eg54]
            exact k.1.za rfl
    · skip
      intro x58 hx581 hx582 g61 rg61 
      exact h.fr rg61 rfl
set_option maxHeartbeats 4000000 in
theorem v_2395 {s0 : zF} {a0 a1 : Int} (h : ZR s0) (hx : BX s0) : b_2395 s0 a0 a1 (fun _ g => ZR g) := by
  unfold b_2395
  refine ⟨fun h1 => ?_, fun h1 => ?_⟩
  · skip
    intro x5 hx51 hx52 g8 rg8 
    exact h.fr rg8 rfl
  · skip
    intro x10 ex10 fx10 gx10
    intro x17 ex17 fx17 gx17
    refine ⟨fun h18 => ?_, fun h18 => ?_⟩
    · skip
      refine ⟨fun h19 => ?_, fun h19 => ?_⟩
      · skip
        intro x23 hx231 hx232 g26 rg26 
        exact h.fr rg26 rfl
      · skip
        refine ⟨fun h31 => ?_, fun h31 => ?_⟩
        · skip
          refine ⟨fun h32 => ?_, fun h32 => ?_⟩
          · skip
            refine ⟨fun g' => ZR g' ∧ BX g' ∧ ∀ j : Nat, j < 12 → g' 419 j = s0 419 j, ?_, ?_⟩
            · skip
              exact v_2377 h hx
            · skip
              intro g38 rg38 qg38
              intro x43 ex43 fx43 gx43
              intro x47 ex47 fx47 gx47
              intro g52 eg52
              intro g57 eg57
              have k : ZR g38 ∧ _ := qg38
              have F : zFr [(419, 420, 1000)] g38 g57 := by
                rw [eg57, eg52]
                exact zFr_za (zFr_za zFr_refl (by decide)) (by decide)
              have N : g38 388 (g38 386 12).toNat = x17 := by
                rw [rg38.a (a := 388) (by decide), rg38.s (a := 386) (k := 12) (by decide), ← ex10]
                exact ex17.symm
              have e : g57 419 = zup1 (zup1 (g38 419) a0.toNat (g38 419 a1.toNat)) a1.toNat (g38 419 a0.toNat) := by
                rw [eg57, zup_app, if_pos rfl, eg52, zup_app, if_pos rfl, ex47, ex43]
              exact k.1.swap k.2.1 (by omega) (by omega) e (F.s (by decide)) (F.a (by decide)) (F.s (by decide)) (F.s (by decide)) (fun b w => w.fr F (by decide))
          · skip
            intro x61 hx611 hx612 g64 rg64 
            exact h.fr rg64 rfl
        · skip
          intro x69 hx691 hx692 g72 rg72 
          exact h.fr rg72 rfl
    · skip
      intro x77 hx771 hx772 g80 rg80 
      exact h.fr rg80 rfl
