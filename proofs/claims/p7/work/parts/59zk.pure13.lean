/-! partial proofs of the reference (wip/safe/vcp.py) -/
set_option maxHeartbeats 4000000 in
theorem w_2329 {s0 : zF} {a0 : Int} {fs : List zFm} (h41 : s0 386 41 = (fs.length : Int)) (hF : FRS fs s0) : p_2329 s0 a0 (fun g => g 386 41 = (fs.length : Int) + 1 ∧ FRS ((a0, 0, true) :: fs) g) := by
  unfold p_2329
  intro x1 ex1 o2 o3 o4 o5 g11 eg11 g17 eg17 g23 eg23 x25 ex25 o10 o11 g33 eg33 x35 ex35 g41 eg41
  have ex : x1.toNat = fs.length := by omega
  rw [ex] at eg11 eg17 eg23 eg33
  refine ⟨?_, ?_, ?_, ?_, ?_⟩
  · rw [eg41, zup_eq]
    omega
  · rw [eg41, zup_ne (Or.inl (by decide)), eg33, zup_ne (Or.inl (by decide)), eg23, zup_ne (Or.inl (by decide)), eg17, zup_ne (Or.inl (by decide)), eg11, zup_eq]
  · rw [eg41, zup_ne (Or.inl (by decide)), eg33, zup_ne (Or.inl (by decide)), eg23, zup_ne (Or.inl (by decide)), eg17, zup_eq]
  · rw [eg41, zup_ne (Or.inl (by decide)), eg33, zup_ne (Or.inl (by decide)), eg23, zup_eq]
    rfl
  · rw [eg41]
    apply FRS_o (by decide)
    rw [eg33]
    apply FRS_o (by decide)
    rw [eg23]
    apply FRS_up (Nat.le_refl _)
    rw [eg17]
    apply FRS_up (Nat.le_refl _)
    rw [eg11]
    exact FRS_up (Nat.le_refl _) hF
set_option maxHeartbeats 4000000 in
theorem w_2334 {T : Nat → Int} {L e : Nat} {t : zK} {P : Nat → Nat} {r : zP} {s0 : zF} (tk : Toks T L t.1 t.2.1 t.2.2 P e) (hT : s0 387 = T) (hL : s0 386 2 = (L : Int)) (hr : RSq t P e r s0) {a0 : Int} {fs : List zFm} (h41 : s0 386 41 = (fs.length : Int)) (h42 : s0 386 42 = (fs.length : Int) - 1) (hF : FRS fs s0) (hs : ∀ i, r = .inl i → t.1 i = 5) : p_2334 s0 a0 (fun g => OPN3 t P e r a0 fs g) := by
  unfold p_2334
  intro x1 ex1 o2 o3
  refine ⟨fun h4z => ?_, fun h4z => ?_⟩
  · skip
    intro x6 ex6 o6 o7
    refine ⟨fun h8z => ?_, fun h8z => ?_⟩
    · skip
      cases r with
      | inr f => exact Or.inr (Or.inl ⟨f, rfl, hr.1, hr.2.1, hr.2.2⟩)
      | inl i =>
        have k5 := hs i rfl
        rcases hr.2 with z | ⟨z, -⟩
        · have := z.2.1
          omega
        · omega
    · skip
      intro x11 ex11 g17 eg17
      refine ⟨fun g' => AH (g17 387) (g17 386 2).toNat (g17 386 5).toNat g', ?_, ?_⟩
      · skip
        obtain ⟨i, rfl, hi, A⟩ := rs_ok hr (by omega)
        have a8 := A.2.1
        have aa5 := A.2.2.2.1
        exact w_2310 (by rw [eg17, zup_ne (Or.inr (by decide))]; exact a8) (by rw [eg17, zup_ne (Or.inr (by decide))]; omega) (by rw [eg17, zup_ne (Or.inr (by decide))]; omega)
      · skip
        intro g23 rg23 qg23
        refine ⟨fun g' => g' 386 41 = (fs.length : Int) + 1 ∧ FRS (((a0 : Int), 0, true) :: fs) g', ?_, ?_⟩
        · skip
          exact w_2329 (by rw [rg23.s (by decide), eg17, zup_ne (Or.inr (by decide)), h41]) (FRS_eq (rg23.a (by decide)) (rg23.a (by decide)) (rg23.a (by decide)) (by rw [eg17]; exact FRS_o (by decide) hF))
        · skip
          intro g30 rg30 qg30
          obtain ⟨i, rfl, hi, A⟩ := rs_ok hr (by omega)
          have k5 := hs i rfl
          obtain ⟨p1, p2⟩ : _ ∧ _ := qg30
          have A1 : ATT t P i g17 := by
            rw [eg17]
            exact ATT_fr A fun k k1 k2 => zup_ne (Or.inr (by omega))
          have ha : AH T L (g17 386 5).toNat g23 := by
            have q : AH (g17 387) (g17 386 2).toNat (g17 386 5).toNat g23 := qg23
            rw [show g17 387 = T by rw [eg17, zup_na (by decide), hT], show g17 386 2 = (L : Int) by rw [eg17, zup_ne (Or.inr (by decide)), hL]] at q
            exact q
          have R : RSq t P e (.inl (i + 1)) g23 := rs_next (F := fun k => .inl (k + 1)) tk A1 hi (by omega) (by omega) rfl ha
          have R3 : RSq t P e (.inl (i + 1)) g30 := RSq_fr R fun k k1 k2 => rg30.s (by
            have hc : k = 3 ∨ k = 4 ∨ k = 5 ∨ k = 6 ∨ k = 7 ∨ k = 8 ∨ k = 9 := by omega
            rcases hc with z | z | z | z | z | z | z <;> subst z <;> decide)
          have u42 : g30 386 42 = (fs.length : Int) := by
            rw [rg30.s (by decide), rg23.s (by decide), eg17, zup_eq]
            omega
          have hl : (((a0, 0, true) : zFm) :: fs).length = fs.length + 1 := rfl
          exact Or.inr (Or.inr ⟨i, rfl, by omega, R3.1, R3.2, by omega, by omega, p2, by simp⟩)
  · skip
    intro x32 ex32 o6 o7 x36 ex36 o9 o10
    refine ⟨fun h11z => ?_, fun h11z => ?_⟩
    · skip
      cases r with
      | inr f => exact Or.inr (Or.inl ⟨f, rfl, hr.1, hr.2.1, hr.2.2⟩)
      | inl i =>
        have k5 := hs i rfl
        rcases hr.2 with z | ⟨z, -⟩
        · have := z.2.1
          omega
        · omega
    · skip
      intro g45 eg45 g50 eg50
      obtain ⟨i, rfl, hi, A⟩ := rs_ok hr (by omega)
      have a4 := A.2.2.1
      refine Or.inl ⟨i, rfl, by omega, ?_, ?_⟩
      · rw [eg50, zup_ne (Or.inr (by decide)), eg45, zup_eq]
      · rw [eg50, zup_eq]
        omega
set_option maxHeartbeats 4000000 in
theorem w_2330 {T : Nat → Int} {L e i : Nat} {t : zK} {P : Nat → Nat} {s0 : zF} {kd ph : Int} {bg : Bool} {st : List zFm} (tk : Toks T L t.1 t.2.1 t.2.2 P e) (hT : s0 387 = T) (hL : s0 386 2 = (L : Int)) (A : ATT t P i s0) (M : AMR t P e i ((kd, ph, bg) :: st) s0) : p_2330 s0 (fun v g => OPD t P e (i, (kd, ph, bg) :: st, false) v g) := by
  obtain ⟨hi, -, h41, h42, ⟨f1, f2, f3, f4⟩, -⟩ := M
  have hl : (((kd, ph, bg) : zFm) :: st).length = st.length + 1 := rfl
  have hl2 : ∀ b : Bool, (((kd, ph, b) : zFm) :: st).length = st.length + 1 := fun _ => rfl
  have a8 := A.2.1
  have aa5 := A.2.2.2.1
  obtain ⟨k30, k31, k32⟩ := att_k3 A
  have fb := b01 f3
  refine ⟨fun g v34_1 v34_2 => v34_1 = (st.length : Int) ∧ g = s0 ∧ (v34_2 = 0 ∨ v34_2 = 1) ∧ (¬ v34_2 = 0 → isT kd = true ∧ bg = true) ∧ (v34_2 = 0 → isT kd = true → bg = false), fun g v60_1 v60_2 => v60_1 = (st.length : Int) ∧ g = s0 ∧ (v60_2 = 0 ∨ v60_2 = 1) ∧ (¬ v60_2 = 0 → isT kd = true ∧ bg = true) ∧ (v60_2 = 0 → isT kd = true → bg = false) ∧ (¬ v60_2 = 0 → tokI t i ≠ 23), fun g v87_1 v87_2 => v87_1 = (st.length : Int) ∧ g = zup s0 411 st.length 0 ∧ (v87_2 = 0 ∨ v87_2 = 1) ∧ (¬ v87_2 = 0 → isT kd = true ∧ bg = true) ∧ (v87_2 = 0 → isT kd = true → bg = false) ∧ (¬ v87_2 = 0 → tokI t i ≠ 23 ∧ sgB t 91 i = false), fun g  => g = zup s0 411 st.length 0 ∧ frst t i kd bg, fun g  => g = zup s0 411 st.length 0 ∧ frst t i kd bg ∧ sgB t 40 i = false, fun g  => g = zup s0 411 st.length 0 ∧ frst t i kd bg ∧ (tokI t i = 25 ∨ tokI t i = 26), fun g v175_3 => g = zup s0 411 st.length 0 ∧ frst t i kd bg ∧ (tokI t i = 25 ∨ tokI t i = 26), fun g v197_3 => frst t i kd bg ∧ (tokI t i = 25 ∨ tokI t i = 26) ∧ g 387 = T ∧ g 386 2 = (L : Int) ∧ g 386 41 = (st.length : Int) + 1 ∧ g 386 42 = (st.length : Int) ∧ FRS ((kd, ph, false) :: st) g ∧ ∃ r', RSq t P e r' g ∧ (r' = .inl (i + 1) ∧ sgB t 40 (i + 1) = true ∨ r' = .inr (flt t (i + 1)) ∧ sgB t 40 (i + 1) = false), fun g  => g = zup s0 411 st.length 0 ∧ frst t i kd bg ∧ sgB t 40 i = false ∧ tokI t i ≠ 25 ∧ tokI t i ≠ 26, fun g v337_3 => g = zup s0 411 st.length 0 ∧ frst t i kd bg ∧ sgB t 40 i = false ∧ tokI t i ≠ 25 ∧ tokI t i ≠ 26 ∧ (¬ v337_3 = -1 → t.1 i = 4 ∨ 0 ≤ tokI t i ∧ tokI t i < 7) ∧ (v337_3 = -1 → t.1 i ≠ 4 ∧ (tokI t i = -1 ∨ 7 ≤ tokI t i)), ?_, ?_, ?_, ?_, ?_, ?_, ?_, ?_, ?_, ?_, ?_⟩
  · skip
    intro x382 ex382 o2 o3 x386 ex386 o5 x392 ex392 o7 o8
    refine ⟨fun h9z => ?_, fun h9z => ?_⟩
    · skip
      refine ⟨fun h10z => ?_, fun h10z => ?_⟩
      · skip
        have ei : x386.toNat = st.length := by omega
        have ek : x392 = kd := by rw [ex392, ei, f1]
        exact ⟨by omega, rfl, Or.inl rfl, fun z => absurd rfl z, fun _ z => by rw [isT_0 (by omega) (by omega)] at z; cases z⟩
      · skip
        intro x398 ex398 o12 o13
        refine ⟨fun h14z => ?_, fun h14z => ?_⟩
        · skip
          have ei : x386.toNat = st.length := by omega
          have ek : x392 = kd := by rw [ex392, ei, f1]
          have eb : x398 = (if bg = true then 1 else 0) := by rw [ex398, ei, f3]
          have fb2 := b01 eb
          exact ⟨by omega, rfl, Or.inr rfl, fun _ => ⟨isT_1 (by omega), fb2.2.2.2 (by omega)⟩, fun z => absurd z (by decide)⟩
        · skip
          have ei : x386.toNat = st.length := by omega
          have ek : x392 = kd := by rw [ex392, ei, f1]
          have eb : x398 = (if bg = true then 1 else 0) := by rw [ex398, ei, f3]
          have fb2 := b01 eb
          exact ⟨by omega, rfl, Or.inl rfl, fun z => absurd rfl z, fun _ _ => fb2.2.2.1 (by omega)⟩
    · skip
      intro x403 ex403 o11 o12
      refine ⟨fun h13z => ?_, fun h13z => ?_⟩
      · skip
        have ei : x386.toNat = st.length := by omega
        have ek : x392 = kd := by rw [ex392, ei, f1]
        have eb : x403 = (if bg = true then 1 else 0) := by rw [ex403, ei, f3]
        have fb2 := b01 eb
        exact ⟨by omega, rfl, Or.inr rfl, fun _ => ⟨isT_1 (by omega), fb2.2.2.2 (by omega)⟩, fun z => absurd z (by decide)⟩
      · skip
        have ei : x386.toNat = st.length := by omega
        have ek : x392 = kd := by rw [ex392, ei, f1]
        have eb : x403 = (if bg = true then 1 else 0) := by rw [ex403, ei, f3]
        have fb2 := b01 eb
        exact ⟨by omega, rfl, Or.inl rfl, fun z => absurd rfl z, fun _ _ => fb2.2.2.1 (by omega)⟩
  · intro g v34_1 v34_2 rg o1 o2 o3 o4 hI
    obtain ⟨hv1, hg, fa, fc, fd⟩ := hI
    subst hg
    refine ⟨fun h5z => ?_, fun h5z => ?_⟩
    · skip
      intro x2 ex2 o7 o8
      refine ⟨fun h9z => ?_, fun h9z => ?_⟩
      · skip
        exact ⟨hv1, rfl, fa, fc, fd, fun _ => att_now A (w := 23) (a := 7237492) (OW_w (by decide) rfl) (fun z => by omega)⟩
      · skip
        intro y10 ey10 x11 ex11
        refine ⟨fun h12z => ?_, fun h12z => ?_⟩
        · skip
          exact ⟨hv1, rfl, fa, fc, fd, fun _ => att_now A (w := 23) (a := 7237492) (OW_w (by decide) rfl) (fun z => by omega)⟩
        · skip
          intro g19 rg19
          refine ⟨fun g' => AH (g19 387) (g19 386 2).toNat (g19 386 5).toNat g', ?_, ?_⟩
          · skip
            exact w_2310 (by rw [rg19.s (by decide)]; omega) (by rw [rg19.s (by decide)]; omega) (by rw [rg19.s (by decide)]; omega)
          · skip
            intro g26 rg26 qg26
            have ht1 := (fc (by omega)).1
            have hb1 := (fc (by omega)).2
            have kw : tokI t i = 23 := (att_own A (w := 23) (a := 7237492) (OW_w (by decide) rfl)).mpr ⟨by omega, by omega⟩
            have nh := tokI_2 (t := t) (i := i) (by omega)
            have A1 : ATT t P i g19 := ATT_fr A fun k k1 k2 => rg19.s (by
              have hc : k = 3 ∨ k = 4 ∨ k = 5 ∨ k = 6 ∨ k = 7 ∨ k = 8 := by omega
              rcases hc with z | z | z | z | z | z <;> subst z <;> decide)
            have ha : AH T L (g19 386 5).toNat g26 := by
              have q : AH (g19 387) (g19 386 2).toNat (g19 386 5).toNat g26 := qg26
              rw [rg19.a (a := 387) (by decide), rg19.s (a := 386) (k := 2) (by decide), hT, hL] at q
              exact q
            subst hb1
            exact Or.inl ⟨_, _, _, am_not ht1 kw, amr_mk tk A1 hi (by omega) (by omega) ha (by rw [rg26.s (by decide), rg19.s (by decide), h41]) (by rw [rg26.s (by decide), rg19.s (by decide), h42]) (FRS_eq ((rg26.a (by decide)).trans (rg19.a (by decide))) ((rg26.a (by decide)).trans (rg19.a (by decide))) ((rg26.a (by decide)).trans (rg19.a (by decide))) ⟨f1, f2, f3, f4⟩) (by simp), rfl⟩
    · skip
      exact ⟨hv1, rfl, fa, fc, fd, fun z => absurd (by omega) z⟩
  · intro g v60_1 v60_2 rg o1 o2 o3 o4 hI
    obtain ⟨hv1, hg, fa, fc, fd, n23⟩ := hI
    subst hg
    intro g32 eg32
    refine ⟨fun h6z => ?_, fun h6z => ?_⟩
    · skip
      intro x34 ex34 o8 o9
      refine ⟨fun h10z => ?_, fun h10z => ?_⟩
      · skip
        have hg1 : g32 = zup g 411 st.length 0 := by
          rw [eg32]
          congr 1
          omega
        have A1 : ATT t P i g32 := by
          rw [eg32]
          exact ATT_fr A fun _ _ _ => zup_ne (Or.inl (by decide))
        exact ⟨hv1, hg1, fa, fc, fd, fun z => ⟨n23 z, att_nsg A1 (by decide) (fun y => by omega)⟩⟩
      · skip
        intro x39 ex39
        refine ⟨fun h12z => ?_, fun h12z => ?_⟩
        · skip
          have hg1 : g32 = zup g 411 st.length 0 := by
            rw [eg32]
            congr 1
            omega
          have A1 : ATT t P i g32 := by
            rw [eg32]
            exact ATT_fr A fun _ _ _ => zup_ne (Or.inl (by decide))
          exact ⟨hv1, hg1, fa, fc, fd, fun z => ⟨n23 z, att_nsg A1 (by decide) (fun y => by omega)⟩⟩
        · skip
          refine ⟨fun g' => OPN3 t P e (.inl i) 5 ((kd, ph, false) :: st) g', ?_, ?_⟩
          · skip
            have hg1 : g32 = zup g 411 st.length 0 := by
              rw [eg32]
              congr 1
              omega
            have A1 : ATT t P i g32 := by
              rw [eg32]
              exact ATT_fr A fun _ _ _ => zup_ne (Or.inl (by decide))
            have s91 : sgB t 91 i = true := (att_sg A1 (by decide)).mpr ⟨by omega, by omega⟩
            have k5 := (sgB_iff.mp s91).1
            have F1 : FRS ((kd, ph, false) :: st) g32 := by
              rw [hg1]
              exact ⟨by rw [zup_ne (Or.inl (by decide))]; exact f1, by rw [zup_ne (Or.inl (by decide))]; exact f2, zup_eq, FRS_up (Nat.le_refl _) f4⟩
            exact w_2334 tk (by rw [hg1, zup_na (by decide), hT]) (by rw [hg1, zup_ne (Or.inl (by decide)), hL]) (r := .inl i) ⟨hi, Or.inl A1⟩ (by rw [hg1, zup_ne (Or.inl (by decide)), hl2]; omega) (by rw [hg1, zup_ne (Or.inl (by decide)), hl2]; omega) F1 (fun j hj => by cases hj; exact k5)
          · skip
            intro g49 rg49 qg49
            have ht1 := (fc (by omega)).1
            have hb1 := (fc (by omega)).2
            have A1 : ATT t P i g32 := by
              rw [eg32]
              exact ATT_fr A fun _ _ _ => zup_ne (Or.inl (by decide))
            have s91 : sgB t 91 i = true := (att_sg A1 (by decide)).mpr ⟨by omega, by omega⟩
            subst hb1
            have O : OPN3 t P e (.inl i) 5 ((kd, ph, false) :: st) g49 := qg49
            rcases O with ⟨j, hj, l9, z8, z9⟩ | ⟨f, hf, -⟩ | ⟨j, hj, l9, z⟩
            · cases hj
              rw [hl2] at l9
              exact Or.inr ⟨_, am_sq8 ht1 s91 (by omega), z8, z9, by show (0 : Int) < 5; decide⟩
            · cases hf
            · cases hj
              rw [hl2] at l9
              exact Or.inl ⟨_, _, _, am_sq ht1 s91 (by omega), z, rfl⟩
    · skip
      have hg1 : g32 = zup g 411 st.length 0 := by
        rw [eg32]
        congr 1
        omega
      exact ⟨hv1, hg1, fa, fc, fd, fun z => absurd (by omega) z⟩
  · intro g v87_1 v87_2 rg o1 o2 o3 o4 hI
    obtain ⟨hv1, hg, fa, fc, fd, n23⟩ := hI
    have AB_ : ATT t P i g := by
      rw [hg]
      exact ATT_fr A fun _ _ _ => zup_ne (Or.inl (by decide))
    have BT : g 387 = T := by rw [hg, zup_na (by decide), hT]
    have BL : g 386 2 = (L : Int) := by rw [hg, zup_ne (Or.inl (by decide)), hL]
    have B41 : g 386 41 = (st.length : Int) + 1 := by
      rw [hg, zup_ne (Or.inl (by decide))]
      omega
    have B42 : g 386 42 = (st.length : Int) := by
      rw [hg, zup_ne (Or.inl (by decide))]
      omega
    have BF : FRS ((kd, ph, false) :: st) g := by
      rw [hg]
      exact ⟨by rw [zup_ne (Or.inl (by decide))]; exact f1, by rw [zup_ne (Or.inl (by decide))]; exact f2, zup_eq, FRS_up (Nat.le_refl _) f4⟩
    have b8 := AB_.2.1
    have b5 := AB_.2.2.2.1
    obtain ⟨q30, q31, q32⟩ := att_k3 AB_
    refine ⟨fun h5z => ?_, fun h5z => ?_⟩
    · skip
      intro x52 ex52 o7 o8
      refine ⟨fun h9z => ?_, fun h9z => ?_⟩
      · skip
        exact ⟨hg, fun _ _ => ⟨(n23 (by omega)).1, att_now AB_ (w := 24) (a := 6384748) (OW_w (by decide) rfl) (fun z => by omega), (n23 (by omega)).2⟩⟩
      · skip
        intro y60 ey60 x61 ex61
        refine ⟨fun h12z => ?_, fun h12z => ?_⟩
        · skip
          exact ⟨hg, fun _ _ => ⟨(n23 (by omega)).1, att_now AB_ (w := 24) (a := 6384748) (OW_w (by decide) rfl) (fun z => by omega), (n23 (by omega)).2⟩⟩
        · skip
          intro g69 rg69 g75 eg75
          refine ⟨fun g' => AH (g75 387) (g75 386 2).toNat (g75 386 5).toNat g', ?_, ?_⟩
          · skip
            exact w_2310 (by rw [eg75, zup_ne (Or.inl (by decide)), rg69.s (by decide)]; omega) (by rw [eg75, zup_ne (Or.inl (by decide)), rg69.s (by decide)]; omega) (by rw [eg75, zup_ne (Or.inl (by decide)), rg69.s (by decide)]; omega)
          · skip
            intro g81 rg81 qg81
            have ht1 := (fc (by omega)).1
            have hb1 := (fc (by omega)).2
            have kw : tokI t i = 24 := (att_own AB_ (w := 24) (a := 6384748) (OW_w (by decide) rfl)).mpr ⟨by omega, by omega⟩
            have nh := tokI_2 (t := t) (i := i) (by omega)
            have ev : v87_1.toNat = st.length := by omega
            rw [ev] at eg75
            have A1 : ATT t P i g75 := by
              rw [eg75]
              exact ATT_fr AB_ fun k k1 k2 => by
                rw [zup_ne (Or.inl (by decide))]
                exact rg69.s (by
                  have hc : k = 3 ∨ k = 4 ∨ k = 5 ∨ k = 6 ∨ k = 7 ∨ k = 8 := by omega
                  rcases hc with z | z | z | z | z | z <;> subst z <;> decide)
            have ha : AH T L (g75 386 5).toNat g81 := by
              have q : AH (g75 387) (g75 386 2).toNat (g75 386 5).toNat g81 := qg81
              rw [show g75 387 = T by rw [eg75, zup_na (by decide), rg69.a (by decide), BT], show g75 386 2 = (L : Int) by rw [eg75, zup_ne (Or.inl (by decide)), rg69.s (by decide), BL]] at q
              exact q
            obtain ⟨c1, c2, c3, c4⟩ := BF
            have F1 : FRS ((kd, ph, false) :: st) g69 := FRS_eq (rg69.a (by decide)) (rg69.a (by decide)) (rg69.a (by decide)) ⟨c1, c2, c3, c4⟩
            obtain ⟨c1, c2, c3, c4⟩ := F1
            have F2 : FRS ((kd, 2, false) :: st) g75 := by
              rw [eg75]
              exact ⟨by rw [zup_ne (Or.inl (by decide))]; exact c1, zup_eq, by rw [zup_ne (Or.inl (by decide))]; exact c3, FRS_up (Nat.le_refl _) c4⟩
            subst hb1
            have hl3 : (((kd, 2, false) : zFm) :: st).length = st.length + 1 := rfl
            exact Or.inl ⟨_, _, _, am_all ht1 kw, amr_mk tk A1 hi (by omega) (by omega) ha (by rw [rg81.s (by decide), eg75, zup_ne (Or.inl (by decide)), rg69.s (by decide), B41, hl3]; omega) (by rw [rg81.s (by decide), eg75, zup_ne (Or.inl (by decide)), rg69.s (by decide), B42, hl3]; omega) (FRS_eq (rg81.a (by decide)) (rg81.a (by decide)) (rg81.a (by decide)) F2) (by simp), rfl⟩
    · skip
      refine ⟨hg, fun y1 y2 => ?_⟩
      rw [fd (by omega) y1] at y2
      cases y2
  · intro g  rg hI
    obtain ⟨hg, hfr⟩ := hI
    have AB_ : ATT t P i g := by
      rw [hg]
      exact ATT_fr A fun _ _ _ => zup_ne (Or.inl (by decide))
    have BT : g 387 = T := by rw [hg, zup_na (by decide), hT]
    have BL : g 386 2 = (L : Int) := by rw [hg, zup_ne (Or.inl (by decide)), hL]
    have B41 : g 386 41 = (st.length : Int) + 1 := by
      rw [hg, zup_ne (Or.inl (by decide))]
      omega
    have B42 : g 386 42 = (st.length : Int) := by
      rw [hg, zup_ne (Or.inl (by decide))]
      omega
    have BF : FRS ((kd, ph, false) :: st) g := by
      rw [hg]
      exact ⟨by rw [zup_ne (Or.inl (by decide))]; exact f1, by rw [zup_ne (Or.inl (by decide))]; exact f2, zup_eq, FRS_up (Nat.le_refl _) f4⟩
    have b8 := AB_.2.1
    have b5 := AB_.2.2.2.1
    obtain ⟨q30, q31, q32⟩ := att_k3 AB_
    intro x83 ex83 o2 o3
    refine ⟨fun h4z => ?_, fun h4z => ?_⟩
    · skip
      exact ⟨hg, hfr, att_nsg AB_ (by decide) (fun y => by omega)⟩
    · skip
      intro x88 ex88
      refine ⟨fun h6z => ?_, fun h6z => ?_⟩
      · skip
        exact ⟨hg, hfr, att_nsg AB_ (by decide) (fun y => by omega)⟩
      · skip
        refine ⟨fun g' => OPN3 t P e (.inl i) 2 ((kd, ph, false) :: st) g', ?_, ?_⟩
        · skip
          have s40 : sgB t 40 i = true := (att_sg AB_ (by decide)).mpr ⟨by omega, by omega⟩
          have k5 := (sgB_iff.mp s40).1
          exact w_2334 tk BT BL (r := .inl i) ⟨hi, Or.inl AB_⟩ (by rw [hl2]; omega) (by rw [hl2]; omega) BF (fun j hj => by cases hj; exact k5)
        · skip
          intro g98 rg98 qg98
          have s40 : sgB t 40 i = true := (att_sg AB_ (by decide)).mpr ⟨by omega, by omega⟩
          have O : OPN3 t P e (.inl i) 2 ((kd, ph, false) :: st) g98 := qg98
          rcases O with ⟨j, hj, l9, z8, z9⟩ | ⟨f, hf, -⟩ | ⟨j, hj, l9, z⟩
          · cases hj
            rw [hl2] at l9
            exact Or.inr ⟨_, am_par8 hfr s40 (by omega), z8, z9, by show (0 : Int) < 5; decide⟩
          · cases hf
          · cases hj
            rw [hl2] at l9
            exact Or.inl ⟨_, _, _, am_par hfr s40 (by omega), z, rfl⟩
  · intro g  rg hI
    obtain ⟨hg, hfr, h40⟩ := hI
    have AB_ : ATT t P i g := by
      rw [hg]
      exact ATT_fr A fun _ _ _ => zup_ne (Or.inl (by decide))
    have BT : g 387 = T := by rw [hg, zup_na (by decide), hT]
    have BL : g 386 2 = (L : Int) := by rw [hg, zup_ne (Or.inl (by decide)), hL]
    have B41 : g 386 41 = (st.length : Int) + 1 := by
      rw [hg, zup_ne (Or.inl (by decide))]
      omega
    have B42 : g 386 42 = (st.length : Int) := by
      rw [hg, zup_ne (Or.inl (by decide))]
      omega
    have BF : FRS ((kd, ph, false) :: st) g := by
      rw [hg]
      exact ⟨by rw [zup_ne (Or.inl (by decide))]; exact f1, by rw [zup_ne (Or.inl (by decide))]; exact f2, zup_eq, FRS_up (Nat.le_refl _) f4⟩
    have b8 := AB_.2.1
    have b5 := AB_.2.2.2.1
    obtain ⟨q30, q31, q32⟩ := att_k3 AB_
    intro x100 ex100 o2 o3
    refine ⟨fun h4z => ?_, fun h4z => ?_⟩
    · skip
      refine ⟨fun h5z => ?_, fun h5z => ?_⟩
      · skip
        exact ⟨hg, hfr, h40, att_now AB_ (w := 25) (a := 7170414) (OW_w (by decide) rfl) (fun z => by omega), att_now AB_ (w := 26) (a := 7168376) (OW_w (by decide) rfl) (fun z => by omega)⟩
      · skip
        intro y109 ey109 x110 ex110
        refine ⟨fun h8z => ?_, fun h8z => ?_⟩
        · skip
          exact ⟨hg, hfr, h40, att_now AB_ (w := 25) (a := 7170414) (OW_w (by decide) rfl) (fun z => by omega), att_now AB_ (w := 26) (a := 7168376) (OW_w (by decide) rfl) (fun z => by omega)⟩
        · skip
          exact ⟨hg, hfr, Or.inr ((att_own AB_ (w := 26) (a := 7168376) (OW_w (by decide) rfl)).mpr ⟨by omega, by omega⟩)⟩
    · skip
      intro y116 ey116 x117 ex117
      refine ⟨fun h7z => ?_, fun h7z => ?_⟩
      · skip
        intro x120 ex120
        refine ⟨fun h9z => ?_, fun h9z => ?_⟩
        · skip
          exact ⟨hg, hfr, h40, att_now AB_ (w := 25) (a := 7170414) (OW_w (by decide) rfl) (fun z => by omega), att_now AB_ (w := 26) (a := 7168376) (OW_w (by decide) rfl) (fun z => by omega)⟩
        · skip
          exact ⟨hg, hfr, Or.inr ((att_own AB_ (w := 26) (a := 7168376) (OW_w (by decide) rfl)).mpr ⟨by omega, by omega⟩)⟩
      · skip
        exact ⟨hg, hfr, Or.inl ((att_own AB_ (w := 25) (a := 7170414) (OW_w (by decide) rfl)).mpr ⟨by omega, by omega⟩)⟩
  · intro g  rg hI
    obtain ⟨hg, hfr, hw⟩ := hI
    have AB_ : ATT t P i g := by
      rw [hg]
      exact ATT_fr A fun _ _ _ => zup_ne (Or.inl (by decide))
    have BT : g 387 = T := by rw [hg, zup_na (by decide), hT]
    have BL : g 386 2 = (L : Int) := by rw [hg, zup_ne (Or.inl (by decide)), hL]
    have B41 : g 386 41 = (st.length : Int) + 1 := by
      rw [hg, zup_ne (Or.inl (by decide))]
      omega
    have B42 : g 386 42 = (st.length : Int) := by
      rw [hg, zup_ne (Or.inl (by decide))]
      omega
    have BF : FRS ((kd, ph, false) :: st) g := by
      rw [hg]
      exact ⟨by rw [zup_ne (Or.inl (by decide))]; exact f1, by rw [zup_ne (Or.inl (by decide))]; exact f2, zup_eq, FRS_up (Nat.le_refl _) f4⟩
    have b8 := AB_.2.1
    have b5 := AB_.2.2.2.1
    obtain ⟨q30, q31, q32⟩ := att_k3 AB_
    intro x123 ex123 o2 o3
    refine ⟨fun h4z => ?_, fun h4z => ?_⟩
    · skip
      exact ⟨hg, hfr, hw⟩
    · skip
      intro y131 ey131 x132 ex132
      refine ⟨fun h7z => ?_, fun h7z => ?_⟩
      · skip
        exact ⟨hg, hfr, hw⟩
      · skip
        exact ⟨hg, hfr, hw⟩
  · intro g v175_3 rg o1 o2 hI
    obtain ⟨hg, hfr, hw⟩ := hI
    have AB_ : ATT t P i g := by
      rw [hg]
      exact ATT_fr A fun _ _ _ => zup_ne (Or.inl (by decide))
    have BT : g 387 = T := by rw [hg, zup_na (by decide), hT]
    have BL : g 386 2 = (L : Int) := by rw [hg, zup_ne (Or.inl (by decide)), hL]
    have B41 : g 386 41 = (st.length : Int) + 1 := by
      rw [hg, zup_ne (Or.inl (by decide))]
      omega
    have B42 : g 386 42 = (st.length : Int) := by
      rw [hg, zup_ne (Or.inl (by decide))]
      omega
    have BF : FRS ((kd, ph, false) :: st) g := by
      rw [hg]
      exact ⟨by rw [zup_ne (Or.inl (by decide))]; exact f1, by rw [zup_ne (Or.inl (by decide))]; exact f2, zup_eq, FRS_up (Nat.le_refl _) f4⟩
    have b8 := AB_.2.1
    have b5 := AB_.2.2.2.1
    obtain ⟨q30, q31, q32⟩ := att_k3 AB_
    refine ⟨fun g' => AH (g 387) (g 386 2).toNat (g 386 5).toNat g', ?_, ?_⟩
    · skip
      exact w_2310 (by omega) (by omega) (by omega)
    · skip
      intro g140 rg140 qg140 x142 ex142 o6 o7
      refine ⟨fun h8z => ?_, fun h8z => ?_⟩
      · skip
        intro x147 ex147 o10 o11 x151 ex151 o13 o14
        refine ⟨fun h15z => ?_, fun h15z => ?_⟩
        · skip
          have nh := tokI_2 (t := t) (i := i) (by omega)
          have ha : AH T L (g 386 5).toNat g140 := by
            have q : AH (g 387) (g 386 2).toNat (g 386 5).toNat g140 := qg140
            rw [BT, BL] at q
            exact q
          have R : RSq t P e (.inl (i + 1)) g140 := rs_next (F := fun k => .inl (k + 1)) tk AB_ hi (by omega) (by omega) rfl ha
          have FG : FRS ((kd, ph, false) :: st) g140 := FRS_eq (rg140.a (by decide)) (rg140.a (by decide)) (rg140.a (by decide)) BF
          obtain ⟨z1, z2, z3⟩ : t.1 (i + 1) = 1 ∧ g140 386 8 = 1 ∧ g140 386 9 = t.2.1 (i + 1) := by
            rcases R.2 with A1 | z
            · have := A1.2.1
              omega
            · exact z
          refine ⟨hfr, hw, ?_, ?_, ?_, ?_, ?_, .inr (flt t (i + 1)), ?_, Or.inr ⟨rfl, sgB_ne (by omega)⟩⟩
          · exact (rg140.a (by decide)).trans BT
          · exact (rg140.s (by decide)).trans BL
          · exact (rg140.s (by decide)).trans B41
          · exact (rg140.s (by decide)).trans B42
          · exact FG
          · rw [flt_bad z1]
            exact ⟨z2, z3, by show (0 : Int) < 1; decide⟩
        · skip
          intro g160 eg160 g165 eg165
          have nh := tokI_2 (t := t) (i := i) (by omega)
          have ha : AH T L (g 386 5).toNat g140 := by
            have q : AH (g 387) (g 386 2).toNat (g 386 5).toNat g140 := qg140
            rw [BT, BL] at q
            exact q
          have R : RSq t P e (.inl (i + 1)) g140 := rs_next (F := fun k => .inl (k + 1)) tk AB_ hi (by omega) (by omega) rfl ha
          have FG : FRS ((kd, ph, false) :: st) g140 := FRS_eq (rg140.a (by decide)) (rg140.a (by decide)) (rg140.a (by decide)) BF
          obtain ⟨j, hj, -, A1⟩ := rs_ok R (by omega)
          cases hj
          have n40 : sgB t 40 (i + 1) = false := att_nsg A1 (by decide) (fun y => by omega)
          refine ⟨hfr, hw, ?_, ?_, ?_, ?_, ?_, .inr (flt t (i + 1)), ?_, Or.inr ⟨rfl, n40⟩⟩
          · rw [eg165, zup_na (by decide), eg160, zup_na (by decide), rg140.a (by decide)]
            exact BT
          · rw [eg165, zup_ne (Or.inr (by decide)), eg160, zup_ne (Or.inr (by decide)), rg140.s (by decide)]
            exact BL
          · rw [eg165, zup_ne (Or.inr (by decide)), eg160, zup_ne (Or.inr (by decide)), rg140.s (by decide)]
            exact B41
          · rw [eg165, zup_ne (Or.inr (by decide)), eg160, zup_ne (Or.inr (by decide)), rg140.s (by decide)]
            exact B42
          · rw [eg165, eg160]
            exact FRS_o (by decide) (FRS_o (by decide) FG)
          · refine ⟨?_, ?_, ?_⟩
            · rw [eg165, zup_ne (Or.inr (by decide)), eg160, zup_eq]
              rfl
            · rw [eg165, zup_eq, ← att_flt A1]
              omega
            · show (0 : Int) < 1
              decide
      · skip
        intro x166 ex166
        refine ⟨fun h10z => ?_, fun h10z => ?_⟩
        · skip
          intro x171 ex171 o12 o13 x175 ex175 o15 o16
          refine ⟨fun h17z => ?_, fun h17z => ?_⟩
          · skip
            have nh := tokI_2 (t := t) (i := i) (by omega)
            have ha : AH T L (g 386 5).toNat g140 := by
              have q : AH (g 387) (g 386 2).toNat (g 386 5).toNat g140 := qg140
              rw [BT, BL] at q
              exact q
            have R : RSq t P e (.inl (i + 1)) g140 := rs_next (F := fun k => .inl (k + 1)) tk AB_ hi (by omega) (by omega) rfl ha
            have FG : FRS ((kd, ph, false) :: st) g140 := FRS_eq (rg140.a (by decide)) (rg140.a (by decide)) (rg140.a (by decide)) BF
            obtain ⟨z1, z2, z3⟩ : t.1 (i + 1) = 1 ∧ g140 386 8 = 1 ∧ g140 386 9 = t.2.1 (i + 1) := by
              rcases R.2 with A1 | z
              · have := A1.2.1
                omega
              · exact z
            refine ⟨hfr, hw, ?_, ?_, ?_, ?_, ?_, .inr (flt t (i + 1)), ?_, Or.inr ⟨rfl, sgB_ne (by omega)⟩⟩
            · exact (rg140.a (by decide)).trans BT
            · exact (rg140.s (by decide)).trans BL
            · exact (rg140.s (by decide)).trans B41
            · exact (rg140.s (by decide)).trans B42
            · exact FG
            · rw [flt_bad z1]
              exact ⟨z2, z3, by show (0 : Int) < 1; decide⟩
          · skip
            intro g184 eg184 g189 eg189
            have nh := tokI_2 (t := t) (i := i) (by omega)
            have ha : AH T L (g 386 5).toNat g140 := by
              have q : AH (g 387) (g 386 2).toNat (g 386 5).toNat g140 := qg140
              rw [BT, BL] at q
              exact q
            have R : RSq t P e (.inl (i + 1)) g140 := rs_next (F := fun k => .inl (k + 1)) tk AB_ hi (by omega) (by omega) rfl ha
            have FG : FRS ((kd, ph, false) :: st) g140 := FRS_eq (rg140.a (by decide)) (rg140.a (by decide)) (rg140.a (by decide)) BF
            obtain ⟨j, hj, -, A1⟩ := rs_ok R (by omega)
            cases hj
            have n40 : sgB t 40 (i + 1) = false := att_nsg A1 (by decide) (fun y => by omega)
            refine ⟨hfr, hw, ?_, ?_, ?_, ?_, ?_, .inr (flt t (i + 1)), ?_, Or.inr ⟨rfl, n40⟩⟩
            · rw [eg189, zup_na (by decide), eg184, zup_na (by decide), rg140.a (by decide)]
              exact BT
            · rw [eg189, zup_ne (Or.inr (by decide)), eg184, zup_ne (Or.inr (by decide)), rg140.s (by decide)]
              exact BL
            · rw [eg189, zup_ne (Or.inr (by decide)), eg184, zup_ne (Or.inr (by decide)), rg140.s (by decide)]
              exact B41
            · rw [eg189, zup_ne (Or.inr (by decide)), eg184, zup_ne (Or.inr (by decide)), rg140.s (by decide)]
              exact B42
            · rw [eg189, eg184]
              exact FRS_o (by decide) (FRS_o (by decide) FG)
            · refine ⟨?_, ?_, ?_⟩
              · rw [eg189, zup_ne (Or.inr (by decide)), eg184, zup_eq]
                rfl
              · rw [eg189, zup_eq, ← att_flt A1]
                omega
              · show (0 : Int) < 1
                decide
        · skip
          have nh := tokI_2 (t := t) (i := i) (by omega)
          have ha : AH T L (g 386 5).toNat g140 := by
            have q : AH (g 387) (g 386 2).toNat (g 386 5).toNat g140 := qg140
            rw [BT, BL] at q
            exact q
          have R : RSq t P e (.inl (i + 1)) g140 := rs_next (F := fun k => .inl (k + 1)) tk AB_ hi (by omega) (by omega) rfl ha
          have FG : FRS ((kd, ph, false) :: st) g140 := FRS_eq (rg140.a (by decide)) (rg140.a (by decide)) (rg140.a (by decide)) BF
          have alt : (∃ z : (RSq t P e (.inl (i + 1)) g140), sgB t 40 (i + 1) = true) ∨ t.1 (i + 1) = 1 ∧ g140 386 8 = 1 ∧ g140 386 9 = t.2.1 (i + 1) := by
            rcases R.2 with A1 | z
            · exact Or.inl ⟨R, (att_sg A1 (by decide)).mpr ⟨by omega, by omega⟩⟩
            · exact Or.inr z
          rcases alt with ⟨R2, s40⟩ | ⟨z1, z2, z3⟩
          · refine ⟨hfr, hw, ?_, ?_, ?_, ?_, ?_, .inl (i + 1), ?_, Or.inl ⟨rfl, s40⟩⟩
            · exact (rg140.a (by decide)).trans BT
            · exact (rg140.s (by decide)).trans BL
            · exact (rg140.s (by decide)).trans B41
            · exact (rg140.s (by decide)).trans B42
            · exact FG
            · exact R2
          · refine ⟨hfr, hw, ?_, ?_, ?_, ?_, ?_, .inr (flt t (i + 1)), ?_, Or.inr ⟨rfl, sgB_ne (by omega)⟩⟩
            · exact (rg140.a (by decide)).trans BT
            · exact (rg140.s (by decide)).trans BL
            · exact (rg140.s (by decide)).trans B41
            · exact (rg140.s (by decide)).trans B42
            · exact FG
            · rw [flt_bad z1]
              exact ⟨z2, z3, by show (0 : Int) < 1; decide⟩
  · intro g v197_3 rg o1 o2 hI
    obtain ⟨hfr, hw, BT, BL, B41, B42, BF, r', R', hr'⟩ := hI
    refine ⟨fun g' => OPN3 t P e (r') 3 ((kd, ph, false) :: st) g', ?_, ?_⟩
    · skip
      exact w_2334 tk BT BL (r := r') R' (by rw [hl2]; omega) (by rw [hl2]; omega) BF (fun j hj => by
        rcases hr' with ⟨z, z2⟩ | ⟨z, -⟩
        · rw [z] at hj
          cases hj
          exact (sgB_iff.mp z2).1
        · rw [z] at hj
          cases hj)
    · skip
      intro g195 rg195 qg195 x197 ex197 o6 o7
      refine ⟨fun h8z => ?_, fun h8z => ?_⟩
      · skip
        have O : OPN3 t P e r' 3 ((kd, ph, false) :: st) g195 := qg195
        rcases O with ⟨j, hj, l9, z8, z9⟩ | ⟨f, hf, z8, z9, z0⟩ | ⟨j, hj, l9, z⟩
        · rcases hr' with ⟨y, y2⟩ | ⟨y, -⟩
          · rw [y] at hj
            cases hj
            rw [hl2] at l9
            exact Or.inr ⟨_, am_mm8 hfr hw y2 (by omega), z8, z9, by show (0 : Int) < 5; decide⟩
          · rw [y] at hj
            cases hj
        · rcases hr' with ⟨y, y2⟩ | ⟨y, y2⟩
          · rw [y] at hf
            cases hf
          · rw [y] at hf
            cases hf
            exact Or.inr ⟨_, am_mm0 hfr hw y2, z8, z9, z0⟩
        · rcases hr' with ⟨y, y2⟩ | ⟨y, y2⟩
          · rw [y] at hj
            cases hj
            rw [hl2] at l9
            exact Or.inl ⟨_, _, _, am_mm hfr hw y2 (by omega), z, rfl⟩
          · rw [y] at hj
            cases hj
      · skip
        intro x202 ex202 o10 o11 x206 ex206 o13 g213 eg213
        have O : OPN3 t P e r' 3 ((kd, ph, false) :: st) g195 := qg195
        rcases O with ⟨j, hj, l9, z8, z9⟩ | ⟨f, hf, z8, z9, z0⟩ | ⟨j, hj, l9, z⟩
        · exfalso
          omega
        · exfalso
          omega
        · rcases hr' with ⟨y, y2⟩ | ⟨y, y2⟩
          · rw [y] at hj
            cases hj
            rw [hl2] at l9
            obtain ⟨m1, m2, m3, m4, m5, m6⟩ := z
            refine Or.inl ⟨_, _, _, am_mm hfr hw y2 (by omega), ⟨m1, ?_, ?_, ?_, ?_, m6⟩, rfl⟩
            · rw [eg213]
              exact PRT_fr m2 fun _ _ _ => zup_ne (Or.inl (by decide))
            · rw [eg213, zup_ne (Or.inl (by decide))]
              exact m3
            · rw [eg213, zup_ne (Or.inl (by decide))]
              exact m4
            · rw [eg213]
              exact FRS_o (by decide) m5
          · rw [y] at hj
            cases hj
  · intro g  rg hI
    obtain ⟨hg, hfr, h40, h25, h26⟩ := hI
    have AB_ : ATT t P i g := by
      rw [hg]
      exact ATT_fr A fun _ _ _ => zup_ne (Or.inl (by decide))
    have BT : g 387 = T := by rw [hg, zup_na (by decide), hT]
    have BL : g 386 2 = (L : Int) := by rw [hg, zup_ne (Or.inl (by decide)), hL]
    have B41 : g 386 41 = (st.length : Int) + 1 := by
      rw [hg, zup_ne (Or.inl (by decide))]
      omega
    have B42 : g 386 42 = (st.length : Int) := by
      rw [hg, zup_ne (Or.inl (by decide))]
      omega
    have BF : FRS ((kd, ph, false) :: st) g := by
      rw [hg]
      exact ⟨by rw [zup_ne (Or.inl (by decide))]; exact f1, by rw [zup_ne (Or.inl (by decide))]; exact f2, zup_eq, FRS_up (Nat.le_refl _) f4⟩
    have b8 := AB_.2.1
    have b5 := AB_.2.2.2.1
    obtain ⟨q30, q31, q32⟩ := att_k3 AB_
    intro x214 ex214 o2 o3
    refine ⟨fun h4z => ?_, fun h4z => ?_⟩
    · skip
      refine ⟨fun h5z => ?_, fun h5z => ?_⟩
      · skip
        refine ⟨fun h6z => ?_, fun h6z => ?_⟩
        · skip
          refine ⟨fun h7z => ?_, fun h7z => ?_⟩
          · skip
            refine ⟨fun h8z => ?_, fun h8z => ?_⟩
            · skip
              refine ⟨fun h9z => ?_, fun h9z => ?_⟩
              · skip
                refine ⟨fun h10z => ?_, fun h10z => ?_⟩
                · skip
                  refine ⟨fun h11z => ?_, fun h11z => ?_⟩
                  · skip
                    refine ⟨hg, hfr, h40, h25, h26, fun z => absurd rfl z, fun _ => ⟨fun z => ?_, ?_⟩⟩
                    · have := q32.mp z
                      omega
                    · have n0 : tokI t i ≠ 0 := att_now AB_ (w := 0) (a := 439956431717) (OW_w (by decide) rfl) (fun z => by omega)
                      have n1 : tokI t i ≠ 1 := att_now AB_ (w := 1) (a := 131277443786868) (OW_w (by decide) rfl) (fun z => by omega)
                      have n2 : tokI t i ≠ 2 := att_now AB_ (w := 2) (a := 431198598248) (OW_w (by decide) rfl) (fun z => by omega)
                      have n3 : tokI t i ≠ 3 := att_now AB_ (w := 3) (a := 482854658917) (OW_w (by decide) rfl) (fun z => by omega)
                      have n4 : tokI t i ≠ 4 := att_now AB_ (w := 4) (a := 120299592184933) (OW_w (by decide) rfl) (fun z => by omega)
                      have n5 : tokI t i ≠ 5 := att_now AB_ (w := 5) (a := 108187867505765) (OW_w (by decide) rfl) (fun z => by omega)
                      have n6 : tokI t i ≠ 6 := att_now AB_ (w := 6) (a := 1717922932) (OW_w (by decide) rfl) (fun z => by omega)
                      by_cases z : tokI t i = -1
                      · exact Or.inl z
                      · obtain ⟨w, -, -, hw⟩ := owI_of (v := t.2.1 i) (by
                          intro y
                          exact z (by
                            show (if t.1 i = 2 then owI (t.2.1 i) else -1) = -1
                            rw [if_pos (tokI_2 z), y]))
                        have e2 : tokI t i = owI (t.2.1 i) := if_pos (tokI_2 z)
                        omega
                  · skip
                    intro y229 ey229 x230 ex230
                    refine ⟨fun h14z => ?_, fun h14z => ?_⟩
                    · skip
                      refine ⟨hg, hfr, h40, h25, h26, fun z => absurd rfl z, fun _ => ⟨fun z => ?_, ?_⟩⟩
                      · have := q32.mp z
                        omega
                      · have n0 : tokI t i ≠ 0 := att_now AB_ (w := 0) (a := 439956431717) (OW_w (by decide) rfl) (fun z => by omega)
                        have n1 : tokI t i ≠ 1 := att_now AB_ (w := 1) (a := 131277443786868) (OW_w (by decide) rfl) (fun z => by omega)
                        have n2 : tokI t i ≠ 2 := att_now AB_ (w := 2) (a := 431198598248) (OW_w (by decide) rfl) (fun z => by omega)
                        have n3 : tokI t i ≠ 3 := att_now AB_ (w := 3) (a := 482854658917) (OW_w (by decide) rfl) (fun z => by omega)
                        have n4 : tokI t i ≠ 4 := att_now AB_ (w := 4) (a := 120299592184933) (OW_w (by decide) rfl) (fun z => by omega)
                        have n5 : tokI t i ≠ 5 := att_now AB_ (w := 5) (a := 108187867505765) (OW_w (by decide) rfl) (fun z => by omega)
                        have n6 : tokI t i ≠ 6 := att_now AB_ (w := 6) (a := 1717922932) (OW_w (by decide) rfl) (fun z => by omega)
                        by_cases z : tokI t i = -1
                        · exact Or.inl z
                        · obtain ⟨w, -, -, hw⟩ := owI_of (v := t.2.1 i) (by
                            intro y
                            exact z (by
                              show (if t.1 i = 2 then owI (t.2.1 i) else -1) = -1
                              rw [if_pos (tokI_2 z), y]))
                          have e2 : tokI t i = owI (t.2.1 i) := if_pos (tokI_2 z)
                          omega
                    · skip
                      have kw := (att_own AB_ (w := 6) (a := 1717922932) (OW_w (by decide) rfl)).mpr ⟨by omega, by omega⟩
                      exact ⟨hg, hfr, h40, h25, h26, fun _ => Or.inr ⟨by omega, by omega⟩, fun z => absurd z (by decide)⟩
                · skip
                  intro y236 ey236 x237 ex237
                  refine ⟨fun h13z => ?_, fun h13z => ?_⟩
                  · skip
                    intro x240 ex240
                    refine ⟨fun h15z => ?_, fun h15z => ?_⟩
                    · skip
                      refine ⟨hg, hfr, h40, h25, h26, fun z => absurd rfl z, fun _ => ⟨fun z => ?_, ?_⟩⟩
                      · have := q32.mp z
                        omega
                      · have n0 : tokI t i ≠ 0 := att_now AB_ (w := 0) (a := 439956431717) (OW_w (by decide) rfl) (fun z => by omega)
                        have n1 : tokI t i ≠ 1 := att_now AB_ (w := 1) (a := 131277443786868) (OW_w (by decide) rfl) (fun z => by omega)
                        have n2 : tokI t i ≠ 2 := att_now AB_ (w := 2) (a := 431198598248) (OW_w (by decide) rfl) (fun z => by omega)
                        have n3 : tokI t i ≠ 3 := att_now AB_ (w := 3) (a := 482854658917) (OW_w (by decide) rfl) (fun z => by omega)
                        have n4 : tokI t i ≠ 4 := att_now AB_ (w := 4) (a := 120299592184933) (OW_w (by decide) rfl) (fun z => by omega)
                        have n5 : tokI t i ≠ 5 := att_now AB_ (w := 5) (a := 108187867505765) (OW_w (by decide) rfl) (fun z => by omega)
                        have n6 : tokI t i ≠ 6 := att_now AB_ (w := 6) (a := 1717922932) (OW_w (by decide) rfl) (fun z => by omega)
                        by_cases z : tokI t i = -1
                        · exact Or.inl z
                        · obtain ⟨w, -, -, hw⟩ := owI_of (v := t.2.1 i) (by
                            intro y
                            exact z (by
                              show (if t.1 i = 2 then owI (t.2.1 i) else -1) = -1
                              rw [if_pos (tokI_2 z), y]))
                          have e2 : tokI t i = owI (t.2.1 i) := if_pos (tokI_2 z)
                          omega
                    · skip
                      have kw := (att_own AB_ (w := 6) (a := 1717922932) (OW_w (by decide) rfl)).mpr ⟨by omega, by omega⟩
                      exact ⟨hg, hfr, h40, h25, h26, fun _ => Or.inr ⟨by omega, by omega⟩, fun z => absurd z (by decide)⟩
                  · skip
                    have kw := (att_own AB_ (w := 5) (a := 108187867505765) (OW_w (by decide) rfl)).mpr ⟨by omega, by omega⟩
                    exact ⟨hg, hfr, h40, h25, h26, fun _ => Or.inr ⟨by omega, by omega⟩, fun z => absurd z (by decide)⟩
              · skip
                intro y246 ey246 x247 ex247
                refine ⟨fun h12z => ?_, fun h12z => ?_⟩
                · skip
                  intro x250 ex250
                  refine ⟨fun h14z => ?_, fun h14z => ?_⟩
                  · skip
                    intro x253 ex253
                    refine ⟨fun h16z => ?_, fun h16z => ?_⟩
                    · skip
                      refine ⟨hg, hfr, h40, h25, h26, fun z => absurd rfl z, fun _ => ⟨fun z => ?_, ?_⟩⟩
                      · have := q32.mp z
                        omega
                      · have n0 : tokI t i ≠ 0 := att_now AB_ (w := 0) (a := 439956431717) (OW_w (by decide) rfl) (fun z => by omega)
                        have n1 : tokI t i ≠ 1 := att_now AB_ (w := 1) (a := 131277443786868) (OW_w (by decide) rfl) (fun z => by omega)
                        have n2 : tokI t i ≠ 2 := att_now AB_ (w := 2) (a := 431198598248) (OW_w (by decide) rfl) (fun z => by omega)
                        have n3 : tokI t i ≠ 3 := att_now AB_ (w := 3) (a := 482854658917) (OW_w (by decide) rfl) (fun z => by omega)
                        have n4 : tokI t i ≠ 4 := att_now AB_ (w := 4) (a := 120299592184933) (OW_w (by decide) rfl) (fun z => by omega)
                        have n5 : tokI t i ≠ 5 := att_now AB_ (w := 5) (a := 108187867505765) (OW_w (by decide) rfl) (fun z => by omega)
                        have n6 : tokI t i ≠ 6 := att_now AB_ (w := 6) (a := 1717922932) (OW_w (by decide) rfl) (fun z => by omega)
                        by_cases z : tokI t i = -1
                        · exact Or.inl z
                        · obtain ⟨w, -, -, hw⟩ := owI_of (v := t.2.1 i) (by
                            intro y
                            exact z (by
                              show (if t.1 i = 2 then owI (t.2.1 i) else -1) = -1
                              rw [if_pos (tokI_2 z), y]))
                          have e2 : tokI t i = owI (t.2.1 i) := if_pos (tokI_2 z)
                          omega
                    · skip
                      have kw := (att_own AB_ (w := 6) (a := 1717922932) (OW_w (by decide) rfl)).mpr ⟨by omega, by omega⟩
                      exact ⟨hg, hfr, h40, h25, h26, fun _ => Or.inr ⟨by omega, by omega⟩, fun z => absurd z (by decide)⟩
                  · skip
                    have kw := (att_own AB_ (w := 5) (a := 108187867505765) (OW_w (by decide) rfl)).mpr ⟨by omega, by omega⟩
                    exact ⟨hg, hfr, h40, h25, h26, fun _ => Or.inr ⟨by omega, by omega⟩, fun z => absurd z (by decide)⟩
                · skip
                  have kw := (att_own AB_ (w := 4) (a := 120299592184933) (OW_w (by decide) rfl)).mpr ⟨by omega, by omega⟩
                  exact ⟨hg, hfr, h40, h25, h26, fun _ => Or.inr ⟨by omega, by omega⟩, fun z => absurd z (by decide)⟩
            · skip
              intro y259 ey259 x260 ex260
              refine ⟨fun h11z => ?_, fun h11z => ?_⟩
              · skip
                intro x263 ex263
                refine ⟨fun h13z => ?_, fun h13z => ?_⟩
                · skip
                  intro x266 ex266
                  refine ⟨fun h15z => ?_, fun h15z => ?_⟩
                  · skip
                    intro x269 ex269
                    refine ⟨fun h17z => ?_, fun h17z => ?_⟩
                    · skip
                      refine ⟨hg, hfr, h40, h25, h26, fun z => absurd rfl z, fun _ => ⟨fun z => ?_, ?_⟩⟩
                      · have := q32.mp z
                        omega
                      · have n0 : tokI t i ≠ 0 := att_now AB_ (w := 0) (a := 439956431717) (OW_w (by decide) rfl) (fun z => by omega)
                        have n1 : tokI t i ≠ 1 := att_now AB_ (w := 1) (a := 131277443786868) (OW_w (by decide) rfl) (fun z => by omega)
                        have n2 : tokI t i ≠ 2 := att_now AB_ (w := 2) (a := 431198598248) (OW_w (by decide) rfl) (fun z => by omega)
                        have n3 : tokI t i ≠ 3 := att_now AB_ (w := 3) (a := 482854658917) (OW_w (by decide) rfl) (fun z => by omega)
                        have n4 : tokI t i ≠ 4 := att_now AB_ (w := 4) (a := 120299592184933) (OW_w (by decide) rfl) (fun z => by omega)
                        have n5 : tokI t i ≠ 5 := att_now AB_ (w := 5) (a := 108187867505765) (OW_w (by decide) rfl) (fun z => by omega)
                        have n6 : tokI t i ≠ 6 := att_now AB_ (w := 6) (a := 1717922932) (OW_w (by decide) rfl) (fun z => by omega)
                        by_cases z : tokI t i = -1
                        · exact Or.inl z
                        · obtain ⟨w, -, -, hw⟩ := owI_of (v := t.2.1 i) (by
                            intro y
                            exact z (by
                              show (if t.1 i = 2 then owI (t.2.1 i) else -1) = -1
                              rw [if_pos (tokI_2 z), y]))
                          have e2 : tokI t i = owI (t.2.1 i) := if_pos (tokI_2 z)
                          omega
                    · skip
                      have kw := (att_own AB_ (w := 6) (a := 1717922932) (OW_w (by decide) rfl)).mpr ⟨by omega, by omega⟩
                      exact ⟨hg, hfr, h40, h25, h26, fun _ => Or.inr ⟨by omega, by omega⟩, fun z => absurd z (by decide)⟩
                  · skip
                    have kw := (att_own AB_ (w := 5) (a := 108187867505765) (OW_w (by decide) rfl)).mpr ⟨by omega, by omega⟩
                    exact ⟨hg, hfr, h40, h25, h26, fun _ => Or.inr ⟨by omega, by omega⟩, fun z => absurd z (by decide)⟩
                · skip
                  have kw := (att_own AB_ (w := 4) (a := 120299592184933) (OW_w (by decide) rfl)).mpr ⟨by omega, by omega⟩
                  exact ⟨hg, hfr, h40, h25, h26, fun _ => Or.inr ⟨by omega, by omega⟩, fun z => absurd z (by decide)⟩
              · skip
                have kw := (att_own AB_ (w := 3) (a := 482854658917) (OW_w (by decide) rfl)).mpr ⟨by omega, by omega⟩
                exact ⟨hg, hfr, h40, h25, h26, fun _ => Or.inr ⟨by omega, by omega⟩, fun z => absurd z (by decide)⟩
          · skip
            intro y275 ey275 x276 ex276
            refine ⟨fun h10z => ?_, fun h10z => ?_⟩
            · skip
              intro x279 ex279
              refine ⟨fun h12z => ?_, fun h12z => ?_⟩
              · skip
                intro x282 ex282
                refine ⟨fun h14z => ?_, fun h14z => ?_⟩
                · skip
                  intro x285 ex285
                  refine ⟨fun h16z => ?_, fun h16z => ?_⟩
                  · skip
                    intro x288 ex288
                    refine ⟨fun h18z => ?_, fun h18z => ?_⟩
                    · skip
                      refine ⟨hg, hfr, h40, h25, h26, fun z => absurd rfl z, fun _ => ⟨fun z => ?_, ?_⟩⟩
                      · have := q32.mp z
                        omega
                      · have n0 : tokI t i ≠ 0 := att_now AB_ (w := 0) (a := 439956431717) (OW_w (by decide) rfl) (fun z => by omega)
                        have n1 : tokI t i ≠ 1 := att_now AB_ (w := 1) (a := 131277443786868) (OW_w (by decide) rfl) (fun z => by omega)
                        have n2 : tokI t i ≠ 2 := att_now AB_ (w := 2) (a := 431198598248) (OW_w (by decide) rfl) (fun z => by omega)
                        have n3 : tokI t i ≠ 3 := att_now AB_ (w := 3) (a := 482854658917) (OW_w (by decide) rfl) (fun z => by omega)
                        have n4 : tokI t i ≠ 4 := att_now AB_ (w := 4) (a := 120299592184933) (OW_w (by decide) rfl) (fun z => by omega)
                        have n5 : tokI t i ≠ 5 := att_now AB_ (w := 5) (a := 108187867505765) (OW_w (by decide) rfl) (fun z => by omega)
                        have n6 : tokI t i ≠ 6 := att_now AB_ (w := 6) (a := 1717922932) (OW_w (by decide) rfl) (fun z => by omega)
                        by_cases z : tokI t i = -1
                        · exact Or.inl z
                        · obtain ⟨w, -, -, hw⟩ := owI_of (v := t.2.1 i) (by
                            intro y
                            exact z (by
                              show (if t.1 i = 2 then owI (t.2.1 i) else -1) = -1
                              rw [if_pos (tokI_2 z), y]))
                          have e2 : tokI t i = owI (t.2.1 i) := if_pos (tokI_2 z)
                          omega
                    · skip
                      have kw := (att_own AB_ (w := 6) (a := 1717922932) (OW_w (by decide) rfl)).mpr ⟨by omega, by omega⟩
                      exact ⟨hg, hfr, h40, h25, h26, fun _ => Or.inr ⟨by omega, by omega⟩, fun z => absurd z (by decide)⟩
                  · skip
                    have kw := (att_own AB_ (w := 5) (a := 108187867505765) (OW_w (by decide) rfl)).mpr ⟨by omega, by omega⟩
                    exact ⟨hg, hfr, h40, h25, h26, fun _ => Or.inr ⟨by omega, by omega⟩, fun z => absurd z (by decide)⟩
                · skip
                  have kw := (att_own AB_ (w := 4) (a := 120299592184933) (OW_w (by decide) rfl)).mpr ⟨by omega, by omega⟩
                  exact ⟨hg, hfr, h40, h25, h26, fun _ => Or.inr ⟨by omega, by omega⟩, fun z => absurd z (by decide)⟩
              · skip
                have kw := (att_own AB_ (w := 3) (a := 482854658917) (OW_w (by decide) rfl)).mpr ⟨by omega, by omega⟩
                exact ⟨hg, hfr, h40, h25, h26, fun _ => Or.inr ⟨by omega, by omega⟩, fun z => absurd z (by decide)⟩
            · skip
              have kw := (att_own AB_ (w := 2) (a := 431198598248) (OW_w (by decide) rfl)).mpr ⟨by omega, by omega⟩
              exact ⟨hg, hfr, h40, h25, h26, fun _ => Or.inr ⟨by omega, by omega⟩, fun z => absurd z (by decide)⟩
        · skip
          intro y294 ey294 x295 ex295
          refine ⟨fun h9z => ?_, fun h9z => ?_⟩
          · skip
            intro x298 ex298
            refine ⟨fun h11z => ?_, fun h11z => ?_⟩
            · skip
              intro x301 ex301
              refine ⟨fun h13z => ?_, fun h13z => ?_⟩
              · skip
                intro x304 ex304
                refine ⟨fun h15z => ?_, fun h15z => ?_⟩
                · skip
                  intro x307 ex307
                  refine ⟨fun h17z => ?_, fun h17z => ?_⟩
                  · skip
                    intro x310 ex310
                    refine ⟨fun h19z => ?_, fun h19z => ?_⟩
                    · skip
                      refine ⟨hg, hfr, h40, h25, h26, fun z => absurd rfl z, fun _ => ⟨fun z => ?_, ?_⟩⟩
                      · have := q32.mp z
                        omega
                      · have n0 : tokI t i ≠ 0 := att_now AB_ (w := 0) (a := 439956431717) (OW_w (by decide) rfl) (fun z => by omega)
                        have n1 : tokI t i ≠ 1 := att_now AB_ (w := 1) (a := 131277443786868) (OW_w (by decide) rfl) (fun z => by omega)
                        have n2 : tokI t i ≠ 2 := att_now AB_ (w := 2) (a := 431198598248) (OW_w (by decide) rfl) (fun z => by omega)
                        have n3 : tokI t i ≠ 3 := att_now AB_ (w := 3) (a := 482854658917) (OW_w (by decide) rfl) (fun z => by omega)
                        have n4 : tokI t i ≠ 4 := att_now AB_ (w := 4) (a := 120299592184933) (OW_w (by decide) rfl) (fun z => by omega)
                        have n5 : tokI t i ≠ 5 := att_now AB_ (w := 5) (a := 108187867505765) (OW_w (by decide) rfl) (fun z => by omega)
                        have n6 : tokI t i ≠ 6 := att_now AB_ (w := 6) (a := 1717922932) (OW_w (by decide) rfl) (fun z => by omega)
                        by_cases z : tokI t i = -1
                        · exact Or.inl z
                        · obtain ⟨w, -, -, hw⟩ := owI_of (v := t.2.1 i) (by
                            intro y
                            exact z (by
                              show (if t.1 i = 2 then owI (t.2.1 i) else -1) = -1
                              rw [if_pos (tokI_2 z), y]))
                          have e2 : tokI t i = owI (t.2.1 i) := if_pos (tokI_2 z)
                          omega
                    · skip
                      have kw := (att_own AB_ (w := 6) (a := 1717922932) (OW_w (by decide) rfl)).mpr ⟨by omega, by omega⟩
                      exact ⟨hg, hfr, h40, h25, h26, fun _ => Or.inr ⟨by omega, by omega⟩, fun z => absurd z (by decide)⟩
                  · skip
                    have kw := (att_own AB_ (w := 5) (a := 108187867505765) (OW_w (by decide) rfl)).mpr ⟨by omega, by omega⟩
                    exact ⟨hg, hfr, h40, h25, h26, fun _ => Or.inr ⟨by omega, by omega⟩, fun z => absurd z (by decide)⟩
                · skip
                  have kw := (att_own AB_ (w := 4) (a := 120299592184933) (OW_w (by decide) rfl)).mpr ⟨by omega, by omega⟩
                  exact ⟨hg, hfr, h40, h25, h26, fun _ => Or.inr ⟨by omega, by omega⟩, fun z => absurd z (by decide)⟩
              · skip
                have kw := (att_own AB_ (w := 3) (a := 482854658917) (OW_w (by decide) rfl)).mpr ⟨by omega, by omega⟩
                exact ⟨hg, hfr, h40, h25, h26, fun _ => Or.inr ⟨by omega, by omega⟩, fun z => absurd z (by decide)⟩
            · skip
              have kw := (att_own AB_ (w := 2) (a := 431198598248) (OW_w (by decide) rfl)).mpr ⟨by omega, by omega⟩
              exact ⟨hg, hfr, h40, h25, h26, fun _ => Or.inr ⟨by omega, by omega⟩, fun z => absurd z (by decide)⟩
          · skip
            have kw := (att_own AB_ (w := 1) (a := 131277443786868) (OW_w (by decide) rfl)).mpr ⟨by omega, by omega⟩
            exact ⟨hg, hfr, h40, h25, h26, fun _ => Or.inr ⟨by omega, by omega⟩, fun z => absurd z (by decide)⟩
      · skip
        intro y316 ey316 x317 ex317
        refine ⟨fun h8z => ?_, fun h8z => ?_⟩
        · skip
          intro x320 ex320
          refine ⟨fun h10z => ?_, fun h10z => ?_⟩
          · skip
            intro x323 ex323
            refine ⟨fun h12z => ?_, fun h12z => ?_⟩
            · skip
              intro x326 ex326
              refine ⟨fun h14z => ?_, fun h14z => ?_⟩
              · skip
                intro x329 ex329
                refine ⟨fun h16z => ?_, fun h16z => ?_⟩
                · skip
                  intro x332 ex332
                  refine ⟨fun h18z => ?_, fun h18z => ?_⟩
                  · skip
                    intro x335 ex335
                    refine ⟨fun h20z => ?_, fun h20z => ?_⟩
                    · skip
                      refine ⟨hg, hfr, h40, h25, h26, fun z => absurd rfl z, fun _ => ⟨fun z => ?_, ?_⟩⟩
                      · have := q32.mp z
                        omega
                      · have n0 : tokI t i ≠ 0 := att_now AB_ (w := 0) (a := 439956431717) (OW_w (by decide) rfl) (fun z => by omega)
                        have n1 : tokI t i ≠ 1 := att_now AB_ (w := 1) (a := 131277443786868) (OW_w (by decide) rfl) (fun z => by omega)
                        have n2 : tokI t i ≠ 2 := att_now AB_ (w := 2) (a := 431198598248) (OW_w (by decide) rfl) (fun z => by omega)
                        have n3 : tokI t i ≠ 3 := att_now AB_ (w := 3) (a := 482854658917) (OW_w (by decide) rfl) (fun z => by omega)
                        have n4 : tokI t i ≠ 4 := att_now AB_ (w := 4) (a := 120299592184933) (OW_w (by decide) rfl) (fun z => by omega)
                        have n5 : tokI t i ≠ 5 := att_now AB_ (w := 5) (a := 108187867505765) (OW_w (by decide) rfl) (fun z => by omega)
                        have n6 : tokI t i ≠ 6 := att_now AB_ (w := 6) (a := 1717922932) (OW_w (by decide) rfl) (fun z => by omega)
                        by_cases z : tokI t i = -1
                        · exact Or.inl z
                        · obtain ⟨w, -, -, hw⟩ := owI_of (v := t.2.1 i) (by
                            intro y
                            exact z (by
                              show (if t.1 i = 2 then owI (t.2.1 i) else -1) = -1
                              rw [if_pos (tokI_2 z), y]))
                          have e2 : tokI t i = owI (t.2.1 i) := if_pos (tokI_2 z)
                          omega
                    · skip
                      have kw := (att_own AB_ (w := 6) (a := 1717922932) (OW_w (by decide) rfl)).mpr ⟨by omega, by omega⟩
                      exact ⟨hg, hfr, h40, h25, h26, fun _ => Or.inr ⟨by omega, by omega⟩, fun z => absurd z (by decide)⟩
                  · skip
                    have kw := (att_own AB_ (w := 5) (a := 108187867505765) (OW_w (by decide) rfl)).mpr ⟨by omega, by omega⟩
                    exact ⟨hg, hfr, h40, h25, h26, fun _ => Or.inr ⟨by omega, by omega⟩, fun z => absurd z (by decide)⟩
                · skip
                  have kw := (att_own AB_ (w := 4) (a := 120299592184933) (OW_w (by decide) rfl)).mpr ⟨by omega, by omega⟩
                  exact ⟨hg, hfr, h40, h25, h26, fun _ => Or.inr ⟨by omega, by omega⟩, fun z => absurd z (by decide)⟩
              · skip
                have kw := (att_own AB_ (w := 3) (a := 482854658917) (OW_w (by decide) rfl)).mpr ⟨by omega, by omega⟩
                exact ⟨hg, hfr, h40, h25, h26, fun _ => Or.inr ⟨by omega, by omega⟩, fun z => absurd z (by decide)⟩
            · skip
              have kw := (att_own AB_ (w := 2) (a := 431198598248) (OW_w (by decide) rfl)).mpr ⟨by omega, by omega⟩
              exact ⟨hg, hfr, h40, h25, h26, fun _ => Or.inr ⟨by omega, by omega⟩, fun z => absurd z (by decide)⟩
          · skip
            have kw := (att_own AB_ (w := 1) (a := 131277443786868) (OW_w (by decide) rfl)).mpr ⟨by omega, by omega⟩
            exact ⟨hg, hfr, h40, h25, h26, fun _ => Or.inr ⟨by omega, by omega⟩, fun z => absurd z (by decide)⟩
        · skip
          have kw := (att_own AB_ (w := 0) (a := 439956431717) (OW_w (by decide) rfl)).mpr ⟨by omega, by omega⟩
          exact ⟨hg, hfr, h40, h25, h26, fun _ => Or.inr ⟨by omega, by omega⟩, fun z => absurd z (by decide)⟩
    · skip
      exact ⟨hg, hfr, h40, h25, h26, fun _ => Or.inl (q32.mpr (by omega)), fun z => absurd z (by decide)⟩
  · intro g v337_3 rg o1 o2 hI
    obtain ⟨hg, hfr, h40, h25, h26, hv1, hv0⟩ := hI
    have AB_ : ATT t P i g := by
      rw [hg]
      exact ATT_fr A fun _ _ _ => zup_ne (Or.inl (by decide))
    have BT : g 387 = T := by rw [hg, zup_na (by decide), hT]
    have BL : g 386 2 = (L : Int) := by rw [hg, zup_ne (Or.inl (by decide)), hL]
    have B41 : g 386 41 = (st.length : Int) + 1 := by
      rw [hg, zup_ne (Or.inl (by decide))]
      omega
    have B42 : g 386 42 = (st.length : Int) := by
      rw [hg, zup_ne (Or.inl (by decide))]
      omega
    have BF : FRS ((kd, ph, false) :: st) g := by
      rw [hg]
      exact ⟨by rw [zup_ne (Or.inl (by decide))]; exact f1, by rw [zup_ne (Or.inl (by decide))]; exact f2, zup_eq, FRS_up (Nat.le_refl _) f4⟩
    have b8 := AB_.2.1
    have b5 := AB_.2.2.2.1
    obtain ⟨q30, q31, q32⟩ := att_k3 AB_
    refine ⟨fun h3z => ?_, fun h3z => ?_⟩
    · skip
      intro x339 ex339 o5 o6
      refine ⟨fun h7z => ?_, fun h7z => ?_⟩
      · skip
        exfalso
        omega
      · skip
        intro x344 ex344
        intro g353 rg353
        refine ⟨fun g' => AH (g353 387) (g353 386 2).toNat (g353 386 5).toNat g', ?_, ?_⟩
        · skip
          exact w_2310 (by rw [rg353.s (by decide)]; omega) (by rw [rg353.s (by decide)]; omega) (by rw [rg353.s (by decide)]; omega)
        · skip
          intro g360 rg360 qg360
          have hv := hv1 (by omega)
          have nh : t.1 i = 4 ∨ t.1 i = 2 := by
            rcases hv with z | z
            · exact Or.inl z
            · exact Or.inr (tokI_2 (by omega))
          have A1 : ATT t P i g353 := ATT_fr AB_ fun k k1 k2 => rg353.s (by
            have hc : k = 3 ∨ k = 4 ∨ k = 5 ∨ k = 6 ∨ k = 7 ∨ k = 8 := by omega
            rcases hc with z | z | z | z | z | z <;> subst z <;> decide)
          have ha : AH T L (g353 386 5).toNat g360 := by
            have q : AH (g353 387) (g353 386 2).toNat (g353 386 5).toNat g360 := qg360
            rw [rg353.a (a := 387) (by decide), rg353.s (a := 386) (k := 2) (by decide), BT, BL] at q
            exact q
          exact Or.inl ⟨_, _, _, am_val hfr hv, amr_mk tk A1 hi (by omega) (by omega) ha (by rw [rg360.s (by decide), rg353.s (by decide), B41, hl2]; omega) (by rw [rg360.s (by decide), rg353.s (by decide), B42, hl2]; omega) (FRS_eq ((rg360.a (by decide)).trans (rg353.a (by decide))) ((rg360.a (by decide)).trans (rg353.a (by decide))) ((rg360.a (by decide)).trans (rg353.a (by decide))) BF) (by simp), rfl⟩
    · skip
      intro x362 ex362 o5 o6 x366 ex366 o8 o9
      refine ⟨fun h10z => ?_, fun h10z => ?_⟩
      · skip
        exfalso
        omega
      · skip
        intro g375 eg375 g380 eg380
        obtain ⟨n4, n7⟩ := hv0 (by omega)
        refine Or.inr ⟨_, am_flt hfr n4 n7 h25 h26 h40, ?_, ?_, ?_⟩
        · rw [eg380, zup_ne (Or.inr (by decide)), eg375, zup_eq]
          rfl
        · rw [eg380, zup_eq, ← att_flt AB_]
          omega
        · show (0 : Int) < 1
          decide
