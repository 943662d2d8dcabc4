/-! pure proofs of the Reader: marks, BOYS, DREAMS (wip/safe/vcp.py) -/
set_option maxHeartbeats 4000000 in
theorem v_1293 {s0 : zF} {a0 : Int} (hw : OWS s0) (ht : TW s0) : b_1293 s0 a0 (fun v g => PO (mkF (toks s0) 3 0 (s0 2 7).toNat).1 v g ∧ (v = 1 → g ((s0 2 8).toNat + 6) a0.toNat = (mkF (toks s0) 3 0 (s0 2 7).toNat).2 ∧ ∀ k, k ≠ a0.toNat → g ((s0 2 8).toNat + 6) k = s0 ((s0 2 8).toNat + 6) k)) := by
  refine ⟨fun n g v12_1 v12_2 => n = (100 - v12_2).toNat ∧ v12_1 = a0 ∧ TW g ∧ ∃ f : Nat, (f : Int) = 3 - v12_2 ∧ (f = 3 ∧ g ((s0 2 8).toNat + 6) a0.toNat = 0 ∨ f = 2 ∧ (g ((s0 2 8).toNat + 6) a0.toNat = 1 ∨ g ((s0 2 8).toNat + 6) a0.toNat = 2) ∨ f = 1 ∧ g ((s0 2 8).toNat + 6) a0.toNat = 3) ∧ mkF (toks s0) 3 0 (s0 2 7).toNat = mkF (toks s0) f (g ((s0 2 8).toNat + 6) a0.toNat) (g 2 7).toNat ∧ ∀ k, k ≠ a0.toNat → g ((s0 2 8).toNat + 6) k = s0 ((s0 2 8).toNat + 6) k, ?_, ?_⟩
  · skip
    intro b100 eb100 fb100
    intro g108 eg108
    have kb : b100 = (s0 2 8).toNat := by omega
    rw [kb] at eg108
    have h13 : 13 ≤ (s0 2 8).toNat + 6 := by omega
    have e : EN s0 g108 := by
      rw [eg108]
      exact EN_st (by omega)
    have p7 : g108 2 7 = s0 2 7 := by
      rw [eg108, zup_ne (Or.inl (by omega))]
    have z : g108 ((s0 2 8).toNat + 6) a0.toNat = 0 := by
      rw [eg108, zup_eq]
    refine ⟨_, rfl, rfl, TW_en ht e p7, 3, by decide, Or.inl ⟨rfl, z⟩, ?_, fun k hk => ?_⟩
    · rw [z, p7]
    · rw [eg108, zup_ne (Or.inr hk)]
  · intro n g v12_1 v12_2 rg qv12_10 qv12_11 qv12_20 qv12_21 hI
    obtain ⟨hn, hv, htw, f, hf, hm, hq, ho⟩ := hI
    have he : EN s0 g := EN_fr rg (by decide) (by decide) (by decide)
    have e28 : g 2 8 = s0 2 8 := rg.s (by decide)
    subst hv
    refine ⟨fun h1 => ?_, fun h1 => ?_⟩
    · skip
      exfalso
      omega
    · skip
      refine ⟨fun v g' => g' = g ∧ v = tokI (toks g) (g 2 7).toNat, ?_, ?_⟩
      · skip
        exact v_1287 (OWS_en hw he)
      · skip
        intro x7 hx71 hx72 g10 rg10 qg10
        refine ⟨fun h12 => ?_, fun h12 => ?_⟩
        · skip
          refine ⟨fun h13 => ?_, fun h13 => ?_⟩
          · skip
            obtain ⟨Q1, N1⟩ : g10 = g ∧ x7 = tokI (toks g) (g 2 7).toNat := qg10
            rw [he.1] at N1
            obtain ⟨f', hf'⟩ : ∃ f', f = f' + 1 := ⟨f - 1, by omega⟩
            have hm2 := mkF_end (t := toks s0) (n := f') (i := (g 2 7).toNat) (m := g ((s0 2 8).toNat + 6) v12_1.toNat) (by omega) (by omega)
            show PO (mkF (toks s0) 3 0 (s0 2 7).toNat).1 1 g10 ∧ _
            rw [Q1, hq, hf', hm2]
            exact ⟨Or.inl ⟨rfl, rfl, htw⟩, fun _ => ⟨rfl, ho⟩⟩
          · skip
            intro b14 eb14 fb14
            intro x21 ex21 fx21 gx21
            intro x23 ex23 fx23 gx23
            refine ⟨fun h26 => ?_, fun h26 => ?_⟩
            · skip
              refine ⟨fun _ g' => (g' 2 0, g' 2 1) = ((1 : Int), if (1 : Int) = 1 ∧ g10 4 (g10 2 7).toNat = 1 then g10 5 (g10 2 7).toNat else g10 6 (g10 2 7).toNat), ?_, ?_⟩
              · skip
                exact v_1286
              · skip
                intro x32 hx321 hx322 g35 rg35 qg35
                obtain ⟨Q1, N1⟩ : g10 = g ∧ x7 = tokI (toks g) (g 2 7).toNat := qg10
                rw [he.1] at N1
                have kb : b14 = (s0 2 8).toNat := by
                  have w : g10 2 8 = s0 2 8 := by rw [Q1]; exact e28
                  omega
                have km : x21 = g ((s0 2 8).toNat + 6) v12_1.toNat := by rw [ex21, kb, Q1]
                have kz : ¬(x21 = 0 ∨ x21 = 1) := fun z => by
                  have := (zxand_2 (m := x21) (by omega) (by omega)).mpr z
                  omega
                obtain ⟨f', hf'⟩ : ∃ f', f = f' + 1 := ⟨f - 1, by omega⟩
                have hm2 := mkF_f11 (t := toks s0) (n := f') (i := (g 2 7).toNat) (m := g ((s0 2 8).toNat + 6) v12_1.toNat) (by omega) (by omega)
                have X2 : (g35 2 0, g35 2 1) = ((1 : Int), if (1 : Int) = 1 ∧ g10 4 (g10 2 7).toNat = 1 then g10 5 (g10 2 7).toNat else g10 6 (g10 2 7).toNat) := qg35
                rw [Q1] at X2
                have Y2 := flt_q X2
                rw [he.1] at Y2
                refine ⟨Or.inr ⟨by omega, ?_⟩, fun z => by omega⟩
                rw [hq, hf', hm2, Y2]
            · skip
              intro x41 ex41
              have oh42 : (0 ≤ x41 ∧ x41 ≤ 3) := by
                have kz := (zxand_2 (m := x21) (by omega) (by omega)).mp (by omega)
                have ko := zxor_2 kz
                omega
              refine ⟨oh42, ?_⟩
              intro g47 eg47
              refine ⟨fun g' => g' = stp g47, ?_, ?_⟩
              · skip
                exact v_1289
              · skip
                intro g53 rg53 qg53
                intro x55 ex55
                obtain ⟨Q1, N1⟩ : g10 = g ∧ x7 = tokI (toks g) (g 2 7).toNat := qg10
                rw [he.1] at N1
                have kb : b14 = (s0 2 8).toNat := by
                  have w : g10 2 8 = s0 2 8 := by rw [Q1]; exact e28
                  omega
                have km : x21 = g ((s0 2 8).toNat + 6) v12_1.toNat := by rw [ex21, kb, Q1]
                have kz := (zxand_2 (m := x21) (by omega) (by omega)).mp (by omega)
                have ko := zxor_2 kz
                have kx : x41 = x21 + 2 := by omega
                rw [kb] at eg47
                have h13 : 13 ≤ (s0 2 8).toNat + 6 := by omega
                have e2 : EN g g47 := by
                  rw [eg47, Q1]
                  exact EN_st (by omega)
                have p7 : g47 2 7 = g 2 7 := by
                  rw [eg47, zup_ne (Or.inl (by omega)), Q1]
                have tw2 : TW g47 := TW_en htw e2 p7
                have hk4 : g47 4 (g47 2 7).toNat = 2 := by
                  rw [p7, (en_tok e2).1]
                  exact tok_k he (i := (g 2 7).toNat) (by omega)
                obtain ⟨w, d, mm, ff⟩ := stp_ok tw2 (by omega) (by omega) (qg53 : g53 = stp g47)
                have z3 : g53 ((s0 2 8).toNat + 6) v12_1.toNat = x21 + 2 := by
                  rw [stp_na (qg53 : g53 = stp g47) (by omega), eg47, zup_eq, kx]
                obtain ⟨f', hf'⟩ : ∃ f', f = f' + 1 := ⟨f - 1, by omega⟩
                refine ⟨_, ?_, rfl, rfl, w, f', by omega, ?_, ?_, fun q hq2 => ?_⟩
                · omega
                · rw [z3, km]
                  omega
                · rw [hq, hf', mkF_11 (by omega) (by omega), z3, km, mm, p7]
                · rw [stp_na (qg53 : g53 = stp g47) (by omega), eg47, zup_ne (Or.inr hq2), Q1]
                  exact ho q hq2
        · skip
          intro b57 eb57 fb57
          intro x64 ex64 fx64 gx64
          intro x66 ex66 fx66 gx66
          refine ⟨fun h69 => ?_, fun h69 => ?_⟩
          · skip
            refine ⟨fun _ g' => (g' 2 0, g' 2 1) = ((1 : Int), if (1 : Int) = 1 ∧ g10 4 (g10 2 7).toNat = 1 then g10 5 (g10 2 7).toNat else g10 6 (g10 2 7).toNat), ?_, ?_⟩
            · skip
              exact v_1286
            · skip
              intro x75 hx751 hx752 g78 rg78 qg78
              obtain ⟨Q1, N1⟩ : g10 = g ∧ x7 = tokI (toks g) (g 2 7).toNat := qg10
              rw [he.1] at N1
              have kb : b57 = (s0 2 8).toNat := by
                have w : g10 2 8 = s0 2 8 := by rw [Q1]; exact e28
                omega
              have km : x64 = g ((s0 2 8).toNat + 6) v12_1.toNat := by rw [ex64, kb, Q1]
              have kz : ¬(x64 = 0 ∨ x64 = 2) := fun z => by
                have := (zxand_1 (m := x64) (by omega) (by omega)).mpr z
                omega
              obtain ⟨f', hf'⟩ : ∃ f', f = f' + 1 := ⟨f - 1, by omega⟩
              have hm2 := mkF_f10 (t := toks s0) (n := f') (i := (g 2 7).toNat) (m := g ((s0 2 8).toNat + 6) v12_1.toNat) (by omega) (by omega)
              have X2 : (g78 2 0, g78 2 1) = ((1 : Int), if (1 : Int) = 1 ∧ g10 4 (g10 2 7).toNat = 1 then g10 5 (g10 2 7).toNat else g10 6 (g10 2 7).toNat) := qg78
              rw [Q1] at X2
              have Y2 := flt_q X2
              rw [he.1] at Y2
              refine ⟨Or.inr ⟨by omega, ?_⟩, fun z => by omega⟩
              rw [hq, hf', hm2, Y2]
          · skip
            intro x84 ex84
            have oh85 : (0 ≤ x84 ∧ x84 ≤ 3) := by
              have kz := (zxand_1 (m := x64) (by omega) (by omega)).mp (by omega)
              have ko := zxor_1 kz
              omega
            refine ⟨oh85, ?_⟩
            intro g90 eg90
            refine ⟨fun g' => g' = stp g90, ?_, ?_⟩
            · skip
              exact v_1289
            · skip
              intro g96 rg96 qg96
              intro x98 ex98
              obtain ⟨Q1, N1⟩ : g10 = g ∧ x7 = tokI (toks g) (g 2 7).toNat := qg10
              rw [he.1] at N1
              have kb : b57 = (s0 2 8).toNat := by
                have w : g10 2 8 = s0 2 8 := by rw [Q1]; exact e28
                omega
              have km : x64 = g ((s0 2 8).toNat + 6) v12_1.toNat := by rw [ex64, kb, Q1]
              have kz := (zxand_1 (m := x64) (by omega) (by omega)).mp (by omega)
              have ko := zxor_1 kz
              have kx : x84 = x64 + 1 := by omega
              rw [kb] at eg90
              have h13 : 13 ≤ (s0 2 8).toNat + 6 := by omega
              have e2 : EN g g90 := by
                rw [eg90, Q1]
                exact EN_st (by omega)
              have p7 : g90 2 7 = g 2 7 := by
                rw [eg90, zup_ne (Or.inl (by omega)), Q1]
              have tw2 : TW g90 := TW_en htw e2 p7
              have hk4 : g90 4 (g90 2 7).toNat = 2 := by
                rw [p7, (en_tok e2).1]
                exact tok_k he (i := (g 2 7).toNat) (by omega)
              obtain ⟨w, d, mm, ff⟩ := stp_ok tw2 (by omega) (by omega) (qg96 : g96 = stp g90)
              have z3 : g96 ((s0 2 8).toNat + 6) v12_1.toNat = x64 + 1 := by
                rw [stp_na (qg96 : g96 = stp g90) (by omega), eg90, zup_eq, kx]
              obtain ⟨f', hf'⟩ : ∃ f', f = f' + 1 := ⟨f - 1, by omega⟩
              refine ⟨_, ?_, rfl, rfl, w, f', by omega, ?_, ?_, fun q hq2 => ?_⟩
              · omega
              · rw [z3, km]
                omega
              · rw [hq, hf', mkF_10 (by omega) (by omega), z3, km, mm, p7]
              · rw [stp_na (qg96 : g96 = stp g90) (by omega), eg90, zup_ne (Or.inr hq2), Q1]
                exact ho q hq2
set_option maxHeartbeats 4000000 in
theorem v_1288 {s0 : zF} (hw : OWS s0) (ht : TW s0) (hk : s0 4 (s0 2 7).toNat = 2) : b_1288 s0 (fun v g => ∃ b : Nat, (b : Int) = s0 2 8 ∧ (12 ≤ s0 b 1 ∧ v = 0 ∧ (g 2 0, g 2 1) = (5, s0 6 (s0 2 7).toNat) ∨ s0 b 1 < 12 ∧ PO (spBoy (toks s0) (tknB s0 b) (s0 2 7).toNat) v g ∧ (v = 1 → NEWN s0 g b 1 1 (s0 2 7).toNat))) := by
  unfold b_1288
  intro b1 eb1 fb1
  intro x5 ex5 fx5 gx5
  refine ⟨fun h9 => ?_, fun h9 => ?_⟩
  · skip
    refine ⟨fun g' => g' = stp s0, ?_, ?_⟩
    · skip
      exact v_1289
    · skip
      intro g15 rg15 qg15
      refine ⟨fun v g' => PO (nNa (toks g15) (tknB g15 (g15 2 8).toNat) (g15 2 7).toNat) v g' ∧ (v = 1 → g' 2 9 = g15 5 (g15 2 7).toNat), ?_, ?_⟩
      · skip
        have E0 : EN s0 s0 := EN_refl
        have W0 : TW s0 := ht
        have T1 : g15 = stp s0 := qg15
        obtain ⟨W1, D1, M1, F1⟩ := stp_ok W0 (by rw [hk]; decide) (by rw [hk]; decide) T1
        have E1 : EN s0 g15 := EN_trans E0 F1
        exact v_1290 (OWS_en hw E1) W1
      · skip
        intro x22 hx221 hx222 g25 rg25 qg25
        refine ⟨fun h27 => ?_, fun h27 => ?_⟩
        · skip
          intro x29 ex29
          intro g37 eg37
          refine ⟨fun v g' => PO (nOw (toks g37) 1 (g37 2 7).toNat) v g', ?_, ?_⟩
          · skip
            have E0 : EN s0 s0 := EN_refl
            have W0 : TW s0 := ht
            have T1 : g15 = stp s0 := qg15
            obtain ⟨W1, D1, M1, F1⟩ := stp_ok W0 (by rw [hk]; decide) (by rw [hk]; decide) T1
            have E1 : EN s0 g15 := EN_trans E0 F1
            have O2 : PO (nNa (toks g15) (tknB g15 (g15 2 8).toNat) (g15 2 7).toNat) x22 g25 := (qg25 : PO _ _ _ ∧ _).1
            rw [E1.1] at O2
            rw [M1] at O2
            rw [stp_28 T1, ← eb1, Int.toNat_natCast, tknB_stp T1 (by omega)] at O2
            have E2 : EN s0 g25 := EN_trans E1 (EN_fr rg25 (by decide) (by decide) (by decide))
            obtain ⟨H2, W2⟩ := PO_1 O2 (by omega)
            have E3 : EN s0 g37 := EN_trans E2 (by rw [eg37]; exact EN_st (by omega))
            have D3 : g37 2 7 = g25 2 7 := by rw [eg37, zup_ne (Or.inl (by omega))]
            have W3 : TW g37 := TW_fr W2 D3 (E3.2.2.trans E2.2.2.symm) ((en_tok E3).1.trans (en_tok E2).1.symm)
            exact v_1291 (OWS_en hw E3) W3 (by decide)
          · skip
            intro x43 hx431 hx432 g46 rg46 qg46
            refine ⟨fun h48 => ?_, fun h48 => ?_⟩
            · skip
              refine ⟨fun v g' => PO (nNu (toks g46) 1 99 (g46 2 7).toNat) v g' ∧ (v = 1 → g' 2 10 = g46 5 (g46 2 7).toNat), ?_, ?_⟩
              · skip
                have E0 : EN s0 s0 := EN_refl
                have W0 : TW s0 := ht
                have T1 : g15 = stp s0 := qg15
                obtain ⟨W1, D1, M1, F1⟩ := stp_ok W0 (by rw [hk]; decide) (by rw [hk]; decide) T1
                have E1 : EN s0 g15 := EN_trans E0 F1
                have O2 : PO (nNa (toks g15) (tknB g15 (g15 2 8).toNat) (g15 2 7).toNat) x22 g25 := (qg25 : PO _ _ _ ∧ _).1
                rw [E1.1] at O2
                rw [M1] at O2
                rw [stp_28 T1, ← eb1, Int.toNat_natCast, tknB_stp T1 (by omega)] at O2
                have E2 : EN s0 g25 := EN_trans E1 (EN_fr rg25 (by decide) (by decide) (by decide))
                obtain ⟨H2, W2⟩ := PO_1 O2 (by omega)
                have E3 : EN s0 g37 := EN_trans E2 (by rw [eg37]; exact EN_st (by omega))
                have D3 : g37 2 7 = g25 2 7 := by rw [eg37, zup_ne (Or.inl (by omega))]
                have W3 : TW g37 := TW_fr W2 D3 (E3.2.2.trans E2.2.2.symm) ((en_tok E3).1.trans (en_tok E2).1.symm)
                have O4 : PO (nOw (toks g37) 1 (g37 2 7).toNat) x43 g46 := qg46
                rw [E3.1] at O4
                rw [D3] at O4
                have E4 : EN s0 g46 := EN_trans E3 (EN_fr rg46 (by decide) (by decide) (by decide))
                obtain ⟨H4, W4⟩ := PO_1 O4 (by omega)
                exact v_1292 W4
              · skip
                intro x54 hx541 hx542 g57 rg57 qg57
                refine ⟨fun h59 => ?_, fun h59 => ?_⟩
                · skip
                  intro x61 ex61
                  intro g69 eg69
                  refine ⟨fun v g' => PO (nOw (toks g69) 2 (g69 2 7).toNat) v g', ?_, ?_⟩
                  · skip
                    have E0 : EN s0 s0 := EN_refl
                    have W0 : TW s0 := ht
                    have T1 : g15 = stp s0 := qg15
                    obtain ⟨W1, D1, M1, F1⟩ := stp_ok W0 (by rw [hk]; decide) (by rw [hk]; decide) T1
                    have E1 : EN s0 g15 := EN_trans E0 F1
                    have O2 : PO (nNa (toks g15) (tknB g15 (g15 2 8).toNat) (g15 2 7).toNat) x22 g25 := (qg25 : PO _ _ _ ∧ _).1
                    rw [E1.1] at O2
                    rw [M1] at O2
                    rw [stp_28 T1, ← eb1, Int.toNat_natCast, tknB_stp T1 (by omega)] at O2
                    have E2 : EN s0 g25 := EN_trans E1 (EN_fr rg25 (by decide) (by decide) (by decide))
                    obtain ⟨H2, W2⟩ := PO_1 O2 (by omega)
                    have E3 : EN s0 g37 := EN_trans E2 (by rw [eg37]; exact EN_st (by omega))
                    have D3 : g37 2 7 = g25 2 7 := by rw [eg37, zup_ne (Or.inl (by omega))]
                    have W3 : TW g37 := TW_fr W2 D3 (E3.2.2.trans E2.2.2.symm) ((en_tok E3).1.trans (en_tok E2).1.symm)
                    have O4 : PO (nOw (toks g37) 1 (g37 2 7).toNat) x43 g46 := qg46
                    rw [E3.1] at O4
                    rw [D3] at O4
                    have E4 : EN s0 g46 := EN_trans E3 (EN_fr rg46 (by decide) (by decide) (by decide))
                    obtain ⟨H4, W4⟩ := PO_1 O4 (by omega)
                    have O5 : PO (nNu (toks g46) 1 99 (g46 2 7).toNat) x54 g57 := (qg57 : PO _ _ _ ∧ _).1
                    rw [E4.1] at O5
                    have E5 : EN s0 g57 := EN_trans E4 (EN_fr rg57 (by decide) (by decide) (by decide))
                    obtain ⟨H5, W5⟩ := PO_1 O5 (by omega)
                    have E6 : EN s0 g69 := EN_trans E5 (by rw [eg69]; exact EN_st (by omega))
                    have D6 : g69 2 7 = g57 2 7 := by rw [eg69, zup_ne (Or.inl (by omega))]
                    have W6 : TW g69 := TW_fr W5 D6 (E6.2.2.trans E5.2.2.symm) ((en_tok E6).1.trans (en_tok E5).1.symm)
                    exact v_1291 (OWS_en hw E6) W6 (by decide)
                  · skip
                    intro x75 hx751 hx752 g78 rg78 qg78
                    refine ⟨fun h80 => ?_, fun h80 => ?_⟩
                    · skip
                      refine ⟨fun v g' => PO (nNu (toks g78) 1 999 (g78 2 7).toNat) v g' ∧ (v = 1 → g' 2 10 = g78 5 (g78 2 7).toNat), ?_, ?_⟩
                      · skip
                        have E0 : EN s0 s0 := EN_refl
                        have W0 : TW s0 := ht
                        have T1 : g15 = stp s0 := qg15
                        obtain ⟨W1, D1, M1, F1⟩ := stp_ok W0 (by rw [hk]; decide) (by rw [hk]; decide) T1
                        have E1 : EN s0 g15 := EN_trans E0 F1
                        have O2 : PO (nNa (toks g15) (tknB g15 (g15 2 8).toNat) (g15 2 7).toNat) x22 g25 := (qg25 : PO _ _ _ ∧ _).1
                        rw [E1.1] at O2
                        rw [M1] at O2
                        rw [stp_28 T1, ← eb1, Int.toNat_natCast, tknB_stp T1 (by omega)] at O2
                        have E2 : EN s0 g25 := EN_trans E1 (EN_fr rg25 (by decide) (by decide) (by decide))
                        obtain ⟨H2, W2⟩ := PO_1 O2 (by omega)
                        have E3 : EN s0 g37 := EN_trans E2 (by rw [eg37]; exact EN_st (by omega))
                        have D3 : g37 2 7 = g25 2 7 := by rw [eg37, zup_ne (Or.inl (by omega))]
                        have W3 : TW g37 := TW_fr W2 D3 (E3.2.2.trans E2.2.2.symm) ((en_tok E3).1.trans (en_tok E2).1.symm)
                        have O4 : PO (nOw (toks g37) 1 (g37 2 7).toNat) x43 g46 := qg46
                        rw [E3.1] at O4
                        rw [D3] at O4
                        have E4 : EN s0 g46 := EN_trans E3 (EN_fr rg46 (by decide) (by decide) (by decide))
                        obtain ⟨H4, W4⟩ := PO_1 O4 (by omega)
                        have O5 : PO (nNu (toks g46) 1 99 (g46 2 7).toNat) x54 g57 := (qg57 : PO _ _ _ ∧ _).1
                        rw [E4.1] at O5
                        have E5 : EN s0 g57 := EN_trans E4 (EN_fr rg57 (by decide) (by decide) (by decide))
                        obtain ⟨H5, W5⟩ := PO_1 O5 (by omega)
                        have E6 : EN s0 g69 := EN_trans E5 (by rw [eg69]; exact EN_st (by omega))
                        have D6 : g69 2 7 = g57 2 7 := by rw [eg69, zup_ne (Or.inl (by omega))]
                        have W6 : TW g69 := TW_fr W5 D6 (E6.2.2.trans E5.2.2.symm) ((en_tok E6).1.trans (en_tok E5).1.symm)
                        have O7 : PO (nOw (toks g69) 2 (g69 2 7).toNat) x75 g78 := qg78
                        rw [E6.1] at O7
                        rw [D6] at O7
                        have E7 : EN s0 g78 := EN_trans E6 (EN_fr rg78 (by decide) (by decide) (by decide))
                        obtain ⟨H7, W7⟩ := PO_1 O7 (by omega)
                        exact v_1292 W7
                      · skip
                        intro x86 hx861 hx862 g89 rg89 qg89
                        refine ⟨fun h91 => ?_, fun h91 => ?_⟩
                        · skip
                          intro x93 ex93
                          intro g101 eg101
                          refine ⟨fun v g' => PO (nOw (toks g101) 8 (g101 2 7).toNat) v g', ?_, ?_⟩
                          · skip
                            have E0 : EN s0 s0 := EN_refl
                            have W0 : TW s0 := ht
                            have T1 : g15 = stp s0 := qg15
                            obtain ⟨W1, D1, M1, F1⟩ := stp_ok W0 (by rw [hk]; decide) (by rw [hk]; decide) T1
                            have E1 : EN s0 g15 := EN_trans E0 F1
                            have O2 : PO (nNa (toks g15) (tknB g15 (g15 2 8).toNat) (g15 2 7).toNat) x22 g25 := (qg25 : PO _ _ _ ∧ _).1
                            rw [E1.1] at O2
                            rw [M1] at O2
                            rw [stp_28 T1, ← eb1, Int.toNat_natCast, tknB_stp T1 (by omega)] at O2
                            have E2 : EN s0 g25 := EN_trans E1 (EN_fr rg25 (by decide) (by decide) (by decide))
                            obtain ⟨H2, W2⟩ := PO_1 O2 (by omega)
                            have E3 : EN s0 g37 := EN_trans E2 (by rw [eg37]; exact EN_st (by omega))
                            have D3 : g37 2 7 = g25 2 7 := by rw [eg37, zup_ne (Or.inl (by omega))]
                            have W3 : TW g37 := TW_fr W2 D3 (E3.2.2.trans E2.2.2.symm) ((en_tok E3).1.trans (en_tok E2).1.symm)
                            have O4 : PO (nOw (toks g37) 1 (g37 2 7).toNat) x43 g46 := qg46
                            rw [E3.1] at O4
                            rw [D3] at O4
                            have E4 : EN s0 g46 := EN_trans E3 (EN_fr rg46 (by decide) (by decide) (by decide))
                            obtain ⟨H4, W4⟩ := PO_1 O4 (by omega)
                            have O5 : PO (nNu (toks g46) 1 99 (g46 2 7).toNat) x54 g57 := (qg57 : PO _ _ _ ∧ _).1
                            rw [E4.1] at O5
                            have E5 : EN s0 g57 := EN_trans E4 (EN_fr rg57 (by decide) (by decide) (by decide))
                            obtain ⟨H5, W5⟩ := PO_1 O5 (by omega)
                            have E6 : EN s0 g69 := EN_trans E5 (by rw [eg69]; exact EN_st (by omega))
                            have D6 : g69 2 7 = g57 2 7 := by rw [eg69, zup_ne (Or.inl (by omega))]
                            have W6 : TW g69 := TW_fr W5 D6 (E6.2.2.trans E5.2.2.symm) ((en_tok E6).1.trans (en_tok E5).1.symm)
                            have O7 : PO (nOw (toks g69) 2 (g69 2 7).toNat) x75 g78 := qg78
                            rw [E6.1] at O7
                            rw [D6] at O7
                            have E7 : EN s0 g78 := EN_trans E6 (EN_fr rg78 (by decide) (by decide) (by decide))
                            obtain ⟨H7, W7⟩ := PO_1 O7 (by omega)
                            have O8 : PO (nNu (toks g78) 1 999 (g78 2 7).toNat) x86 g89 := (qg89 : PO _ _ _ ∧ _).1
                            rw [E7.1] at O8
                            have E8 : EN s0 g89 := EN_trans E7 (EN_fr rg89 (by decide) (by decide) (by decide))
                            obtain ⟨H8, W8⟩ := PO_1 O8 (by omega)
                            have E9 : EN s0 g101 := EN_trans E8 (by rw [eg101]; exact EN_st (by omega))
                            have D9 : g101 2 7 = g89 2 7 := by rw [eg101, zup_ne (Or.inl (by omega))]
                            have W9 : TW g101 := TW_fr W8 D9 (E9.2.2.trans E8.2.2.symm) ((en_tok E9).1.trans (en_tok E8).1.symm)
                            exact v_1291 (OWS_en hw E9) W9 (by decide)
                          · skip
                            intro x107 hx1071 hx1072 g110 rg110 qg110
                            refine ⟨fun h112 => ?_, fun h112 => ?_⟩
                            · skip
                              refine ⟨fun v g' => PO (nNu (toks g110) 0 100 (g110 2 7).toNat) v g' ∧ (v = 1 → g' 2 10 = g110 5 (g110 2 7).toNat), ?_, ?_⟩
                              · skip
                                have E0 : EN s0 s0 := EN_refl
                                have W0 : TW s0 := ht
                                have T1 : g15 = stp s0 := qg15
                                obtain ⟨W1, D1, M1, F1⟩ := stp_ok W0 (by rw [hk]; decide) (by rw [hk]; decide) T1
                                have E1 : EN s0 g15 := EN_trans E0 F1
                                have O2 : PO (nNa (toks g15) (tknB g15 (g15 2 8).toNat) (g15 2 7).toNat) x22 g25 := (qg25 : PO _ _ _ ∧ _).1
                                rw [E1.1] at O2
                                rw [M1] at O2
                                rw [stp_28 T1, ← eb1, Int.toNat_natCast, tknB_stp T1 (by omega)] at O2
                                have E2 : EN s0 g25 := EN_trans E1 (EN_fr rg25 (by decide) (by decide) (by decide))
                                obtain ⟨H2, W2⟩ := PO_1 O2 (by omega)
                                have E3 : EN s0 g37 := EN_trans E2 (by rw [eg37]; exact EN_st (by omega))
                                have D3 : g37 2 7 = g25 2 7 := by rw [eg37, zup_ne (Or.inl (by omega))]
                                have W3 : TW g37 := TW_fr W2 D3 (E3.2.2.trans E2.2.2.symm) ((en_tok E3).1.trans (en_tok E2).1.symm)
                                have O4 : PO (nOw (toks g37) 1 (g37 2 7).toNat) x43 g46 := qg46
                                rw [E3.1] at O4
                                rw [D3] at O4
                                have E4 : EN s0 g46 := EN_trans E3 (EN_fr rg46 (by decide) (by decide) (by decide))
                                obtain ⟨H4, W4⟩ := PO_1 O4 (by omega)
                                have O5 : PO (nNu (toks g46) 1 99 (g46 2 7).toNat) x54 g57 := (qg57 : PO _ _ _ ∧ _).1
                                rw [E4.1] at O5
                                have E5 : EN s0 g57 := EN_trans E4 (EN_fr rg57 (by decide) (by decide) (by decide))
                                obtain ⟨H5, W5⟩ := PO_1 O5 (by omega)
                                have E6 : EN s0 g69 := EN_trans E5 (by rw [eg69]; exact EN_st (by omega))
                                have D6 : g69 2 7 = g57 2 7 := by rw [eg69, zup_ne (Or.inl (by omega))]
                                have W6 : TW g69 := TW_fr W5 D6 (E6.2.2.trans E5.2.2.symm) ((en_tok E6).1.trans (en_tok E5).1.symm)
                                have O7 : PO (nOw (toks g69) 2 (g69 2 7).toNat) x75 g78 := qg78
                                rw [E6.1] at O7
                                rw [D6] at O7
                                have E7 : EN s0 g78 := EN_trans E6 (EN_fr rg78 (by decide) (by decide) (by decide))
                                obtain ⟨H7, W7⟩ := PO_1 O7 (by omega)
                                have O8 : PO (nNu (toks g78) 1 999 (g78 2 7).toNat) x86 g89 := (qg89 : PO _ _ _ ∧ _).1
                                rw [E7.1] at O8
                                have E8 : EN s0 g89 := EN_trans E7 (EN_fr rg89 (by decide) (by decide) (by decide))
                                obtain ⟨H8, W8⟩ := PO_1 O8 (by omega)
                                have E9 : EN s0 g101 := EN_trans E8 (by rw [eg101]; exact EN_st (by omega))
                                have D9 : g101 2 7 = g89 2 7 := by rw [eg101, zup_ne (Or.inl (by omega))]
                                have W9 : TW g101 := TW_fr W8 D9 (E9.2.2.trans E8.2.2.symm) ((en_tok E9).1.trans (en_tok E8).1.symm)
                                have O10 : PO (nOw (toks g101) 8 (g101 2 7).toNat) x107 g110 := qg110
                                rw [E9.1] at O10
                                rw [D9] at O10
                                have E10 : EN s0 g110 := EN_trans E9 (EN_fr rg110 (by decide) (by decide) (by decide))
                                obtain ⟨H10, W10⟩ := PO_1 O10 (by omega)
                                exact v_1292 W10
                              · skip
                                intro x118 hx1181 hx1182 g121 rg121 qg121
                                refine ⟨fun h123 => ?_, fun h123 => ?_⟩
                                · skip
                                  intro x125 ex125
                                  intro g133 eg133
                                  refine ⟨fun v g' => PO (nOw (toks g133) 9 (g133 2 7).toNat) v g', ?_, ?_⟩
                                  · skip
                                    have E0 : EN s0 s0 := EN_refl
                                    have W0 : TW s0 := ht
                                    have T1 : g15 = stp s0 := qg15
                                    obtain ⟨W1, D1, M1, F1⟩ := stp_ok W0 (by rw [hk]; decide) (by rw [hk]; decide) T1
                                    have E1 : EN s0 g15 := EN_trans E0 F1
                                    have O2 : PO (nNa (toks g15) (tknB g15 (g15 2 8).toNat) (g15 2 7).toNat) x22 g25 := (qg25 : PO _ _ _ ∧ _).1
                                    rw [E1.1] at O2
                                    rw [M1] at O2
                                    rw [stp_28 T1, ← eb1, Int.toNat_natCast, tknB_stp T1 (by omega)] at O2
                                    have E2 : EN s0 g25 := EN_trans E1 (EN_fr rg25 (by decide) (by decide) (by decide))
                                    obtain ⟨H2, W2⟩ := PO_1 O2 (by omega)
                                    have E3 : EN s0 g37 := EN_trans E2 (by rw [eg37]; exact EN_st (by omega))
                                    have D3 : g37 2 7 = g25 2 7 := by rw [eg37, zup_ne (Or.inl (by omega))]
                                    have W3 : TW g37 := TW_fr W2 D3 (E3.2.2.trans E2.2.2.symm) ((en_tok E3).1.trans (en_tok E2).1.symm)
                                    have O4 : PO (nOw (toks g37) 1 (g37 2 7).toNat) x43 g46 := qg46
                                    rw [E3.1] at O4
                                    rw [D3] at O4
                                    have E4 : EN s0 g46 := EN_trans E3 (EN_fr rg46 (by decide) (by decide) (by decide))
                                    obtain ⟨H4, W4⟩ := PO_1 O4 (by omega)
                                    have O5 : PO (nNu (toks g46) 1 99 (g46 2 7).toNat) x54 g57 := (qg57 : PO _ _ _ ∧ _).1
                                    rw [E4.1] at O5
                                    have E5 : EN s0 g57 := EN_trans E4 (EN_fr rg57 (by decide) (by decide) (by decide))
                                    obtain ⟨H5, W5⟩ := PO_1 O5 (by omega)
                                    have E6 : EN s0 g69 := EN_trans E5 (by rw [eg69]; exact EN_st (by omega))
                                    have D6 : g69 2 7 = g57 2 7 := by rw [eg69, zup_ne (Or.inl (by omega))]
                                    have W6 : TW g69 := TW_fr W5 D6 (E6.2.2.trans E5.2.2.symm) ((en_tok E6).1.trans (en_tok E5).1.symm)
                                    have O7 : PO (nOw (toks g69) 2 (g69 2 7).toNat) x75 g78 := qg78
                                    rw [E6.1] at O7
                                    rw [D6] at O7
                                    have E7 : EN s0 g78 := EN_trans E6 (EN_fr rg78 (by decide) (by decide) (by decide))
                                    obtain ⟨H7, W7⟩ := PO_1 O7 (by omega)
                                    have O8 : PO (nNu (toks g78) 1 999 (g78 2 7).toNat) x86 g89 := (qg89 : PO _ _ _ ∧ _).1
                                    rw [E7.1] at O8
                                    have E8 : EN s0 g89 := EN_trans E7 (EN_fr rg89 (by decide) (by decide) (by decide))
                                    obtain ⟨H8, W8⟩ := PO_1 O8 (by omega)
                                    have E9 : EN s0 g101 := EN_trans E8 (by rw [eg101]; exact EN_st (by omega))
                                    have D9 : g101 2 7 = g89 2 7 := by rw [eg101, zup_ne (Or.inl (by omega))]
                                    have W9 : TW g101 := TW_fr W8 D9 (E9.2.2.trans E8.2.2.symm) ((en_tok E9).1.trans (en_tok E8).1.symm)
                                    have O10 : PO (nOw (toks g101) 8 (g101 2 7).toNat) x107 g110 := qg110
                                    rw [E9.1] at O10
                                    rw [D9] at O10
                                    have E10 : EN s0 g110 := EN_trans E9 (EN_fr rg110 (by decide) (by decide) (by decide))
                                    obtain ⟨H10, W10⟩ := PO_1 O10 (by omega)
                                    have O11 : PO (nNu (toks g110) 0 100 (g110 2 7).toNat) x118 g121 := (qg121 : PO _ _ _ ∧ _).1
                                    rw [E10.1] at O11
                                    have E11 : EN s0 g121 := EN_trans E10 (EN_fr rg121 (by decide) (by decide) (by decide))
                                    obtain ⟨H11, W11⟩ := PO_1 O11 (by omega)
                                    have E12 : EN s0 g133 := EN_trans E11 (by rw [eg133]; exact EN_st (by omega))
                                    have D12 : g133 2 7 = g121 2 7 := by rw [eg133, zup_ne (Or.inl (by omega))]
                                    have W12 : TW g133 := TW_fr W11 D12 (E12.2.2.trans E11.2.2.symm) ((en_tok E12).1.trans (en_tok E11).1.symm)
                                    exact v_1291 (OWS_en hw E12) W12 (by decide)
                                  · skip
                                    intro x139 hx1391 hx1392 g142 rg142 qg142
                                    refine ⟨fun h144 => ?_, fun h144 => ?_⟩
                                    · skip
                                      refine ⟨fun v g' => PO (nNu (toks g142) 0 99 (g142 2 7).toNat) v g' ∧ (v = 1 → g' 2 10 = g142 5 (g142 2 7).toNat), ?_, ?_⟩
                                      · skip
                                        have E0 : EN s0 s0 := EN_refl
                                        have W0 : TW s0 := ht
                                        have T1 : g15 = stp s0 := qg15
                                        obtain ⟨W1, D1, M1, F1⟩ := stp_ok W0 (by rw [hk]; decide) (by rw [hk]; decide) T1
                                        have E1 : EN s0 g15 := EN_trans E0 F1
                                        have O2 : PO (nNa (toks g15) (tknB g15 (g15 2 8).toNat) (g15 2 7).toNat) x22 g25 := (qg25 : PO _ _ _ ∧ _).1
                                        rw [E1.1] at O2
                                        rw [M1] at O2
                                        rw [stp_28 T1, ← eb1, Int.toNat_natCast, tknB_stp T1 (by omega)] at O2
                                        have E2 : EN s0 g25 := EN_trans E1 (EN_fr rg25 (by decide) (by decide) (by decide))
                                        obtain ⟨H2, W2⟩ := PO_1 O2 (by omega)
                                        have E3 : EN s0 g37 := EN_trans E2 (by rw [eg37]; exact EN_st (by omega))
                                        have D3 : g37 2 7 = g25 2 7 := by rw [eg37, zup_ne (Or.inl (by omega))]
                                        have W3 : TW g37 := TW_fr W2 D3 (E3.2.2.trans E2.2.2.symm) ((en_tok E3).1.trans (en_tok E2).1.symm)
                                        have O4 : PO (nOw (toks g37) 1 (g37 2 7).toNat) x43 g46 := qg46
                                        rw [E3.1] at O4
                                        rw [D3] at O4
                                        have E4 : EN s0 g46 := EN_trans E3 (EN_fr rg46 (by decide) (by decide) (by decide))
                                        obtain ⟨H4, W4⟩ := PO_1 O4 (by omega)
                                        have O5 : PO (nNu (toks g46) 1 99 (g46 2 7).toNat) x54 g57 := (qg57 : PO _ _ _ ∧ _).1
                                        rw [E4.1] at O5
                                        have E5 : EN s0 g57 := EN_trans E4 (EN_fr rg57 (by decide) (by decide) (by decide))
                                        obtain ⟨H5, W5⟩ := PO_1 O5 (by omega)
                                        have E6 : EN s0 g69 := EN_trans E5 (by rw [eg69]; exact EN_st (by omega))
                                        have D6 : g69 2 7 = g57 2 7 := by rw [eg69, zup_ne (Or.inl (by omega))]
                                        have W6 : TW g69 := TW_fr W5 D6 (E6.2.2.trans E5.2.2.symm) ((en_tok E6).1.trans (en_tok E5).1.symm)
                                        have O7 : PO (nOw (toks g69) 2 (g69 2 7).toNat) x75 g78 := qg78
                                        rw [E6.1] at O7
                                        rw [D6] at O7
                                        have E7 : EN s0 g78 := EN_trans E6 (EN_fr rg78 (by decide) (by decide) (by decide))
                                        obtain ⟨H7, W7⟩ := PO_1 O7 (by omega)
                                        have O8 : PO (nNu (toks g78) 1 999 (g78 2 7).toNat) x86 g89 := (qg89 : PO _ _ _ ∧ _).1
                                        rw [E7.1] at O8
                                        have E8 : EN s0 g89 := EN_trans E7 (EN_fr rg89 (by decide) (by decide) (by decide))
                                        obtain ⟨H8, W8⟩ := PO_1 O8 (by omega)
                                        have E9 : EN s0 g101 := EN_trans E8 (by rw [eg101]; exact EN_st (by omega))
                                        have D9 : g101 2 7 = g89 2 7 := by rw [eg101, zup_ne (Or.inl (by omega))]
                                        have W9 : TW g101 := TW_fr W8 D9 (E9.2.2.trans E8.2.2.symm) ((en_tok E9).1.trans (en_tok E8).1.symm)
                                        have O10 : PO (nOw (toks g101) 8 (g101 2 7).toNat) x107 g110 := qg110
                                        rw [E9.1] at O10
                                        rw [D9] at O10
                                        have E10 : EN s0 g110 := EN_trans E9 (EN_fr rg110 (by decide) (by decide) (by decide))
                                        obtain ⟨H10, W10⟩ := PO_1 O10 (by omega)
                                        have O11 : PO (nNu (toks g110) 0 100 (g110 2 7).toNat) x118 g121 := (qg121 : PO _ _ _ ∧ _).1
                                        rw [E10.1] at O11
                                        have E11 : EN s0 g121 := EN_trans E10 (EN_fr rg121 (by decide) (by decide) (by decide))
                                        obtain ⟨H11, W11⟩ := PO_1 O11 (by omega)
                                        have E12 : EN s0 g133 := EN_trans E11 (by rw [eg133]; exact EN_st (by omega))
                                        have D12 : g133 2 7 = g121 2 7 := by rw [eg133, zup_ne (Or.inl (by omega))]
                                        have W12 : TW g133 := TW_fr W11 D12 (E12.2.2.trans E11.2.2.symm) ((en_tok E12).1.trans (en_tok E11).1.symm)
                                        have O13 : PO (nOw (toks g133) 9 (g133 2 7).toNat) x139 g142 := qg142
                                        rw [E12.1] at O13
                                        rw [D12] at O13
                                        have E13 : EN s0 g142 := EN_trans E12 (EN_fr rg142 (by decide) (by decide) (by decide))
                                        obtain ⟨H13, W13⟩ := PO_1 O13 (by omega)
                                        exact v_1292 W13
                                      · skip
                                        intro x150 hx1501 hx1502 g153 rg153 qg153
                                        refine ⟨fun h155 => ?_, fun h155 => ?_⟩
                                        · skip
                                          intro x157 ex157
                                          intro g165 eg165
                                          intro x168 ex168
                                          intro g174 eg174
                                          refine ⟨fun v g' => PO (mkF (toks g174) 3 0 (g174 2 7).toNat).1 v g' ∧ (v = 1 → g' ((g174 2 8).toNat + 6) (x5 : Int).toNat = (mkF (toks g174) 3 0 (g174 2 7).toNat).2 ∧ ∀ k, k ≠ (x5 : Int).toNat → g' ((g174 2 8).toNat + 6) k = g174 ((g174 2 8).toNat + 6) k), ?_, ?_⟩
                                          · skip
                                            have E0 : EN s0 s0 := EN_refl
                                            have W0 : TW s0 := ht
                                            have T1 : g15 = stp s0 := qg15
                                            obtain ⟨W1, D1, M1, F1⟩ := stp_ok W0 (by rw [hk]; decide) (by rw [hk]; decide) T1
                                            have E1 : EN s0 g15 := EN_trans E0 F1
                                            have O2 : PO (nNa (toks g15) (tknB g15 (g15 2 8).toNat) (g15 2 7).toNat) x22 g25 := (qg25 : PO _ _ _ ∧ _).1
                                            rw [E1.1] at O2
                                            rw [M1] at O2
                                            rw [stp_28 T1, ← eb1, Int.toNat_natCast, tknB_stp T1 (by omega)] at O2
                                            have E2 : EN s0 g25 := EN_trans E1 (EN_fr rg25 (by decide) (by decide) (by decide))
                                            obtain ⟨H2, W2⟩ := PO_1 O2 (by omega)
                                            have E3 : EN s0 g37 := EN_trans E2 (by rw [eg37]; exact EN_st (by omega))
                                            have D3 : g37 2 7 = g25 2 7 := by rw [eg37, zup_ne (Or.inl (by omega))]
                                            have W3 : TW g37 := TW_fr W2 D3 (E3.2.2.trans E2.2.2.symm) ((en_tok E3).1.trans (en_tok E2).1.symm)
                                            have O4 : PO (nOw (toks g37) 1 (g37 2 7).toNat) x43 g46 := qg46
                                            rw [E3.1] at O4
                                            rw [D3] at O4
                                            have E4 : EN s0 g46 := EN_trans E3 (EN_fr rg46 (by decide) (by decide) (by decide))
                                            obtain ⟨H4, W4⟩ := PO_1 O4 (by omega)
                                            have O5 : PO (nNu (toks g46) 1 99 (g46 2 7).toNat) x54 g57 := (qg57 : PO _ _ _ ∧ _).1
                                            rw [E4.1] at O5
                                            have E5 : EN s0 g57 := EN_trans E4 (EN_fr rg57 (by decide) (by decide) (by decide))
                                            obtain ⟨H5, W5⟩ := PO_1 O5 (by omega)
                                            have E6 : EN s0 g69 := EN_trans E5 (by rw [eg69]; exact EN_st (by omega))
                                            have D6 : g69 2 7 = g57 2 7 := by rw [eg69, zup_ne (Or.inl (by omega))]
                                            have W6 : TW g69 := TW_fr W5 D6 (E6.2.2.trans E5.2.2.symm) ((en_tok E6).1.trans (en_tok E5).1.symm)
                                            have O7 : PO (nOw (toks g69) 2 (g69 2 7).toNat) x75 g78 := qg78
                                            rw [E6.1] at O7
                                            rw [D6] at O7
                                            have E7 : EN s0 g78 := EN_trans E6 (EN_fr rg78 (by decide) (by decide) (by decide))
                                            obtain ⟨H7, W7⟩ := PO_1 O7 (by omega)
                                            have O8 : PO (nNu (toks g78) 1 999 (g78 2 7).toNat) x86 g89 := (qg89 : PO _ _ _ ∧ _).1
                                            rw [E7.1] at O8
                                            have E8 : EN s0 g89 := EN_trans E7 (EN_fr rg89 (by decide) (by decide) (by decide))
                                            obtain ⟨H8, W8⟩ := PO_1 O8 (by omega)
                                            have E9 : EN s0 g101 := EN_trans E8 (by rw [eg101]; exact EN_st (by omega))
                                            have D9 : g101 2 7 = g89 2 7 := by rw [eg101, zup_ne (Or.inl (by omega))]
                                            have W9 : TW g101 := TW_fr W8 D9 (E9.2.2.trans E8.2.2.symm) ((en_tok E9).1.trans (en_tok E8).1.symm)
                                            have O10 : PO (nOw (toks g101) 8 (g101 2 7).toNat) x107 g110 := qg110
                                            rw [E9.1] at O10
                                            rw [D9] at O10
                                            have E10 : EN s0 g110 := EN_trans E9 (EN_fr rg110 (by decide) (by decide) (by decide))
                                            obtain ⟨H10, W10⟩ := PO_1 O10 (by omega)
                                            have O11 : PO (nNu (toks g110) 0 100 (g110 2 7).toNat) x118 g121 := (qg121 : PO _ _ _ ∧ _).1
                                            rw [E10.1] at O11
                                            have E11 : EN s0 g121 := EN_trans E10 (EN_fr rg121 (by decide) (by decide) (by decide))
                                            obtain ⟨H11, W11⟩ := PO_1 O11 (by omega)
                                            have E12 : EN s0 g133 := EN_trans E11 (by rw [eg133]; exact EN_st (by omega))
                                            have D12 : g133 2 7 = g121 2 7 := by rw [eg133, zup_ne (Or.inl (by omega))]
                                            have W12 : TW g133 := TW_fr W11 D12 (E12.2.2.trans E11.2.2.symm) ((en_tok E12).1.trans (en_tok E11).1.symm)
                                            have O13 : PO (nOw (toks g133) 9 (g133 2 7).toNat) x139 g142 := qg142
                                            rw [E12.1] at O13
                                            rw [D12] at O13
                                            have E13 : EN s0 g142 := EN_trans E12 (EN_fr rg142 (by decide) (by decide) (by decide))
                                            obtain ⟨H13, W13⟩ := PO_1 O13 (by omega)
                                            have O14 : PO (nNu (toks g142) 0 99 (g142 2 7).toNat) x150 g153 := (qg153 : PO _ _ _ ∧ _).1
                                            rw [E13.1] at O14
                                            have E14 : EN s0 g153 := EN_trans E13 (EN_fr rg153 (by decide) (by decide) (by decide))
                                            obtain ⟨H14, W14⟩ := PO_1 O14 (by omega)
                                            have E15 : EN s0 g165 := EN_trans E14 (by rw [eg165]; exact EN_st (by omega))
                                            have D15 : g165 2 7 = g153 2 7 := by rw [eg165, zup_ne (Or.inl (by omega))]
                                            have W15 : TW g165 := TW_fr W14 D15 (E15.2.2.trans E14.2.2.symm) ((en_tok E15).1.trans (en_tok E14).1.symm)
                                            have E16 : EN s0 g174 := EN_trans E15 (by rw [eg174]; exact EN_st (by omega))
                                            have D16 : g174 2 7 = g165 2 7 := by rw [eg174, zup_ne (Or.inl (by omega))]
                                            have W16 : TW g174 := TW_fr W15 D16 (E16.2.2.trans E15.2.2.symm) ((en_tok E16).1.trans (en_tok E15).1.symm)
                                            exact v_1293 (OWS_en hw E16) W16
                                          · skip
                                            intro x180 hx1801 hx1802 g183 rg183 qg183
                                            have E0 : EN s0 s0 := EN_refl
                                            have W0 : TW s0 := ht
                                            have T1 : g15 = stp s0 := qg15
                                            obtain ⟨W1, D1, M1, F1⟩ := stp_ok W0 (by rw [hk]; decide) (by rw [hk]; decide) T1
                                            have E1 : EN s0 g15 := EN_trans E0 F1
                                            have O2 : PO (nNa (toks g15) (tknB g15 (g15 2 8).toNat) (g15 2 7).toNat) x22 g25 := (qg25 : PO _ _ _ ∧ _).1
                                            rw [E1.1] at O2
                                            rw [M1] at O2
                                            rw [stp_28 T1, ← eb1, Int.toNat_natCast, tknB_stp T1 (by omega)] at O2
                                            have E2 : EN s0 g25 := EN_trans E1 (EN_fr rg25 (by decide) (by decide) (by decide))
                                            obtain ⟨H2, W2⟩ := PO_1 O2 (by omega)
                                            have E3 : EN s0 g37 := EN_trans E2 (by rw [eg37]; exact EN_st (by omega))
                                            have D3 : g37 2 7 = g25 2 7 := by rw [eg37, zup_ne (Or.inl (by omega))]
                                            have W3 : TW g37 := TW_fr W2 D3 (E3.2.2.trans E2.2.2.symm) ((en_tok E3).1.trans (en_tok E2).1.symm)
                                            have O4 : PO (nOw (toks g37) 1 (g37 2 7).toNat) x43 g46 := qg46
                                            rw [E3.1] at O4
                                            rw [D3] at O4
                                            have E4 : EN s0 g46 := EN_trans E3 (EN_fr rg46 (by decide) (by decide) (by decide))
                                            obtain ⟨H4, W4⟩ := PO_1 O4 (by omega)
                                            have O5 : PO (nNu (toks g46) 1 99 (g46 2 7).toNat) x54 g57 := (qg57 : PO _ _ _ ∧ _).1
                                            rw [E4.1] at O5
                                            have E5 : EN s0 g57 := EN_trans E4 (EN_fr rg57 (by decide) (by decide) (by decide))
                                            obtain ⟨H5, W5⟩ := PO_1 O5 (by omega)
                                            have E6 : EN s0 g69 := EN_trans E5 (by rw [eg69]; exact EN_st (by omega))
                                            have D6 : g69 2 7 = g57 2 7 := by rw [eg69, zup_ne (Or.inl (by omega))]
                                            have W6 : TW g69 := TW_fr W5 D6 (E6.2.2.trans E5.2.2.symm) ((en_tok E6).1.trans (en_tok E5).1.symm)
                                            have O7 : PO (nOw (toks g69) 2 (g69 2 7).toNat) x75 g78 := qg78
                                            rw [E6.1] at O7
                                            rw [D6] at O7
                                            have E7 : EN s0 g78 := EN_trans E6 (EN_fr rg78 (by decide) (by decide) (by decide))
                                            obtain ⟨H7, W7⟩ := PO_1 O7 (by omega)
                                            have O8 : PO (nNu (toks g78) 1 999 (g78 2 7).toNat) x86 g89 := (qg89 : PO _ _ _ ∧ _).1
                                            rw [E7.1] at O8
                                            have E8 : EN s0 g89 := EN_trans E7 (EN_fr rg89 (by decide) (by decide) (by decide))
                                            obtain ⟨H8, W8⟩ := PO_1 O8 (by omega)
                                            have E9 : EN s0 g101 := EN_trans E8 (by rw [eg101]; exact EN_st (by omega))
                                            have D9 : g101 2 7 = g89 2 7 := by rw [eg101, zup_ne (Or.inl (by omega))]
                                            have W9 : TW g101 := TW_fr W8 D9 (E9.2.2.trans E8.2.2.symm) ((en_tok E9).1.trans (en_tok E8).1.symm)
                                            have O10 : PO (nOw (toks g101) 8 (g101 2 7).toNat) x107 g110 := qg110
                                            rw [E9.1] at O10
                                            rw [D9] at O10
                                            have E10 : EN s0 g110 := EN_trans E9 (EN_fr rg110 (by decide) (by decide) (by decide))
                                            obtain ⟨H10, W10⟩ := PO_1 O10 (by omega)
                                            have O11 : PO (nNu (toks g110) 0 100 (g110 2 7).toNat) x118 g121 := (qg121 : PO _ _ _ ∧ _).1
                                            rw [E10.1] at O11
                                            have E11 : EN s0 g121 := EN_trans E10 (EN_fr rg121 (by decide) (by decide) (by decide))
                                            obtain ⟨H11, W11⟩ := PO_1 O11 (by omega)
                                            have E12 : EN s0 g133 := EN_trans E11 (by rw [eg133]; exact EN_st (by omega))
                                            have D12 : g133 2 7 = g121 2 7 := by rw [eg133, zup_ne (Or.inl (by omega))]
                                            have W12 : TW g133 := TW_fr W11 D12 (E12.2.2.trans E11.2.2.symm) ((en_tok E12).1.trans (en_tok E11).1.symm)
                                            have O13 : PO (nOw (toks g133) 9 (g133 2 7).toNat) x139 g142 := qg142
                                            rw [E12.1] at O13
                                            rw [D12] at O13
                                            have E13 : EN s0 g142 := EN_trans E12 (EN_fr rg142 (by decide) (by decide) (by decide))
                                            obtain ⟨H13, W13⟩ := PO_1 O13 (by omega)
                                            have O14 : PO (nNu (toks g142) 0 99 (g142 2 7).toNat) x150 g153 := (qg153 : PO _ _ _ ∧ _).1
                                            rw [E13.1] at O14
                                            have E14 : EN s0 g153 := EN_trans E13 (EN_fr rg153 (by decide) (by decide) (by decide))
                                            obtain ⟨H14, W14⟩ := PO_1 O14 (by omega)
                                            have E15 : EN s0 g165 := EN_trans E14 (by rw [eg165]; exact EN_st (by omega))
                                            have D15 : g165 2 7 = g153 2 7 := by rw [eg165, zup_ne (Or.inl (by omega))]
                                            have W15 : TW g165 := TW_fr W14 D15 (E15.2.2.trans E14.2.2.symm) ((en_tok E15).1.trans (en_tok E14).1.symm)
                                            have E16 : EN s0 g174 := EN_trans E15 (by rw [eg174]; exact EN_st (by omega))
                                            have D16 : g174 2 7 = g165 2 7 := by rw [eg174, zup_ne (Or.inl (by omega))]
                                            have W16 : TW g174 := TW_fr W15 D16 (E16.2.2.trans E15.2.2.symm) ((en_tok E16).1.trans (en_tok E15).1.symm)
                                            have O17 : PO ((mkF (toks g174) 3 0 (g174 2 7).toNat).1) x180 g183 := (qg183 : PO _ _ _ ∧ _).1
                                            rw [E16.1] at O17
                                            rw [D16, D15] at O17
                                            have E17 : EN s0 g183 := EN_trans E16 (EN_fr rg183 (by decide) (by decide) (by decide))
                                            have L1 : g15 (b1 + 1) = s0 (b1 + 1) := stp_na T1 (by omega)
                                            have N1 : g15 b1 1 = s0 b1 1 := congrFun (stp_na T1 (by omega)) 1
                                            have L2 : g25 (b1 + 1) = g15 (b1 + 1) := by
                                              rcases fb1 with z | z <;> (subst z; exact rg25.a (by decide))
                                            have N2 : g25 b1 1 = g15 b1 1 := by
                                              rcases fb1 with z | z <;> (subst z; exact rg25.s (by decide))
                                            have L3 : ∀ k, k ≠ x5.toNat → g37 (b1 + 1) k = g25 (b1 + 1) k := fun k hk2 => by rw [eg37, zup_ne (Or.inr hk2)]
                                            have V3 : g37 (b1 + 1) x5.toNat = x29 := by rw [eg37, zup_eq]
                                            have N3 : g37 b1 1 = g25 b1 1 := by rw [eg37, zup_ne (Or.inl (by omega))]
                                            have L4 : g46 (b1 + 1) = g37 (b1 + 1) := by
                                              rcases fb1 with z | z <;> (subst z; exact rg46.a (by decide))
                                            have N4 : g46 b1 1 = g37 b1 1 := by
                                              rcases fb1 with z | z <;> (subst z; exact rg46.s (by decide))
                                            have L5 : g57 (b1 + 1) = g46 (b1 + 1) := by
                                              rcases fb1 with z | z <;> (subst z; exact rg57.a (by decide))
                                            have N5 : g57 b1 1 = g46 b1 1 := by
                                              rcases fb1 with z | z <;> (subst z; exact rg57.s (by decide))
                                            have L6 : g69 (b1 + 1) = g57 (b1 + 1) := by rw [eg69, zup_na (by omega)]
                                            have N6 : g69 b1 1 = g57 b1 1 := by rw [eg69, zup_ne (Or.inl (by omega))]
                                            have L7 : g78 (b1 + 1) = g69 (b1 + 1) := by
                                              rcases fb1 with z | z <;> (subst z; exact rg78.a (by decide))
                                            have N7 : g78 b1 1 = g69 b1 1 := by
                                              rcases fb1 with z | z <;> (subst z; exact rg78.s (by decide))
                                            have L8 : g89 (b1 + 1) = g78 (b1 + 1) := by
                                              rcases fb1 with z | z <;> (subst z; exact rg89.a (by decide))
                                            have N8 : g89 b1 1 = g78 b1 1 := by
                                              rcases fb1 with z | z <;> (subst z; exact rg89.s (by decide))
                                            have L9 : g101 (b1 + 1) = g89 (b1 + 1) := by rw [eg101, zup_na (by omega)]
                                            have N9 : g101 b1 1 = g89 b1 1 := by rw [eg101, zup_ne (Or.inl (by omega))]
                                            have L10 : g110 (b1 + 1) = g101 (b1 + 1) := by
                                              rcases fb1 with z | z <;> (subst z; exact rg110.a (by decide))
                                            have N10 : g110 b1 1 = g101 b1 1 := by
                                              rcases fb1 with z | z <;> (subst z; exact rg110.s (by decide))
                                            have L11 : g121 (b1 + 1) = g110 (b1 + 1) := by
                                              rcases fb1 with z | z <;> (subst z; exact rg121.a (by decide))
                                            have N11 : g121 b1 1 = g110 b1 1 := by
                                              rcases fb1 with z | z <;> (subst z; exact rg121.s (by decide))
                                            have L12 : g133 (b1 + 1) = g121 (b1 + 1) := by rw [eg133, zup_na (by omega)]
                                            have N12 : g133 b1 1 = g121 b1 1 := by rw [eg133, zup_ne (Or.inl (by omega))]
                                            have L13 : g142 (b1 + 1) = g133 (b1 + 1) := by
                                              rcases fb1 with z | z <;> (subst z; exact rg142.a (by decide))
                                            have N13 : g142 b1 1 = g133 b1 1 := by
                                              rcases fb1 with z | z <;> (subst z; exact rg142.s (by decide))
                                            have L14 : g153 (b1 + 1) = g142 (b1 + 1) := by
                                              rcases fb1 with z | z <;> (subst z; exact rg153.a (by decide))
                                            have N14 : g153 b1 1 = g142 b1 1 := by
                                              rcases fb1 with z | z <;> (subst z; exact rg153.s (by decide))
                                            have L15 : g165 (b1 + 1) = g153 (b1 + 1) := by rw [eg165, zup_na (by omega)]
                                            have N15 : g165 b1 1 = g153 b1 1 := by rw [eg165, zup_ne (Or.inl (by omega))]
                                            have L16 : g174 (b1 + 1) = g165 (b1 + 1) := by rw [eg174, zup_na (by omega)]
                                            have N16 : g174 b1 1 = x168 := by rw [eg174, zup_eq]
                                            have L17 : g183 (b1 + 1) = g174 (b1 + 1) := by
                                              rcases fb1 with z | z <;> (subst z; exact rg183.a (by decide))
                                            have N17 : g183 b1 1 = g174 b1 1 := by
                                              rcases fb1 with z | z <;> (subst z; exact rg183.s (by decide))
                                            have hnm : x29 = s0 5 ((s0 2 7).toNat + 1) := by
                                              have w := (qg25 : _ ∧ _).2 (by omega)
                                              rw [M1, (en_tok E1).2.1] at w
                                              rw [ex29]
                                              exact w
                                            have new : NEWN s0 g183 b1 1 1 (s0 2 7).toNat := by
                                              refine ⟨?_, ?_, fun k hk2 => ?_⟩
                                              · rw [N17, N16]
                                                omega
                                              · rw [← ex5, L17, L16, L15, L14, L13, L12, L11, L10, L9, L8, L7, L6, L5, L4]
                                                exact V3.trans hnm
                                              · rw [← ex5] at hk2
                                                rw [L17, L16, L15, L14, L13, L12, L11, L10, L9, L8, L7, L6, L5, L4, L3 k hk2, L2, L1]
                                            have key : spBoy (toks s0) (tknB s0 b1) (s0 2 7).toNat = (mkF (toks s0) 3 0 (g153 2 7).toNat).1 := by
                                              unfold spBoy
                                              rw [H2, zbd_l, H4, zbd_l, H5, zbd_l, H7, zbd_l, H8, zbd_l, H10, zbd_l, H11, zbd_l, H13, zbd_l, H14, zbd_l]
                                            refine ⟨b1, eb1, Or.inr ⟨by omega, ?_, fun _ => new⟩⟩
                                            rw [key]
                                            exact O17
                                        · skip
                                          have E0 : EN s0 s0 := EN_refl
                                          have W0 : TW s0 := ht
                                          have T1 : g15 = stp s0 := qg15
                                          obtain ⟨W1, D1, M1, F1⟩ := stp_ok W0 (by rw [hk]; decide) (by rw [hk]; decide) T1
                                          have E1 : EN s0 g15 := EN_trans E0 F1
                                          have O2 : PO (nNa (toks g15) (tknB g15 (g15 2 8).toNat) (g15 2 7).toNat) x22 g25 := (qg25 : PO _ _ _ ∧ _).1
                                          rw [E1.1] at O2
                                          rw [M1] at O2
                                          rw [stp_28 T1, ← eb1, Int.toNat_natCast, tknB_stp T1 (by omega)] at O2
                                          have E2 : EN s0 g25 := EN_trans E1 (EN_fr rg25 (by decide) (by decide) (by decide))
                                          obtain ⟨H2, W2⟩ := PO_1 O2 (by omega)
                                          have E3 : EN s0 g37 := EN_trans E2 (by rw [eg37]; exact EN_st (by omega))
                                          have D3 : g37 2 7 = g25 2 7 := by rw [eg37, zup_ne (Or.inl (by omega))]
                                          have W3 : TW g37 := TW_fr W2 D3 (E3.2.2.trans E2.2.2.symm) ((en_tok E3).1.trans (en_tok E2).1.symm)
                                          have O4 : PO (nOw (toks g37) 1 (g37 2 7).toNat) x43 g46 := qg46
                                          rw [E3.1] at O4
                                          rw [D3] at O4
                                          have E4 : EN s0 g46 := EN_trans E3 (EN_fr rg46 (by decide) (by decide) (by decide))
                                          obtain ⟨H4, W4⟩ := PO_1 O4 (by omega)
                                          have O5 : PO (nNu (toks g46) 1 99 (g46 2 7).toNat) x54 g57 := (qg57 : PO _ _ _ ∧ _).1
                                          rw [E4.1] at O5
                                          have E5 : EN s0 g57 := EN_trans E4 (EN_fr rg57 (by decide) (by decide) (by decide))
                                          obtain ⟨H5, W5⟩ := PO_1 O5 (by omega)
                                          have E6 : EN s0 g69 := EN_trans E5 (by rw [eg69]; exact EN_st (by omega))
                                          have D6 : g69 2 7 = g57 2 7 := by rw [eg69, zup_ne (Or.inl (by omega))]
                                          have W6 : TW g69 := TW_fr W5 D6 (E6.2.2.trans E5.2.2.symm) ((en_tok E6).1.trans (en_tok E5).1.symm)
                                          have O7 : PO (nOw (toks g69) 2 (g69 2 7).toNat) x75 g78 := qg78
                                          rw [E6.1] at O7
                                          rw [D6] at O7
                                          have E7 : EN s0 g78 := EN_trans E6 (EN_fr rg78 (by decide) (by decide) (by decide))
                                          obtain ⟨H7, W7⟩ := PO_1 O7 (by omega)
                                          have O8 : PO (nNu (toks g78) 1 999 (g78 2 7).toNat) x86 g89 := (qg89 : PO _ _ _ ∧ _).1
                                          rw [E7.1] at O8
                                          have E8 : EN s0 g89 := EN_trans E7 (EN_fr rg89 (by decide) (by decide) (by decide))
                                          obtain ⟨H8, W8⟩ := PO_1 O8 (by omega)
                                          have E9 : EN s0 g101 := EN_trans E8 (by rw [eg101]; exact EN_st (by omega))
                                          have D9 : g101 2 7 = g89 2 7 := by rw [eg101, zup_ne (Or.inl (by omega))]
                                          have W9 : TW g101 := TW_fr W8 D9 (E9.2.2.trans E8.2.2.symm) ((en_tok E9).1.trans (en_tok E8).1.symm)
                                          have O10 : PO (nOw (toks g101) 8 (g101 2 7).toNat) x107 g110 := qg110
                                          rw [E9.1] at O10
                                          rw [D9] at O10
                                          have E10 : EN s0 g110 := EN_trans E9 (EN_fr rg110 (by decide) (by decide) (by decide))
                                          obtain ⟨H10, W10⟩ := PO_1 O10 (by omega)
                                          have O11 : PO (nNu (toks g110) 0 100 (g110 2 7).toNat) x118 g121 := (qg121 : PO _ _ _ ∧ _).1
                                          rw [E10.1] at O11
                                          have E11 : EN s0 g121 := EN_trans E10 (EN_fr rg121 (by decide) (by decide) (by decide))
                                          obtain ⟨H11, W11⟩ := PO_1 O11 (by omega)
                                          have E12 : EN s0 g133 := EN_trans E11 (by rw [eg133]; exact EN_st (by omega))
                                          have D12 : g133 2 7 = g121 2 7 := by rw [eg133, zup_ne (Or.inl (by omega))]
                                          have W12 : TW g133 := TW_fr W11 D12 (E12.2.2.trans E11.2.2.symm) ((en_tok E12).1.trans (en_tok E11).1.symm)
                                          have O13 : PO (nOw (toks g133) 9 (g133 2 7).toNat) x139 g142 := qg142
                                          rw [E12.1] at O13
                                          rw [D12] at O13
                                          have E13 : EN s0 g142 := EN_trans E12 (EN_fr rg142 (by decide) (by decide) (by decide))
                                          obtain ⟨H13, W13⟩ := PO_1 O13 (by omega)
                                          have O14 : PO (nNu (toks g142) 0 99 (g142 2 7).toNat) x150 g153 := (qg153 : PO _ _ _ ∧ _).1
                                          rw [E13.1] at O14
                                          have E14 : EN s0 g153 := EN_trans E13 (EN_fr rg153 (by decide) (by decide) (by decide))
                                          have H14 := PO_0 O14 (by omega)
                                          have key : spBoy (toks s0) (tknB s0 b1) (s0 2 7).toNat = .inr (g153 2 0, g153 2 1) := by
                                            unfold spBoy
                                            rw [H2, zbd_l, H4, zbd_l, H5, zbd_l, H7, zbd_l, H8, zbd_l, H10, zbd_l, H11, zbd_l, H13, zbd_l, H14]
                                            all_goals rfl
                                          exact ⟨b1, eb1, Or.inr ⟨by omega, Or.inr ⟨rfl, key⟩, fun z => absurd z (by decide)⟩⟩
                                    · skip
                                      have E0 : EN s0 s0 := EN_refl
                                      have W0 : TW s0 := ht
                                      have T1 : g15 = stp s0 := qg15
                                      obtain ⟨W1, D1, M1, F1⟩ := stp_ok W0 (by rw [hk]; decide) (by rw [hk]; decide) T1
                                      have E1 : EN s0 g15 := EN_trans E0 F1
                                      have O2 : PO (nNa (toks g15) (tknB g15 (g15 2 8).toNat) (g15 2 7).toNat) x22 g25 := (qg25 : PO _ _ _ ∧ _).1
                                      rw [E1.1] at O2
                                      rw [M1] at O2
                                      rw [stp_28 T1, ← eb1, Int.toNat_natCast, tknB_stp T1 (by omega)] at O2
                                      have E2 : EN s0 g25 := EN_trans E1 (EN_fr rg25 (by decide) (by decide) (by decide))
                                      obtain ⟨H2, W2⟩ := PO_1 O2 (by omega)
                                      have E3 : EN s0 g37 := EN_trans E2 (by rw [eg37]; exact EN_st (by omega))
                                      have D3 : g37 2 7 = g25 2 7 := by rw [eg37, zup_ne (Or.inl (by omega))]
                                      have W3 : TW g37 := TW_fr W2 D3 (E3.2.2.trans E2.2.2.symm) ((en_tok E3).1.trans (en_tok E2).1.symm)
                                      have O4 : PO (nOw (toks g37) 1 (g37 2 7).toNat) x43 g46 := qg46
                                      rw [E3.1] at O4
                                      rw [D3] at O4
                                      have E4 : EN s0 g46 := EN_trans E3 (EN_fr rg46 (by decide) (by decide) (by decide))
                                      obtain ⟨H4, W4⟩ := PO_1 O4 (by omega)
                                      have O5 : PO (nNu (toks g46) 1 99 (g46 2 7).toNat) x54 g57 := (qg57 : PO _ _ _ ∧ _).1
                                      rw [E4.1] at O5
                                      have E5 : EN s0 g57 := EN_trans E4 (EN_fr rg57 (by decide) (by decide) (by decide))
                                      obtain ⟨H5, W5⟩ := PO_1 O5 (by omega)
                                      have E6 : EN s0 g69 := EN_trans E5 (by rw [eg69]; exact EN_st (by omega))
                                      have D6 : g69 2 7 = g57 2 7 := by rw [eg69, zup_ne (Or.inl (by omega))]
                                      have W6 : TW g69 := TW_fr W5 D6 (E6.2.2.trans E5.2.2.symm) ((en_tok E6).1.trans (en_tok E5).1.symm)
                                      have O7 : PO (nOw (toks g69) 2 (g69 2 7).toNat) x75 g78 := qg78
                                      rw [E6.1] at O7
                                      rw [D6] at O7
                                      have E7 : EN s0 g78 := EN_trans E6 (EN_fr rg78 (by decide) (by decide) (by decide))
                                      obtain ⟨H7, W7⟩ := PO_1 O7 (by omega)
                                      have O8 : PO (nNu (toks g78) 1 999 (g78 2 7).toNat) x86 g89 := (qg89 : PO _ _ _ ∧ _).1
                                      rw [E7.1] at O8
                                      have E8 : EN s0 g89 := EN_trans E7 (EN_fr rg89 (by decide) (by decide) (by decide))
                                      obtain ⟨H8, W8⟩ := PO_1 O8 (by omega)
                                      have E9 : EN s0 g101 := EN_trans E8 (by rw [eg101]; exact EN_st (by omega))
                                      have D9 : g101 2 7 = g89 2 7 := by rw [eg101, zup_ne (Or.inl (by omega))]
                                      have W9 : TW g101 := TW_fr W8 D9 (E9.2.2.trans E8.2.2.symm) ((en_tok E9).1.trans (en_tok E8).1.symm)
                                      have O10 : PO (nOw (toks g101) 8 (g101 2 7).toNat) x107 g110 := qg110
                                      rw [E9.1] at O10
                                      rw [D9] at O10
                                      have E10 : EN s0 g110 := EN_trans E9 (EN_fr rg110 (by decide) (by decide) (by decide))
                                      obtain ⟨H10, W10⟩ := PO_1 O10 (by omega)
                                      have O11 : PO (nNu (toks g110) 0 100 (g110 2 7).toNat) x118 g121 := (qg121 : PO _ _ _ ∧ _).1
                                      rw [E10.1] at O11
                                      have E11 : EN s0 g121 := EN_trans E10 (EN_fr rg121 (by decide) (by decide) (by decide))
                                      obtain ⟨H11, W11⟩ := PO_1 O11 (by omega)
                                      have E12 : EN s0 g133 := EN_trans E11 (by rw [eg133]; exact EN_st (by omega))
                                      have D12 : g133 2 7 = g121 2 7 := by rw [eg133, zup_ne (Or.inl (by omega))]
                                      have W12 : TW g133 := TW_fr W11 D12 (E12.2.2.trans E11.2.2.symm) ((en_tok E12).1.trans (en_tok E11).1.symm)
                                      have O13 : PO (nOw (toks g133) 9 (g133 2 7).toNat) x139 g142 := qg142
                                      rw [E12.1] at O13
                                      rw [D12] at O13
                                      have E13 : EN s0 g142 := EN_trans E12 (EN_fr rg142 (by decide) (by decide) (by decide))
                                      have H13 := PO_0 O13 (by omega)
                                      have key : spBoy (toks s0) (tknB s0 b1) (s0 2 7).toNat = .inr (g142 2 0, g142 2 1) := by
                                        unfold spBoy
                                        rw [H2, zbd_l, H4, zbd_l, H5, zbd_l, H7, zbd_l, H8, zbd_l, H10, zbd_l, H11, zbd_l, H13]
                                        all_goals rfl
                                      exact ⟨b1, eb1, Or.inr ⟨by omega, Or.inr ⟨rfl, key⟩, fun z => absurd z (by decide)⟩⟩
                                · skip
                                  have E0 : EN s0 s0 := EN_refl
                                  have W0 : TW s0 := ht
                                  have T1 : g15 = stp s0 := qg15
                                  obtain ⟨W1, D1, M1, F1⟩ := stp_ok W0 (by rw [hk]; decide) (by rw [hk]; decide) T1
                                  have E1 : EN s0 g15 := EN_trans E0 F1
                                  have O2 : PO (nNa (toks g15) (tknB g15 (g15 2 8).toNat) (g15 2 7).toNat) x22 g25 := (qg25 : PO _ _ _ ∧ _).1
                                  rw [E1.1] at O2
                                  rw [M1] at O2
                                  rw [stp_28 T1, ← eb1, Int.toNat_natCast, tknB_stp T1 (by omega)] at O2
                                  have E2 : EN s0 g25 := EN_trans E1 (EN_fr rg25 (by decide) (by decide) (by decide))
                                  obtain ⟨H2, W2⟩ := PO_1 O2 (by omega)
                                  have E3 : EN s0 g37 := EN_trans E2 (by rw [eg37]; exact EN_st (by omega))
                                  have D3 : g37 2 7 = g25 2 7 := by rw [eg37, zup_ne (Or.inl (by omega))]
                                  have W3 : TW g37 := TW_fr W2 D3 (E3.2.2.trans E2.2.2.symm) ((en_tok E3).1.trans (en_tok E2).1.symm)
                                  have O4 : PO (nOw (toks g37) 1 (g37 2 7).toNat) x43 g46 := qg46
                                  rw [E3.1] at O4
                                  rw [D3] at O4
                                  have E4 : EN s0 g46 := EN_trans E3 (EN_fr rg46 (by decide) (by decide) (by decide))
                                  obtain ⟨H4, W4⟩ := PO_1 O4 (by omega)
                                  have O5 : PO (nNu (toks g46) 1 99 (g46 2 7).toNat) x54 g57 := (qg57 : PO _ _ _ ∧ _).1
                                  rw [E4.1] at O5
                                  have E5 : EN s0 g57 := EN_trans E4 (EN_fr rg57 (by decide) (by decide) (by decide))
                                  obtain ⟨H5, W5⟩ := PO_1 O5 (by omega)
                                  have E6 : EN s0 g69 := EN_trans E5 (by rw [eg69]; exact EN_st (by omega))
                                  have D6 : g69 2 7 = g57 2 7 := by rw [eg69, zup_ne (Or.inl (by omega))]
                                  have W6 : TW g69 := TW_fr W5 D6 (E6.2.2.trans E5.2.2.symm) ((en_tok E6).1.trans (en_tok E5).1.symm)
                                  have O7 : PO (nOw (toks g69) 2 (g69 2 7).toNat) x75 g78 := qg78
                                  rw [E6.1] at O7
                                  rw [D6] at O7
                                  have E7 : EN s0 g78 := EN_trans E6 (EN_fr rg78 (by decide) (by decide) (by decide))
                                  obtain ⟨H7, W7⟩ := PO_1 O7 (by omega)
                                  have O8 : PO (nNu (toks g78) 1 999 (g78 2 7).toNat) x86 g89 := (qg89 : PO _ _ _ ∧ _).1
                                  rw [E7.1] at O8
                                  have E8 : EN s0 g89 := EN_trans E7 (EN_fr rg89 (by decide) (by decide) (by decide))
                                  obtain ⟨H8, W8⟩ := PO_1 O8 (by omega)
                                  have E9 : EN s0 g101 := EN_trans E8 (by rw [eg101]; exact EN_st (by omega))
                                  have D9 : g101 2 7 = g89 2 7 := by rw [eg101, zup_ne (Or.inl (by omega))]
                                  have W9 : TW g101 := TW_fr W8 D9 (E9.2.2.trans E8.2.2.symm) ((en_tok E9).1.trans (en_tok E8).1.symm)
                                  have O10 : PO (nOw (toks g101) 8 (g101 2 7).toNat) x107 g110 := qg110
                                  rw [E9.1] at O10
                                  rw [D9] at O10
                                  have E10 : EN s0 g110 := EN_trans E9 (EN_fr rg110 (by decide) (by decide) (by decide))
                                  obtain ⟨H10, W10⟩ := PO_1 O10 (by omega)
                                  have O11 : PO (nNu (toks g110) 0 100 (g110 2 7).toNat) x118 g121 := (qg121 : PO _ _ _ ∧ _).1
                                  rw [E10.1] at O11
                                  have E11 : EN s0 g121 := EN_trans E10 (EN_fr rg121 (by decide) (by decide) (by decide))
                                  have H11 := PO_0 O11 (by omega)
                                  have key : spBoy (toks s0) (tknB s0 b1) (s0 2 7).toNat = .inr (g121 2 0, g121 2 1) := by
                                    unfold spBoy
                                    rw [H2, zbd_l, H4, zbd_l, H5, zbd_l, H7, zbd_l, H8, zbd_l, H10, zbd_l, H11]
                                    all_goals rfl
                                  exact ⟨b1, eb1, Or.inr ⟨by omega, Or.inr ⟨rfl, key⟩, fun z => absurd z (by decide)⟩⟩
                            · skip
                              have E0 : EN s0 s0 := EN_refl
                              have W0 : TW s0 := ht
                              have T1 : g15 = stp s0 := qg15
                              obtain ⟨W1, D1, M1, F1⟩ := stp_ok W0 (by rw [hk]; decide) (by rw [hk]; decide) T1
                              have E1 : EN s0 g15 := EN_trans E0 F1
                              have O2 : PO (nNa (toks g15) (tknB g15 (g15 2 8).toNat) (g15 2 7).toNat) x22 g25 := (qg25 : PO _ _ _ ∧ _).1
                              rw [E1.1] at O2
                              rw [M1] at O2
                              rw [stp_28 T1, ← eb1, Int.toNat_natCast, tknB_stp T1 (by omega)] at O2
                              have E2 : EN s0 g25 := EN_trans E1 (EN_fr rg25 (by decide) (by decide) (by decide))
                              obtain ⟨H2, W2⟩ := PO_1 O2 (by omega)
                              have E3 : EN s0 g37 := EN_trans E2 (by rw [eg37]; exact EN_st (by omega))
                              have D3 : g37 2 7 = g25 2 7 := by rw [eg37, zup_ne (Or.inl (by omega))]
                              have W3 : TW g37 := TW_fr W2 D3 (E3.2.2.trans E2.2.2.symm) ((en_tok E3).1.trans (en_tok E2).1.symm)
                              have O4 : PO (nOw (toks g37) 1 (g37 2 7).toNat) x43 g46 := qg46
                              rw [E3.1] at O4
                              rw [D3] at O4
                              have E4 : EN s0 g46 := EN_trans E3 (EN_fr rg46 (by decide) (by decide) (by decide))
                              obtain ⟨H4, W4⟩ := PO_1 O4 (by omega)
                              have O5 : PO (nNu (toks g46) 1 99 (g46 2 7).toNat) x54 g57 := (qg57 : PO _ _ _ ∧ _).1
                              rw [E4.1] at O5
                              have E5 : EN s0 g57 := EN_trans E4 (EN_fr rg57 (by decide) (by decide) (by decide))
                              obtain ⟨H5, W5⟩ := PO_1 O5 (by omega)
                              have E6 : EN s0 g69 := EN_trans E5 (by rw [eg69]; exact EN_st (by omega))
                              have D6 : g69 2 7 = g57 2 7 := by rw [eg69, zup_ne (Or.inl (by omega))]
                              have W6 : TW g69 := TW_fr W5 D6 (E6.2.2.trans E5.2.2.symm) ((en_tok E6).1.trans (en_tok E5).1.symm)
                              have O7 : PO (nOw (toks g69) 2 (g69 2 7).toNat) x75 g78 := qg78
                              rw [E6.1] at O7
                              rw [D6] at O7
                              have E7 : EN s0 g78 := EN_trans E6 (EN_fr rg78 (by decide) (by decide) (by decide))
                              obtain ⟨H7, W7⟩ := PO_1 O7 (by omega)
                              have O8 : PO (nNu (toks g78) 1 999 (g78 2 7).toNat) x86 g89 := (qg89 : PO _ _ _ ∧ _).1
                              rw [E7.1] at O8
                              have E8 : EN s0 g89 := EN_trans E7 (EN_fr rg89 (by decide) (by decide) (by decide))
                              obtain ⟨H8, W8⟩ := PO_1 O8 (by omega)
                              have E9 : EN s0 g101 := EN_trans E8 (by rw [eg101]; exact EN_st (by omega))
                              have D9 : g101 2 7 = g89 2 7 := by rw [eg101, zup_ne (Or.inl (by omega))]
                              have W9 : TW g101 := TW_fr W8 D9 (E9.2.2.trans E8.2.2.symm) ((en_tok E9).1.trans (en_tok E8).1.symm)
                              have O10 : PO (nOw (toks g101) 8 (g101 2 7).toNat) x107 g110 := qg110
                              rw [E9.1] at O10
                              rw [D9] at O10
                              have E10 : EN s0 g110 := EN_trans E9 (EN_fr rg110 (by decide) (by decide) (by decide))
                              have H10 := PO_0 O10 (by omega)
                              have key : spBoy (toks s0) (tknB s0 b1) (s0 2 7).toNat = .inr (g110 2 0, g110 2 1) := by
                                unfold spBoy
                                rw [H2, zbd_l, H4, zbd_l, H5, zbd_l, H7, zbd_l, H8, zbd_l, H10]
                                all_goals rfl
                              exact ⟨b1, eb1, Or.inr ⟨by omega, Or.inr ⟨rfl, key⟩, fun z => absurd z (by decide)⟩⟩
                        · skip
                          have E0 : EN s0 s0 := EN_refl
                          have W0 : TW s0 := ht
                          have T1 : g15 = stp s0 := qg15
                          obtain ⟨W1, D1, M1, F1⟩ := stp_ok W0 (by rw [hk]; decide) (by rw [hk]; decide) T1
                          have E1 : EN s0 g15 := EN_trans E0 F1
                          have O2 : PO (nNa (toks g15) (tknB g15 (g15 2 8).toNat) (g15 2 7).toNat) x22 g25 := (qg25 : PO _ _ _ ∧ _).1
                          rw [E1.1] at O2
                          rw [M1] at O2
                          rw [stp_28 T1, ← eb1, Int.toNat_natCast, tknB_stp T1 (by omega)] at O2
                          have E2 : EN s0 g25 := EN_trans E1 (EN_fr rg25 (by decide) (by decide) (by decide))
                          obtain ⟨H2, W2⟩ := PO_1 O2 (by omega)
                          have E3 : EN s0 g37 := EN_trans E2 (by rw [eg37]; exact EN_st (by omega))
                          have D3 : g37 2 7 = g25 2 7 := by rw [eg37, zup_ne (Or.inl (by omega))]
                          have W3 : TW g37 := TW_fr W2 D3 (E3.2.2.trans E2.2.2.symm) ((en_tok E3).1.trans (en_tok E2).1.symm)
                          have O4 : PO (nOw (toks g37) 1 (g37 2 7).toNat) x43 g46 := qg46
                          rw [E3.1] at O4
                          rw [D3] at O4
                          have E4 : EN s0 g46 := EN_trans E3 (EN_fr rg46 (by decide) (by decide) (by decide))
                          obtain ⟨H4, W4⟩ := PO_1 O4 (by omega)
                          have O5 : PO (nNu (toks g46) 1 99 (g46 2 7).toNat) x54 g57 := (qg57 : PO _ _ _ ∧ _).1
                          rw [E4.1] at O5
                          have E5 : EN s0 g57 := EN_trans E4 (EN_fr rg57 (by decide) (by decide) (by decide))
                          obtain ⟨H5, W5⟩ := PO_1 O5 (by omega)
                          have E6 : EN s0 g69 := EN_trans E5 (by rw [eg69]; exact EN_st (by omega))
                          have D6 : g69 2 7 = g57 2 7 := by rw [eg69, zup_ne (Or.inl (by omega))]
                          have W6 : TW g69 := TW_fr W5 D6 (E6.2.2.trans E5.2.2.symm) ((en_tok E6).1.trans (en_tok E5).1.symm)
                          have O7 : PO (nOw (toks g69) 2 (g69 2 7).toNat) x75 g78 := qg78
                          rw [E6.1] at O7
                          rw [D6] at O7
                          have E7 : EN s0 g78 := EN_trans E6 (EN_fr rg78 (by decide) (by decide) (by decide))
                          obtain ⟨H7, W7⟩ := PO_1 O7 (by omega)
                          have O8 : PO (nNu (toks g78) 1 999 (g78 2 7).toNat) x86 g89 := (qg89 : PO _ _ _ ∧ _).1
                          rw [E7.1] at O8
                          have E8 : EN s0 g89 := EN_trans E7 (EN_fr rg89 (by decide) (by decide) (by decide))
                          have H8 := PO_0 O8 (by omega)
                          have key : spBoy (toks s0) (tknB s0 b1) (s0 2 7).toNat = .inr (g89 2 0, g89 2 1) := by
                            unfold spBoy
                            rw [H2, zbd_l, H4, zbd_l, H5, zbd_l, H7, zbd_l, H8]
                            all_goals rfl
                          exact ⟨b1, eb1, Or.inr ⟨by omega, Or.inr ⟨rfl, key⟩, fun z => absurd z (by decide)⟩⟩
                    · skip
                      have E0 : EN s0 s0 := EN_refl
                      have W0 : TW s0 := ht
                      have T1 : g15 = stp s0 := qg15
                      obtain ⟨W1, D1, M1, F1⟩ := stp_ok W0 (by rw [hk]; decide) (by rw [hk]; decide) T1
                      have E1 : EN s0 g15 := EN_trans E0 F1
                      have O2 : PO (nNa (toks g15) (tknB g15 (g15 2 8).toNat) (g15 2 7).toNat) x22 g25 := (qg25 : PO _ _ _ ∧ _).1
                      rw [E1.1] at O2
                      rw [M1] at O2
                      rw [stp_28 T1, ← eb1, Int.toNat_natCast, tknB_stp T1 (by omega)] at O2
                      have E2 : EN s0 g25 := EN_trans E1 (EN_fr rg25 (by decide) (by decide) (by decide))
                      obtain ⟨H2, W2⟩ := PO_1 O2 (by omega)
                      have E3 : EN s0 g37 := EN_trans E2 (by rw [eg37]; exact EN_st (by omega))
                      have D3 : g37 2 7 = g25 2 7 := by rw [eg37, zup_ne (Or.inl (by omega))]
                      have W3 : TW g37 := TW_fr W2 D3 (E3.2.2.trans E2.2.2.symm) ((en_tok E3).1.trans (en_tok E2).1.symm)
                      have O4 : PO (nOw (toks g37) 1 (g37 2 7).toNat) x43 g46 := qg46
                      rw [E3.1] at O4
                      rw [D3] at O4
                      have E4 : EN s0 g46 := EN_trans E3 (EN_fr rg46 (by decide) (by decide) (by decide))
                      obtain ⟨H4, W4⟩ := PO_1 O4 (by omega)
                      have O5 : PO (nNu (toks g46) 1 99 (g46 2 7).toNat) x54 g57 := (qg57 : PO _ _ _ ∧ _).1
                      rw [E4.1] at O5
                      have E5 : EN s0 g57 := EN_trans E4 (EN_fr rg57 (by decide) (by decide) (by decide))
                      obtain ⟨H5, W5⟩ := PO_1 O5 (by omega)
                      have E6 : EN s0 g69 := EN_trans E5 (by rw [eg69]; exact EN_st (by omega))
                      have D6 : g69 2 7 = g57 2 7 := by rw [eg69, zup_ne (Or.inl (by omega))]
                      have W6 : TW g69 := TW_fr W5 D6 (E6.2.2.trans E5.2.2.symm) ((en_tok E6).1.trans (en_tok E5).1.symm)
                      have O7 : PO (nOw (toks g69) 2 (g69 2 7).toNat) x75 g78 := qg78
                      rw [E6.1] at O7
                      rw [D6] at O7
                      have E7 : EN s0 g78 := EN_trans E6 (EN_fr rg78 (by decide) (by decide) (by decide))
                      have H7 := PO_0 O7 (by omega)
                      have key : spBoy (toks s0) (tknB s0 b1) (s0 2 7).toNat = .inr (g78 2 0, g78 2 1) := by
                        unfold spBoy
                        rw [H2, zbd_l, H4, zbd_l, H5, zbd_l, H7]
                        all_goals rfl
                      exact ⟨b1, eb1, Or.inr ⟨by omega, Or.inr ⟨rfl, key⟩, fun z => absurd z (by decide)⟩⟩
                · skip
                  have E0 : EN s0 s0 := EN_refl
                  have W0 : TW s0 := ht
                  have T1 : g15 = stp s0 := qg15
                  obtain ⟨W1, D1, M1, F1⟩ := stp_ok W0 (by rw [hk]; decide) (by rw [hk]; decide) T1
                  have E1 : EN s0 g15 := EN_trans E0 F1
                  have O2 : PO (nNa (toks g15) (tknB g15 (g15 2 8).toNat) (g15 2 7).toNat) x22 g25 := (qg25 : PO _ _ _ ∧ _).1
                  rw [E1.1] at O2
                  rw [M1] at O2
                  rw [stp_28 T1, ← eb1, Int.toNat_natCast, tknB_stp T1 (by omega)] at O2
                  have E2 : EN s0 g25 := EN_trans E1 (EN_fr rg25 (by decide) (by decide) (by decide))
                  obtain ⟨H2, W2⟩ := PO_1 O2 (by omega)
                  have E3 : EN s0 g37 := EN_trans E2 (by rw [eg37]; exact EN_st (by omega))
                  have D3 : g37 2 7 = g25 2 7 := by rw [eg37, zup_ne (Or.inl (by omega))]
                  have W3 : TW g37 := TW_fr W2 D3 (E3.2.2.trans E2.2.2.symm) ((en_tok E3).1.trans (en_tok E2).1.symm)
                  have O4 : PO (nOw (toks g37) 1 (g37 2 7).toNat) x43 g46 := qg46
                  rw [E3.1] at O4
                  rw [D3] at O4
                  have E4 : EN s0 g46 := EN_trans E3 (EN_fr rg46 (by decide) (by decide) (by decide))
                  obtain ⟨H4, W4⟩ := PO_1 O4 (by omega)
                  have O5 : PO (nNu (toks g46) 1 99 (g46 2 7).toNat) x54 g57 := (qg57 : PO _ _ _ ∧ _).1
                  rw [E4.1] at O5
                  have E5 : EN s0 g57 := EN_trans E4 (EN_fr rg57 (by decide) (by decide) (by decide))
                  have H5 := PO_0 O5 (by omega)
                  have key : spBoy (toks s0) (tknB s0 b1) (s0 2 7).toNat = .inr (g57 2 0, g57 2 1) := by
                    unfold spBoy
                    rw [H2, zbd_l, H4, zbd_l, H5]
                    all_goals rfl
                  exact ⟨b1, eb1, Or.inr ⟨by omega, Or.inr ⟨rfl, key⟩, fun z => absurd z (by decide)⟩⟩
            · skip
              have E0 : EN s0 s0 := EN_refl
              have W0 : TW s0 := ht
              have T1 : g15 = stp s0 := qg15
              obtain ⟨W1, D1, M1, F1⟩ := stp_ok W0 (by rw [hk]; decide) (by rw [hk]; decide) T1
              have E1 : EN s0 g15 := EN_trans E0 F1
              have O2 : PO (nNa (toks g15) (tknB g15 (g15 2 8).toNat) (g15 2 7).toNat) x22 g25 := (qg25 : PO _ _ _ ∧ _).1
              rw [E1.1] at O2
              rw [M1] at O2
              rw [stp_28 T1, ← eb1, Int.toNat_natCast, tknB_stp T1 (by omega)] at O2
              have E2 : EN s0 g25 := EN_trans E1 (EN_fr rg25 (by decide) (by decide) (by decide))
              obtain ⟨H2, W2⟩ := PO_1 O2 (by omega)
              have E3 : EN s0 g37 := EN_trans E2 (by rw [eg37]; exact EN_st (by omega))
              have D3 : g37 2 7 = g25 2 7 := by rw [eg37, zup_ne (Or.inl (by omega))]
              have W3 : TW g37 := TW_fr W2 D3 (E3.2.2.trans E2.2.2.symm) ((en_tok E3).1.trans (en_tok E2).1.symm)
              have O4 : PO (nOw (toks g37) 1 (g37 2 7).toNat) x43 g46 := qg46
              rw [E3.1] at O4
              rw [D3] at O4
              have E4 : EN s0 g46 := EN_trans E3 (EN_fr rg46 (by decide) (by decide) (by decide))
              have H4 := PO_0 O4 (by omega)
              have key : spBoy (toks s0) (tknB s0 b1) (s0 2 7).toNat = .inr (g46 2 0, g46 2 1) := by
                unfold spBoy
                rw [H2, zbd_l, H4]
                all_goals rfl
              exact ⟨b1, eb1, Or.inr ⟨by omega, Or.inr ⟨rfl, key⟩, fun z => absurd z (by decide)⟩⟩
        · skip
          have E0 : EN s0 s0 := EN_refl
          have W0 : TW s0 := ht
          have T1 : g15 = stp s0 := qg15
          obtain ⟨W1, D1, M1, F1⟩ := stp_ok W0 (by rw [hk]; decide) (by rw [hk]; decide) T1
          have E1 : EN s0 g15 := EN_trans E0 F1
          have O2 : PO (nNa (toks g15) (tknB g15 (g15 2 8).toNat) (g15 2 7).toNat) x22 g25 := (qg25 : PO _ _ _ ∧ _).1
          rw [E1.1] at O2
          rw [M1] at O2
          rw [stp_28 T1, ← eb1, Int.toNat_natCast, tknB_stp T1 (by omega)] at O2
          have E2 : EN s0 g25 := EN_trans E1 (EN_fr rg25 (by decide) (by decide) (by decide))
          have H2 := PO_0 O2 (by omega)
          have key : spBoy (toks s0) (tknB s0 b1) (s0 2 7).toNat = .inr (g25 2 0, g25 2 1) := by
            unfold spBoy
            rw [H2]
            all_goals rfl
          exact ⟨b1, eb1, Or.inr ⟨by omega, Or.inr ⟨rfl, key⟩, fun z => absurd z (by decide)⟩⟩
  · skip
    refine ⟨fun _ g' => (g' 2 0, g' 2 1) = ((5 : Int), if (5 : Int) = 1 ∧ s0 4 (s0 2 7).toNat = 1 then s0 5 (s0 2 7).toNat else s0 6 (s0 2 7).toNat), ?_, ?_⟩
    · skip
      exact v_1286
    · skip
      intro x190 hx1901 hx1902 g193 rg193 qg193
      exact ⟨b1, eb1, Or.inl ⟨by omega, by omega, els_q (by decide) qg193⟩⟩
set_option maxHeartbeats 4000000 in
theorem v_1295 {s0 : zF} (hw : OWS s0) (ht : TW s0) (hk : s0 4 (s0 2 7).toNat = 2) : b_1295 s0 (fun v g => ∃ b : Nat, (b : Int) = s0 2 8 ∧ (6 ≤ s0 b 2 ∧ v = 0 ∧ (g 2 0, g 2 1) = (5, s0 6 (s0 2 7).toNat) ∨ s0 b 2 < 6 ∧ PO (spDream (toks s0) (tknB s0 b) (s0 2 7).toNat) v g ∧ (v = 1 → NEWN s0 g b 2 7 (s0 2 7).toNat))) := by
  unfold b_1295
  intro b1 eb1 fb1
  intro x5 ex5 fx5 gx5
  refine ⟨fun h9 => ?_, fun h9 => ?_⟩
  · skip
    refine ⟨fun g' => g' = stp s0, ?_, ?_⟩
    · skip
      exact v_1289
    · skip
      intro g15 rg15 qg15
      refine ⟨fun v g' => PO (nNa (toks g15) (tknB g15 (g15 2 8).toNat) (g15 2 7).toNat) v g' ∧ (v = 1 → g' 2 9 = g15 5 (g15 2 7).toNat), ?_, ?_⟩
      · skip
        have E0 : EN s0 s0 := EN_refl
        have W0 : TW s0 := ht
        have T1 : g15 = stp s0 := qg15
        obtain ⟨W1, D1, M1, F1⟩ := stp_ok W0 (by rw [hk]; decide) (by rw [hk]; decide) T1
        have E1 : EN s0 g15 := EN_trans E0 F1
        exact v_1290 (OWS_en hw E1) W1
      · skip
        intro x22 hx221 hx222 g25 rg25 qg25
        refine ⟨fun h27 => ?_, fun h27 => ?_⟩
        · skip
          intro x29 ex29
          intro g37 eg37
          refine ⟨fun v g' => PO (nOw (toks g37) 15 (g37 2 7).toNat) v g', ?_, ?_⟩
          · skip
            have E0 : EN s0 s0 := EN_refl
            have W0 : TW s0 := ht
            have T1 : g15 = stp s0 := qg15
            obtain ⟨W1, D1, M1, F1⟩ := stp_ok W0 (by rw [hk]; decide) (by rw [hk]; decide) T1
            have E1 : EN s0 g15 := EN_trans E0 F1
            have O2 : PO (nNa (toks g15) (tknB g15 (g15 2 8).toNat) (g15 2 7).toNat) x22 g25 := (qg25 : PO _ _ _ ∧ _).1
            rw [E1.1] at O2
            rw [M1] at O2
            rw [stp_28 T1, ← eb1, Int.toNat_natCast, tknB_stp T1 (by omega)] at O2
            have E2 : EN s0 g25 := EN_trans E1 (EN_fr rg25 (by decide) (by decide) (by decide))
            obtain ⟨H2, W2⟩ := PO_1 O2 (by omega)
            have E3 : EN s0 g37 := EN_trans E2 (by rw [eg37]; exact EN_st (by omega))
            have D3 : g37 2 7 = g25 2 7 := by rw [eg37, zup_ne (Or.inl (by omega))]
            have W3 : TW g37 := TW_fr W2 D3 (E3.2.2.trans E2.2.2.symm) ((en_tok E3).1.trans (en_tok E2).1.symm)
            exact v_1291 (OWS_en hw E3) W3 (by decide)
          · skip
            intro x43 hx431 hx432 g46 rg46 qg46
            refine ⟨fun h48 => ?_, fun h48 => ?_⟩
            · skip
              refine ⟨fun v g' => PO (nNu (toks g46) 1 999 (g46 2 7).toNat) v g' ∧ (v = 1 → g' 2 10 = g46 5 (g46 2 7).toNat), ?_, ?_⟩
              · skip
                have E0 : EN s0 s0 := EN_refl
                have W0 : TW s0 := ht
                have T1 : g15 = stp s0 := qg15
                obtain ⟨W1, D1, M1, F1⟩ := stp_ok W0 (by rw [hk]; decide) (by rw [hk]; decide) T1
                have E1 : EN s0 g15 := EN_trans E0 F1
                have O2 : PO (nNa (toks g15) (tknB g15 (g15 2 8).toNat) (g15 2 7).toNat) x22 g25 := (qg25 : PO _ _ _ ∧ _).1
                rw [E1.1] at O2
                rw [M1] at O2
                rw [stp_28 T1, ← eb1, Int.toNat_natCast, tknB_stp T1 (by omega)] at O2
                have E2 : EN s0 g25 := EN_trans E1 (EN_fr rg25 (by decide) (by decide) (by decide))
                obtain ⟨H2, W2⟩ := PO_1 O2 (by omega)
                have E3 : EN s0 g37 := EN_trans E2 (by rw [eg37]; exact EN_st (by omega))
                have D3 : g37 2 7 = g25 2 7 := by rw [eg37, zup_ne (Or.inl (by omega))]
                have W3 : TW g37 := TW_fr W2 D3 (E3.2.2.trans E2.2.2.symm) ((en_tok E3).1.trans (en_tok E2).1.symm)
                have O4 : PO (nOw (toks g37) 15 (g37 2 7).toNat) x43 g46 := qg46
                rw [E3.1] at O4
                rw [D3] at O4
                have E4 : EN s0 g46 := EN_trans E3 (EN_fr rg46 (by decide) (by decide) (by decide))
                obtain ⟨H4, W4⟩ := PO_1 O4 (by omega)
                exact v_1292 W4
              · skip
                intro x54 hx541 hx542 g57 rg57 qg57
                refine ⟨fun h59 => ?_, fun h59 => ?_⟩
                · skip
                  intro x61 ex61
                  intro g69 eg69
                  refine ⟨fun v g' => PO (nOw (toks g69) 16 (g69 2 7).toNat) v g', ?_, ?_⟩
                  · skip
                    have E0 : EN s0 s0 := EN_refl
                    have W0 : TW s0 := ht
                    have T1 : g15 = stp s0 := qg15
                    obtain ⟨W1, D1, M1, F1⟩ := stp_ok W0 (by rw [hk]; decide) (by rw [hk]; decide) T1
                    have E1 : EN s0 g15 := EN_trans E0 F1
                    have O2 : PO (nNa (toks g15) (tknB g15 (g15 2 8).toNat) (g15 2 7).toNat) x22 g25 := (qg25 : PO _ _ _ ∧ _).1
                    rw [E1.1] at O2
                    rw [M1] at O2
                    rw [stp_28 T1, ← eb1, Int.toNat_natCast, tknB_stp T1 (by omega)] at O2
                    have E2 : EN s0 g25 := EN_trans E1 (EN_fr rg25 (by decide) (by decide) (by decide))
                    obtain ⟨H2, W2⟩ := PO_1 O2 (by omega)
                    have E3 : EN s0 g37 := EN_trans E2 (by rw [eg37]; exact EN_st (by omega))
                    have D3 : g37 2 7 = g25 2 7 := by rw [eg37, zup_ne (Or.inl (by omega))]
                    have W3 : TW g37 := TW_fr W2 D3 (E3.2.2.trans E2.2.2.symm) ((en_tok E3).1.trans (en_tok E2).1.symm)
                    have O4 : PO (nOw (toks g37) 15 (g37 2 7).toNat) x43 g46 := qg46
                    rw [E3.1] at O4
                    rw [D3] at O4
                    have E4 : EN s0 g46 := EN_trans E3 (EN_fr rg46 (by decide) (by decide) (by decide))
                    obtain ⟨H4, W4⟩ := PO_1 O4 (by omega)
                    have O5 : PO (nNu (toks g46) 1 999 (g46 2 7).toNat) x54 g57 := (qg57 : PO _ _ _ ∧ _).1
                    rw [E4.1] at O5
                    have E5 : EN s0 g57 := EN_trans E4 (EN_fr rg57 (by decide) (by decide) (by decide))
                    obtain ⟨H5, W5⟩ := PO_1 O5 (by omega)
                    have E6 : EN s0 g69 := EN_trans E5 (by rw [eg69]; exact EN_st (by omega))
                    have D6 : g69 2 7 = g57 2 7 := by rw [eg69, zup_ne (Or.inl (by omega))]
                    have W6 : TW g69 := TW_fr W5 D6 (E6.2.2.trans E5.2.2.symm) ((en_tok E6).1.trans (en_tok E5).1.symm)
                    exact v_1291 (OWS_en hw E6) W6 (by decide)
                  · skip
                    intro x75 hx751 hx752 g78 rg78 qg78
                    refine ⟨fun h80 => ?_, fun h80 => ?_⟩
                    · skip
                      refine ⟨fun v g' => PO (nNu (toks g78) 1 60 (g78 2 7).toNat) v g' ∧ (v = 1 → g' 2 10 = g78 5 (g78 2 7).toNat), ?_, ?_⟩
                      · skip
                        have E0 : EN s0 s0 := EN_refl
                        have W0 : TW s0 := ht
                        have T1 : g15 = stp s0 := qg15
                        obtain ⟨W1, D1, M1, F1⟩ := stp_ok W0 (by rw [hk]; decide) (by rw [hk]; decide) T1
                        have E1 : EN s0 g15 := EN_trans E0 F1
                        have O2 : PO (nNa (toks g15) (tknB g15 (g15 2 8).toNat) (g15 2 7).toNat) x22 g25 := (qg25 : PO _ _ _ ∧ _).1
                        rw [E1.1] at O2
                        rw [M1] at O2
                        rw [stp_28 T1, ← eb1, Int.toNat_natCast, tknB_stp T1 (by omega)] at O2
                        have E2 : EN s0 g25 := EN_trans E1 (EN_fr rg25 (by decide) (by decide) (by decide))
                        obtain ⟨H2, W2⟩ := PO_1 O2 (by omega)
                        have E3 : EN s0 g37 := EN_trans E2 (by rw [eg37]; exact EN_st (by omega))
                        have D3 : g37 2 7 = g25 2 7 := by rw [eg37, zup_ne (Or.inl (by omega))]
                        have W3 : TW g37 := TW_fr W2 D3 (E3.2.2.trans E2.2.2.symm) ((en_tok E3).1.trans (en_tok E2).1.symm)
                        have O4 : PO (nOw (toks g37) 15 (g37 2 7).toNat) x43 g46 := qg46
                        rw [E3.1] at O4
                        rw [D3] at O4
                        have E4 : EN s0 g46 := EN_trans E3 (EN_fr rg46 (by decide) (by decide) (by decide))
                        obtain ⟨H4, W4⟩ := PO_1 O4 (by omega)
                        have O5 : PO (nNu (toks g46) 1 999 (g46 2 7).toNat) x54 g57 := (qg57 : PO _ _ _ ∧ _).1
                        rw [E4.1] at O5
                        have E5 : EN s0 g57 := EN_trans E4 (EN_fr rg57 (by decide) (by decide) (by decide))
                        obtain ⟨H5, W5⟩ := PO_1 O5 (by omega)
                        have E6 : EN s0 g69 := EN_trans E5 (by rw [eg69]; exact EN_st (by omega))
                        have D6 : g69 2 7 = g57 2 7 := by rw [eg69, zup_ne (Or.inl (by omega))]
                        have W6 : TW g69 := TW_fr W5 D6 (E6.2.2.trans E5.2.2.symm) ((en_tok E6).1.trans (en_tok E5).1.symm)
                        have O7 : PO (nOw (toks g69) 16 (g69 2 7).toNat) x75 g78 := qg78
                        rw [E6.1] at O7
                        rw [D6] at O7
                        have E7 : EN s0 g78 := EN_trans E6 (EN_fr rg78 (by decide) (by decide) (by decide))
                        obtain ⟨H7, W7⟩ := PO_1 O7 (by omega)
                        exact v_1292 W7
                      · skip
                        intro x86 hx861 hx862 g89 rg89 qg89
                        refine ⟨fun h91 => ?_, fun h91 => ?_⟩
                        · skip
                          intro x93 ex93
                          intro g101 eg101
                          refine ⟨fun v g' => PO (nOw (toks g101) 17 (g101 2 7).toNat) v g', ?_, ?_⟩
                          · skip
                            have E0 : EN s0 s0 := EN_refl
                            have W0 : TW s0 := ht
                            have T1 : g15 = stp s0 := qg15
                            obtain ⟨W1, D1, M1, F1⟩ := stp_ok W0 (by rw [hk]; decide) (by rw [hk]; decide) T1
                            have E1 : EN s0 g15 := EN_trans E0 F1
                            have O2 : PO (nNa (toks g15) (tknB g15 (g15 2 8).toNat) (g15 2 7).toNat) x22 g25 := (qg25 : PO _ _ _ ∧ _).1
                            rw [E1.1] at O2
                            rw [M1] at O2
                            rw [stp_28 T1, ← eb1, Int.toNat_natCast, tknB_stp T1 (by omega)] at O2
                            have E2 : EN s0 g25 := EN_trans E1 (EN_fr rg25 (by decide) (by decide) (by decide))
                            obtain ⟨H2, W2⟩ := PO_1 O2 (by omega)
                            have E3 : EN s0 g37 := EN_trans E2 (by rw [eg37]; exact EN_st (by omega))
                            have D3 : g37 2 7 = g25 2 7 := by rw [eg37, zup_ne (Or.inl (by omega))]
                            have W3 : TW g37 := TW_fr W2 D3 (E3.2.2.trans E2.2.2.symm) ((en_tok E3).1.trans (en_tok E2).1.symm)
                            have O4 : PO (nOw (toks g37) 15 (g37 2 7).toNat) x43 g46 := qg46
                            rw [E3.1] at O4
                            rw [D3] at O4
                            have E4 : EN s0 g46 := EN_trans E3 (EN_fr rg46 (by decide) (by decide) (by decide))
                            obtain ⟨H4, W4⟩ := PO_1 O4 (by omega)
                            have O5 : PO (nNu (toks g46) 1 999 (g46 2 7).toNat) x54 g57 := (qg57 : PO _ _ _ ∧ _).1
                            rw [E4.1] at O5
                            have E5 : EN s0 g57 := EN_trans E4 (EN_fr rg57 (by decide) (by decide) (by decide))
                            obtain ⟨H5, W5⟩ := PO_1 O5 (by omega)
                            have E6 : EN s0 g69 := EN_trans E5 (by rw [eg69]; exact EN_st (by omega))
                            have D6 : g69 2 7 = g57 2 7 := by rw [eg69, zup_ne (Or.inl (by omega))]
                            have W6 : TW g69 := TW_fr W5 D6 (E6.2.2.trans E5.2.2.symm) ((en_tok E6).1.trans (en_tok E5).1.symm)
                            have O7 : PO (nOw (toks g69) 16 (g69 2 7).toNat) x75 g78 := qg78
                            rw [E6.1] at O7
                            rw [D6] at O7
                            have E7 : EN s0 g78 := EN_trans E6 (EN_fr rg78 (by decide) (by decide) (by decide))
                            obtain ⟨H7, W7⟩ := PO_1 O7 (by omega)
                            have O8 : PO (nNu (toks g78) 1 60 (g78 2 7).toNat) x86 g89 := (qg89 : PO _ _ _ ∧ _).1
                            rw [E7.1] at O8
                            have E8 : EN s0 g89 := EN_trans E7 (EN_fr rg89 (by decide) (by decide) (by decide))
                            obtain ⟨H8, W8⟩ := PO_1 O8 (by omega)
                            have E9 : EN s0 g101 := EN_trans E8 (by rw [eg101]; exact EN_st (by omega))
                            have D9 : g101 2 7 = g89 2 7 := by rw [eg101, zup_ne (Or.inl (by omega))]
                            have W9 : TW g101 := TW_fr W8 D9 (E9.2.2.trans E8.2.2.symm) ((en_tok E9).1.trans (en_tok E8).1.symm)
                            exact v_1291 (OWS_en hw E9) W9 (by decide)
                          · skip
                            intro x107 hx1071 hx1072 g110 rg110 qg110
                            refine ⟨fun h112 => ?_, fun h112 => ?_⟩
                            · skip
                              refine ⟨fun v g' => PO (nNu (toks g110) 1 999 (g110 2 7).toNat) v g' ∧ (v = 1 → g' 2 10 = g110 5 (g110 2 7).toNat), ?_, ?_⟩
                              · skip
                                have E0 : EN s0 s0 := EN_refl
                                have W0 : TW s0 := ht
                                have T1 : g15 = stp s0 := qg15
                                obtain ⟨W1, D1, M1, F1⟩ := stp_ok W0 (by rw [hk]; decide) (by rw [hk]; decide) T1
                                have E1 : EN s0 g15 := EN_trans E0 F1
                                have O2 : PO (nNa (toks g15) (tknB g15 (g15 2 8).toNat) (g15 2 7).toNat) x22 g25 := (qg25 : PO _ _ _ ∧ _).1
                                rw [E1.1] at O2
                                rw [M1] at O2
                                rw [stp_28 T1, ← eb1, Int.toNat_natCast, tknB_stp T1 (by omega)] at O2
                                have E2 : EN s0 g25 := EN_trans E1 (EN_fr rg25 (by decide) (by decide) (by decide))
                                obtain ⟨H2, W2⟩ := PO_1 O2 (by omega)
                                have E3 : EN s0 g37 := EN_trans E2 (by rw [eg37]; exact EN_st (by omega))
                                have D3 : g37 2 7 = g25 2 7 := by rw [eg37, zup_ne (Or.inl (by omega))]
                                have W3 : TW g37 := TW_fr W2 D3 (E3.2.2.trans E2.2.2.symm) ((en_tok E3).1.trans (en_tok E2).1.symm)
                                have O4 : PO (nOw (toks g37) 15 (g37 2 7).toNat) x43 g46 := qg46
                                rw [E3.1] at O4
                                rw [D3] at O4
                                have E4 : EN s0 g46 := EN_trans E3 (EN_fr rg46 (by decide) (by decide) (by decide))
                                obtain ⟨H4, W4⟩ := PO_1 O4 (by omega)
                                have O5 : PO (nNu (toks g46) 1 999 (g46 2 7).toNat) x54 g57 := (qg57 : PO _ _ _ ∧ _).1
                                rw [E4.1] at O5
                                have E5 : EN s0 g57 := EN_trans E4 (EN_fr rg57 (by decide) (by decide) (by decide))
                                obtain ⟨H5, W5⟩ := PO_1 O5 (by omega)
                                have E6 : EN s0 g69 := EN_trans E5 (by rw [eg69]; exact EN_st (by omega))
                                have D6 : g69 2 7 = g57 2 7 := by rw [eg69, zup_ne (Or.inl (by omega))]
                                have W6 : TW g69 := TW_fr W5 D6 (E6.2.2.trans E5.2.2.symm) ((en_tok E6).1.trans (en_tok E5).1.symm)
                                have O7 : PO (nOw (toks g69) 16 (g69 2 7).toNat) x75 g78 := qg78
                                rw [E6.1] at O7
                                rw [D6] at O7
                                have E7 : EN s0 g78 := EN_trans E6 (EN_fr rg78 (by decide) (by decide) (by decide))
                                obtain ⟨H7, W7⟩ := PO_1 O7 (by omega)
                                have O8 : PO (nNu (toks g78) 1 60 (g78 2 7).toNat) x86 g89 := (qg89 : PO _ _ _ ∧ _).1
                                rw [E7.1] at O8
                                have E8 : EN s0 g89 := EN_trans E7 (EN_fr rg89 (by decide) (by decide) (by decide))
                                obtain ⟨H8, W8⟩ := PO_1 O8 (by omega)
                                have E9 : EN s0 g101 := EN_trans E8 (by rw [eg101]; exact EN_st (by omega))
                                have D9 : g101 2 7 = g89 2 7 := by rw [eg101, zup_ne (Or.inl (by omega))]
                                have W9 : TW g101 := TW_fr W8 D9 (E9.2.2.trans E8.2.2.symm) ((en_tok E9).1.trans (en_tok E8).1.symm)
                                have O10 : PO (nOw (toks g101) 17 (g101 2 7).toNat) x107 g110 := qg110
                                rw [E9.1] at O10
                                rw [D9] at O10
                                have E10 : EN s0 g110 := EN_trans E9 (EN_fr rg110 (by decide) (by decide) (by decide))
                                obtain ⟨H10, W10⟩ := PO_1 O10 (by omega)
                                exact v_1292 W10
                              · skip
                                intro x118 hx1181 hx1182 g121 rg121 qg121
                                refine ⟨fun h123 => ?_, fun h123 => ?_⟩
                                · skip
                                  intro x125 ex125
                                  intro g133 eg133
                                  refine ⟨fun v g' => PO (nOw (toks g133) 8 (g133 2 7).toNat) v g', ?_, ?_⟩
                                  · skip
                                    have E0 : EN s0 s0 := EN_refl
                                    have W0 : TW s0 := ht
                                    have T1 : g15 = stp s0 := qg15
                                    obtain ⟨W1, D1, M1, F1⟩ := stp_ok W0 (by rw [hk]; decide) (by rw [hk]; decide) T1
                                    have E1 : EN s0 g15 := EN_trans E0 F1
                                    have O2 : PO (nNa (toks g15) (tknB g15 (g15 2 8).toNat) (g15 2 7).toNat) x22 g25 := (qg25 : PO _ _ _ ∧ _).1
                                    rw [E1.1] at O2
                                    rw [M1] at O2
                                    rw [stp_28 T1, ← eb1, Int.toNat_natCast, tknB_stp T1 (by omega)] at O2
                                    have E2 : EN s0 g25 := EN_trans E1 (EN_fr rg25 (by decide) (by decide) (by decide))
                                    obtain ⟨H2, W2⟩ := PO_1 O2 (by omega)
                                    have E3 : EN s0 g37 := EN_trans E2 (by rw [eg37]; exact EN_st (by omega))
                                    have D3 : g37 2 7 = g25 2 7 := by rw [eg37, zup_ne (Or.inl (by omega))]
                                    have W3 : TW g37 := TW_fr W2 D3 (E3.2.2.trans E2.2.2.symm) ((en_tok E3).1.trans (en_tok E2).1.symm)
                                    have O4 : PO (nOw (toks g37) 15 (g37 2 7).toNat) x43 g46 := qg46
                                    rw [E3.1] at O4
                                    rw [D3] at O4
                                    have E4 : EN s0 g46 := EN_trans E3 (EN_fr rg46 (by decide) (by decide) (by decide))
                                    obtain ⟨H4, W4⟩ := PO_1 O4 (by omega)
                                    have O5 : PO (nNu (toks g46) 1 999 (g46 2 7).toNat) x54 g57 := (qg57 : PO _ _ _ ∧ _).1
                                    rw [E4.1] at O5
                                    have E5 : EN s0 g57 := EN_trans E4 (EN_fr rg57 (by decide) (by decide) (by decide))
                                    obtain ⟨H5, W5⟩ := PO_1 O5 (by omega)
                                    have E6 : EN s0 g69 := EN_trans E5 (by rw [eg69]; exact EN_st (by omega))
                                    have D6 : g69 2 7 = g57 2 7 := by rw [eg69, zup_ne (Or.inl (by omega))]
                                    have W6 : TW g69 := TW_fr W5 D6 (E6.2.2.trans E5.2.2.symm) ((en_tok E6).1.trans (en_tok E5).1.symm)
                                    have O7 : PO (nOw (toks g69) 16 (g69 2 7).toNat) x75 g78 := qg78
                                    rw [E6.1] at O7
                                    rw [D6] at O7
                                    have E7 : EN s0 g78 := EN_trans E6 (EN_fr rg78 (by decide) (by decide) (by decide))
                                    obtain ⟨H7, W7⟩ := PO_1 O7 (by omega)
                                    have O8 : PO (nNu (toks g78) 1 60 (g78 2 7).toNat) x86 g89 := (qg89 : PO _ _ _ ∧ _).1
                                    rw [E7.1] at O8
                                    have E8 : EN s0 g89 := EN_trans E7 (EN_fr rg89 (by decide) (by decide) (by decide))
                                    obtain ⟨H8, W8⟩ := PO_1 O8 (by omega)
                                    have E9 : EN s0 g101 := EN_trans E8 (by rw [eg101]; exact EN_st (by omega))
                                    have D9 : g101 2 7 = g89 2 7 := by rw [eg101, zup_ne (Or.inl (by omega))]
                                    have W9 : TW g101 := TW_fr W8 D9 (E9.2.2.trans E8.2.2.symm) ((en_tok E9).1.trans (en_tok E8).1.symm)
                                    have O10 : PO (nOw (toks g101) 17 (g101 2 7).toNat) x107 g110 := qg110
                                    rw [E9.1] at O10
                                    rw [D9] at O10
                                    have E10 : EN s0 g110 := EN_trans E9 (EN_fr rg110 (by decide) (by decide) (by decide))
                                    obtain ⟨H10, W10⟩ := PO_1 O10 (by omega)
                                    have O11 : PO (nNu (toks g110) 1 999 (g110 2 7).toNat) x118 g121 := (qg121 : PO _ _ _ ∧ _).1
                                    rw [E10.1] at O11
                                    have E11 : EN s0 g121 := EN_trans E10 (EN_fr rg121 (by decide) (by decide) (by decide))
                                    obtain ⟨H11, W11⟩ := PO_1 O11 (by omega)
                                    have E12 : EN s0 g133 := EN_trans E11 (by rw [eg133]; exact EN_st (by omega))
                                    have D12 : g133 2 7 = g121 2 7 := by rw [eg133, zup_ne (Or.inl (by omega))]
                                    have W12 : TW g133 := TW_fr W11 D12 (E12.2.2.trans E11.2.2.symm) ((en_tok E12).1.trans (en_tok E11).1.symm)
                                    exact v_1291 (OWS_en hw E12) W12 (by decide)
                                  · skip
                                    intro x139 hx1391 hx1392 g142 rg142 qg142
                                    refine ⟨fun h144 => ?_, fun h144 => ?_⟩
                                    · skip
                                      refine ⟨fun v g' => PO (nNu (toks g142) 1 99 (g142 2 7).toNat) v g' ∧ (v = 1 → g' 2 10 = g142 5 (g142 2 7).toNat), ?_, ?_⟩
                                      · skip
                                        have E0 : EN s0 s0 := EN_refl
                                        have W0 : TW s0 := ht
                                        have T1 : g15 = stp s0 := qg15
                                        obtain ⟨W1, D1, M1, F1⟩ := stp_ok W0 (by rw [hk]; decide) (by rw [hk]; decide) T1
                                        have E1 : EN s0 g15 := EN_trans E0 F1
                                        have O2 : PO (nNa (toks g15) (tknB g15 (g15 2 8).toNat) (g15 2 7).toNat) x22 g25 := (qg25 : PO _ _ _ ∧ _).1
                                        rw [E1.1] at O2
                                        rw [M1] at O2
                                        rw [stp_28 T1, ← eb1, Int.toNat_natCast, tknB_stp T1 (by omega)] at O2
                                        have E2 : EN s0 g25 := EN_trans E1 (EN_fr rg25 (by decide) (by decide) (by decide))
                                        obtain ⟨H2, W2⟩ := PO_1 O2 (by omega)
                                        have E3 : EN s0 g37 := EN_trans E2 (by rw [eg37]; exact EN_st (by omega))
                                        have D3 : g37 2 7 = g25 2 7 := by rw [eg37, zup_ne (Or.inl (by omega))]
                                        have W3 : TW g37 := TW_fr W2 D3 (E3.2.2.trans E2.2.2.symm) ((en_tok E3).1.trans (en_tok E2).1.symm)
                                        have O4 : PO (nOw (toks g37) 15 (g37 2 7).toNat) x43 g46 := qg46
                                        rw [E3.1] at O4
                                        rw [D3] at O4
                                        have E4 : EN s0 g46 := EN_trans E3 (EN_fr rg46 (by decide) (by decide) (by decide))
                                        obtain ⟨H4, W4⟩ := PO_1 O4 (by omega)
                                        have O5 : PO (nNu (toks g46) 1 999 (g46 2 7).toNat) x54 g57 := (qg57 : PO _ _ _ ∧ _).1
                                        rw [E4.1] at O5
                                        have E5 : EN s0 g57 := EN_trans E4 (EN_fr rg57 (by decide) (by decide) (by decide))
                                        obtain ⟨H5, W5⟩ := PO_1 O5 (by omega)
                                        have E6 : EN s0 g69 := EN_trans E5 (by rw [eg69]; exact EN_st (by omega))
                                        have D6 : g69 2 7 = g57 2 7 := by rw [eg69, zup_ne (Or.inl (by omega))]
                                        have W6 : TW g69 := TW_fr W5 D6 (E6.2.2.trans E5.2.2.symm) ((en_tok E6).1.trans (en_tok E5).1.symm)
                                        have O7 : PO (nOw (toks g69) 16 (g69 2 7).toNat) x75 g78 := qg78
                                        rw [E6.1] at O7
                                        rw [D6] at O7
                                        have E7 : EN s0 g78 := EN_trans E6 (EN_fr rg78 (by decide) (by decide) (by decide))
                                        obtain ⟨H7, W7⟩ := PO_1 O7 (by omega)
                                        have O8 : PO (nNu (toks g78) 1 60 (g78 2 7).toNat) x86 g89 := (qg89 : PO _ _ _ ∧ _).1
                                        rw [E7.1] at O8
                                        have E8 : EN s0 g89 := EN_trans E7 (EN_fr rg89 (by decide) (by decide) (by decide))
                                        obtain ⟨H8, W8⟩ := PO_1 O8 (by omega)
                                        have E9 : EN s0 g101 := EN_trans E8 (by rw [eg101]; exact EN_st (by omega))
                                        have D9 : g101 2 7 = g89 2 7 := by rw [eg101, zup_ne (Or.inl (by omega))]
                                        have W9 : TW g101 := TW_fr W8 D9 (E9.2.2.trans E8.2.2.symm) ((en_tok E9).1.trans (en_tok E8).1.symm)
                                        have O10 : PO (nOw (toks g101) 17 (g101 2 7).toNat) x107 g110 := qg110
                                        rw [E9.1] at O10
                                        rw [D9] at O10
                                        have E10 : EN s0 g110 := EN_trans E9 (EN_fr rg110 (by decide) (by decide) (by decide))
                                        obtain ⟨H10, W10⟩ := PO_1 O10 (by omega)
                                        have O11 : PO (nNu (toks g110) 1 999 (g110 2 7).toNat) x118 g121 := (qg121 : PO _ _ _ ∧ _).1
                                        rw [E10.1] at O11
                                        have E11 : EN s0 g121 := EN_trans E10 (EN_fr rg121 (by decide) (by decide) (by decide))
                                        obtain ⟨H11, W11⟩ := PO_1 O11 (by omega)
                                        have E12 : EN s0 g133 := EN_trans E11 (by rw [eg133]; exact EN_st (by omega))
                                        have D12 : g133 2 7 = g121 2 7 := by rw [eg133, zup_ne (Or.inl (by omega))]
                                        have W12 : TW g133 := TW_fr W11 D12 (E12.2.2.trans E11.2.2.symm) ((en_tok E12).1.trans (en_tok E11).1.symm)
                                        have O13 : PO (nOw (toks g133) 8 (g133 2 7).toNat) x139 g142 := qg142
                                        rw [E12.1] at O13
                                        rw [D12] at O13
                                        have E13 : EN s0 g142 := EN_trans E12 (EN_fr rg142 (by decide) (by decide) (by decide))
                                        obtain ⟨H13, W13⟩ := PO_1 O13 (by omega)
                                        exact v_1292 W13
                                      · skip
                                        intro x150 hx1501 hx1502 g153 rg153 qg153
                                        refine ⟨fun h155 => ?_, fun h155 => ?_⟩
                                        · skip
                                          intro x157 ex157
                                          intro g165 eg165
                                          intro x168 ex168
                                          intro g174 eg174
                                          have E0 : EN s0 s0 := EN_refl
                                          have W0 : TW s0 := ht
                                          have T1 : g15 = stp s0 := qg15
                                          obtain ⟨W1, D1, M1, F1⟩ := stp_ok W0 (by rw [hk]; decide) (by rw [hk]; decide) T1
                                          have E1 : EN s0 g15 := EN_trans E0 F1
                                          have O2 : PO (nNa (toks g15) (tknB g15 (g15 2 8).toNat) (g15 2 7).toNat) x22 g25 := (qg25 : PO _ _ _ ∧ _).1
                                          rw [E1.1] at O2
                                          rw [M1] at O2
                                          rw [stp_28 T1, ← eb1, Int.toNat_natCast, tknB_stp T1 (by omega)] at O2
                                          have E2 : EN s0 g25 := EN_trans E1 (EN_fr rg25 (by decide) (by decide) (by decide))
                                          obtain ⟨H2, W2⟩ := PO_1 O2 (by omega)
                                          have E3 : EN s0 g37 := EN_trans E2 (by rw [eg37]; exact EN_st (by omega))
                                          have D3 : g37 2 7 = g25 2 7 := by rw [eg37, zup_ne (Or.inl (by omega))]
                                          have W3 : TW g37 := TW_fr W2 D3 (E3.2.2.trans E2.2.2.symm) ((en_tok E3).1.trans (en_tok E2).1.symm)
                                          have O4 : PO (nOw (toks g37) 15 (g37 2 7).toNat) x43 g46 := qg46
                                          rw [E3.1] at O4
                                          rw [D3] at O4
                                          have E4 : EN s0 g46 := EN_trans E3 (EN_fr rg46 (by decide) (by decide) (by decide))
                                          obtain ⟨H4, W4⟩ := PO_1 O4 (by omega)
                                          have O5 : PO (nNu (toks g46) 1 999 (g46 2 7).toNat) x54 g57 := (qg57 : PO _ _ _ ∧ _).1
                                          rw [E4.1] at O5
                                          have E5 : EN s0 g57 := EN_trans E4 (EN_fr rg57 (by decide) (by decide) (by decide))
                                          obtain ⟨H5, W5⟩ := PO_1 O5 (by omega)
                                          have E6 : EN s0 g69 := EN_trans E5 (by rw [eg69]; exact EN_st (by omega))
                                          have D6 : g69 2 7 = g57 2 7 := by rw [eg69, zup_ne (Or.inl (by omega))]
                                          have W6 : TW g69 := TW_fr W5 D6 (E6.2.2.trans E5.2.2.symm) ((en_tok E6).1.trans (en_tok E5).1.symm)
                                          have O7 : PO (nOw (toks g69) 16 (g69 2 7).toNat) x75 g78 := qg78
                                          rw [E6.1] at O7
                                          rw [D6] at O7
                                          have E7 : EN s0 g78 := EN_trans E6 (EN_fr rg78 (by decide) (by decide) (by decide))
                                          obtain ⟨H7, W7⟩ := PO_1 O7 (by omega)
                                          have O8 : PO (nNu (toks g78) 1 60 (g78 2 7).toNat) x86 g89 := (qg89 : PO _ _ _ ∧ _).1
                                          rw [E7.1] at O8
                                          have E8 : EN s0 g89 := EN_trans E7 (EN_fr rg89 (by decide) (by decide) (by decide))
                                          obtain ⟨H8, W8⟩ := PO_1 O8 (by omega)
                                          have E9 : EN s0 g101 := EN_trans E8 (by rw [eg101]; exact EN_st (by omega))
                                          have D9 : g101 2 7 = g89 2 7 := by rw [eg101, zup_ne (Or.inl (by omega))]
                                          have W9 : TW g101 := TW_fr W8 D9 (E9.2.2.trans E8.2.2.symm) ((en_tok E9).1.trans (en_tok E8).1.symm)
                                          have O10 : PO (nOw (toks g101) 17 (g101 2 7).toNat) x107 g110 := qg110
                                          rw [E9.1] at O10
                                          rw [D9] at O10
                                          have E10 : EN s0 g110 := EN_trans E9 (EN_fr rg110 (by decide) (by decide) (by decide))
                                          obtain ⟨H10, W10⟩ := PO_1 O10 (by omega)
                                          have O11 : PO (nNu (toks g110) 1 999 (g110 2 7).toNat) x118 g121 := (qg121 : PO _ _ _ ∧ _).1
                                          rw [E10.1] at O11
                                          have E11 : EN s0 g121 := EN_trans E10 (EN_fr rg121 (by decide) (by decide) (by decide))
                                          obtain ⟨H11, W11⟩ := PO_1 O11 (by omega)
                                          have E12 : EN s0 g133 := EN_trans E11 (by rw [eg133]; exact EN_st (by omega))
                                          have D12 : g133 2 7 = g121 2 7 := by rw [eg133, zup_ne (Or.inl (by omega))]
                                          have W12 : TW g133 := TW_fr W11 D12 (E12.2.2.trans E11.2.2.symm) ((en_tok E12).1.trans (en_tok E11).1.symm)
                                          have O13 : PO (nOw (toks g133) 8 (g133 2 7).toNat) x139 g142 := qg142
                                          rw [E12.1] at O13
                                          rw [D12] at O13
                                          have E13 : EN s0 g142 := EN_trans E12 (EN_fr rg142 (by decide) (by decide) (by decide))
                                          obtain ⟨H13, W13⟩ := PO_1 O13 (by omega)
                                          have O14 : PO (nNu (toks g142) 1 99 (g142 2 7).toNat) x150 g153 := (qg153 : PO _ _ _ ∧ _).1
                                          rw [E13.1] at O14
                                          have E14 : EN s0 g153 := EN_trans E13 (EN_fr rg153 (by decide) (by decide) (by decide))
                                          obtain ⟨H14, W14⟩ := PO_1 O14 (by omega)
                                          have E15 : EN s0 g165 := EN_trans E14 (by rw [eg165]; exact EN_st (by omega))
                                          have D15 : g165 2 7 = g153 2 7 := by rw [eg165, zup_ne (Or.inl (by omega))]
                                          have W15 : TW g165 := TW_fr W14 D15 (E15.2.2.trans E14.2.2.symm) ((en_tok E15).1.trans (en_tok E14).1.symm)
                                          have E16 : EN s0 g174 := EN_trans E15 (by rw [eg174]; exact EN_st (by omega))
                                          have D16 : g174 2 7 = g165 2 7 := by rw [eg174, zup_ne (Or.inl (by omega))]
                                          have W16 : TW g174 := TW_fr W15 D16 (E16.2.2.trans E15.2.2.symm) ((en_tok E16).1.trans (en_tok E15).1.symm)
                                          have L1 : g15 (b1 + 7) = s0 (b1 + 7) := stp_na T1 (by omega)
                                          have N1 : g15 b1 2 = s0 b1 2 := congrFun (stp_na T1 (by omega)) 2
                                          have L2 : g25 (b1 + 7) = g15 (b1 + 7) := by
                                            rcases fb1 with z | z <;> (subst z; exact rg25.a (by decide))
                                          have N2 : g25 b1 2 = g15 b1 2 := by
                                            rcases fb1 with z | z <;> (subst z; exact rg25.s (by decide))
                                          have L3 : ∀ k, k ≠ x5.toNat → g37 (b1 + 7) k = g25 (b1 + 7) k := fun k hk2 => by rw [eg37, zup_ne (Or.inr hk2)]
                                          have V3 : g37 (b1 + 7) x5.toNat = x29 := by rw [eg37, zup_eq]
                                          have N3 : g37 b1 2 = g25 b1 2 := by rw [eg37, zup_ne (Or.inl (by omega))]
                                          have L4 : g46 (b1 + 7) = g37 (b1 + 7) := by
                                            rcases fb1 with z | z <;> (subst z; exact rg46.a (by decide))
                                          have N4 : g46 b1 2 = g37 b1 2 := by
                                            rcases fb1 with z | z <;> (subst z; exact rg46.s (by decide))
                                          have L5 : g57 (b1 + 7) = g46 (b1 + 7) := by
                                            rcases fb1 with z | z <;> (subst z; exact rg57.a (by decide))
                                          have N5 : g57 b1 2 = g46 b1 2 := by
                                            rcases fb1 with z | z <;> (subst z; exact rg57.s (by decide))
                                          have L6 : g69 (b1 + 7) = g57 (b1 + 7) := by rw [eg69, zup_na (by omega)]
                                          have N6 : g69 b1 2 = g57 b1 2 := by rw [eg69, zup_ne (Or.inl (by omega))]
                                          have L7 : g78 (b1 + 7) = g69 (b1 + 7) := by
                                            rcases fb1 with z | z <;> (subst z; exact rg78.a (by decide))
                                          have N7 : g78 b1 2 = g69 b1 2 := by
                                            rcases fb1 with z | z <;> (subst z; exact rg78.s (by decide))
                                          have L8 : g89 (b1 + 7) = g78 (b1 + 7) := by
                                            rcases fb1 with z | z <;> (subst z; exact rg89.a (by decide))
                                          have N8 : g89 b1 2 = g78 b1 2 := by
                                            rcases fb1 with z | z <;> (subst z; exact rg89.s (by decide))
                                          have L9 : g101 (b1 + 7) = g89 (b1 + 7) := by rw [eg101, zup_na (by omega)]
                                          have N9 : g101 b1 2 = g89 b1 2 := by rw [eg101, zup_ne (Or.inl (by omega))]
                                          have L10 : g110 (b1 + 7) = g101 (b1 + 7) := by
                                            rcases fb1 with z | z <;> (subst z; exact rg110.a (by decide))
                                          have N10 : g110 b1 2 = g101 b1 2 := by
                                            rcases fb1 with z | z <;> (subst z; exact rg110.s (by decide))
                                          have L11 : g121 (b1 + 7) = g110 (b1 + 7) := by
                                            rcases fb1 with z | z <;> (subst z; exact rg121.a (by decide))
                                          have N11 : g121 b1 2 = g110 b1 2 := by
                                            rcases fb1 with z | z <;> (subst z; exact rg121.s (by decide))
                                          have L12 : g133 (b1 + 7) = g121 (b1 + 7) := by rw [eg133, zup_na (by omega)]
                                          have N12 : g133 b1 2 = g121 b1 2 := by rw [eg133, zup_ne (Or.inl (by omega))]
                                          have L13 : g142 (b1 + 7) = g133 (b1 + 7) := by
                                            rcases fb1 with z | z <;> (subst z; exact rg142.a (by decide))
                                          have N13 : g142 b1 2 = g133 b1 2 := by
                                            rcases fb1 with z | z <;> (subst z; exact rg142.s (by decide))
                                          have L14 : g153 (b1 + 7) = g142 (b1 + 7) := by
                                            rcases fb1 with z | z <;> (subst z; exact rg153.a (by decide))
                                          have N14 : g153 b1 2 = g142 b1 2 := by
                                            rcases fb1 with z | z <;> (subst z; exact rg153.s (by decide))
                                          have L15 : g165 (b1 + 7) = g153 (b1 + 7) := by rw [eg165, zup_na (by omega)]
                                          have N15 : g165 b1 2 = g153 b1 2 := by rw [eg165, zup_ne (Or.inl (by omega))]
                                          have L16 : g174 (b1 + 7) = g165 (b1 + 7) := by rw [eg174, zup_na (by omega)]
                                          have N16 : g174 b1 2 = x168 := by rw [eg174, zup_eq]
                                          have hnm : x29 = s0 5 ((s0 2 7).toNat + 1) := by
                                            have w := (qg25 : _ ∧ _).2 (by omega)
                                            rw [M1, (en_tok E1).2.1] at w
                                            rw [ex29]
                                            exact w
                                          have new : NEWN s0 g174 b1 2 7 (s0 2 7).toNat := by
                                            refine ⟨?_, ?_, fun k hk2 => ?_⟩
                                            · rw [N16]
                                              omega
                                            · rw [← ex5, L16, L15, L14, L13, L12, L11, L10, L9, L8, L7, L6, L5, L4]
                                              exact V3.trans hnm
                                            · rw [← ex5] at hk2
                                              rw [L16, L15, L14, L13, L12, L11, L10, L9, L8, L7, L6, L5, L4, L3 k hk2, L2, L1]
                                          have key : spDream (toks s0) (tknB s0 b1) (s0 2 7).toNat = .inl (g153 2 7).toNat := by
                                            unfold spDream
                                            rw [H2, zbd_l, H4, zbd_l, H5, zbd_l, H7, zbd_l, H8, zbd_l, H10, zbd_l, H11, zbd_l, H13, zbd_l, H14]
                                          refine ⟨b1, eb1, Or.inr ⟨by omega, Or.inl ⟨rfl, ?_, W16⟩, fun _ => new⟩⟩
                                          rw [key, D16, D15]
                                        · skip
                                          have E0 : EN s0 s0 := EN_refl
                                          have W0 : TW s0 := ht
                                          have T1 : g15 = stp s0 := qg15
                                          obtain ⟨W1, D1, M1, F1⟩ := stp_ok W0 (by rw [hk]; decide) (by rw [hk]; decide) T1
                                          have E1 : EN s0 g15 := EN_trans E0 F1
                                          have O2 : PO (nNa (toks g15) (tknB g15 (g15 2 8).toNat) (g15 2 7).toNat) x22 g25 := (qg25 : PO _ _ _ ∧ _).1
                                          rw [E1.1] at O2
                                          rw [M1] at O2
                                          rw [stp_28 T1, ← eb1, Int.toNat_natCast, tknB_stp T1 (by omega)] at O2
                                          have E2 : EN s0 g25 := EN_trans E1 (EN_fr rg25 (by decide) (by decide) (by decide))
                                          obtain ⟨H2, W2⟩ := PO_1 O2 (by omega)
                                          have E3 : EN s0 g37 := EN_trans E2 (by rw [eg37]; exact EN_st (by omega))
                                          have D3 : g37 2 7 = g25 2 7 := by rw [eg37, zup_ne (Or.inl (by omega))]
                                          have W3 : TW g37 := TW_fr W2 D3 (E3.2.2.trans E2.2.2.symm) ((en_tok E3).1.trans (en_tok E2).1.symm)
                                          have O4 : PO (nOw (toks g37) 15 (g37 2 7).toNat) x43 g46 := qg46
                                          rw [E3.1] at O4
                                          rw [D3] at O4
                                          have E4 : EN s0 g46 := EN_trans E3 (EN_fr rg46 (by decide) (by decide) (by decide))
                                          obtain ⟨H4, W4⟩ := PO_1 O4 (by omega)
                                          have O5 : PO (nNu (toks g46) 1 999 (g46 2 7).toNat) x54 g57 := (qg57 : PO _ _ _ ∧ _).1
                                          rw [E4.1] at O5
                                          have E5 : EN s0 g57 := EN_trans E4 (EN_fr rg57 (by decide) (by decide) (by decide))
                                          obtain ⟨H5, W5⟩ := PO_1 O5 (by omega)
                                          have E6 : EN s0 g69 := EN_trans E5 (by rw [eg69]; exact EN_st (by omega))
                                          have D6 : g69 2 7 = g57 2 7 := by rw [eg69, zup_ne (Or.inl (by omega))]
                                          have W6 : TW g69 := TW_fr W5 D6 (E6.2.2.trans E5.2.2.symm) ((en_tok E6).1.trans (en_tok E5).1.symm)
                                          have O7 : PO (nOw (toks g69) 16 (g69 2 7).toNat) x75 g78 := qg78
                                          rw [E6.1] at O7
                                          rw [D6] at O7
                                          have E7 : EN s0 g78 := EN_trans E6 (EN_fr rg78 (by decide) (by decide) (by decide))
                                          obtain ⟨H7, W7⟩ := PO_1 O7 (by omega)
                                          have O8 : PO (nNu (toks g78) 1 60 (g78 2 7).toNat) x86 g89 := (qg89 : PO _ _ _ ∧ _).1
                                          rw [E7.1] at O8
                                          have E8 : EN s0 g89 := EN_trans E7 (EN_fr rg89 (by decide) (by decide) (by decide))
                                          obtain ⟨H8, W8⟩ := PO_1 O8 (by omega)
                                          have E9 : EN s0 g101 := EN_trans E8 (by rw [eg101]; exact EN_st (by omega))
                                          have D9 : g101 2 7 = g89 2 7 := by rw [eg101, zup_ne (Or.inl (by omega))]
                                          have W9 : TW g101 := TW_fr W8 D9 (E9.2.2.trans E8.2.2.symm) ((en_tok E9).1.trans (en_tok E8).1.symm)
                                          have O10 : PO (nOw (toks g101) 17 (g101 2 7).toNat) x107 g110 := qg110
                                          rw [E9.1] at O10
                                          rw [D9] at O10
                                          have E10 : EN s0 g110 := EN_trans E9 (EN_fr rg110 (by decide) (by decide) (by decide))
                                          obtain ⟨H10, W10⟩ := PO_1 O10 (by omega)
                                          have O11 : PO (nNu (toks g110) 1 999 (g110 2 7).toNat) x118 g121 := (qg121 : PO _ _ _ ∧ _).1
                                          rw [E10.1] at O11
                                          have E11 : EN s0 g121 := EN_trans E10 (EN_fr rg121 (by decide) (by decide) (by decide))
                                          obtain ⟨H11, W11⟩ := PO_1 O11 (by omega)
                                          have E12 : EN s0 g133 := EN_trans E11 (by rw [eg133]; exact EN_st (by omega))
                                          have D12 : g133 2 7 = g121 2 7 := by rw [eg133, zup_ne (Or.inl (by omega))]
                                          have W12 : TW g133 := TW_fr W11 D12 (E12.2.2.trans E11.2.2.symm) ((en_tok E12).1.trans (en_tok E11).1.symm)
                                          have O13 : PO (nOw (toks g133) 8 (g133 2 7).toNat) x139 g142 := qg142
                                          rw [E12.1] at O13
                                          rw [D12] at O13
                                          have E13 : EN s0 g142 := EN_trans E12 (EN_fr rg142 (by decide) (by decide) (by decide))
                                          obtain ⟨H13, W13⟩ := PO_1 O13 (by omega)
                                          have O14 : PO (nNu (toks g142) 1 99 (g142 2 7).toNat) x150 g153 := (qg153 : PO _ _ _ ∧ _).1
                                          rw [E13.1] at O14
                                          have E14 : EN s0 g153 := EN_trans E13 (EN_fr rg153 (by decide) (by decide) (by decide))
                                          have H14 := PO_0 O14 (by omega)
                                          have key : spDream (toks s0) (tknB s0 b1) (s0 2 7).toNat = .inr (g153 2 0, g153 2 1) := by
                                            unfold spDream
                                            rw [H2, zbd_l, H4, zbd_l, H5, zbd_l, H7, zbd_l, H8, zbd_l, H10, zbd_l, H11, zbd_l, H13, zbd_l, H14]
                                            all_goals rfl
                                          exact ⟨b1, eb1, Or.inr ⟨by omega, Or.inr ⟨rfl, key⟩, fun z => absurd z (by decide)⟩⟩
                                    · skip
                                      have E0 : EN s0 s0 := EN_refl
                                      have W0 : TW s0 := ht
                                      have T1 : g15 = stp s0 := qg15
                                      obtain ⟨W1, D1, M1, F1⟩ := stp_ok W0 (by rw [hk]; decide) (by rw [hk]; decide) T1
                                      have E1 : EN s0 g15 := EN_trans E0 F1
                                      have O2 : PO (nNa (toks g15) (tknB g15 (g15 2 8).toNat) (g15 2 7).toNat) x22 g25 := (qg25 : PO _ _ _ ∧ _).1
                                      rw [E1.1] at O2
                                      rw [M1] at O2
                                      rw [stp_28 T1, ← eb1, Int.toNat_natCast, tknB_stp T1 (by omega)] at O2
                                      have E2 : EN s0 g25 := EN_trans E1 (EN_fr rg25 (by decide) (by decide) (by decide))
                                      obtain ⟨H2, W2⟩ := PO_1 O2 (by omega)
                                      have E3 : EN s0 g37 := EN_trans E2 (by rw [eg37]; exact EN_st (by omega))
                                      have D3 : g37 2 7 = g25 2 7 := by rw [eg37, zup_ne (Or.inl (by omega))]
                                      have W3 : TW g37 := TW_fr W2 D3 (E3.2.2.trans E2.2.2.symm) ((en_tok E3).1.trans (en_tok E2).1.symm)
                                      have O4 : PO (nOw (toks g37) 15 (g37 2 7).toNat) x43 g46 := qg46
                                      rw [E3.1] at O4
                                      rw [D3] at O4
                                      have E4 : EN s0 g46 := EN_trans E3 (EN_fr rg46 (by decide) (by decide) (by decide))
                                      obtain ⟨H4, W4⟩ := PO_1 O4 (by omega)
                                      have O5 : PO (nNu (toks g46) 1 999 (g46 2 7).toNat) x54 g57 := (qg57 : PO _ _ _ ∧ _).1
                                      rw [E4.1] at O5
                                      have E5 : EN s0 g57 := EN_trans E4 (EN_fr rg57 (by decide) (by decide) (by decide))
                                      obtain ⟨H5, W5⟩ := PO_1 O5 (by omega)
                                      have E6 : EN s0 g69 := EN_trans E5 (by rw [eg69]; exact EN_st (by omega))
                                      have D6 : g69 2 7 = g57 2 7 := by rw [eg69, zup_ne (Or.inl (by omega))]
                                      have W6 : TW g69 := TW_fr W5 D6 (E6.2.2.trans E5.2.2.symm) ((en_tok E6).1.trans (en_tok E5).1.symm)
                                      have O7 : PO (nOw (toks g69) 16 (g69 2 7).toNat) x75 g78 := qg78
                                      rw [E6.1] at O7
                                      rw [D6] at O7
                                      have E7 : EN s0 g78 := EN_trans E6 (EN_fr rg78 (by decide) (by decide) (by decide))
                                      obtain ⟨H7, W7⟩ := PO_1 O7 (by omega)
                                      have O8 : PO (nNu (toks g78) 1 60 (g78 2 7).toNat) x86 g89 := (qg89 : PO _ _ _ ∧ _).1
                                      rw [E7.1] at O8
                                      have E8 : EN s0 g89 := EN_trans E7 (EN_fr rg89 (by decide) (by decide) (by decide))
                                      obtain ⟨H8, W8⟩ := PO_1 O8 (by omega)
                                      have E9 : EN s0 g101 := EN_trans E8 (by rw [eg101]; exact EN_st (by omega))
                                      have D9 : g101 2 7 = g89 2 7 := by rw [eg101, zup_ne (Or.inl (by omega))]
                                      have W9 : TW g101 := TW_fr W8 D9 (E9.2.2.trans E8.2.2.symm) ((en_tok E9).1.trans (en_tok E8).1.symm)
                                      have O10 : PO (nOw (toks g101) 17 (g101 2 7).toNat) x107 g110 := qg110
                                      rw [E9.1] at O10
                                      rw [D9] at O10
                                      have E10 : EN s0 g110 := EN_trans E9 (EN_fr rg110 (by decide) (by decide) (by decide))
                                      obtain ⟨H10, W10⟩ := PO_1 O10 (by omega)
                                      have O11 : PO (nNu (toks g110) 1 999 (g110 2 7).toNat) x118 g121 := (qg121 : PO _ _ _ ∧ _).1
                                      rw [E10.1] at O11
                                      have E11 : EN s0 g121 := EN_trans E10 (EN_fr rg121 (by decide) (by decide) (by decide))
                                      obtain ⟨H11, W11⟩ := PO_1 O11 (by omega)
                                      have E12 : EN s0 g133 := EN_trans E11 (by rw [eg133]; exact EN_st (by omega))
                                      have D12 : g133 2 7 = g121 2 7 := by rw [eg133, zup_ne (Or.inl (by omega))]
                                      have W12 : TW g133 := TW_fr W11 D12 (E12.2.2.trans E11.2.2.symm) ((en_tok E12).1.trans (en_tok E11).1.symm)
                                      have O13 : PO (nOw (toks g133) 8 (g133 2 7).toNat) x139 g142 := qg142
                                      rw [E12.1] at O13
                                      rw [D12] at O13
                                      have E13 : EN s0 g142 := EN_trans E12 (EN_fr rg142 (by decide) (by decide) (by decide))
                                      have H13 := PO_0 O13 (by omega)
                                      have key : spDream (toks s0) (tknB s0 b1) (s0 2 7).toNat = .inr (g142 2 0, g142 2 1) := by
                                        unfold spDream
                                        rw [H2, zbd_l, H4, zbd_l, H5, zbd_l, H7, zbd_l, H8, zbd_l, H10, zbd_l, H11, zbd_l, H13]
                                        all_goals rfl
                                      exact ⟨b1, eb1, Or.inr ⟨by omega, Or.inr ⟨rfl, key⟩, fun z => absurd z (by decide)⟩⟩
                                · skip
                                  have E0 : EN s0 s0 := EN_refl
                                  have W0 : TW s0 := ht
                                  have T1 : g15 = stp s0 := qg15
                                  obtain ⟨W1, D1, M1, F1⟩ := stp_ok W0 (by rw [hk]; decide) (by rw [hk]; decide) T1
                                  have E1 : EN s0 g15 := EN_trans E0 F1
                                  have O2 : PO (nNa (toks g15) (tknB g15 (g15 2 8).toNat) (g15 2 7).toNat) x22 g25 := (qg25 : PO _ _ _ ∧ _).1
                                  rw [E1.1] at O2
                                  rw [M1] at O2
                                  rw [stp_28 T1, ← eb1, Int.toNat_natCast, tknB_stp T1 (by omega)] at O2
                                  have E2 : EN s0 g25 := EN_trans E1 (EN_fr rg25 (by decide) (by decide) (by decide))
                                  obtain ⟨H2, W2⟩ := PO_1 O2 (by omega)
                                  have E3 : EN s0 g37 := EN_trans E2 (by rw [eg37]; exact EN_st (by omega))
                                  have D3 : g37 2 7 = g25 2 7 := by rw [eg37, zup_ne (Or.inl (by omega))]
                                  have W3 : TW g37 := TW_fr W2 D3 (E3.2.2.trans E2.2.2.symm) ((en_tok E3).1.trans (en_tok E2).1.symm)
                                  have O4 : PO (nOw (toks g37) 15 (g37 2 7).toNat) x43 g46 := qg46
                                  rw [E3.1] at O4
                                  rw [D3] at O4
                                  have E4 : EN s0 g46 := EN_trans E3 (EN_fr rg46 (by decide) (by decide) (by decide))
                                  obtain ⟨H4, W4⟩ := PO_1 O4 (by omega)
                                  have O5 : PO (nNu (toks g46) 1 999 (g46 2 7).toNat) x54 g57 := (qg57 : PO _ _ _ ∧ _).1
                                  rw [E4.1] at O5
                                  have E5 : EN s0 g57 := EN_trans E4 (EN_fr rg57 (by decide) (by decide) (by decide))
                                  obtain ⟨H5, W5⟩ := PO_1 O5 (by omega)
                                  have E6 : EN s0 g69 := EN_trans E5 (by rw [eg69]; exact EN_st (by omega))
                                  have D6 : g69 2 7 = g57 2 7 := by rw [eg69, zup_ne (Or.inl (by omega))]
                                  have W6 : TW g69 := TW_fr W5 D6 (E6.2.2.trans E5.2.2.symm) ((en_tok E6).1.trans (en_tok E5).1.symm)
                                  have O7 : PO (nOw (toks g69) 16 (g69 2 7).toNat) x75 g78 := qg78
                                  rw [E6.1] at O7
                                  rw [D6] at O7
                                  have E7 : EN s0 g78 := EN_trans E6 (EN_fr rg78 (by decide) (by decide) (by decide))
                                  obtain ⟨H7, W7⟩ := PO_1 O7 (by omega)
                                  have O8 : PO (nNu (toks g78) 1 60 (g78 2 7).toNat) x86 g89 := (qg89 : PO _ _ _ ∧ _).1
                                  rw [E7.1] at O8
                                  have E8 : EN s0 g89 := EN_trans E7 (EN_fr rg89 (by decide) (by decide) (by decide))
                                  obtain ⟨H8, W8⟩ := PO_1 O8 (by omega)
                                  have E9 : EN s0 g101 := EN_trans E8 (by rw [eg101]; exact EN_st (by omega))
                                  have D9 : g101 2 7 = g89 2 7 := by rw [eg101, zup_ne (Or.inl (by omega))]
                                  have W9 : TW g101 := TW_fr W8 D9 (E9.2.2.trans E8.2.2.symm) ((en_tok E9).1.trans (en_tok E8).1.symm)
                                  have O10 : PO (nOw (toks g101) 17 (g101 2 7).toNat) x107 g110 := qg110
                                  rw [E9.1] at O10
                                  rw [D9] at O10
                                  have E10 : EN s0 g110 := EN_trans E9 (EN_fr rg110 (by decide) (by decide) (by decide))
                                  obtain ⟨H10, W10⟩ := PO_1 O10 (by omega)
                                  have O11 : PO (nNu (toks g110) 1 999 (g110 2 7).toNat) x118 g121 := (qg121 : PO _ _ _ ∧ _).1
                                  rw [E10.1] at O11
                                  have E11 : EN s0 g121 := EN_trans E10 (EN_fr rg121 (by decide) (by decide) (by decide))
                                  have H11 := PO_0 O11 (by omega)
                                  have key : spDream (toks s0) (tknB s0 b1) (s0 2 7).toNat = .inr (g121 2 0, g121 2 1) := by
                                    unfold spDream
                                    rw [H2, zbd_l, H4, zbd_l, H5, zbd_l, H7, zbd_l, H8, zbd_l, H10, zbd_l, H11]
                                    all_goals rfl
                                  exact ⟨b1, eb1, Or.inr ⟨by omega, Or.inr ⟨rfl, key⟩, fun z => absurd z (by decide)⟩⟩
                            · skip
                              have E0 : EN s0 s0 := EN_refl
                              have W0 : TW s0 := ht
                              have T1 : g15 = stp s0 := qg15
                              obtain ⟨W1, D1, M1, F1⟩ := stp_ok W0 (by rw [hk]; decide) (by rw [hk]; decide) T1
                              have E1 : EN s0 g15 := EN_trans E0 F1
                              have O2 : PO (nNa (toks g15) (tknB g15 (g15 2 8).toNat) (g15 2 7).toNat) x22 g25 := (qg25 : PO _ _ _ ∧ _).1
                              rw [E1.1] at O2
                              rw [M1] at O2
                              rw [stp_28 T1, ← eb1, Int.toNat_natCast, tknB_stp T1 (by omega)] at O2
                              have E2 : EN s0 g25 := EN_trans E1 (EN_fr rg25 (by decide) (by decide) (by decide))
                              obtain ⟨H2, W2⟩ := PO_1 O2 (by omega)
                              have E3 : EN s0 g37 := EN_trans E2 (by rw [eg37]; exact EN_st (by omega))
                              have D3 : g37 2 7 = g25 2 7 := by rw [eg37, zup_ne (Or.inl (by omega))]
                              have W3 : TW g37 := TW_fr W2 D3 (E3.2.2.trans E2.2.2.symm) ((en_tok E3).1.trans (en_tok E2).1.symm)
                              have O4 : PO (nOw (toks g37) 15 (g37 2 7).toNat) x43 g46 := qg46
                              rw [E3.1] at O4
                              rw [D3] at O4
                              have E4 : EN s0 g46 := EN_trans E3 (EN_fr rg46 (by decide) (by decide) (by decide))
                              obtain ⟨H4, W4⟩ := PO_1 O4 (by omega)
                              have O5 : PO (nNu (toks g46) 1 999 (g46 2 7).toNat) x54 g57 := (qg57 : PO _ _ _ ∧ _).1
                              rw [E4.1] at O5
                              have E5 : EN s0 g57 := EN_trans E4 (EN_fr rg57 (by decide) (by decide) (by decide))
                              obtain ⟨H5, W5⟩ := PO_1 O5 (by omega)
                              have E6 : EN s0 g69 := EN_trans E5 (by rw [eg69]; exact EN_st (by omega))
                              have D6 : g69 2 7 = g57 2 7 := by rw [eg69, zup_ne (Or.inl (by omega))]
                              have W6 : TW g69 := TW_fr W5 D6 (E6.2.2.trans E5.2.2.symm) ((en_tok E6).1.trans (en_tok E5).1.symm)
                              have O7 : PO (nOw (toks g69) 16 (g69 2 7).toNat) x75 g78 := qg78
                              rw [E6.1] at O7
                              rw [D6] at O7
                              have E7 : EN s0 g78 := EN_trans E6 (EN_fr rg78 (by decide) (by decide) (by decide))
                              obtain ⟨H7, W7⟩ := PO_1 O7 (by omega)
                              have O8 : PO (nNu (toks g78) 1 60 (g78 2 7).toNat) x86 g89 := (qg89 : PO _ _ _ ∧ _).1
                              rw [E7.1] at O8
                              have E8 : EN s0 g89 := EN_trans E7 (EN_fr rg89 (by decide) (by decide) (by decide))
                              obtain ⟨H8, W8⟩ := PO_1 O8 (by omega)
                              have E9 : EN s0 g101 := EN_trans E8 (by rw [eg101]; exact EN_st (by omega))
                              have D9 : g101 2 7 = g89 2 7 := by rw [eg101, zup_ne (Or.inl (by omega))]
                              have W9 : TW g101 := TW_fr W8 D9 (E9.2.2.trans E8.2.2.symm) ((en_tok E9).1.trans (en_tok E8).1.symm)
                              have O10 : PO (nOw (toks g101) 17 (g101 2 7).toNat) x107 g110 := qg110
                              rw [E9.1] at O10
                              rw [D9] at O10
                              have E10 : EN s0 g110 := EN_trans E9 (EN_fr rg110 (by decide) (by decide) (by decide))
                              have H10 := PO_0 O10 (by omega)
                              have key : spDream (toks s0) (tknB s0 b1) (s0 2 7).toNat = .inr (g110 2 0, g110 2 1) := by
                                unfold spDream
                                rw [H2, zbd_l, H4, zbd_l, H5, zbd_l, H7, zbd_l, H8, zbd_l, H10]
                                all_goals rfl
                              exact ⟨b1, eb1, Or.inr ⟨by omega, Or.inr ⟨rfl, key⟩, fun z => absurd z (by decide)⟩⟩
                        · skip
                          have E0 : EN s0 s0 := EN_refl
                          have W0 : TW s0 := ht
                          have T1 : g15 = stp s0 := qg15
                          obtain ⟨W1, D1, M1, F1⟩ := stp_ok W0 (by rw [hk]; decide) (by rw [hk]; decide) T1
                          have E1 : EN s0 g15 := EN_trans E0 F1
                          have O2 : PO (nNa (toks g15) (tknB g15 (g15 2 8).toNat) (g15 2 7).toNat) x22 g25 := (qg25 : PO _ _ _ ∧ _).1
                          rw [E1.1] at O2
                          rw [M1] at O2
                          rw [stp_28 T1, ← eb1, Int.toNat_natCast, tknB_stp T1 (by omega)] at O2
                          have E2 : EN s0 g25 := EN_trans E1 (EN_fr rg25 (by decide) (by decide) (by decide))
                          obtain ⟨H2, W2⟩ := PO_1 O2 (by omega)
                          have E3 : EN s0 g37 := EN_trans E2 (by rw [eg37]; exact EN_st (by omega))
                          have D3 : g37 2 7 = g25 2 7 := by rw [eg37, zup_ne (Or.inl (by omega))]
                          have W3 : TW g37 := TW_fr W2 D3 (E3.2.2.trans E2.2.2.symm) ((en_tok E3).1.trans (en_tok E2).1.symm)
                          have O4 : PO (nOw (toks g37) 15 (g37 2 7).toNat) x43 g46 := qg46
                          rw [E3.1] at O4
                          rw [D3] at O4
                          have E4 : EN s0 g46 := EN_trans E3 (EN_fr rg46 (by decide) (by decide) (by decide))
                          obtain ⟨H4, W4⟩ := PO_1 O4 (by omega)
                          have O5 : PO (nNu (toks g46) 1 999 (g46 2 7).toNat) x54 g57 := (qg57 : PO _ _ _ ∧ _).1
                          rw [E4.1] at O5
                          have E5 : EN s0 g57 := EN_trans E4 (EN_fr rg57 (by decide) (by decide) (by decide))
                          obtain ⟨H5, W5⟩ := PO_1 O5 (by omega)
                          have E6 : EN s0 g69 := EN_trans E5 (by rw [eg69]; exact EN_st (by omega))
                          have D6 : g69 2 7 = g57 2 7 := by rw [eg69, zup_ne (Or.inl (by omega))]
                          have W6 : TW g69 := TW_fr W5 D6 (E6.2.2.trans E5.2.2.symm) ((en_tok E6).1.trans (en_tok E5).1.symm)
                          have O7 : PO (nOw (toks g69) 16 (g69 2 7).toNat) x75 g78 := qg78
                          rw [E6.1] at O7
                          rw [D6] at O7
                          have E7 : EN s0 g78 := EN_trans E6 (EN_fr rg78 (by decide) (by decide) (by decide))
                          obtain ⟨H7, W7⟩ := PO_1 O7 (by omega)
                          have O8 : PO (nNu (toks g78) 1 60 (g78 2 7).toNat) x86 g89 := (qg89 : PO _ _ _ ∧ _).1
                          rw [E7.1] at O8
                          have E8 : EN s0 g89 := EN_trans E7 (EN_fr rg89 (by decide) (by decide) (by decide))
                          have H8 := PO_0 O8 (by omega)
                          have key : spDream (toks s0) (tknB s0 b1) (s0 2 7).toNat = .inr (g89 2 0, g89 2 1) := by
                            unfold spDream
                            rw [H2, zbd_l, H4, zbd_l, H5, zbd_l, H7, zbd_l, H8]
                            all_goals rfl
                          exact ⟨b1, eb1, Or.inr ⟨by omega, Or.inr ⟨rfl, key⟩, fun z => absurd z (by decide)⟩⟩
                    · skip
                      have E0 : EN s0 s0 := EN_refl
                      have W0 : TW s0 := ht
                      have T1 : g15 = stp s0 := qg15
                      obtain ⟨W1, D1, M1, F1⟩ := stp_ok W0 (by rw [hk]; decide) (by rw [hk]; decide) T1
                      have E1 : EN s0 g15 := EN_trans E0 F1
                      have O2 : PO (nNa (toks g15) (tknB g15 (g15 2 8).toNat) (g15 2 7).toNat) x22 g25 := (qg25 : PO _ _ _ ∧ _).1
                      rw [E1.1] at O2
                      rw [M1] at O2
                      rw [stp_28 T1, ← eb1, Int.toNat_natCast, tknB_stp T1 (by omega)] at O2
                      have E2 : EN s0 g25 := EN_trans E1 (EN_fr rg25 (by decide) (by decide) (by decide))
                      obtain ⟨H2, W2⟩ := PO_1 O2 (by omega)
                      have E3 : EN s0 g37 := EN_trans E2 (by rw [eg37]; exact EN_st (by omega))
                      have D3 : g37 2 7 = g25 2 7 := by rw [eg37, zup_ne (Or.inl (by omega))]
                      have W3 : TW g37 := TW_fr W2 D3 (E3.2.2.trans E2.2.2.symm) ((en_tok E3).1.trans (en_tok E2).1.symm)
                      have O4 : PO (nOw (toks g37) 15 (g37 2 7).toNat) x43 g46 := qg46
                      rw [E3.1] at O4
                      rw [D3] at O4
                      have E4 : EN s0 g46 := EN_trans E3 (EN_fr rg46 (by decide) (by decide) (by decide))
                      obtain ⟨H4, W4⟩ := PO_1 O4 (by omega)
                      have O5 : PO (nNu (toks g46) 1 999 (g46 2 7).toNat) x54 g57 := (qg57 : PO _ _ _ ∧ _).1
                      rw [E4.1] at O5
                      have E5 : EN s0 g57 := EN_trans E4 (EN_fr rg57 (by decide) (by decide) (by decide))
                      obtain ⟨H5, W5⟩ := PO_1 O5 (by omega)
                      have E6 : EN s0 g69 := EN_trans E5 (by rw [eg69]; exact EN_st (by omega))
                      have D6 : g69 2 7 = g57 2 7 := by rw [eg69, zup_ne (Or.inl (by omega))]
                      have W6 : TW g69 := TW_fr W5 D6 (E6.2.2.trans E5.2.2.symm) ((en_tok E6).1.trans (en_tok E5).1.symm)
                      have O7 : PO (nOw (toks g69) 16 (g69 2 7).toNat) x75 g78 := qg78
                      rw [E6.1] at O7
                      rw [D6] at O7
                      have E7 : EN s0 g78 := EN_trans E6 (EN_fr rg78 (by decide) (by decide) (by decide))
                      have H7 := PO_0 O7 (by omega)
                      have key : spDream (toks s0) (tknB s0 b1) (s0 2 7).toNat = .inr (g78 2 0, g78 2 1) := by
                        unfold spDream
                        rw [H2, zbd_l, H4, zbd_l, H5, zbd_l, H7]
                        all_goals rfl
                      exact ⟨b1, eb1, Or.inr ⟨by omega, Or.inr ⟨rfl, key⟩, fun z => absurd z (by decide)⟩⟩
                · skip
                  have E0 : EN s0 s0 := EN_refl
                  have W0 : TW s0 := ht
                  have T1 : g15 = stp s0 := qg15
                  obtain ⟨W1, D1, M1, F1⟩ := stp_ok W0 (by rw [hk]; decide) (by rw [hk]; decide) T1
                  have E1 : EN s0 g15 := EN_trans E0 F1
                  have O2 : PO (nNa (toks g15) (tknB g15 (g15 2 8).toNat) (g15 2 7).toNat) x22 g25 := (qg25 : PO _ _ _ ∧ _).1
                  rw [E1.1] at O2
                  rw [M1] at O2
                  rw [stp_28 T1, ← eb1, Int.toNat_natCast, tknB_stp T1 (by omega)] at O2
                  have E2 : EN s0 g25 := EN_trans E1 (EN_fr rg25 (by decide) (by decide) (by decide))
                  obtain ⟨H2, W2⟩ := PO_1 O2 (by omega)
                  have E3 : EN s0 g37 := EN_trans E2 (by rw [eg37]; exact EN_st (by omega))
                  have D3 : g37 2 7 = g25 2 7 := by rw [eg37, zup_ne (Or.inl (by omega))]
                  have W3 : TW g37 := TW_fr W2 D3 (E3.2.2.trans E2.2.2.symm) ((en_tok E3).1.trans (en_tok E2).1.symm)
                  have O4 : PO (nOw (toks g37) 15 (g37 2 7).toNat) x43 g46 := qg46
                  rw [E3.1] at O4
                  rw [D3] at O4
                  have E4 : EN s0 g46 := EN_trans E3 (EN_fr rg46 (by decide) (by decide) (by decide))
                  obtain ⟨H4, W4⟩ := PO_1 O4 (by omega)
                  have O5 : PO (nNu (toks g46) 1 999 (g46 2 7).toNat) x54 g57 := (qg57 : PO _ _ _ ∧ _).1
                  rw [E4.1] at O5
                  have E5 : EN s0 g57 := EN_trans E4 (EN_fr rg57 (by decide) (by decide) (by decide))
                  have H5 := PO_0 O5 (by omega)
                  have key : spDream (toks s0) (tknB s0 b1) (s0 2 7).toNat = .inr (g57 2 0, g57 2 1) := by
                    unfold spDream
                    rw [H2, zbd_l, H4, zbd_l, H5]
                    all_goals rfl
                  exact ⟨b1, eb1, Or.inr ⟨by omega, Or.inr ⟨rfl, key⟩, fun z => absurd z (by decide)⟩⟩
            · skip
              have E0 : EN s0 s0 := EN_refl
              have W0 : TW s0 := ht
              have T1 : g15 = stp s0 := qg15
              obtain ⟨W1, D1, M1, F1⟩ := stp_ok W0 (by rw [hk]; decide) (by rw [hk]; decide) T1
              have E1 : EN s0 g15 := EN_trans E0 F1
              have O2 : PO (nNa (toks g15) (tknB g15 (g15 2 8).toNat) (g15 2 7).toNat) x22 g25 := (qg25 : PO _ _ _ ∧ _).1
              rw [E1.1] at O2
              rw [M1] at O2
              rw [stp_28 T1, ← eb1, Int.toNat_natCast, tknB_stp T1 (by omega)] at O2
              have E2 : EN s0 g25 := EN_trans E1 (EN_fr rg25 (by decide) (by decide) (by decide))
              obtain ⟨H2, W2⟩ := PO_1 O2 (by omega)
              have E3 : EN s0 g37 := EN_trans E2 (by rw [eg37]; exact EN_st (by omega))
              have D3 : g37 2 7 = g25 2 7 := by rw [eg37, zup_ne (Or.inl (by omega))]
              have W3 : TW g37 := TW_fr W2 D3 (E3.2.2.trans E2.2.2.symm) ((en_tok E3).1.trans (en_tok E2).1.symm)
              have O4 : PO (nOw (toks g37) 15 (g37 2 7).toNat) x43 g46 := qg46
              rw [E3.1] at O4
              rw [D3] at O4
              have E4 : EN s0 g46 := EN_trans E3 (EN_fr rg46 (by decide) (by decide) (by decide))
              have H4 := PO_0 O4 (by omega)
              have key : spDream (toks s0) (tknB s0 b1) (s0 2 7).toNat = .inr (g46 2 0, g46 2 1) := by
                unfold spDream
                rw [H2, zbd_l, H4]
                all_goals rfl
              exact ⟨b1, eb1, Or.inr ⟨by omega, Or.inr ⟨rfl, key⟩, fun z => absurd z (by decide)⟩⟩
        · skip
          have E0 : EN s0 s0 := EN_refl
          have W0 : TW s0 := ht
          have T1 : g15 = stp s0 := qg15
          obtain ⟨W1, D1, M1, F1⟩ := stp_ok W0 (by rw [hk]; decide) (by rw [hk]; decide) T1
          have E1 : EN s0 g15 := EN_trans E0 F1
          have O2 : PO (nNa (toks g15) (tknB g15 (g15 2 8).toNat) (g15 2 7).toNat) x22 g25 := (qg25 : PO _ _ _ ∧ _).1
          rw [E1.1] at O2
          rw [M1] at O2
          rw [stp_28 T1, ← eb1, Int.toNat_natCast, tknB_stp T1 (by omega)] at O2
          have E2 : EN s0 g25 := EN_trans E1 (EN_fr rg25 (by decide) (by decide) (by decide))
          have H2 := PO_0 O2 (by omega)
          have key : spDream (toks s0) (tknB s0 b1) (s0 2 7).toNat = .inr (g25 2 0, g25 2 1) := by
            unfold spDream
            rw [H2]
            all_goals rfl
          exact ⟨b1, eb1, Or.inr ⟨by omega, Or.inr ⟨rfl, key⟩, fun z => absurd z (by decide)⟩⟩
  · skip
    refine ⟨fun _ g' => (g' 2 0, g' 2 1) = ((5 : Int), if (5 : Int) = 1 ∧ s0 4 (s0 2 7).toNat = 1 then s0 5 (s0 2 7).toNat else s0 6 (s0 2 7).toNat), ?_, ?_⟩
    · skip
      exact v_1286
    · skip
      intro x180 hx1801 hx1802 g183 rg183 qg183
      exact ⟨b1, eb1, Or.inl ⟨by omega, by omega, els_q (by decide) qg183⟩⟩
